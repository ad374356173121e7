theorem dE_init_0 : decode cE_init 0 = .ok (.aload_n 0, 1) := by decide +kernel
theorem dE_init_1 : decode cE_init 1 = .ok (.invokespecial 1, 3) := by decide +kernel
theorem dE_init_4 : decode cE_init 4 = .ok (.aload_n 0, 1) := by decide +kernel
theorem dE_init_5 : decode cE_init 5 = .ok (.iconst 0, 1) := by decide +kernel
theorem dE_init_6 : decode cE_init 6 = .ok (.newarray .byte, 2) := by decide +kernel
theorem dE_init_8 : decode cE_init 8 = .ok (.putfield 7, 3) := by decide +kernel
theorem dE_init_11 : decode cE_init 11 = .ok (.aload_n 0, 1) := by decide +kernel
theorem dE_init_12 : decode cE_init 12 = .ok (.iconst (-1), 1) := by decide +kernel
theorem dE_init_13 : decode cE_init 13 = .ok (.putfield 13, 3) := by decide +kernel
theorem dE_init_16 : decode cE_init 16 = .ok (.return_, 1) := by decide +kernel
theorem dE_place_0 : decode cE_place 0 = .ok (.aload_n 0, 1) := by decide +kernel
theorem dE_place_1 : decode cE_place 1 = .ok (.getfield 13, 3) := by decide +kernel
theorem dE_place_4 : decode cE_place 4 = .ok (.ireturn, 1) := by decide +kernel
theorem dE_warning_0 : decode cE_warning 0 = .ok (.aload_n 0, 1) := by decide +kernel
theorem dE_warning_1 : decode cE_warning 1 = .ok (.getfield 77, 3) := by decide +kernel
theorem dE_warning_4 : decode cE_warning 4 = .ok (.ifnull 27, 3) := by decide +kernel
theorem dE_warning_7 : decode cE_warning 7 = .ok (.iload_n 1, 1) := by decide +kernel
theorem dE_warning_8 : decode cE_warning 8 = .ok (.ifCond .lt 23, 3) := by decide +kernel
theorem dE_warning_11 : decode cE_warning 11 = .ok (.iload_n 1, 1) := by decide +kernel
theorem dE_warning_12 : decode cE_warning 12 = .ok (.aload_n 0, 1) := by decide +kernel
theorem dE_warning_13 : decode cE_warning 13 = .ok (.getfield 77, 3) := by decide +kernel
theorem dE_warning_16 : decode cE_warning 16 = .ok (.getfield 84, 3) := by decide +kernel
theorem dE_warning_19 : decode cE_warning 19 = .ok (.if_icmp .ge 12, 3) := by decide +kernel
theorem dE_warning_22 : decode cE_warning 22 = .ok (.iload_n 2, 1) := by decide +kernel
theorem dE_warning_23 : decode cE_warning 23 = .ok (.ifCond .lt 8, 3) := by decide +kernel
theorem dE_warning_26 : decode cE_warning 26 = .ok (.iload_n 2, 1) := by decide +kernel
theorem dE_warning_27 : decode cE_warning 27 = .ok (.iconst 1, 1) := by decide +kernel
theorem dE_warning_28 : decode cE_warning 28 = .ok (.if_icmp .le 5, 3) := by decide +kernel
theorem dE_warning_31 : decode cE_warning 31 = .ok (.iconst (-1), 1) := by decide +kernel
theorem dE_warning_32 : decode cE_warning 32 = .ok (.ireturn, 1) := by decide +kernel
theorem dE_warning_33 : decode cE_warning 33 = .ok (.aload_n 0, 1) := by decide +kernel
theorem dE_warning_34 : decode cE_warning 34 = .ok (.getfield 77, 3) := by decide +kernel
theorem dE_warning_37 : decode cE_warning 37 = .ok (.getfield 87, 3) := by decide +kernel
theorem dE_warning_40 : decode cE_warning 40 = .ok (.iconst 2, 1) := by decide +kernel
theorem dE_warning_41 : decode cE_warning 41 = .ok (.iload_n 1, 1) := by decide +kernel
theorem dE_warning_42 : decode cE_warning 42 = .ok (.imul, 1) := by decide +kernel
theorem dE_warning_43 : decode cE_warning 43 = .ok (.iload_n 2, 1) := by decide +kernel
theorem dE_warning_44 : decode cE_warning 44 = .ok (.iadd, 1) := by decide +kernel
theorem dE_warning_45 : decode cE_warning 45 = .ok (.iaload, 1) := by decide +kernel
theorem dE_warning_46 : decode cE_warning 46 = .ok (.ireturn, 1) := by decide +kernel
theorem dE_begin_0 : decode cE_begin 0 = .ok (.aload_n 0, 1) := by decide +kernel
theorem dE_begin_1 : decode cE_begin 1 = .ok (.getfield 77, 3) := by decide +kernel
theorem dE_begin_4 : decode cE_begin 4 = .ok (.ifnonnull 5, 3) := by decide +kernel
theorem dE_begin_7 : decode cE_begin 7 = .ok (.iconst (-1), 1) := by decide +kernel
theorem dE_begin_8 : decode cE_begin 8 = .ok (.ireturn, 1) := by decide +kernel
theorem dE_begin_9 : decode cE_begin 9 = .ok (.aload_n 0, 1) := by decide +kernel
theorem dE_begin_10 : decode cE_begin 10 = .ok (.getfield 91, 3) := by decide +kernel
theorem dE_begin_13 : decode cE_begin 13 = .ok (.ifnonnull 48, 3) := by decide +kernel
theorem dE_begin_16 : decode cE_begin 16 = .ok (.aload_n 0, 1) := by decide +kernel
theorem dE_begin_17 : decode cE_begin 17 = .ok (.new 95, 3) := by decide +kernel
theorem dE_begin_20 : decode cE_begin 20 = .ok (.dup, 1) := by decide +kernel
theorem dE_begin_21 : decode cE_begin 21 = .ok (.new 97, 3) := by decide +kernel
theorem dE_begin_24 : decode cE_begin 24 = .ok (.dup, 1) := by decide +kernel
theorem dE_begin_25 : decode cE_begin 25 = .ok (.iconst 0, 1) := by decide +kernel
theorem dE_begin_26 : decode cE_begin 26 = .ok (.invokespecial 99, 3) := by decide +kernel
theorem dE_begin_29 : decode cE_begin 29 = .ok (.invokespecial 102, 3) := by decide +kernel
theorem dE_begin_32 : decode cE_begin 32 = .ok (.putfield 91, 3) := by decide +kernel
theorem dE_begin_35 : decode cE_begin 35 = .ok (.aload_n 0, 1) := by decide +kernel
theorem dE_begin_36 : decode cE_begin 36 = .ok (.new 105, 3) := by decide +kernel
theorem dE_begin_39 : decode cE_begin 39 = .ok (.dup, 1) := by decide +kernel
theorem dE_begin_40 : decode cE_begin 40 = .ok (.new 95, 3) := by decide +kernel
theorem dE_begin_43 : decode cE_begin 43 = .ok (.dup, 1) := by decide +kernel
theorem dE_begin_44 : decode cE_begin 44 = .ok (.new 97, 3) := by decide +kernel
theorem dE_begin_47 : decode cE_begin 47 = .ok (.dup, 1) := by decide +kernel
theorem dE_begin_48 : decode cE_begin 48 = .ok (.iconst 1, 1) := by decide +kernel
theorem dE_begin_49 : decode cE_begin 49 = .ok (.invokespecial 99, 3) := by decide +kernel
theorem dE_begin_52 : decode cE_begin 52 = .ok (.invokespecial 102, 3) := by decide +kernel
theorem dE_begin_55 : decode cE_begin 55 = .ok (.invokespecial 107, 3) := by decide +kernel
theorem dE_begin_58 : decode cE_begin 58 = .ok (.putfield 110, 3) := by decide +kernel
theorem dE_begin_61 : decode cE_begin 61 = .ok (.aload_n 0, 1) := by decide +kernel
theorem dE_begin_62 : decode cE_begin 62 = .ok (.iconst 1, 1) := by decide +kernel
theorem dE_begin_63 : decode cE_begin 63 = .ok (.putfield 80, 3) := by decide +kernel
theorem dE_begin_66 : decode cE_begin 66 = .ok (.aload_n 0, 1) := by decide +kernel
theorem dE_begin_67 : decode cE_begin 67 = .ok (.getfield 110, 3) := by decide +kernel
theorem dE_begin_70 : decode cE_begin 70 = .ok (.invokevirtual 114, 3) := by decide +kernel
theorem dE_begin_73 : decode cE_begin 73 = .ok (.aload_n 0, 1) := by decide +kernel
theorem dE_begin_74 : decode cE_begin 74 = .ok (.getfield 91, 3) := by decide +kernel
theorem dE_begin_77 : decode cE_begin 77 = .ok (.aload_n 0, 1) := by decide +kernel
theorem dE_begin_78 : decode cE_begin 78 = .ok (.getfield 77, 3) := by decide +kernel
theorem dE_begin_81 : decode cE_begin 81 = .ok (.iload_n 1, 1) := by decide +kernel
theorem dE_begin_82 : decode cE_begin 82 = .ok (.invokevirtual 117, 3) := by decide +kernel
theorem dE_begin_85 : decode cE_begin 85 = .ok (.ireturn, 1) := by decide +kernel
theorem dE_run_0 : decode cE_run 0 = .ok (.aload_n 0, 1) := by decide +kernel
theorem dE_run_1 : decode cE_run 1 = .ok (.getfield 80, 3) := by decide +kernel
theorem dE_run_4 : decode cE_run 4 = .ok (.ifCond .eq 26, 3) := by decide +kernel
theorem dE_run_7 : decode cE_run 7 = .ok (.iload_n 1, 1) := by decide +kernel
theorem dE_run_8 : decode cE_run 8 = .ok (.iconst 1, 1) := by decide +kernel
theorem dE_run_9 : decode cE_run 9 = .ok (.if_icmp .lt 21, 3) := by decide +kernel
theorem dE_run_12 : decode cE_run 12 = .ok (.iload_n 1, 1) := by decide +kernel
theorem dE_run_13 : decode cE_run 13 = .ok (.sipush 1000, 3) := by decide +kernel
theorem dE_run_16 : decode cE_run 16 = .ok (.if_icmp .gt 14, 3) := by decide +kernel
theorem dE_run_19 : decode cE_run 19 = .ok (.aload_n 0, 1) := by decide +kernel
theorem dE_run_20 : decode cE_run 20 = .ok (.getfield 91, 3) := by decide +kernel
theorem dE_run_23 : decode cE_run 23 = .ok (.iload_n 1, 1) := by decide +kernel
theorem dE_run_24 : decode cE_run 24 = .ok (.invokevirtual 121, 3) := by decide +kernel
theorem dE_run_27 : decode cE_run 27 = .ok (.goto 4, 3) := by decide +kernel
theorem dE_run_30 : decode cE_run 30 = .ok (.iconst (-1), 1) := by decide +kernel
theorem dE_run_31 : decode cE_run 31 = .ok (.ireturn, 1) := by decide +kernel
theorem dE_go_0 : decode cE_go 0 = .ok (.aload_n 0, 1) := by decide +kernel
theorem dE_go_1 : decode cE_go 1 = .ok (.getfield 80, 3) := by decide +kernel
theorem dE_go_4 : decode cE_go 4 = .ok (.ifCond .eq 14, 3) := by decide +kernel
theorem dE_go_7 : decode cE_go 7 = .ok (.aload_n 0, 1) := by decide +kernel
theorem dE_go_8 : decode cE_go 8 = .ok (.getfield 91, 3) := by decide +kernel
theorem dE_go_11 : decode cE_go 11 = .ok (.iload_n 1, 1) := by decide +kernel
theorem dE_go_12 : decode cE_go 12 = .ok (.invokevirtual 125, 3) := by decide +kernel
theorem dE_go_15 : decode cE_go 15 = .ok (.goto 4, 3) := by decide +kernel
theorem dE_go_18 : decode cE_go 18 = .ok (.iconst (-1), 1) := by decide +kernel
theorem dE_go_19 : decode cE_go 19 = .ok (.ireturn, 1) := by decide +kernel
theorem dE_none_0 : decode cE_none 0 = .ok (.aload_n 0, 1) := by decide +kernel
theorem dE_none_1 : decode cE_none 1 = .ok (.getfield 80, 3) := by decide +kernel
theorem dE_none_4 : decode cE_none 4 = .ok (.ifCond .eq 15, 3) := by decide +kernel
theorem dE_none_7 : decode cE_none 7 = .ok (.aload_n 0, 1) := by decide +kernel
theorem dE_none_8 : decode cE_none 8 = .ok (.getfield 91, 3) := by decide +kernel
theorem dE_none_11 : decode cE_none 11 = .ok (.iload_n 1, 1) := by decide +kernel
theorem dE_none_12 : decode cE_none 12 = .ok (.iload_n 2, 1) := by decide +kernel
theorem dE_none_13 : decode cE_none 13 = .ok (.invokevirtual 128, 3) := by decide +kernel
theorem dE_none_16 : decode cE_none 16 = .ok (.goto 4, 3) := by decide +kernel
theorem dE_none_19 : decode cE_none 19 = .ok (.iconst (-1), 1) := by decide +kernel
theorem dE_none_20 : decode cE_none 20 = .ok (.ireturn, 1) := by decide +kernel
theorem dE_wait_0 : decode cE_wait 0 = .ok (.aload_n 0, 1) := by decide +kernel
theorem dE_wait_1 : decode cE_wait 1 = .ok (.getfield 80, 3) := by decide +kernel
theorem dE_wait_4 : decode cE_wait 4 = .ok (.ifCond .eq 13, 3) := by decide +kernel
theorem dE_wait_7 : decode cE_wait 7 = .ok (.iload_n 1, 1) := by decide +kernel
theorem dE_wait_8 : decode cE_wait 8 = .ok (.ifCond .lt 9, 3) := by decide +kernel
theorem dE_wait_11 : decode cE_wait 11 = .ok (.iload_n 1, 1) := by decide +kernel
theorem dE_wait_12 : decode cE_wait 12 = .ok (.ldc 132, 2) := by decide +kernel
theorem dE_wait_14 : decode cE_wait 14 = .ok (.if_icmp .le 5, 3) := by decide +kernel
theorem dE_wait_17 : decode cE_wait 17 = .ok (.iconst (-1), 1) := by decide +kernel
theorem dE_wait_18 : decode cE_wait 18 = .ok (.ireturn, 1) := by decide +kernel
theorem dE_wait_19 : decode cE_wait 19 = .ok (.aload_n 0, 1) := by decide +kernel
theorem dE_wait_20 : decode cE_wait 20 = .ok (.getfield 91, 3) := by decide +kernel
theorem dE_wait_23 : decode cE_wait 23 = .ok (.getfield 133, 3) := by decide +kernel
theorem dE_wait_26 : decode cE_wait 26 = .ok (.aload_n 0, 1) := by decide +kernel
theorem dE_wait_27 : decode cE_wait 27 = .ok (.getfield 91, 3) := by decide +kernel
theorem dE_wait_30 : decode cE_wait 30 = .ok (.getfield 133, 3) := by decide +kernel
theorem dE_wait_33 : decode cE_wait 33 = .ok (.getfield 137, 3) := by decide +kernel
theorem dE_wait_36 : decode cE_wait 36 = .ok (.iload_n 1, 1) := by decide +kernel
theorem dE_wait_37 : decode cE_wait 37 = .ok (.invokestatic 142, 3) := by decide +kernel
theorem dE_wait_40 : decode cE_wait 40 = .ok (.putfield 137, 3) := by decide +kernel
theorem dE_wait_43 : decode cE_wait 43 = .ok (.aload_n 0, 1) := by decide +kernel
theorem dE_wait_44 : decode cE_wait 44 = .ok (.getfield 91, 3) := by decide +kernel
theorem dE_wait_47 : decode cE_wait 47 = .ok (.getfield 133, 3) := by decide +kernel
theorem dE_wait_50 : decode cE_wait 50 = .ok (.getfield 137, 3) := by decide +kernel
theorem dE_wait_53 : decode cE_wait 53 = .ok (.ireturn, 1) := by decide +kernel
theorem dE_put_0 : decode cE_put 0 = .ok (.aload_n 0, 1) := by decide +kernel
theorem dE_put_1 : decode cE_put 1 = .ok (.getfield 80, 3) := by decide +kernel
theorem dE_put_4 : decode cE_put 4 = .ok (.ifCond .ne 5, 3) := by decide +kernel
theorem dE_put_7 : decode cE_put 7 = .ok (.iconst (-1), 1) := by decide +kernel
theorem dE_put_8 : decode cE_put 8 = .ok (.ireturn, 1) := by decide +kernel
theorem dE_put_9 : decode cE_put 9 = .ok (.aload_n 0, 1) := by decide +kernel
theorem dE_put_10 : decode cE_put 10 = .ok (.getfield 91, 3) := by decide +kernel
theorem dE_put_13 : decode cE_put 13 = .ok (.iload_n 1, 1) := by decide +kernel
theorem dE_put_14 : decode cE_put 14 = .ok (.iload_n 2, 1) := by decide +kernel
theorem dE_put_15 : decode cE_put 15 = .ok (.iload_n 3, 1) := by decide +kernel
theorem dE_put_16 : decode cE_put 16 = .ok (.iload 4, 2) := by decide +kernel
theorem dE_put_18 : decode cE_put 18 = .ok (.iload 5, 2) := by decide +kernel
theorem dE_put_20 : decode cE_put 20 = .ok (.invokevirtual 145, 3) := by decide +kernel
theorem dE_put_23 : decode cE_put 23 = .ok (.ifCond .eq 7, 3) := by decide +kernel
theorem dE_put_26 : decode cE_put 26 = .ok (.iconst 1, 1) := by decide +kernel
theorem dE_put_27 : decode cE_put 27 = .ok (.goto 4, 3) := by decide +kernel
theorem dE_put_30 : decode cE_put 30 = .ok (.iconst 0, 1) := by decide +kernel
theorem dE_put_31 : decode cE_put 31 = .ok (.ireturn, 1) := by decide +kernel
theorem dE_alive_0 : decode cE_alive 0 = .ok (.aload_n 0, 1) := by decide +kernel
theorem dE_alive_1 : decode cE_alive 1 = .ok (.getfield 80, 3) := by decide +kernel
theorem dE_alive_4 : decode cE_alive 4 = .ok (.ifCond .eq 36, 3) := by decide +kernel
theorem dE_alive_7 : decode cE_alive 7 = .ok (.iload_n 1, 1) := by decide +kernel
theorem dE_alive_8 : decode cE_alive 8 = .ok (.ifCond .lt 32, 3) := by decide +kernel
theorem dE_alive_11 : decode cE_alive 11 = .ok (.iload_n 1, 1) := by decide +kernel
theorem dE_alive_12 : decode cE_alive 12 = .ok (.aload_n 0, 1) := by decide +kernel
theorem dE_alive_13 : decode cE_alive 13 = .ok (.getfield 91, 3) := by decide +kernel
theorem dE_alive_16 : decode cE_alive 16 = .ok (.getfield 133, 3) := by decide +kernel
theorem dE_alive_19 : decode cE_alive 19 = .ok (.getfield 149, 3) := by decide +kernel
theorem dE_alive_22 : decode cE_alive 22 = .ok (.if_icmp .ge 18, 3) := by decide +kernel
theorem dE_alive_25 : decode cE_alive 25 = .ok (.aload_n 0, 1) := by decide +kernel
theorem dE_alive_26 : decode cE_alive 26 = .ok (.getfield 91, 3) := by decide +kernel
theorem dE_alive_29 : decode cE_alive 29 = .ok (.getfield 133, 3) := by decide +kernel
theorem dE_alive_32 : decode cE_alive 32 = .ok (.getfield 152, 3) := by decide +kernel
theorem dE_alive_35 : decode cE_alive 35 = .ok (.iload_n 1, 1) := by decide +kernel
theorem dE_alive_36 : decode cE_alive 36 = .ok (.iaload, 1) := by decide +kernel
theorem dE_alive_37 : decode cE_alive 37 = .ok (.goto 4, 3) := by decide +kernel
theorem dE_alive_40 : decode cE_alive 40 = .ok (.iconst (-1), 1) := by decide +kernel
theorem dE_alive_41 : decode cE_alive 41 = .ok (.ireturn, 1) := by decide +kernel
theorem dE_slot_0 : decode cE_slot 0 = .ok (.aload_n 0, 1) := by decide +kernel
theorem dE_slot_1 : decode cE_slot 1 = .ok (.getfield 80, 3) := by decide +kernel
theorem dE_slot_4 : decode cE_slot 4 = .ok (.ifCond .eq 17, 3) := by decide +kernel
theorem dE_slot_7 : decode cE_slot 7 = .ok (.aload_n 0, 1) := by decide +kernel
theorem dE_slot_8 : decode cE_slot 8 = .ok (.getfield 91, 3) := by decide +kernel
theorem dE_slot_11 : decode cE_slot 11 = .ok (.getfield 133, 3) := by decide +kernel
theorem dE_slot_14 : decode cE_slot 14 = .ok (.iload_n 1, 1) := by decide +kernel
theorem dE_slot_15 : decode cE_slot 15 = .ok (.invokevirtual 155, 3) := by decide +kernel
theorem dE_slot_18 : decode cE_slot 18 = .ok (.goto 4, 3) := by decide +kernel
theorem dE_slot_21 : decode cE_slot 21 = .ok (.iconst (-1), 1) := by decide +kernel
theorem dE_slot_22 : decode cE_slot 22 = .ok (.ireturn, 1) := by decide +kernel
theorem dE_instance_0 : decode cE_instance 0 = .ok (.aload_n 0, 1) := by decide +kernel
theorem dE_instance_1 : decode cE_instance 1 = .ok (.iload_n 1, 1) := by decide +kernel
theorem dE_instance_2 : decode cE_instance 2 = .ok (.invokevirtual 158, 3) := by decide +kernel
theorem dE_instance_5 : decode cE_instance 5 = .ok (.istore_n 3, 1) := by decide +kernel
theorem dE_instance_6 : decode cE_instance 6 = .ok (.iload_n 3, 1) := by decide +kernel
theorem dE_instance_7 : decode cE_instance 7 = .ok (.iconst (-1), 1) := by decide +kernel
theorem dE_instance_8 : decode cE_instance 8 = .ok (.if_icmp .ne 5, 3) := by decide +kernel
theorem dE_instance_11 : decode cE_instance 11 = .ok (.iconst (-1), 1) := by decide +kernel
theorem dE_instance_12 : decode cE_instance 12 = .ok (.ireturn, 1) := by decide +kernel
theorem dE_instance_13 : decode cE_instance 13 = .ok (.aload_n 0, 1) := by decide +kernel
theorem dE_instance_14 : decode cE_instance 14 = .ok (.getfield 91, 3) := by decide +kernel
theorem dE_instance_17 : decode cE_instance 17 = .ok (.getfield 133, 3) := by decide +kernel
theorem dE_instance_20 : decode cE_instance 20 = .ok (.astore 4, 2) := by decide +kernel
theorem dE_instance_22 : decode cE_instance 22 = .ok (.iload_n 2, 1) := by decide +kernel
theorem dE_instance_23 : decode cE_instance 23 = .ok (.tableswitch 98 0 6 #[41, 49, 57, 65, 73, 81, 89], 41) := by decide +kernel
theorem dE_instance_64 : decode cE_instance 64 = .ok (.aload 4, 2) := by decide +kernel
theorem dE_instance_66 : decode cE_instance 66 = .ok (.getfield 161, 3) := by decide +kernel
theorem dE_instance_69 : decode cE_instance 69 = .ok (.iload_n 3, 1) := by decide +kernel
theorem dE_instance_70 : decode cE_instance 70 = .ok (.iaload, 1) := by decide +kernel
theorem dE_instance_71 : decode cE_instance 71 = .ok (.ireturn, 1) := by decide +kernel
theorem dE_instance_72 : decode cE_instance 72 = .ok (.aload 4, 2) := by decide +kernel
theorem dE_instance_74 : decode cE_instance 74 = .ok (.getfield 164, 3) := by decide +kernel
theorem dE_instance_77 : decode cE_instance 77 = .ok (.iload_n 3, 1) := by decide +kernel
theorem dE_instance_78 : decode cE_instance 78 = .ok (.iaload, 1) := by decide +kernel
theorem dE_instance_79 : decode cE_instance 79 = .ok (.ireturn, 1) := by decide +kernel
theorem dE_instance_80 : decode cE_instance 80 = .ok (.aload 4, 2) := by decide +kernel
theorem dE_instance_82 : decode cE_instance 82 = .ok (.getfield 167, 3) := by decide +kernel
theorem dE_instance_85 : decode cE_instance 85 = .ok (.iload_n 3, 1) := by decide +kernel
theorem dE_instance_86 : decode cE_instance 86 = .ok (.iaload, 1) := by decide +kernel
theorem dE_instance_87 : decode cE_instance 87 = .ok (.ireturn, 1) := by decide +kernel
theorem dE_instance_88 : decode cE_instance 88 = .ok (.aload 4, 2) := by decide +kernel
theorem dE_instance_90 : decode cE_instance 90 = .ok (.getfield 170, 3) := by decide +kernel
theorem dE_instance_93 : decode cE_instance 93 = .ok (.iload_n 3, 1) := by decide +kernel
theorem dE_instance_94 : decode cE_instance 94 = .ok (.iaload, 1) := by decide +kernel
theorem dE_instance_95 : decode cE_instance 95 = .ok (.ireturn, 1) := by decide +kernel
theorem dE_instance_96 : decode cE_instance 96 = .ok (.aload 4, 2) := by decide +kernel
theorem dE_instance_98 : decode cE_instance 98 = .ok (.getfield 173, 3) := by decide +kernel
theorem dE_instance_101 : decode cE_instance 101 = .ok (.iload_n 3, 1) := by decide +kernel
theorem dE_instance_102 : decode cE_instance 102 = .ok (.iaload, 1) := by decide +kernel
theorem dE_instance_103 : decode cE_instance 103 = .ok (.ireturn, 1) := by decide +kernel
theorem dE_instance_104 : decode cE_instance 104 = .ok (.aload 4, 2) := by decide +kernel
theorem dE_instance_106 : decode cE_instance 106 = .ok (.getfield 176, 3) := by decide +kernel
theorem dE_instance_109 : decode cE_instance 109 = .ok (.iload_n 3, 1) := by decide +kernel
theorem dE_instance_110 : decode cE_instance 110 = .ok (.iaload, 1) := by decide +kernel
theorem dE_instance_111 : decode cE_instance 111 = .ok (.ireturn, 1) := by decide +kernel
theorem dE_instance_112 : decode cE_instance 112 = .ok (.aload_n 0, 1) := by decide +kernel
theorem dE_instance_113 : decode cE_instance 113 = .ok (.getfield 91, 3) := by decide +kernel
theorem dE_instance_116 : decode cE_instance 116 = .ok (.iload_n 3, 1) := by decide +kernel
theorem dE_instance_117 : decode cE_instance 117 = .ok (.invokevirtual 179, 3) := by decide +kernel
theorem dE_instance_120 : decode cE_instance 120 = .ok (.ireturn, 1) := by decide +kernel
theorem dE_instance_121 : decode cE_instance 121 = .ok (.iconst (-1), 1) := by decide +kernel
theorem dE_instance_122 : decode cE_instance 122 = .ok (.ireturn, 1) := by decide +kernel
theorem dE_cell_0 : decode cE_cell 0 = .ok (.aload_n 0, 1) := by decide +kernel
theorem dE_cell_1 : decode cE_cell 1 = .ok (.iload_n 1, 1) := by decide +kernel
theorem dE_cell_2 : decode cE_cell 2 = .ok (.invokevirtual 158, 3) := by decide +kernel
theorem dE_cell_5 : decode cE_cell 5 = .ok (.istore_n 3, 1) := by decide +kernel
theorem dE_cell_6 : decode cE_cell 6 = .ok (.iload_n 3, 1) := by decide +kernel
theorem dE_cell_7 : decode cE_cell 7 = .ok (.iconst (-1), 1) := by decide +kernel
theorem dE_cell_8 : decode cE_cell 8 = .ok (.if_icmp .eq 34, 3) := by decide +kernel
theorem dE_cell_11 : decode cE_cell 11 = .ok (.iload_n 2, 1) := by decide +kernel
theorem dE_cell_12 : decode cE_cell 12 = .ok (.ifCond .lt 30, 3) := by decide +kernel
theorem dE_cell_15 : decode cE_cell 15 = .ok (.iload_n 2, 1) := by decide +kernel
theorem dE_cell_16 : decode cE_cell 16 = .ok (.aload_n 0, 1) := by decide +kernel
theorem dE_cell_17 : decode cE_cell 17 = .ok (.getfield 77, 3) := by decide +kernel
theorem dE_cell_20 : decode cE_cell 20 = .ok (.getfield 182, 3) := by decide +kernel
theorem dE_cell_23 : decode cE_cell 23 = .ok (.aload_n 0, 1) := by decide +kernel
theorem dE_cell_24 : decode cE_cell 24 = .ok (.getfield 91, 3) := by decide +kernel
theorem dE_cell_27 : decode cE_cell 27 = .ok (.getfield 133, 3) := by decide +kernel
theorem dE_cell_30 : decode cE_cell 30 = .ok (.getfield 161, 3) := by decide +kernel
theorem dE_cell_33 : decode cE_cell 33 = .ok (.iload_n 3, 1) := by decide +kernel
theorem dE_cell_34 : decode cE_cell 34 = .ok (.iaload, 1) := by decide +kernel
theorem dE_cell_35 : decode cE_cell 35 = .ok (.aaload, 1) := by decide +kernel
theorem dE_cell_36 : decode cE_cell 36 = .ok (.getfield 186, 3) := by decide +kernel
theorem dE_cell_39 : decode cE_cell 39 = .ok (.if_icmp .lt 5, 3) := by decide +kernel
theorem dE_cell_42 : decode cE_cell 42 = .ok (.iconst 0, 1) := by decide +kernel
theorem dE_cell_43 : decode cE_cell 43 = .ok (.ireturn, 1) := by decide +kernel
theorem dE_cell_44 : decode cE_cell 44 = .ok (.aload_n 0, 1) := by decide +kernel
theorem dE_cell_45 : decode cE_cell 45 = .ok (.getfield 91, 3) := by decide +kernel
theorem dE_cell_48 : decode cE_cell 48 = .ok (.getfield 133, 3) := by decide +kernel
theorem dE_cell_51 : decode cE_cell 51 = .ok (.getfield 191, 3) := by decide +kernel
theorem dE_cell_54 : decode cE_cell 54 = .ok (.bipush 16, 2) := by decide +kernel
theorem dE_cell_56 : decode cE_cell 56 = .ok (.iload_n 3, 1) := by decide +kernel
theorem dE_cell_57 : decode cE_cell 57 = .ok (.imul, 1) := by decide +kernel
theorem dE_cell_58 : decode cE_cell 58 = .ok (.iload_n 2, 1) := by decide +kernel
theorem dE_cell_59 : decode cE_cell 59 = .ok (.iadd, 1) := by decide +kernel
theorem dE_cell_60 : decode cE_cell 60 = .ok (.iaload, 1) := by decide +kernel
theorem dE_cell_61 : decode cE_cell 61 = .ok (.ireturn, 1) := by decide +kernel
theorem dE_timer_0 : decode cE_timer 0 = .ok (.aload_n 0, 1) := by decide +kernel
theorem dE_timer_1 : decode cE_timer 1 = .ok (.iload_n 1, 1) := by decide +kernel
theorem dE_timer_2 : decode cE_timer 2 = .ok (.invokevirtual 158, 3) := by decide +kernel
theorem dE_timer_5 : decode cE_timer 5 = .ok (.istore_n 3, 1) := by decide +kernel
theorem dE_timer_6 : decode cE_timer 6 = .ok (.iload_n 3, 1) := by decide +kernel
theorem dE_timer_7 : decode cE_timer 7 = .ok (.iconst (-1), 1) := by decide +kernel
theorem dE_timer_8 : decode cE_timer 8 = .ok (.if_icmp .eq 12, 3) := by decide +kernel
theorem dE_timer_11 : decode cE_timer 11 = .ok (.iload_n 2, 1) := by decide +kernel
theorem dE_timer_12 : decode cE_timer 12 = .ok (.ifCond .lt 8, 3) := by decide +kernel
theorem dE_timer_15 : decode cE_timer 15 = .ok (.iload_n 2, 1) := by decide +kernel
theorem dE_timer_16 : decode cE_timer 16 = .ok (.iconst 3, 1) := by decide +kernel
theorem dE_timer_17 : decode cE_timer 17 = .ok (.if_icmp .lt 5, 3) := by decide +kernel
theorem dE_timer_20 : decode cE_timer 20 = .ok (.iconst (-1), 1) := by decide +kernel
theorem dE_timer_21 : decode cE_timer 21 = .ok (.ireturn, 1) := by decide +kernel
theorem dE_timer_22 : decode cE_timer 22 = .ok (.aload_n 0, 1) := by decide +kernel
theorem dE_timer_23 : decode cE_timer 23 = .ok (.getfield 91, 3) := by decide +kernel
theorem dE_timer_26 : decode cE_timer 26 = .ok (.getfield 133, 3) := by decide +kernel
theorem dE_timer_29 : decode cE_timer 29 = .ok (.getfield 193, 3) := by decide +kernel
theorem dE_timer_32 : decode cE_timer 32 = .ok (.iconst 3, 1) := by decide +kernel
theorem dE_timer_33 : decode cE_timer 33 = .ok (.iload_n 3, 1) := by decide +kernel
theorem dE_timer_34 : decode cE_timer 34 = .ok (.imul, 1) := by decide +kernel
theorem dE_timer_35 : decode cE_timer 35 = .ok (.iload_n 2, 1) := by decide +kernel
theorem dE_timer_36 : decode cE_timer 36 = .ok (.iadd, 1) := by decide +kernel
theorem dE_timer_37 : decode cE_timer 37 = .ok (.iaload, 1) := by decide +kernel
theorem dE_timer_38 : decode cE_timer 38 = .ok (.ireturn, 1) := by decide +kernel
theorem dE_queued_0 : decode cE_queued 0 = .ok (.aload_n 0, 1) := by decide +kernel
theorem dE_queued_1 : decode cE_queued 1 = .ok (.iload_n 1, 1) := by decide +kernel
theorem dE_queued_2 : decode cE_queued 2 = .ok (.invokevirtual 158, 3) := by decide +kernel
theorem dE_queued_5 : decode cE_queued 5 = .ok (.istore 4, 2) := by decide +kernel
theorem dE_queued_7 : decode cE_queued 7 = .ok (.iload 4, 2) := by decide +kernel
theorem dE_queued_9 : decode cE_queued 9 = .ok (.iconst (-1), 1) := by decide +kernel
theorem dE_queued_10 : decode cE_queued 10 = .ok (.if_icmp .eq 33, 3) := by decide +kernel
theorem dE_queued_13 : decode cE_queued 13 = .ok (.iload_n 2, 1) := by decide +kernel
theorem dE_queued_14 : decode cE_queued 14 = .ok (.ifCond .lt 29, 3) := by decide +kernel
theorem dE_queued_17 : decode cE_queued 17 = .ok (.iload_n 2, 1) := by decide +kernel
theorem dE_queued_18 : decode cE_queued 18 = .ok (.aload_n 0, 1) := by decide +kernel
theorem dE_queued_19 : decode cE_queued 19 = .ok (.getfield 91, 3) := by decide +kernel
theorem dE_queued_22 : decode cE_queued 22 = .ok (.getfield 133, 3) := by decide +kernel
theorem dE_queued_25 : decode cE_queued 25 = .ok (.getfield 167, 3) := by decide +kernel
theorem dE_queued_28 : decode cE_queued 28 = .ok (.iload 4, 2) := by decide +kernel
theorem dE_queued_30 : decode cE_queued 30 = .ok (.iaload, 1) := by decide +kernel
theorem dE_queued_31 : decode cE_queued 31 = .ok (.if_icmp .ge 12, 3) := by decide +kernel
theorem dE_queued_34 : decode cE_queued 34 = .ok (.iload_n 3, 1) := by decide +kernel
theorem dE_queued_35 : decode cE_queued 35 = .ok (.ifCond .lt 8, 3) := by decide +kernel
theorem dE_queued_38 : decode cE_queued 38 = .ok (.iload_n 3, 1) := by decide +kernel
theorem dE_queued_39 : decode cE_queued 39 = .ok (.iconst 4, 1) := by decide +kernel
theorem dE_queued_40 : decode cE_queued 40 = .ok (.if_icmp .le 5, 3) := by decide +kernel
theorem dE_queued_43 : decode cE_queued 43 = .ok (.iconst (-1), 1) := by decide +kernel
theorem dE_queued_44 : decode cE_queued 44 = .ok (.ireturn, 1) := by decide +kernel
theorem dE_queued_45 : decode cE_queued 45 = .ok (.iload 4, 2) := by decide +kernel
theorem dE_queued_47 : decode cE_queued 47 = .ok (.bipush 36, 2) := by decide +kernel
theorem dE_queued_49 : decode cE_queued 49 = .ok (.imul, 1) := by decide +kernel
theorem dE_queued_50 : decode cE_queued 50 = .ok (.iload_n 2, 1) := by decide +kernel
theorem dE_queued_51 : decode cE_queued 51 = .ok (.bipush 6, 2) := by decide +kernel
theorem dE_queued_53 : decode cE_queued 53 = .ok (.imul, 1) := by decide +kernel
theorem dE_queued_54 : decode cE_queued 54 = .ok (.iadd, 1) := by decide +kernel
theorem dE_queued_55 : decode cE_queued 55 = .ok (.istore 5, 2) := by decide +kernel
theorem dE_queued_57 : decode cE_queued 57 = .ok (.aload_n 0, 1) := by decide +kernel
theorem dE_queued_58 : decode cE_queued 58 = .ok (.getfield 91, 3) := by decide +kernel
theorem dE_queued_61 : decode cE_queued 61 = .ok (.getfield 133, 3) := by decide +kernel
theorem dE_queued_64 : decode cE_queued 64 = .ok (.getfield 196, 3) := by decide +kernel
theorem dE_queued_67 : decode cE_queued 67 = .ok (.iload 5, 2) := by decide +kernel
theorem dE_queued_69 : decode cE_queued 69 = .ok (.iload_n 3, 1) := by decide +kernel
theorem dE_queued_70 : decode cE_queued 70 = .ok (.iconst 2, 1) := by decide +kernel
theorem dE_queued_71 : decode cE_queued 71 = .ok (.if_icmp .ge 7, 3) := by decide +kernel
theorem dE_queued_74 : decode cE_queued 74 = .ok (.iload_n 3, 1) := by decide +kernel
theorem dE_queued_75 : decode cE_queued 75 = .ok (.goto 8, 3) := by decide +kernel
theorem dE_queued_78 : decode cE_queued 78 = .ok (.iconst 3, 1) := by decide +kernel
theorem dE_queued_79 : decode cE_queued 79 = .ok (.iload_n 3, 1) := by decide +kernel
theorem dE_queued_80 : decode cE_queued 80 = .ok (.iadd, 1) := by decide +kernel
theorem dE_queued_81 : decode cE_queued 81 = .ok (.iconst 2, 1) := by decide +kernel
theorem dE_queued_82 : decode cE_queued 82 = .ok (.isub, 1) := by decide +kernel
theorem dE_queued_83 : decode cE_queued 83 = .ok (.iadd, 1) := by decide +kernel
theorem dE_queued_84 : decode cE_queued 84 = .ok (.iaload, 1) := by decide +kernel
theorem dE_queued_85 : decode cE_queued 85 = .ok (.ireturn, 1) := by decide +kernel
theorem dE_way_0 : decode cE_way 0 = .ok (.aload_n 0, 1) := by decide +kernel
theorem dE_way_1 : decode cE_way 1 = .ok (.getfield 80, 3) := by decide +kernel
theorem dE_way_4 : decode cE_way 4 = .ok (.ifCond .eq 31, 3) := by decide +kernel
theorem dE_way_7 : decode cE_way 7 = .ok (.iload_n 1, 1) := by decide +kernel
theorem dE_way_8 : decode cE_way 8 = .ok (.ifCond .lt 27, 3) := by decide +kernel
theorem dE_way_11 : decode cE_way 11 = .ok (.iload_n 1, 1) := by decide +kernel
theorem dE_way_12 : decode cE_way 12 = .ok (.aload_n 0, 1) := by decide +kernel
theorem dE_way_13 : decode cE_way 13 = .ok (.getfield 77, 3) := by decide +kernel
theorem dE_way_16 : decode cE_way 16 = .ok (.getfield 199, 3) := by decide +kernel
theorem dE_way_19 : decode cE_way 19 = .ok (.getfield 203, 3) := by decide +kernel
theorem dE_way_22 : decode cE_way 22 = .ok (.if_icmp .ge 13, 3) := by decide +kernel
theorem dE_way_25 : decode cE_way 25 = .ok (.iload_n 3, 1) := by decide +kernel
theorem dE_way_26 : decode cE_way 26 = .ok (.ifCond .lt 9, 3) := by decide +kernel
theorem dE_way_29 : decode cE_way 29 = .ok (.iload_n 3, 1) := by decide +kernel
theorem dE_way_30 : decode cE_way 30 = .ok (.bipush 6, 2) := by decide +kernel
theorem dE_way_32 : decode cE_way 32 = .ok (.if_icmp .le 5, 3) := by decide +kernel
theorem dE_way_35 : decode cE_way 35 = .ok (.iconst (-1), 1) := by decide +kernel
theorem dE_way_36 : decode cE_way 36 = .ok (.ireturn, 1) := by decide +kernel
theorem dE_way_37 : decode cE_way 37 = .ok (.iload_n 2, 1) := by decide +kernel
theorem dE_way_38 : decode cE_way 38 = .ok (.ifCond .lt 19, 3) := by decide +kernel
theorem dE_way_41 : decode cE_way 41 = .ok (.iload_n 2, 1) := by decide +kernel
theorem dE_way_42 : decode cE_way 42 = .ok (.aload_n 0, 1) := by decide +kernel
theorem dE_way_43 : decode cE_way 43 = .ok (.getfield 91, 3) := by decide +kernel
theorem dE_way_46 : decode cE_way 46 = .ok (.getfield 133, 3) := by decide +kernel
theorem dE_way_49 : decode cE_way 49 = .ok (.getfield 208, 3) := by decide +kernel
theorem dE_way_52 : decode cE_way 52 = .ok (.iload_n 1, 1) := by decide +kernel
theorem dE_way_53 : decode cE_way 53 = .ok (.iaload, 1) := by decide +kernel
theorem dE_way_54 : decode cE_way 54 = .ok (.if_icmp .lt 5, 3) := by decide +kernel
theorem dE_way_57 : decode cE_way 57 = .ok (.iconst (-1), 1) := by decide +kernel
theorem dE_way_58 : decode cE_way 58 = .ok (.ireturn, 1) := by decide +kernel
theorem dE_way_59 : decode cE_way 59 = .ok (.iload_n 1, 1) := by decide +kernel
theorem dE_way_60 : decode cE_way 60 = .ok (.iload_n 2, 1) := by decide +kernel
theorem dE_way_61 : decode cE_way 61 = .ok (.invokestatic 211, 3) := by decide +kernel
theorem dE_way_64 : decode cE_way 64 = .ok (.istore 4, 2) := by decide +kernel
theorem dE_way_66 : decode cE_way 66 = .ok (.iload_n 3, 1) := by decide +kernel
theorem dE_way_67 : decode cE_way 67 = .ok (.iconst 3, 1) := by decide +kernel
theorem dE_way_68 : decode cE_way 68 = .ok (.if_icmp .ne 20, 3) := by decide +kernel
theorem dE_way_71 : decode cE_way 71 = .ok (.aload_n 0, 1) := by decide +kernel
theorem dE_way_72 : decode cE_way 72 = .ok (.getfield 91, 3) := by decide +kernel
theorem dE_way_75 : decode cE_way 75 = .ok (.getfield 133, 3) := by decide +kernel
theorem dE_way_78 : decode cE_way 78 = .ok (.getfield 214, 3) := by decide +kernel
theorem dE_way_81 : decode cE_way 81 = .ok (.iload 4, 2) := by decide +kernel
theorem dE_way_83 : decode cE_way 83 = .ok (.bipush 6, 2) := by decide +kernel
theorem dE_way_85 : decode cE_way 85 = .ok (.iadd, 1) := by decide +kernel
theorem dE_way_86 : decode cE_way 86 = .ok (.iaload, 1) := by decide +kernel
theorem dE_way_87 : decode cE_way 87 = .ok (.ireturn, 1) := by decide +kernel
theorem dE_way_88 : decode cE_way 88 = .ok (.aload_n 0, 1) := by decide +kernel
theorem dE_way_89 : decode cE_way 89 = .ok (.getfield 91, 3) := by decide +kernel
theorem dE_way_92 : decode cE_way 92 = .ok (.getfield 133, 3) := by decide +kernel
theorem dE_way_95 : decode cE_way 95 = .ok (.getfield 214, 3) := by decide +kernel
theorem dE_way_98 : decode cE_way 98 = .ok (.iload 4, 2) := by decide +kernel
theorem dE_way_100 : decode cE_way 100 = .ok (.iload_n 3, 1) := by decide +kernel
theorem dE_way_101 : decode cE_way 101 = .ok (.iconst 3, 1) := by decide +kernel
theorem dE_way_102 : decode cE_way 102 = .ok (.if_icmp .ge 7, 3) := by decide +kernel
theorem dE_way_105 : decode cE_way 105 = .ok (.iload_n 3, 1) := by decide +kernel
theorem dE_way_106 : decode cE_way 106 = .ok (.goto 8, 3) := by decide +kernel
theorem dE_way_109 : decode cE_way 109 = .ok (.iconst 3, 1) := by decide +kernel
theorem dE_way_110 : decode cE_way 110 = .ok (.iload_n 3, 1) := by decide +kernel
theorem dE_way_111 : decode cE_way 111 = .ok (.iadd, 1) := by decide +kernel
theorem dE_way_112 : decode cE_way 112 = .ok (.iconst 4, 1) := by decide +kernel
theorem dE_way_113 : decode cE_way 113 = .ok (.isub, 1) := by decide +kernel
theorem dE_way_114 : decode cE_way 114 = .ok (.iadd, 1) := by decide +kernel
theorem dE_way_115 : decode cE_way 115 = .ok (.iaload, 1) := by decide +kernel
theorem dE_way_116 : decode cE_way 116 = .ok (.ireturn, 1) := by decide +kernel
theorem dE_out_0 : decode cE_out 0 = .ok (.aload_n 0, 1) := by decide +kernel
theorem dE_out_1 : decode cE_out 1 = .ok (.getfield 80, 3) := by decide +kernel
theorem dE_out_4 : decode cE_out 4 = .ok (.ifCond .eq 18, 3) := by decide +kernel
theorem dE_out_7 : decode cE_out 7 = .ok (.aload_n 0, 1) := by decide +kernel
theorem dE_out_8 : decode cE_out 8 = .ok (.getfield 91, 3) := by decide +kernel
theorem dE_out_11 : decode cE_out 11 = .ok (.getfield 217, 3) := by decide +kernel
theorem dE_out_14 : decode cE_out 14 = .ok (.iload_n 1, 1) := by decide +kernel
theorem dE_out_15 : decode cE_out 15 = .ok (.iload_n 2, 1) := by decide +kernel
theorem dE_out_16 : decode cE_out 16 = .ok (.invokevirtual 221, 3) := by decide +kernel
theorem dE_out_19 : decode cE_out 19 = .ok (.goto 4, 3) := by decide +kernel
theorem dE_out_22 : decode cE_out 22 = .ok (.iconst (-1), 1) := by decide +kernel
theorem dE_out_23 : decode cE_out 23 = .ok (.ireturn, 1) := by decide +kernel
theorem dE_event_0 : decode cE_event 0 = .ok (.aload_n 0, 1) := by decide +kernel
theorem dE_event_1 : decode cE_event 1 = .ok (.getfield 80, 3) := by decide +kernel
theorem dE_event_4 : decode cE_event 4 = .ok (.ifCond .eq 18, 3) := by decide +kernel
theorem dE_event_7 : decode cE_event 7 = .ok (.aload_n 0, 1) := by decide +kernel
theorem dE_event_8 : decode cE_event 8 = .ok (.getfield 91, 3) := by decide +kernel
theorem dE_event_11 : decode cE_event 11 = .ok (.getfield 217, 3) := by decide +kernel
theorem dE_event_14 : decode cE_event 14 = .ok (.iload_n 1, 1) := by decide +kernel
theorem dE_event_15 : decode cE_event 15 = .ok (.iload_n 2, 1) := by decide +kernel
theorem dE_event_16 : decode cE_event 16 = .ok (.invokevirtual 224, 3) := by decide +kernel
theorem dE_event_19 : decode cE_event 19 = .ok (.goto 4, 3) := by decide +kernel
theorem dE_event_22 : decode cE_event 22 = .ok (.iconst (-1), 1) := by decide +kernel
theorem dE_event_23 : decode cE_event 23 = .ok (.ireturn, 1) := by decide +kernel
theorem dE_count_0 : decode cE_count 0 = .ok (.iload_n 1, 1) := by decide +kernel
theorem dE_count_1 : decode cE_count 1 = .ok (.ifCond .lt 9, 3) := by decide +kernel
theorem dE_count_4 : decode cE_count 4 = .ok (.iload_n 1, 1) := by decide +kernel
theorem dE_count_5 : decode cE_count 5 = .ok (.bipush 18, 2) := by decide +kernel
theorem dE_count_7 : decode cE_count 7 = .ok (.if_icmp .le 5, 3) := by decide +kernel
theorem dE_count_10 : decode cE_count 10 = .ok (.iconst (-1), 1) := by decide +kernel
theorem dE_count_11 : decode cE_count 11 = .ok (.ireturn, 1) := by decide +kernel
theorem dE_count_12 : decode cE_count 12 = .ok (.iload_n 1, 1) := by decide +kernel
theorem dE_count_13 : decode cE_count 13 = .ok (.bipush 14, 2) := by decide +kernel
theorem dE_count_15 : decode cE_count 15 = .ok (.if_icmp .ne 8, 3) := by decide +kernel
theorem dE_count_18 : decode cE_count 18 = .ok (.aload_n 0, 1) := by decide +kernel
theorem dE_count_19 : decode cE_count 19 = .ok (.getfield 17, 3) := by decide +kernel
theorem dE_count_22 : decode cE_count 22 = .ok (.ireturn, 1) := by decide +kernel
theorem dE_count_23 : decode cE_count 23 = .ok (.iload_n 1, 1) := by decide +kernel
theorem dE_count_24 : decode cE_count 24 = .ok (.iconst 4, 1) := by decide +kernel
theorem dE_count_25 : decode cE_count 25 = .ok (.if_icmp .ge 20, 3) := by decide +kernel
theorem dE_count_28 : decode cE_count 28 = .ok (.aload_n 0, 1) := by decide +kernel
theorem dE_count_29 : decode cE_count 29 = .ok (.getfield 77, 3) := by decide +kernel
theorem dE_count_32 : decode cE_count 32 = .ok (.ifnonnull 7, 3) := by decide +kernel
theorem dE_count_35 : decode cE_count 35 = .ok (.iconst 0, 1) := by decide +kernel
theorem dE_count_36 : decode cE_count 36 = .ok (.goto 8, 3) := by decide +kernel
theorem dE_count_39 : decode cE_count 39 = .ok (.aload_n 0, 1) := by decide +kernel
theorem dE_count_40 : decode cE_count 40 = .ok (.iload_n 1, 1) := by decide +kernel
theorem dE_count_41 : decode cE_count 41 = .ok (.invokevirtual 227, 3) := by decide +kernel
theorem dE_count_44 : decode cE_count 44 = .ok (.ireturn, 1) := by decide +kernel
theorem dE_count_45 : decode cE_count 45 = .ok (.aload_n 0, 1) := by decide +kernel
theorem dE_count_46 : decode cE_count 46 = .ok (.getfield 80, 3) := by decide +kernel
theorem dE_count_49 : decode cE_count 49 = .ok (.ifCond .ne 5, 3) := by decide +kernel
theorem dE_count_52 : decode cE_count 52 = .ok (.iconst 0, 1) := by decide +kernel
theorem dE_count_53 : decode cE_count 53 = .ok (.ireturn, 1) := by decide +kernel
theorem dE_count_54 : decode cE_count 54 = .ok (.iload_n 1, 1) := by decide +kernel
theorem dE_count_55 : decode cE_count 55 = .ok (.bipush 16, 2) := by decide +kernel
theorem dE_count_57 : decode cE_count 57 = .ok (.if_icmp .ge 11, 3) := by decide +kernel
theorem dE_count_60 : decode cE_count 60 = .ok (.aload_n 0, 1) := by decide +kernel
theorem dE_count_61 : decode cE_count 61 = .ok (.iload_n 1, 1) := by decide +kernel
theorem dE_count_62 : decode cE_count 62 = .ok (.invokevirtual 230, 3) := by decide +kernel
theorem dE_count_65 : decode cE_count 65 = .ok (.goto 11, 3) := by decide +kernel
theorem dE_count_68 : decode cE_count 68 = .ok (.aload_n 0, 1) := by decide +kernel
theorem dE_count_69 : decode cE_count 69 = .ok (.getfield 110, 3) := by decide +kernel
theorem dE_count_72 : decode cE_count 72 = .ok (.iload_n 1, 1) := by decide +kernel
theorem dE_count_73 : decode cE_count 73 = .ok (.invokevirtual 233, 3) := by decide +kernel
theorem dE_count_76 : decode cE_count 76 = .ok (.ireturn, 1) := by decide +kernel
theorem dE_type_0 : decode cE_type 0 = .ok (.aload_n 0, 1) := by decide +kernel
theorem dE_type_1 : decode cE_type 1 = .ok (.getfield 77, 3) := by decide +kernel
theorem dE_type_4 : decode cE_type 4 = .ok (.ifnull 21, 3) := by decide +kernel
theorem dE_type_7 : decode cE_type 7 = .ok (.iload_n 1, 1) := by decide +kernel
theorem dE_type_8 : decode cE_type 8 = .ok (.ifCond .lt 17, 3) := by decide +kernel
theorem dE_type_11 : decode cE_type 11 = .ok (.iload_n 1, 1) := by decide +kernel
theorem dE_type_12 : decode cE_type 12 = .ok (.aload_n 0, 1) := by decide +kernel
theorem dE_type_13 : decode cE_type 13 = .ok (.getfield 77, 3) := by decide +kernel
theorem dE_type_16 : decode cE_type 16 = .ok (.getfield 239, 3) := by decide +kernel
theorem dE_type_19 : decode cE_type 19 = .ok (.getfield 203, 3) := by decide +kernel
theorem dE_type_22 : decode cE_type 22 = .ok (.if_icmp .lt 5, 3) := by decide +kernel
theorem dE_type_25 : decode cE_type 25 = .ok (.iconst (-1), 1) := by decide +kernel
theorem dE_type_26 : decode cE_type 26 = .ok (.ireturn, 1) := by decide +kernel
theorem dE_type_27 : decode cE_type 27 = .ok (.aload_n 0, 1) := by decide +kernel
theorem dE_type_28 : decode cE_type 28 = .ok (.getfield 77, 3) := by decide +kernel
theorem dE_type_31 : decode cE_type 31 = .ok (.getfield 182, 3) := by decide +kernel
theorem dE_type_34 : decode cE_type 34 = .ok (.iload_n 1, 1) := by decide +kernel
theorem dE_type_35 : decode cE_type 35 = .ok (.aaload, 1) := by decide +kernel
theorem dE_type_36 : decode cE_type 36 = .ok (.astore_n 3, 1) := by decide +kernel
theorem dE_type_37 : decode cE_type 37 = .ok (.iload_n 2, 1) := by decide +kernel
theorem dE_type_38 : decode cE_type 38 = .ok (.tableswitch 65 0 4 #[34, 42, 47, 55, 60], 34) := by decide +kernel
theorem dE_type_72 : decode cE_type 72 = .ok (.aload_n 3, 1) := by decide +kernel
theorem dE_type_73 : decode cE_type 73 = .ok (.getfield 269, 3) := by decide +kernel
theorem dE_type_76 : decode cE_type 76 = .ok (.getfield 203, 3) := by decide +kernel
theorem dE_type_79 : decode cE_type 79 = .ok (.ireturn, 1) := by decide +kernel
theorem dE_type_80 : decode cE_type 80 = .ok (.aload_n 3, 1) := by decide +kernel
theorem dE_type_81 : decode cE_type 81 = .ok (.getfield 186, 3) := by decide +kernel
theorem dE_type_84 : decode cE_type 84 = .ok (.ireturn, 1) := by decide +kernel
theorem dE_type_85 : decode cE_type 85 = .ok (.aload_n 3, 1) := by decide +kernel
theorem dE_type_86 : decode cE_type 86 = .ok (.getfield 272, 3) := by decide +kernel
theorem dE_type_89 : decode cE_type 89 = .ok (.getfield 203, 3) := by decide +kernel
theorem dE_type_92 : decode cE_type 92 = .ok (.ireturn, 1) := by decide +kernel
theorem dE_type_93 : decode cE_type 93 = .ok (.aload_n 3, 1) := by decide +kernel
theorem dE_type_94 : decode cE_type 94 = .ok (.getfield 274, 3) := by decide +kernel
theorem dE_type_97 : decode cE_type 97 = .ok (.ireturn, 1) := by decide +kernel
theorem dE_type_98 : decode cE_type 98 = .ok (.aload_n 3, 1) := by decide +kernel
theorem dE_type_99 : decode cE_type 99 = .ok (.getfield 277, 3) := by decide +kernel
theorem dE_type_102 : decode cE_type 102 = .ok (.ireturn, 1) := by decide +kernel
theorem dE_type_103 : decode cE_type 103 = .ok (.iconst (-1), 1) := by decide +kernel
theorem dE_type_104 : decode cE_type 104 = .ok (.ireturn, 1) := by decide +kernel
theorem dE_search_0 : decode cE_search 0 = .ok (.aload_n 0, 1) := by decide +kernel
theorem dE_search_1 : decode cE_search 1 = .ok (.getfield 80, 3) := by decide +kernel
theorem dE_search_4 : decode cE_search 4 = .ok (.ifCond .eq 37, 3) := by decide +kernel
theorem dE_search_7 : decode cE_search 7 = .ok (.iload_n 1, 1) := by decide +kernel
theorem dE_search_8 : decode cE_search 8 = .ok (.iconst 1, 1) := by decide +kernel
theorem dE_search_9 : decode cE_search 9 = .ok (.if_icmp .lt 32, 3) := by decide +kernel
theorem dE_search_12 : decode cE_search 12 = .ok (.iload_n 1, 1) := by decide +kernel
theorem dE_search_13 : decode cE_search 13 = .ok (.sipush 200, 3) := by decide +kernel
theorem dE_search_16 : decode cE_search 16 = .ok (.if_icmp .gt 25, 3) := by decide +kernel
theorem dE_search_19 : decode cE_search 19 = .ok (.aload_n 0, 1) := by decide +kernel
theorem dE_search_20 : decode cE_search 20 = .ok (.getfield 110, 3) := by decide +kernel
theorem dE_search_23 : decode cE_search 23 = .ok (.aload_n 0, 1) := by decide +kernel
theorem dE_search_24 : decode cE_search 24 = .ok (.getfield 77, 3) := by decide +kernel
theorem dE_search_27 : decode cE_search 27 = .ok (.aload_n 0, 1) := by decide +kernel
theorem dE_search_28 : decode cE_search 28 = .ok (.getfield 91, 3) := by decide +kernel
theorem dE_search_31 : decode cE_search 31 = .ok (.getfield 133, 3) := by decide +kernel
theorem dE_search_34 : decode cE_search 34 = .ok (.iload_n 1, 1) := by decide +kernel
theorem dE_search_35 : decode cE_search 35 = .ok (.invokevirtual 280, 3) := by decide +kernel
theorem dE_search_38 : decode cE_search 38 = .ok (.goto 4, 3) := by decide +kernel
theorem dE_search_41 : decode cE_search 41 = .ok (.iconst (-1), 1) := by decide +kernel
theorem dE_search_42 : decode cE_search 42 = .ok (.ireturn, 1) := by decide +kernel
theorem dE_state_0 : decode cE_state 0 = .ok (.aload_n 0, 1) := by decide +kernel
theorem dE_state_1 : decode cE_state 1 = .ok (.getfield 80, 3) := by decide +kernel
theorem dE_state_4 : decode cE_state 4 = .ok (.ifCond .eq 15, 3) := by decide +kernel
theorem dE_state_7 : decode cE_state 7 = .ok (.aload_n 0, 1) := by decide +kernel
theorem dE_state_8 : decode cE_state 8 = .ok (.getfield 110, 3) := by decide +kernel
theorem dE_state_11 : decode cE_state 11 = .ok (.iload_n 1, 1) := by decide +kernel
theorem dE_state_12 : decode cE_state 12 = .ok (.iload_n 2, 1) := by decide +kernel
theorem dE_state_13 : decode cE_state 13 = .ok (.invokevirtual 283, 3) := by decide +kernel
theorem dE_state_16 : decode cE_state 16 = .ok (.goto 4, 3) := by decide +kernel
theorem dE_state_19 : decode cE_state 19 = .ok (.iconst (-1), 1) := by decide +kernel
theorem dE_state_20 : decode cE_state 20 = .ok (.ireturn, 1) := by decide +kernel
theorem dE_first_0 : decode cE_first 0 = .ok (.aload_n 0, 1) := by decide +kernel
theorem dE_first_1 : decode cE_first 1 = .ok (.getfield 80, 3) := by decide +kernel
theorem dE_first_4 : decode cE_first 4 = .ok (.ifCond .eq 16, 3) := by decide +kernel
theorem dE_first_7 : decode cE_first 7 = .ok (.aload_n 0, 1) := by decide +kernel
theorem dE_first_8 : decode cE_first 8 = .ok (.getfield 110, 3) := by decide +kernel
theorem dE_first_11 : decode cE_first 11 = .ok (.iload_n 1, 1) := by decide +kernel
theorem dE_first_12 : decode cE_first 12 = .ok (.iload_n 2, 1) := by decide +kernel
theorem dE_first_13 : decode cE_first 13 = .ok (.iload_n 3, 1) := by decide +kernel
theorem dE_first_14 : decode cE_first 14 = .ok (.invokevirtual 286, 3) := by decide +kernel
theorem dE_first_17 : decode cE_first 17 = .ok (.goto 4, 3) := by decide +kernel
theorem dE_first_20 : decode cE_first 20 = .ok (.iconst (-1), 1) := by decide +kernel
theorem dE_first_21 : decode cE_first 21 = .ok (.ireturn, 1) := by decide +kernel
theorem dE_visit_0 : decode cE_visit 0 = .ok (.aload_n 0, 1) := by decide +kernel
theorem dE_visit_1 : decode cE_visit 1 = .ok (.getfield 80, 3) := by decide +kernel
theorem dE_visit_4 : decode cE_visit 4 = .ok (.ifCond .ne 5, 3) := by decide +kernel
theorem dE_visit_7 : decode cE_visit 7 = .ok (.iconst (-1), 1) := by decide +kernel
theorem dE_visit_8 : decode cE_visit 8 = .ok (.ireturn, 1) := by decide +kernel
theorem dE_visit_9 : decode cE_visit 9 = .ok (.aload_n 0, 1) := by decide +kernel
theorem dE_visit_10 : decode cE_visit 10 = .ok (.getfield 110, 3) := by decide +kernel
theorem dE_visit_13 : decode cE_visit 13 = .ok (.iload_n 1, 1) := by decide +kernel
theorem dE_visit_14 : decode cE_visit 14 = .ok (.aload_n 0, 1) := by decide +kernel
theorem dE_visit_15 : decode cE_visit 15 = .ok (.getfield 91, 3) := by decide +kernel
theorem dE_visit_18 : decode cE_visit 18 = .ok (.getfield 133, 3) := by decide +kernel
theorem dE_visit_21 : decode cE_visit 21 = .ok (.invokevirtual 290, 3) := by decide +kernel
theorem dE_visit_24 : decode cE_visit 24 = .ok (.ifCond .eq 7, 3) := by decide +kernel
theorem dE_visit_27 : decode cE_visit 27 = .ok (.iconst 1, 1) := by decide +kernel
theorem dE_visit_28 : decode cE_visit 28 = .ok (.goto 4, 3) := by decide +kernel
theorem dE_visit_31 : decode cE_visit 31 = .ok (.iconst 0, 1) := by decide +kernel
theorem dE_visit_32 : decode cE_visit 32 = .ok (.ireturn, 1) := by decide +kernel
theorem dE_chart_0 : decode cE_chart 0 = .ok (.iload_n 1, 1) := by decide +kernel
theorem dE_chart_1 : decode cE_chart 1 = .ok (.ifCond .lt 11, 3) := by decide +kernel
theorem dE_chart_4 : decode cE_chart 4 = .ok (.iload_n 1, 1) := by decide +kernel
theorem dE_chart_5 : decode cE_chart 5 = .ok (.aload_n 0, 1) := by decide +kernel
theorem dE_chart_6 : decode cE_chart 6 = .ok (.getfield 17, 3) := by decide +kernel
theorem dE_chart_9 : decode cE_chart 9 = .ok (.if_icmp .le 6, 3) := by decide +kernel
theorem dE_chart_12 : decode cE_chart 12 = .ok (.bipush (-2), 2) := by decide +kernel
theorem dE_chart_14 : decode cE_chart 14 = .ok (.ireturn, 1) := by decide +kernel
theorem dE_chart_15 : decode cE_chart 15 = .ok (.aload_n 0, 1) := by decide +kernel
theorem dE_chart_16 : decode cE_chart 16 = .ok (.iconst 0, 1) := by decide +kernel
theorem dE_chart_17 : decode cE_chart 17 = .ok (.putfield 17, 3) := by decide +kernel
theorem dE_chart_20 : decode cE_chart 20 = .ok (.aload_n 0, 1) := by decide +kernel
theorem dE_chart_21 : decode cE_chart 21 = .ok (.getfield 80, 3) := by decide +kernel
theorem dE_chart_24 : decode cE_chart 24 = .ok (.ifCond .ne 5, 3) := by decide +kernel
theorem dE_chart_27 : decode cE_chart 27 = .ok (.iconst (-1), 1) := by decide +kernel
theorem dE_chart_28 : decode cE_chart 28 = .ok (.ireturn, 1) := by decide +kernel
theorem dE_chart_29 : decode cE_chart 29 = .ok (.aload_n 0, 1) := by decide +kernel
theorem dE_chart_30 : decode cE_chart 30 = .ok (.getfield 294, 3) := by decide +kernel
theorem dE_chart_33 : decode cE_chart 33 = .ok (.ifnonnull 18, 3) := by decide +kernel
theorem dE_chart_36 : decode cE_chart 36 = .ok (.aload_n 0, 1) := by decide +kernel
theorem dE_chart_37 : decode cE_chart 37 = .ok (.new 298, 3) := by decide +kernel
theorem dE_chart_40 : decode cE_chart 40 = .ok (.dup, 1) := by decide +kernel
theorem dE_chart_41 : decode cE_chart 41 = .ok (.aload_n 0, 1) := by decide +kernel
theorem dE_chart_42 : decode cE_chart 42 = .ok (.getfield 24, 3) := by decide +kernel
theorem dE_chart_45 : decode cE_chart 45 = .ok (.invokespecial 300, 3) := by decide +kernel
theorem dE_chart_48 : decode cE_chart 48 = .ok (.putfield 294, 3) := by decide +kernel
theorem dE_chart_51 : decode cE_chart 51 = .ok (.aload_n 0, 1) := by decide +kernel
theorem dE_chart_52 : decode cE_chart 52 = .ok (.getfield 24, 3) := by decide +kernel
theorem dE_chart_55 : decode cE_chart 55 = .ok (.aload_n 0, 1) := by decide +kernel
theorem dE_chart_56 : decode cE_chart 56 = .ok (.getfield 7, 3) := by decide +kernel
theorem dE_chart_59 : decode cE_chart 59 = .ok (.iload_n 1, 1) := by decide +kernel
theorem dE_chart_60 : decode cE_chart 60 = .ok (.invokevirtual 54, 3) := by decide +kernel
theorem dE_chart_63 : decode cE_chart 63 = .ok (.aload_n 0, 1) := by decide +kernel
theorem dE_chart_64 : decode cE_chart 64 = .ok (.getfield 294, 3) := by decide +kernel
theorem dE_chart_67 : decode cE_chart 67 = .ok (.aload_n 0, 1) := by decide +kernel
theorem dE_chart_68 : decode cE_chart 68 = .ok (.getfield 77, 3) := by decide +kernel
theorem dE_chart_71 : decode cE_chart 71 = .ok (.getfield 236, 3) := by decide +kernel
theorem dE_chart_74 : decode cE_chart 74 = .ok (.invokevirtual 301, 3) := by decide +kernel
theorem dE_chart_77 : decode cE_chart 77 = .ok (.aload_n 0, 1) := by decide +kernel
theorem dE_chart_78 : decode cE_chart 78 = .ok (.getfield 24, 3) := by decide +kernel
theorem dE_chart_81 : decode cE_chart 81 = .ok (.invokevirtual 68, 3) := by decide +kernel
theorem dE_chart_84 : decode cE_chart 84 = .ok (.istore_n 2, 1) := by decide +kernel
theorem dE_chart_85 : decode cE_chart 85 = .ok (.iload_n 2, 1) := by decide +kernel
theorem dE_chart_86 : decode cE_chart 86 = .ok (.ifCond .eq 19, 3) := by decide +kernel
theorem dE_chart_89 : decode cE_chart 89 = .ok (.aload_n 0, 1) := by decide +kernel
theorem dE_chart_90 : decode cE_chart 90 = .ok (.aload_n 0, 1) := by decide +kernel
theorem dE_chart_91 : decode cE_chart 91 = .ok (.getfield 24, 3) := by decide +kernel
theorem dE_chart_94 : decode cE_chart 94 = .ok (.invokevirtual 72, 3) := by decide +kernel
theorem dE_chart_97 : decode cE_chart 97 = .ok (.putfield 13, 3) := by decide +kernel
theorem dE_chart_100 : decode cE_chart 100 = .ok (.bipush (-10), 2) := by decide +kernel
theorem dE_chart_102 : decode cE_chart 102 = .ok (.iload_n 2, 1) := by decide +kernel
theorem dE_chart_103 : decode cE_chart 103 = .ok (.isub, 1) := by decide +kernel
theorem dE_chart_104 : decode cE_chart 104 = .ok (.ireturn, 1) := by decide +kernel
theorem dE_chart_105 : decode cE_chart 105 = .ok (.aload_n 0, 1) := by decide +kernel
theorem dE_chart_106 : decode cE_chart 106 = .ok (.getfield 294, 3) := by decide +kernel
theorem dE_chart_109 : decode cE_chart 109 = .ok (.aload_n 0, 1) := by decide +kernel
theorem dE_chart_110 : decode cE_chart 110 = .ok (.getfield 91, 3) := by decide +kernel
theorem dE_chart_113 : decode cE_chart 113 = .ok (.getfield 217, 3) := by decide +kernel
theorem dE_chart_116 : decode cE_chart 116 = .ok (.invokevirtual 304, 3) := by decide +kernel
theorem dE_chart_119 : decode cE_chart 119 = .ok (.ifCond .eq 7, 3) := by decide +kernel
theorem dE_chart_122 : decode cE_chart 122 = .ok (.iconst 1, 1) := by decide +kernel
theorem dE_chart_123 : decode cE_chart 123 = .ok (.goto 4, 3) := by decide +kernel
theorem dE_chart_126 : decode cE_chart 126 = .ok (.iconst 0, 1) := by decide +kernel
theorem dE_chart_127 : decode cE_chart 127 = .ok (.ireturn, 1) := by decide +kernel
theorem dE_choices_0 : decode cE_choices 0 = .ok (.iload_n 1, 1) := by decide +kernel
theorem dE_choices_1 : decode cE_choices 1 = .ok (.lookupswitch 65 #[(0, 27), (1, 46)], 27) := by decide +kernel
theorem dE_choices_28 : decode cE_choices 28 = .ok (.aload_n 0, 1) := by decide +kernel
theorem dE_choices_29 : decode cE_choices 29 = .ok (.getfield 294, 3) := by decide +kernel
theorem dE_choices_32 : decode cE_choices 32 = .ok (.ifnonnull 7, 3) := by decide +kernel
theorem dE_choices_35 : decode cE_choices 35 = .ok (.iconst 0, 1) := by decide +kernel
theorem dE_choices_36 : decode cE_choices 36 = .ok (.goto 10, 3) := by decide +kernel
theorem dE_choices_39 : decode cE_choices 39 = .ok (.aload_n 0, 1) := by decide +kernel
theorem dE_choices_40 : decode cE_choices 40 = .ok (.getfield 294, 3) := by decide +kernel
theorem dE_choices_43 : decode cE_choices 43 = .ok (.getfield 308, 3) := by decide +kernel
theorem dE_choices_46 : decode cE_choices 46 = .ok (.ireturn, 1) := by decide +kernel
theorem dE_choices_47 : decode cE_choices 47 = .ok (.aload_n 0, 1) := by decide +kernel
theorem dE_choices_48 : decode cE_choices 48 = .ok (.getfield 294, 3) := by decide +kernel
theorem dE_choices_51 : decode cE_choices 51 = .ok (.ifnonnull 7, 3) := by decide +kernel
theorem dE_choices_54 : decode cE_choices 54 = .ok (.iconst 0, 1) := by decide +kernel
theorem dE_choices_55 : decode cE_choices 55 = .ok (.goto 10, 3) := by decide +kernel
theorem dE_choices_58 : decode cE_choices 58 = .ok (.aload_n 0, 1) := by decide +kernel
theorem dE_choices_59 : decode cE_choices 59 = .ok (.getfield 294, 3) := by decide +kernel
theorem dE_choices_62 : decode cE_choices 62 = .ok (.getfield 311, 3) := by decide +kernel
theorem dE_choices_65 : decode cE_choices 65 = .ok (.ireturn, 1) := by decide +kernel
theorem dE_choices_66 : decode cE_choices 66 = .ok (.iconst (-1), 1) := by decide +kernel
theorem dE_choices_67 : decode cE_choices 67 = .ok (.ireturn, 1) := by decide +kernel
def liE : List Nat := [341, 343, 345, 347, 349, 351, 353, 355, 357, 359, 361, 363]
set_option maxRecDepth 100000 in
theorem layE : ∀ k, k < 12 → lw_tbl[liE.getD k 0]? = some (u_lay RE TE k) ∧ goodWord (u_lay RE TE k) = true := by decide +kernel
theorem laysE : ∀ w ∈ u_ws RE TE 12, w ∈ tb := by
  intro w hw
  unfold u_ws at hw
  obtain ⟨k, hk, rfl⟩ := List.mem_map.mp hw
  have hk := List.mem_range.mp hk
  exact tm _ (layE k hk).1 (layE k hk).2
theorem dfE : ∀ j, j < 12 → defaultValue (tyE j) = vp_V [.null, .int 0, .null, .null, .null, .null, .null, .null, .null, .null, .int 0, .int 0] j := by decide +kernel
theorem kiE : Cond.instantiable RE 12 ∈ tb := tm 322 (by decide +kernel) rfl
theorem knE : Cond.initialized RE ∈ tb := tm 301 (by decide +kernel) rfl
def liJu : List Nat := [661, 663, 665, 667, 669, 671, 673, 675, 677, 679]
set_option maxRecDepth 100000 in
theorem layJu : ∀ k, k < 10 → lw_tbl[liJu.getD k 0]? = some (u_lay RJu TJu k) ∧ goodWord (u_lay RJu TJu k) = true := by decide +kernel
theorem laysJu : ∀ w ∈ u_ws RJu TJu 10, w ∈ tb := by
  intro w hw
  unfold u_ws at hw
  obtain ⟨k, hk, rfl⟩ := List.mem_map.mp hw
  have hk := List.mem_range.mp hk
  exact tm _ (layJu k hk).1 (layJu k hk).2
theorem dfJu : ∀ j, j < 10 → defaultValue (tyJu j) = vp_V [.null, .null, .null, .int 0, .null, .null, .int 0, .null, .int 0, .int 0] j := by decide +kernel
theorem kiJu : Cond.instantiable RJu 10 ∈ tb := tm 644 (by decide +kernel) rfl
theorem knJu : Cond.initialized RJu ∈ tb := tm 311 (by decide +kernel) rfl
def liKd : List Nat := [589, 591, 593, 595, 597, 599, 601, 603, 605, 607, 609, 611, 613, 615, 617, 619, 621]
set_option maxRecDepth 100000 in
theorem layKd : ∀ k, k < 17 → lw_tbl[liKd.getD k 0]? = some (u_lay RKd TKd k) ∧ goodWord (u_lay RKd TKd k) = true := by decide +kernel
theorem laysKd : ∀ w ∈ u_ws RKd TKd 17, w ∈ tb := by
  intro w hw
  unfold u_ws at hw
  obtain ⟨k, hk, rfl⟩ := List.mem_map.mp hw
  have hk := List.mem_range.mp hk
  exact tm _ (layKd k hk).1 (layKd k hk).2
theorem dfKd : ∀ j, j < 17 → defaultValue (tyKd j) = vp_V [.null, .null, .null, .null, .null, .null, .null, .null, .int 0, .int 0, .int 0, .int 0, .int 0, .int 0, .int 0, .int 0, .int 0] j := by decide +kernel
theorem kiKd : Cond.instantiable RKd 17 ∈ tb := tm 505 (by decide +kernel) rfl
theorem knKd : Cond.initialized RKd ∈ tb := tm 309 (by decide +kernel) rfl
def liLo : List Nat := [1281, 1283, 1285, 1287, 1289, 1291, 1293, 1295, 1297, 1299, 1301, 1303, 1305, 1307]
set_option maxRecDepth 100000 in
theorem layLo : ∀ k, k < 14 → lw_tbl[liLo.getD k 0]? = some (u_lay RLo TLo k) ∧ goodWord (u_lay RLo TLo k) = true := by decide +kernel
theorem laysLo : ∀ w ∈ u_ws RLo TLo 14, w ∈ tb := by
  intro w hw
  unfold u_ws at hw
  obtain ⟨k, hk, rfl⟩ := List.mem_map.mp hw
  have hk := List.mem_range.mp hk
  exact tm _ (layLo k hk).1 (layLo k hk).2
theorem dfLo : ∀ j, j < 14 → defaultValue (tyLo j) = vp_V [.int 0, .null, .int 0, .int 0, .null, .int 0, .int 0, .int 0, .int 0, .int 0, .int 0, .int 0, .int 0, .int 0] j := by decide +kernel
theorem kiLo : Cond.instantiable RLo 14 ∈ tb := tm 1248 (by decide +kernel) rfl
theorem knLo : Cond.initialized RLo ∈ tb := tm 316 (by decide +kernel) rfl
def liNa : List Nat := [530, 532, 534]
set_option maxRecDepth 100000 in
theorem layNa : ∀ k, k < 3 → lw_tbl[liNa.getD k 0]? = some (u_lay RNa TNa k) ∧ goodWord (u_lay RNa TNa k) = true := by decide +kernel
theorem laysNa : ∀ w ∈ u_ws RNa TNa 3, w ∈ tb := by
  intro w hw
  unfold u_ws at hw
  obtain ⟨k, hk, rfl⟩ := List.mem_map.mp hw
  have hk := List.mem_range.mp hk
  exact tm _ (layNa k hk).1 (layNa k hk).2
theorem dfNa : ∀ j, j < 3 → defaultValue (tyNa j) = vp_V [.null, .null, .int 0] j := by decide +kernel
theorem kiNa : Cond.instantiable RNa 3 ∈ tb := tm 511 (by decide +kernel) rfl
theorem knNa : Cond.initialized RNa ∈ tb := tm 310 (by decide +kernel) rfl
def liNe : List Nat := [1376, 1378, 1380, 1382, 1384, 1386, 1388, 1390, 1392, 1394, 1396, 1398, 1400, 1402, 1404, 1406, 1408]
set_option maxRecDepth 100000 in
theorem layNe : ∀ k, k < 17 → lw_tbl[liNe.getD k 0]? = some (u_lay RNe TNe k) ∧ goodWord (u_lay RNe TNe k) = true := by decide +kernel
theorem laysNe : ∀ w ∈ u_ws RNe TNe 17, w ∈ tb := by
  intro w hw
  unfold u_ws at hw
  obtain ⟨k, hk, rfl⟩ := List.mem_map.mp hw
  have hk := List.mem_range.mp hk
  exact tm _ (layNe k hk).1 (layNe k hk).2
theorem dfNe : ∀ j, j < 17 → defaultValue (tyNe j) = vp_V [.null, .null, .null, .null, .null, .null, .null, .null, .null, .null, .null, .null, .int 0, .int 0, .int 0, .int 0, .int 0] j := by decide +kernel
theorem kiNe : Cond.instantiable RNe 17 ∈ tb := tm 1315 (by decide +kernel) rfl
theorem knNe : Cond.initialized RNe ∈ tb := tm 317 (by decide +kernel) rfl
def liPa : List Nat := [630, 632, 634, 636, 638, 640]
set_option maxRecDepth 100000 in
theorem layPa : ∀ k, k < 6 → lw_tbl[liPa.getD k 0]? = some (u_lay RPa TPa k) ∧ goodWord (u_lay RPa TPa k) = true := by decide +kernel
theorem laysPa : ∀ w ∈ u_ws RPa TPa 6, w ∈ tb := by
  intro w hw
  unfold u_ws at hw
  obtain ⟨k, hk, rfl⟩ := List.mem_map.mp hw
  have hk := List.mem_range.mp hk
  exact tm _ (layPa k hk).1 (layPa k hk).2
theorem dfPa : ∀ j, j < 6 → defaultValue (tyPa j) = vp_V [.null, .null, .null, .int 0, .int 0, .int 0] j := by decide +kernel
theorem kiPa : Cond.instantiable RPa 6 ∈ tb := tm 499 (by decide +kernel) rfl
theorem knPa : Cond.initialized RPa ∈ tb := tm 308 (by decide +kernel) rfl
def liPl : List Nat := [764, 766, 768, 770, 772, 774, 776, 778, 780, 782, 784, 786, 788, 790, 792, 794, 796, 798, 800, 802]
set_option maxRecDepth 100000 in
theorem layPl : ∀ k, k < 20 → lw_tbl[liPl.getD k 0]? = some (u_lay RPl TPl k) ∧ goodWord (u_lay RPl TPl k) = true := by decide +kernel
theorem laysPl : ∀ w ∈ u_ws RPl TPl 20, w ∈ tb := by
  intro w hw
  unfold u_ws at hw
  obtain ⟨k, hk, rfl⟩ := List.mem_map.mp hw
  have hk := List.mem_range.mp hk
  exact tm _ (layPl k hk).1 (layPl k hk).2
theorem dfPl : ∀ j, j < 20 → defaultValue (tyPl j) = vp_V [.null, .null, .null, .null, .null, .null, .null, .null, .null, .null, .null, .null, .null, .null, .int 0, .null, .int 0, .null, .null, .int 0] j := by decide +kernel
theorem kiPl : Cond.instantiable RPl 20 ∈ tb := tm 683 (by decide +kernel) rfl
theorem knPl : Cond.initialized RPl ∈ tb := tm 312 (by decide +kernel) rfl
def liRu : List Nat := [1431, 1433, 1435, 1437, 1439, 1441, 1443, 1445, 1447, 1449, 1451, 1453, 1455, 1457, 1459, 1461]
set_option maxRecDepth 100000 in
theorem layRu : ∀ k, k < 16 → lw_tbl[liRu.getD k 0]? = some (u_lay RRu TRu k) ∧ goodWord (u_lay RRu TRu k) = true := by decide +kernel
theorem laysRu : ∀ w ∈ u_ws RRu TRu 16, w ∈ tb := by
  intro w hw
  unfold u_ws at hw
  obtain ⟨k, hk, rfl⟩ := List.mem_map.mp hw
  have hk := List.mem_range.mp hk
  exact tm _ (layRu k hk).1 (layRu k hk).2
theorem dfRu : ∀ j, j < 16 → defaultValue (tyRu j) = vp_V [.null, .null, .null, .null, .int 0, .int 0, .int 0, .int 0, .int 0, .int 0, .null, .int 0, .int 0, .int 0, .int 0, .int 0] j := by decide +kernel
theorem kiRu : Cond.instantiable RRu 16 ∈ tb := tm 1246 (by decide +kernel) rfl
theorem knRu : Cond.initialized RRu ∈ tb := tm 315 (by decide +kernel) rfl
def liSe : List Nat := [1488, 1490, 1492, 1494, 1496, 1498, 1500, 1502, 1504, 1506, 1508, 1510, 1512, 1514, 1516, 1518, 1520, 1522]
set_option maxRecDepth 100000 in
theorem laySe : ∀ k, k < 18 → lw_tbl[liSe.getD k 0]? = some (u_lay RSe TSe k) ∧ goodWord (u_lay RSe TSe k) = true := by decide +kernel
theorem laysSe : ∀ w ∈ u_ws RSe TSe 18, w ∈ tb := by
  intro w hw
  unfold u_ws at hw
  obtain ⟨k, hk, rfl⟩ := List.mem_map.mp hw
  have hk := List.mem_range.mp hk
  exact tm _ (laySe k hk).1 (laySe k hk).2
theorem dfSe : ∀ j, j < 18 → defaultValue (tySe j) = vp_V [.null, .null, .null, .null, .null, .null, .null, .null, .null, .null, .null, .int 0, .int 0, .int 0, .int 0, .int 0, .int 0, .int 0] j := by decide +kernel
theorem kiSe : Cond.instantiable RSe 18 ∈ tb := tm 1465 (by decide +kernel) rfl
theorem knSe : Cond.initialized RSe ∈ tb := tm 318 (by decide +kernel) rfl
def liSh : List Nat := [2019, 2021, 2023, 2025, 2027, 2029, 2031, 2033, 2035, 2037, 2039, 2041, 2043, 2045, 2047, 2049, 2051, 2053, 2055]
set_option maxRecDepth 100000 in
theorem laySh : ∀ k, k < 19 → lw_tbl[liSh.getD k 0]? = some (u_lay RSh TSh k) ∧ goodWord (u_lay RSh TSh k) = true := by decide +kernel
theorem laysSh : ∀ w ∈ u_ws RSh TSh 19, w ∈ tb := by
  intro w hw
  unfold u_ws at hw
  obtain ⟨k, hk, rfl⟩ := List.mem_map.mp hw
  have hk := List.mem_range.mp hk
  exact tm _ (laySh k hk).1 (laySh k hk).2
theorem dfSh : ∀ j, j < 19 → defaultValue (tySh j) = vp_V [.null, .null, .null, .null, .null, .null, .int 0, .null, .null, .null, .null, .int 0, .null, .null, .int 0, .null, .null, .int 0, .int 0] j := by decide +kernel
theorem kiSh : Cond.instantiable RSh 19 ∈ tb := tm 1991 (by decide +kernel) rfl
theorem knSh : Cond.initialized RSh ∈ tb := tm 320 (by decide +kernel) rfl
def liTk : List Nat := [471, 473, 475, 477, 479, 481, 483, 485, 487, 489, 491, 493]
set_option maxRecDepth 100000 in
theorem layTk : ∀ k, k < 12 → lw_tbl[liTk.getD k 0]? = some (u_lay RTk TTk k) ∧ goodWord (u_lay RTk TTk k) = true := by decide +kernel
theorem laysTk : ∀ w ∈ u_ws RTk TTk 12, w ∈ tb := by
  intro w hw
  unfold u_ws at hw
  obtain ⟨k, hk, rfl⟩ := List.mem_map.mp hw
  have hk := List.mem_range.mp hk
  exact tm _ (layTk k hk).1 (layTk k hk).2
theorem dfTk : ∀ j, j < 12 → defaultValue (tyTk j) = vp_V [.null, .null, .null, .int 0, .int 0, .int 0, .int 0, .int 0, .int 0, .null, .null, .int 0] j := by decide +kernel
theorem kiTk : Cond.instantiable RTk 12 ∈ tb := tm 380 (by decide +kernel) rfl
theorem knTk : Cond.initialized RTk ∈ tb := tm 307 (by decide +kernel) rfl
theorem flE_7 : Cond.fieldLink RE 7 RE (TE 0).2.1 (TE 0).2.2.1 ∈ tb := tm 329 (by decide +kernel) rfl
theorem flE_13 : Cond.fieldLink RE 13 RE (TE 11).2.1 (TE 11).2.2.1 ∈ tb := tm 340 (by decide +kernel) rfl
theorem flE_17 : Cond.fieldLink RE 17 RE (TE 1).2.1 (TE 1).2.2.1 ∈ tb := tm 330 (by decide +kernel) rfl
theorem flE_77 : Cond.fieldLink RE 77 RE (TE 8).2.1 (TE 8).2.2.1 ∈ tb := tm 337 (by decide +kernel) rfl
theorem flE_80 : Cond.fieldLink RE 80 RE (TE 10).2.1 (TE 10).2.2.1 ∈ tb := tm 339 (by decide +kernel) rfl
theorem flE_294 : Cond.fieldLink RE 294 RE (TE 7).2.1 (TE 7).2.2.1 ∈ tb := tm 336 (by decide +kernel) rfl
theorem vE_instance_158 : OkV RE 158 yE_slot cE_slot 2 (some .int) 1 := ⟨aw_v (tm 1808 (by decide +kernel) rfl) (tm 1810 (by decide +kernel) rfl) (tm 100 (by decide +kernel) rfl) (tm 301 (by decide +kernel) rfl) (tm 1811 (by decide +kernel) rfl), by decide +kernel, by decide +kernel, by decide +kernel⟩
theorem vE_cell_158 : OkV RE 158 yE_slot cE_slot 2 (some .int) 1 := ⟨aw_v (tm 1808 (by decide +kernel) rfl) (tm 1810 (by decide +kernel) rfl) (tm 100 (by decide +kernel) rfl) (tm 301 (by decide +kernel) rfl) (tm 1811 (by decide +kernel) rfl), by decide +kernel, by decide +kernel, by decide +kernel⟩
theorem vE_timer_158 : OkV RE 158 yE_slot cE_slot 2 (some .int) 1 := ⟨aw_v (tm 1808 (by decide +kernel) rfl) (tm 1810 (by decide +kernel) rfl) (tm 100 (by decide +kernel) rfl) (tm 301 (by decide +kernel) rfl) (tm 1811 (by decide +kernel) rfl), by decide +kernel, by decide +kernel, by decide +kernel⟩
theorem vE_queued_158 : OkV RE 158 yE_slot cE_slot 2 (some .int) 1 := ⟨aw_v (tm 1808 (by decide +kernel) rfl) (tm 1810 (by decide +kernel) rfl) (tm 100 (by decide +kernel) rfl) (tm 301 (by decide +kernel) rfl) (tm 1811 (by decide +kernel) rfl), by decide +kernel, by decide +kernel, by decide +kernel⟩
theorem koE : Cond.methodLink RE 1 Lib.objectInit ∈ tb := tm 326 (by decide +kernel) rfl

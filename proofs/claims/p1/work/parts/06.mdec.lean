theorem dM_stops_0 : decode cM_stops 0 = .ok (.aload_n 0, 1) := by decide +kernel
theorem dM_stops_1 : decode cM_stops 1 = .ok (.getfield 444, 3) := by decide +kernel
theorem dM_stops_4 : decode cM_stops 4 = .ok (.ifCond .le 14, 3) := by decide +kernel
theorem dM_stops_7 : decode cM_stops 7 = .ok (.aload_n 0, 1) := by decide +kernel
theorem dM_stops_8 : decode cM_stops 8 = .ok (.getfield 457, 3) := by decide +kernel
theorem dM_stops_11 : decode cM_stops 11 = .ok (.ifCond .ne 7, 3) := by decide +kernel
theorem dM_stops_14 : decode cM_stops 14 = .ok (.iconst 1, 1) := by decide +kernel
theorem dM_stops_15 : decode cM_stops 15 = .ok (.goto 4, 3) := by decide +kernel
theorem dM_stops_18 : decode cM_stops 18 = .ok (.iconst 0, 1) := by decide +kernel
theorem dM_stops_19 : decode cM_stops 19 = .ok (.ireturn, 1) := by decide +kernel
theorem dM_run_0 : decode cM_run 0 = .ok (.aload_n 0, 1) := by decide +kernel
theorem dM_run_1 : decode cM_run 1 = .ok (.getfield 822, 3) := by decide +kernel
theorem dM_run_4 : decode cM_run 4 = .ok (.ifCond .eq 15, 3) := by decide +kernel
theorem dM_run_7 : decode cM_run 7 = .ok (.iload_n 1, 1) := by decide +kernel
theorem dM_run_8 : decode cM_run 8 = .ok (.iconst 1, 1) := by decide +kernel
theorem dM_run_9 : decode cM_run 9 = .ok (.if_icmp .lt 10, 3) := by decide +kernel
theorem dM_run_12 : decode cM_run 12 = .ok (.iload_n 1, 1) := by decide +kernel
theorem dM_run_13 : decode cM_run 13 = .ok (.sipush 1000, 3) := by decide +kernel
theorem dM_run_16 : decode cM_run 16 = .ok (.if_icmp .le 5, 3) := by decide +kernel
theorem dM_run_19 : decode cM_run 19 = .ok (.iconst (-1), 1) := by decide +kernel
theorem dM_run_20 : decode cM_run 20 = .ok (.ireturn, 1) := by decide +kernel
theorem dM_run_21 : decode cM_run 21 = .ok (.iconst 0, 1) := by decide +kernel
theorem dM_run_22 : decode cM_run 22 = .ok (.istore_n 2, 1) := by decide +kernel
theorem dM_run_23 : decode cM_run 23 = .ok (.iload_n 2, 1) := by decide +kernel
theorem dM_run_24 : decode cM_run 24 = .ok (.iload_n 1, 1) := by decide +kernel
theorem dM_run_25 : decode cM_run 25 = .ok (.if_icmp .ge 77, 3) := by decide +kernel
theorem dM_run_28 : decode cM_run 28 = .ok (.aload_n 0, 1) := by decide +kernel
theorem dM_run_29 : decode cM_run 29 = .ok (.invokevirtual 1020, 3) := by decide +kernel
theorem dM_run_32 : decode cM_run 32 = .ok (.aload_n 0, 1) := by decide +kernel
theorem dM_run_33 : decode cM_run 33 = .ok (.invokevirtual 1023, 3) := by decide +kernel
theorem dM_run_36 : decode cM_run 36 = .ok (.istore_n 3, 1) := by decide +kernel
theorem dM_run_37 : decode cM_run 37 = .ok (.iload_n 3, 1) := by decide +kernel
theorem dM_run_38 : decode cM_run 38 = .ok (.ifCond .lt 42, 3) := by decide +kernel
theorem dM_run_41 : decode cM_run 41 = .ok (.aload_n 0, 1) := by decide +kernel
theorem dM_run_42 : decode cM_run 42 = .ok (.aload_n 0, 1) := by decide +kernel
theorem dM_run_43 : decode cM_run 43 = .ok (.getfield 299, 3) := by decide +kernel
theorem dM_run_46 : decode cM_run 46 = .ok (.iload_n 3, 1) := by decide +kernel
theorem dM_run_47 : decode cM_run 47 = .ok (.invokestatic 840, 3) := by decide +kernel
theorem dM_run_50 : decode cM_run 50 = .ok (.iaload, 1) := by decide +kernel
theorem dM_run_51 : decode cM_run 51 = .ok (.putfield 1008, 3) := by decide +kernel
theorem dM_run_54 : decode cM_run 54 = .ok (.aload_n 0, 1) := by decide +kernel
theorem dM_run_55 : decode cM_run 55 = .ok (.iload_n 3, 1) := by decide +kernel
theorem dM_run_56 : decode cM_run 56 = .ok (.aload_n 0, 1) := by decide +kernel
theorem dM_run_57 : decode cM_run 57 = .ok (.iload_n 3, 1) := by decide +kernel
theorem dM_run_58 : decode cM_run 58 = .ok (.invokevirtual 1026, 3) := by decide +kernel
theorem dM_run_61 : decode cM_run 61 = .ok (.invokevirtual 1029, 3) := by decide +kernel
theorem dM_run_64 : decode cM_run 64 = .ok (.aload_n 0, 1) := by decide +kernel
theorem dM_run_65 : decode cM_run 65 = .ok (.dup, 1) := by decide +kernel
theorem dM_run_66 : decode cM_run 66 = .ok (.getfield 1011, 3) := by decide +kernel
theorem dM_run_69 : decode cM_run 69 = .ok (.iconst 1, 1) := by decide +kernel
theorem dM_run_70 : decode cM_run 70 = .ok (.iadd, 1) := by decide +kernel
theorem dM_run_71 : decode cM_run 71 = .ok (.putfield 1011, 3) := by decide +kernel
theorem dM_run_74 : decode cM_run 74 = .ok (.iinc 2 1, 3) := by decide +kernel
theorem dM_run_77 : decode cM_run 77 = .ok (.goto 22, 3) := by decide +kernel
theorem dM_run_80 : decode cM_run 80 = .ok (.aload_n 0, 1) := by decide +kernel
theorem dM_run_81 : decode cM_run 81 = .ok (.invokevirtual 1032, 3) := by decide +kernel
theorem dM_run_84 : decode cM_run 84 = .ok (.istore 4, 2) := by decide +kernel
theorem dM_run_86 : decode cM_run 86 = .ok (.iload 4, 2) := by decide +kernel
theorem dM_run_88 : decode cM_run 88 = .ok (.ifCond .ge 5, 3) := by decide +kernel
theorem dM_run_91 : decode cM_run 91 = .ok (.iload_n 2, 1) := by decide +kernel
theorem dM_run_92 : decode cM_run 92 = .ok (.ireturn, 1) := by decide +kernel
theorem dM_run_93 : decode cM_run 93 = .ok (.aload_n 0, 1) := by decide +kernel
theorem dM_run_94 : decode cM_run 94 = .ok (.iload 4, 2) := by decide +kernel
theorem dM_run_96 : decode cM_run 96 = .ok (.putfield 877, 3) := by decide +kernel
theorem dM_run_99 : decode cM_run 99 = .ok (.goto (-76), 3) := by decide +kernel
theorem dM_run_102 : decode cM_run 102 = .ok (.iload_n 2, 1) := by decide +kernel
theorem dM_run_103 : decode cM_run 103 = .ok (.ireturn, 1) := by decide +kernel
theorem dM_go_0 : decode cM_go 0 = .ok (.aload_n 0, 1) := by decide +kernel
theorem dM_go_1 : decode cM_go 1 = .ok (.getfield 822, 3) := by decide +kernel
theorem dM_go_4 : decode cM_go 4 = .ok (.ifCond .ne 5, 3) := by decide +kernel
theorem dM_go_7 : decode cM_go 7 = .ok (.iconst (-1), 1) := by decide +kernel
theorem dM_go_8 : decode cM_go 8 = .ok (.ireturn, 1) := by decide +kernel
theorem dM_go_9 : decode cM_go 9 = .ok (.aload_n 0, 1) := by decide +kernel
theorem dM_go_10 : decode cM_go 10 = .ok (.invokevirtual 1020, 3) := by decide +kernel
theorem dM_go_13 : decode cM_go 13 = .ok (.aload_n 0, 1) := by decide +kernel
theorem dM_go_14 : decode cM_go 14 = .ok (.iload_n 1, 1) := by decide +kernel
theorem dM_go_15 : decode cM_go 15 = .ok (.invokevirtual 864, 3) := by decide +kernel
theorem dM_go_18 : decode cM_go 18 = .ok (.istore_n 2, 1) := by decide +kernel
theorem dM_go_19 : decode cM_go 19 = .ok (.iload_n 1, 1) := by decide +kernel
theorem dM_go_20 : decode cM_go 20 = .ok (.iconst 1, 1) := by decide +kernel
theorem dM_go_21 : decode cM_go 21 = .ok (.if_icmp .lt 7, 3) := by decide +kernel
theorem dM_go_24 : decode cM_go 24 = .ok (.iload_n 2, 1) := by decide +kernel
theorem dM_go_25 : decode cM_go 25 = .ok (.ifCond .ge 5, 3) := by decide +kernel
theorem dM_go_28 : decode cM_go 28 = .ok (.iconst 0, 1) := by decide +kernel
theorem dM_go_29 : decode cM_go 29 = .ok (.ireturn, 1) := by decide +kernel
theorem dM_go_30 : decode cM_go 30 = .ok (.aload_n 0, 1) := by decide +kernel
theorem dM_go_31 : decode cM_go 31 = .ok (.iload_n 2, 1) := by decide +kernel
theorem dM_go_32 : decode cM_go 32 = .ok (.invokevirtual 1026, 3) := by decide +kernel
theorem dM_go_35 : decode cM_go 35 = .ok (.istore_n 3, 1) := by decide +kernel
theorem dM_go_36 : decode cM_go 36 = .ok (.iload_n 3, 1) := by decide +kernel
theorem dM_go_37 : decode cM_go 37 = .ok (.ifCond .ne 5, 3) := by decide +kernel
theorem dM_go_40 : decode cM_go 40 = .ok (.iconst 0, 1) := by decide +kernel
theorem dM_go_41 : decode cM_go 41 = .ok (.ireturn, 1) := by decide +kernel
theorem dM_go_42 : decode cM_go 42 = .ok (.aload_n 0, 1) := by decide +kernel
theorem dM_go_43 : decode cM_go 43 = .ok (.iload_n 1, 1) := by decide +kernel
theorem dM_go_44 : decode cM_go 44 = .ok (.putfield 1008, 3) := by decide +kernel
theorem dM_go_47 : decode cM_go 47 = .ok (.aload_n 0, 1) := by decide +kernel
theorem dM_go_48 : decode cM_go 48 = .ok (.iload_n 2, 1) := by decide +kernel
theorem dM_go_49 : decode cM_go 49 = .ok (.iload_n 3, 1) := by decide +kernel
theorem dM_go_50 : decode cM_go 50 = .ok (.invokevirtual 1029, 3) := by decide +kernel
theorem dM_go_53 : decode cM_go 53 = .ok (.aload_n 0, 1) := by decide +kernel
theorem dM_go_54 : decode cM_go 54 = .ok (.dup, 1) := by decide +kernel
theorem dM_go_55 : decode cM_go 55 = .ok (.getfield 1011, 3) := by decide +kernel
theorem dM_go_58 : decode cM_go 58 = .ok (.iconst 1, 1) := by decide +kernel
theorem dM_go_59 : decode cM_go 59 = .ok (.iadd, 1) := by decide +kernel
theorem dM_go_60 : decode cM_go 60 = .ok (.putfield 1011, 3) := by decide +kernel
theorem dM_go_63 : decode cM_go 63 = .ok (.iconst 1, 1) := by decide +kernel
theorem dM_go_64 : decode cM_go 64 = .ok (.ireturn, 1) := by decide +kernel
theorem dM_none_0 : decode cM_none 0 = .ok (.aload_n 0, 1) := by decide +kernel
theorem dM_none_1 : decode cM_none 1 = .ok (.getfield 822, 3) := by decide +kernel
theorem dM_none_4 : decode cM_none 4 = .ok (.ifCond .ne 5, 3) := by decide +kernel
theorem dM_none_7 : decode cM_none 7 = .ok (.iconst (-1), 1) := by decide +kernel
theorem dM_none_8 : decode cM_none 8 = .ok (.ireturn, 1) := by decide +kernel
theorem dM_none_9 : decode cM_none 9 = .ok (.aload_n 0, 1) := by decide +kernel
theorem dM_none_10 : decode cM_none 10 = .ok (.invokevirtual 1020, 3) := by decide +kernel
theorem dM_none_13 : decode cM_none 13 = .ok (.aload_n 0, 1) := by decide +kernel
theorem dM_none_14 : decode cM_none 14 = .ok (.iload_n 1, 1) := by decide +kernel
theorem dM_none_15 : decode cM_none 15 = .ok (.invokevirtual 864, 3) := by decide +kernel
theorem dM_none_18 : decode cM_none 18 = .ok (.istore_n 3, 1) := by decide +kernel
theorem dM_none_19 : decode cM_none 19 = .ok (.iload_n 1, 1) := by decide +kernel
theorem dM_none_20 : decode cM_none 20 = .ok (.iconst 1, 1) := by decide +kernel
theorem dM_none_21 : decode cM_none 21 = .ok (.if_icmp .lt 7, 3) := by decide +kernel
theorem dM_none_24 : decode cM_none 24 = .ok (.iload_n 3, 1) := by decide +kernel
theorem dM_none_25 : decode cM_none 25 = .ok (.ifCond .ge 7, 3) := by decide +kernel
theorem dM_none_28 : decode cM_none 28 = .ok (.iconst (-1), 1) := by decide +kernel
theorem dM_none_29 : decode cM_none 29 = .ok (.goto 9, 3) := by decide +kernel
theorem dM_none_32 : decode cM_none 32 = .ok (.aload_n 0, 1) := by decide +kernel
theorem dM_none_33 : decode cM_none 33 = .ok (.iload_n 3, 1) := by decide +kernel
theorem dM_none_34 : decode cM_none 34 = .ok (.iload_n 2, 1) := by decide +kernel
theorem dM_none_35 : decode cM_none 35 = .ok (.invokevirtual 1035, 3) := by decide +kernel
theorem dM_none_38 : decode cM_none 38 = .ok (.istore 4, 2) := by decide +kernel
theorem dM_none_40 : decode cM_none 40 = .ok (.iload 4, 2) := by decide +kernel
theorem dM_none_42 : decode cM_none 42 = .ok (.ifCond .ge 5, 3) := by decide +kernel
theorem dM_none_45 : decode cM_none 45 = .ok (.iconst 0, 1) := by decide +kernel
theorem dM_none_46 : decode cM_none 46 = .ok (.ireturn, 1) := by decide +kernel
theorem dM_none_47 : decode cM_none 47 = .ok (.aload_n 0, 1) := by decide +kernel
theorem dM_none_48 : decode cM_none 48 = .ok (.iload_n 3, 1) := by decide +kernel
theorem dM_none_49 : decode cM_none 49 = .ok (.iload 4, 2) := by decide +kernel
theorem dM_none_51 : decode cM_none 51 = .ok (.invokevirtual 1038, 3) := by decide +kernel
theorem dM_none_54 : decode cM_none 54 = .ok (.iconst 1, 1) := by decide +kernel
theorem dM_none_55 : decode cM_none 55 = .ok (.ireturn, 1) := by decide +kernel
theorem dM_wait_0 : decode cM_wait 0 = .ok (.aload_n 0, 1) := by decide +kernel
theorem dM_wait_1 : decode cM_wait 1 = .ok (.getfield 822, 3) := by decide +kernel
theorem dM_wait_4 : decode cM_wait 4 = .ok (.ifCond .eq 14, 3) := by decide +kernel
theorem dM_wait_7 : decode cM_wait 7 = .ok (.iload_n 1, 1) := by decide +kernel
theorem dM_wait_8 : decode cM_wait 8 = .ok (.ifCond .lt 10, 3) := by decide +kernel
theorem dM_wait_11 : decode cM_wait 11 = .ok (.iload_n 1, 1) := by decide +kernel
theorem dM_wait_12 : decode cM_wait 12 = .ok (.ldc_w 1041, 3) := by decide +kernel
theorem dM_wait_15 : decode cM_wait 15 = .ok (.if_icmp .le 5, 3) := by decide +kernel
theorem dM_wait_18 : decode cM_wait 18 = .ok (.iconst (-1), 1) := by decide +kernel
theorem dM_wait_19 : decode cM_wait 19 = .ok (.ireturn, 1) := by decide +kernel
theorem dM_wait_20 : decode cM_wait 20 = .ok (.aload_n 0, 1) := by decide +kernel
theorem dM_wait_21 : decode cM_wait 21 = .ok (.aload_n 0, 1) := by decide +kernel
theorem dM_wait_22 : decode cM_wait 22 = .ok (.getfield 877, 3) := by decide +kernel
theorem dM_wait_25 : decode cM_wait 25 = .ok (.ldc_w 964, 3) := by decide +kernel
theorem dM_wait_28 : decode cM_wait 28 = .ok (.iload_n 1, 1) := by decide +kernel
theorem dM_wait_29 : decode cM_wait 29 = .ok (.isub, 1) := by decide +kernel
theorem dM_wait_30 : decode cM_wait 30 = .ok (.if_icmp .le 9, 3) := by decide +kernel
theorem dM_wait_33 : decode cM_wait 33 = .ok (.ldc_w 964, 3) := by decide +kernel
theorem dM_wait_36 : decode cM_wait 36 = .ok (.goto 9, 3) := by decide +kernel
theorem dM_wait_39 : decode cM_wait 39 = .ok (.aload_n 0, 1) := by decide +kernel
theorem dM_wait_40 : decode cM_wait 40 = .ok (.getfield 877, 3) := by decide +kernel
theorem dM_wait_43 : decode cM_wait 43 = .ok (.iload_n 1, 1) := by decide +kernel
theorem dM_wait_44 : decode cM_wait 44 = .ok (.iadd, 1) := by decide +kernel
theorem dM_wait_45 : decode cM_wait 45 = .ok (.putfield 877, 3) := by decide +kernel
theorem dM_wait_48 : decode cM_wait 48 = .ok (.aload_n 0, 1) := by decide +kernel
theorem dM_wait_49 : decode cM_wait 49 = .ok (.getfield 877, 3) := by decide +kernel
theorem dM_wait_52 : decode cM_wait 52 = .ok (.ireturn, 1) := by decide +kernel
theorem dM_slotAsked_0 : decode cM_slotAsked 0 = .ok (.aload_n 0, 1) := by decide +kernel
theorem dM_slotAsked_1 : decode cM_slotAsked 1 = .ok (.getfield 822, 3) := by decide +kernel
theorem dM_slotAsked_4 : decode cM_slotAsked 4 = .ok (.ifCond .eq 15, 3) := by decide +kernel
theorem dM_slotAsked_7 : decode cM_slotAsked 7 = .ok (.iload_n 1, 1) := by decide +kernel
theorem dM_slotAsked_8 : decode cM_slotAsked 8 = .ok (.ifCond .le 11, 3) := by decide +kernel
theorem dM_slotAsked_11 : decode cM_slotAsked 11 = .ok (.aload_n 0, 1) := by decide +kernel
theorem dM_slotAsked_12 : decode cM_slotAsked 12 = .ok (.iload_n 1, 1) := by decide +kernel
theorem dM_slotAsked_13 : decode cM_slotAsked 13 = .ok (.invokevirtual 864, 3) := by decide +kernel
theorem dM_slotAsked_16 : decode cM_slotAsked 16 = .ok (.goto 4, 3) := by decide +kernel
theorem dM_slotAsked_19 : decode cM_slotAsked 19 = .ok (.iconst (-1), 1) := by decide +kernel
theorem dM_slotAsked_20 : decode cM_slotAsked 20 = .ok (.ireturn, 1) := by decide +kernel
theorem dM_alive_0 : decode cM_alive 0 = .ok (.aload_n 0, 1) := by decide +kernel
theorem dM_alive_1 : decode cM_alive 1 = .ok (.getfield 822, 3) := by decide +kernel
theorem dM_alive_4 : decode cM_alive 4 = .ok (.ifCond .eq 29, 3) := by decide +kernel
theorem dM_alive_7 : decode cM_alive 7 = .ok (.iload_n 1, 1) := by decide +kernel
theorem dM_alive_8 : decode cM_alive 8 = .ok (.ifCond .lt 25, 3) := by decide +kernel
theorem dM_alive_11 : decode cM_alive 11 = .ok (.iload_n 1, 1) := by decide +kernel
theorem dM_alive_12 : decode cM_alive 12 = .ok (.aload_n 0, 1) := by decide +kernel
theorem dM_alive_13 : decode cM_alive 13 = .ok (.getfield 299, 3) := by decide +kernel
theorem dM_alive_16 : decode cM_alive 16 = .ok (.iconst 0, 1) := by decide +kernel
theorem dM_alive_17 : decode cM_alive 17 = .ok (.iaload, 1) := by decide +kernel
theorem dM_alive_18 : decode cM_alive 18 = .ok (.if_icmp .ge 15, 3) := by decide +kernel
theorem dM_alive_21 : decode cM_alive 21 = .ok (.aload_n 0, 1) := by decide +kernel
theorem dM_alive_22 : decode cM_alive 22 = .ok (.getfield 299, 3) := by decide +kernel
theorem dM_alive_25 : decode cM_alive 25 = .ok (.iload_n 1, 1) := by decide +kernel
theorem dM_alive_26 : decode cM_alive 26 = .ok (.invokestatic 840, 3) := by decide +kernel
theorem dM_alive_29 : decode cM_alive 29 = .ok (.iaload, 1) := by decide +kernel
theorem dM_alive_30 : decode cM_alive 30 = .ok (.goto 4, 3) := by decide +kernel
theorem dM_alive_33 : decode cM_alive 33 = .ok (.iconst (-1), 1) := by decide +kernel
theorem dM_alive_34 : decode cM_alive 34 = .ok (.ireturn, 1) := by decide +kernel
theorem dM_way_0 : decode cM_way 0 = .ok (.aload_n 0, 1) := by decide +kernel
theorem dM_way_1 : decode cM_way 1 = .ok (.getfield 822, 3) := by decide +kernel
theorem dM_way_4 : decode cM_way 4 = .ok (.ifCond .eq 42, 3) := by decide +kernel
theorem dM_way_7 : decode cM_way 7 = .ok (.iload_n 1, 1) := by decide +kernel
theorem dM_way_8 : decode cM_way 8 = .ok (.ifCond .lt 38, 3) := by decide +kernel
theorem dM_way_11 : decode cM_way 11 = .ok (.iload_n 1, 1) := by decide +kernel
theorem dM_way_12 : decode cM_way 12 = .ok (.aload_n 0, 1) := by decide +kernel
theorem dM_way_13 : decode cM_way 13 = .ok (.getfield 492, 3) := by decide +kernel
theorem dM_way_16 : decode cM_way 16 = .ok (.if_icmp .ge 30, 3) := by decide +kernel
theorem dM_way_19 : decode cM_way 19 = .ok (.iload_n 2, 1) := by decide +kernel
theorem dM_way_20 : decode cM_way 20 = .ok (.ifCond .lt 26, 3) := by decide +kernel
theorem dM_way_23 : decode cM_way 23 = .ok (.iload_n 2, 1) := by decide +kernel
theorem dM_way_24 : decode cM_way 24 = .ok (.aload_n 0, 1) := by decide +kernel
theorem dM_way_25 : decode cM_way 25 = .ok (.getfield 299, 3) := by decide +kernel
theorem dM_way_28 : decode cM_way 28 = .ok (.iload_n 1, 1) := by decide +kernel
theorem dM_way_29 : decode cM_way 29 = .ok (.invokestatic 886, 3) := by decide +kernel
theorem dM_way_32 : decode cM_way 32 = .ok (.iaload, 1) := by decide +kernel
theorem dM_way_33 : decode cM_way 33 = .ok (.if_icmp .ge 13, 3) := by decide +kernel
theorem dM_way_36 : decode cM_way 36 = .ok (.iload_n 3, 1) := by decide +kernel
theorem dM_way_37 : decode cM_way 37 = .ok (.ifCond .lt 9, 3) := by decide +kernel
theorem dM_way_40 : decode cM_way 40 = .ok (.iload_n 3, 1) := by decide +kernel
theorem dM_way_41 : decode cM_way 41 = .ok (.bipush 7, 2) := by decide +kernel
theorem dM_way_43 : decode cM_way 43 = .ok (.if_icmp .lt 5, 3) := by decide +kernel
theorem dM_way_46 : decode cM_way 46 = .ok (.iconst (-1), 1) := by decide +kernel
theorem dM_way_47 : decode cM_way 47 = .ok (.ireturn, 1) := by decide +kernel
theorem dM_way_48 : decode cM_way 48 = .ok (.aload_n 0, 1) := by decide +kernel
theorem dM_way_49 : decode cM_way 49 = .ok (.getfield 299, 3) := by decide +kernel
theorem dM_way_52 : decode cM_way 52 = .ok (.iload_n 1, 1) := by decide +kernel
theorem dM_way_53 : decode cM_way 53 = .ok (.invokestatic 886, 3) := by decide +kernel
theorem dM_way_56 : decode cM_way 56 = .ok (.iconst 1, 1) := by decide +kernel
theorem dM_way_57 : decode cM_way 57 = .ok (.iadd, 1) := by decide +kernel
theorem dM_way_58 : decode cM_way 58 = .ok (.bipush 7, 2) := by decide +kernel
theorem dM_way_60 : decode cM_way 60 = .ok (.iload_n 2, 1) := by decide +kernel
theorem dM_way_61 : decode cM_way 61 = .ok (.imul, 1) := by decide +kernel
theorem dM_way_62 : decode cM_way 62 = .ok (.iadd, 1) := by decide +kernel
theorem dM_way_63 : decode cM_way 63 = .ok (.iload_n 3, 1) := by decide +kernel
theorem dM_way_64 : decode cM_way 64 = .ok (.iadd, 1) := by decide +kernel
theorem dM_way_65 : decode cM_way 65 = .ok (.iaload, 1) := by decide +kernel
theorem dM_way_66 : decode cM_way 66 = .ok (.ireturn, 1) := by decide +kernel
theorem dM_out_0 : decode cM_out 0 = .ok (.aload_n 0, 1) := by decide +kernel
theorem dM_out_1 : decode cM_out 1 = .ok (.getfield 822, 3) := by decide +kernel
theorem dM_out_4 : decode cM_out 4 = .ok (.ifCond .eq 24, 3) := by decide +kernel
theorem dM_out_7 : decode cM_out 7 = .ok (.iload_n 1, 1) := by decide +kernel
theorem dM_out_8 : decode cM_out 8 = .ok (.ifCond .lt 20, 3) := by decide +kernel
theorem dM_out_11 : decode cM_out 11 = .ok (.iload_n 1, 1) := by decide +kernel
theorem dM_out_12 : decode cM_out 12 = .ok (.aload_n 0, 1) := by decide +kernel
theorem dM_out_13 : decode cM_out 13 = .ok (.getfield 880, 3) := by decide +kernel
theorem dM_out_16 : decode cM_out 16 = .ok (.if_icmp .ge 12, 3) := by decide +kernel
theorem dM_out_19 : decode cM_out 19 = .ok (.iload_n 2, 1) := by decide +kernel
theorem dM_out_20 : decode cM_out 20 = .ok (.ifCond .lt 8, 3) := by decide +kernel
theorem dM_out_23 : decode cM_out 23 = .ok (.iload_n 2, 1) := by decide +kernel
theorem dM_out_24 : decode cM_out 24 = .ok (.iconst 5, 1) := by decide +kernel
theorem dM_out_25 : decode cM_out 25 = .ok (.if_icmp .le 5, 3) := by decide +kernel
theorem dM_out_28 : decode cM_out 28 = .ok (.iconst (-1), 1) := by decide +kernel
theorem dM_out_29 : decode cM_out 29 = .ok (.ireturn, 1) := by decide +kernel
theorem dM_out_30 : decode cM_out 30 = .ok (.aload_n 0, 1) := by decide +kernel
theorem dM_out_31 : decode cM_out 31 = .ok (.getfield 305, 3) := by decide +kernel
theorem dM_out_34 : decode cM_out 34 = .ok (.bipush 6, 2) := by decide +kernel
theorem dM_out_36 : decode cM_out 36 = .ok (.aload_n 0, 1) := by decide +kernel
theorem dM_out_37 : decode cM_out 37 = .ok (.getfield 874, 3) := by decide +kernel
theorem dM_out_40 : decode cM_out 40 = .ok (.aload_n 0, 1) := by decide +kernel
theorem dM_out_41 : decode cM_out 41 = .ok (.getfield 880, 3) := by decide +kernel
theorem dM_out_44 : decode cM_out 44 = .ok (.isub, 1) := by decide +kernel
theorem dM_out_45 : decode cM_out 45 = .ok (.iload_n 1, 1) := by decide +kernel
theorem dM_out_46 : decode cM_out 46 = .ok (.iadd, 1) := by decide +kernel
theorem dM_out_47 : decode cM_out 47 = .ok (.sipush 200, 3) := by decide +kernel
theorem dM_out_50 : decode cM_out 50 = .ok (.iadd, 1) := by decide +kernel
theorem dM_out_51 : decode cM_out 51 = .ok (.sipush 200, 3) := by decide +kernel
theorem dM_out_54 : decode cM_out 54 = .ok (.irem, 1) := by decide +kernel
theorem dM_out_55 : decode cM_out 55 = .ok (.imul, 1) := by decide +kernel
theorem dM_out_56 : decode cM_out 56 = .ok (.iload_n 2, 1) := by decide +kernel
theorem dM_out_57 : decode cM_out 57 = .ok (.iadd, 1) := by decide +kernel
theorem dM_out_58 : decode cM_out 58 = .ok (.iaload, 1) := by decide +kernel
theorem dM_out_59 : decode cM_out 59 = .ok (.ireturn, 1) := by decide +kernel
theorem dM_event_0 : decode cM_event 0 = .ok (.aload_n 0, 1) := by decide +kernel
theorem dM_event_1 : decode cM_event 1 = .ok (.getfield 822, 3) := by decide +kernel
theorem dM_event_4 : decode cM_event 4 = .ok (.ifCond .eq 24, 3) := by decide +kernel
theorem dM_event_7 : decode cM_event 7 = .ok (.iload_n 1, 1) := by decide +kernel
theorem dM_event_8 : decode cM_event 8 = .ok (.ifCond .lt 20, 3) := by decide +kernel
theorem dM_event_11 : decode cM_event 11 = .ok (.iload_n 1, 1) := by decide +kernel
theorem dM_event_12 : decode cM_event 12 = .ok (.aload_n 0, 1) := by decide +kernel
theorem dM_event_13 : decode cM_event 13 = .ok (.getfield 849, 3) := by decide +kernel
theorem dM_event_16 : decode cM_event 16 = .ok (.if_icmp .ge 12, 3) := by decide +kernel
theorem dM_event_19 : decode cM_event 19 = .ok (.iload_n 2, 1) := by decide +kernel
theorem dM_event_20 : decode cM_event 20 = .ok (.ifCond .lt 8, 3) := by decide +kernel
theorem dM_event_23 : decode cM_event 23 = .ok (.iload_n 2, 1) := by decide +kernel
theorem dM_event_24 : decode cM_event 24 = .ok (.iconst 3, 1) := by decide +kernel
theorem dM_event_25 : decode cM_event 25 = .ok (.if_icmp .le 5, 3) := by decide +kernel
theorem dM_event_28 : decode cM_event 28 = .ok (.iconst (-1), 1) := by decide +kernel
theorem dM_event_29 : decode cM_event 29 = .ok (.ireturn, 1) := by decide +kernel
theorem dM_event_30 : decode cM_event 30 = .ok (.aload_n 0, 1) := by decide +kernel
theorem dM_event_31 : decode cM_event 31 = .ok (.getfield 302, 3) := by decide +kernel
theorem dM_event_34 : decode cM_event 34 = .ok (.iconst 4, 1) := by decide +kernel
theorem dM_event_35 : decode cM_event 35 = .ok (.aload_n 0, 1) := by decide +kernel
theorem dM_event_36 : decode cM_event 36 = .ok (.getfield 846, 3) := by decide +kernel
theorem dM_event_39 : decode cM_event 39 = .ok (.iload_n 1, 1) := by decide +kernel
theorem dM_event_40 : decode cM_event 40 = .ok (.iadd, 1) := by decide +kernel
theorem dM_event_41 : decode cM_event 41 = .ok (.sipush 500, 3) := by decide +kernel
theorem dM_event_44 : decode cM_event 44 = .ok (.irem, 1) := by decide +kernel
theorem dM_event_45 : decode cM_event 45 = .ok (.imul, 1) := by decide +kernel
theorem dM_event_46 : decode cM_event 46 = .ok (.iload_n 2, 1) := by decide +kernel
theorem dM_event_47 : decode cM_event 47 = .ok (.iadd, 1) := by decide +kernel
theorem dM_event_48 : decode cM_event 48 = .ok (.iaload, 1) := by decide +kernel
theorem dM_event_49 : decode cM_event 49 = .ok (.ireturn, 1) := by decide +kernel
theorem dM_search_0 : decode cM_search 0 = .ok (.aload_n 0, 1) := by decide +kernel
theorem dM_search_1 : decode cM_search 1 = .ok (.getfield 822, 3) := by decide +kernel
theorem dM_search_4 : decode cM_search 4 = .ok (.ifCond .eq 15, 3) := by decide +kernel
theorem dM_search_7 : decode cM_search 7 = .ok (.iload_n 1, 1) := by decide +kernel
theorem dM_search_8 : decode cM_search 8 = .ok (.iconst 1, 1) := by decide +kernel
theorem dM_search_9 : decode cM_search 9 = .ok (.if_icmp .lt 10, 3) := by decide +kernel
theorem dM_search_12 : decode cM_search 12 = .ok (.iload_n 1, 1) := by decide +kernel
theorem dM_search_13 : decode cM_search 13 = .ok (.sipush 200, 3) := by decide +kernel
theorem dM_search_16 : decode cM_search 16 = .ok (.if_icmp .le 5, 3) := by decide +kernel
theorem dM_search_19 : decode cM_search 19 = .ok (.iconst (-1), 1) := by decide +kernel
theorem dM_search_20 : decode cM_search 20 = .ok (.ireturn, 1) := by decide +kernel
theorem dM_search_21 : decode cM_search 21 = .ok (.iconst 0, 1) := by decide +kernel
theorem dM_search_22 : decode cM_search 22 = .ok (.istore_n 2, 1) := by decide +kernel
theorem dM_search_23 : decode cM_search 23 = .ok (.iload_n 2, 1) := by decide +kernel
theorem dM_search_24 : decode cM_search 24 = .ok (.sipush 1104, 3) := by decide +kernel
theorem dM_search_27 : decode cM_search 27 = .ok (.if_icmp .ge 21, 3) := by decide +kernel
theorem dM_search_30 : decode cM_search 30 = .ok (.aload_n 0, 1) := by decide +kernel
theorem dM_search_31 : decode cM_search 31 = .ok (.getfield 321, 3) := by decide +kernel
theorem dM_search_34 : decode cM_search 34 = .ok (.iload_n 2, 1) := by decide +kernel
theorem dM_search_35 : decode cM_search 35 = .ok (.aload_n 0, 1) := by decide +kernel
theorem dM_search_36 : decode cM_search 36 = .ok (.getfield 299, 3) := by decide +kernel
theorem dM_search_39 : decode cM_search 39 = .ok (.iload_n 2, 1) := by decide +kernel
theorem dM_search_40 : decode cM_search 40 = .ok (.iaload, 1) := by decide +kernel
theorem dM_search_41 : decode cM_search 41 = .ok (.iastore, 1) := by decide +kernel
theorem dM_search_42 : decode cM_search 42 = .ok (.iinc 2 1, 3) := by decide +kernel
theorem dM_search_45 : decode cM_search 45 = .ok (.goto (-22), 3) := by decide +kernel
theorem dM_search_48 : decode cM_search 48 = .ok (.aload_n 0, 1) := by decide +kernel
theorem dM_search_49 : decode cM_search 49 = .ok (.iconst 1, 1) := by decide +kernel
theorem dM_search_50 : decode cM_search 50 = .ok (.putfield 843, 3) := by decide +kernel
theorem dM_search_53 : decode cM_search 53 = .ok (.aload_n 0, 1) := by decide +kernel
theorem dM_search_54 : decode cM_search 54 = .ok (.iload_n 1, 1) := by decide +kernel
theorem dM_search_55 : decode cM_search 55 = .ok (.putfield 1060, 3) := by decide +kernel
theorem dM_search_58 : decode cM_search 58 = .ok (.aload_n 0, 1) := by decide +kernel
theorem dM_search_59 : decode cM_search 59 = .ok (.iconst 0, 1) := by decide +kernel
theorem dM_search_60 : decode cM_search 60 = .ok (.putfield 825, 3) := by decide +kernel
theorem dM_search_63 : decode cM_search 63 = .ok (.aload_n 0, 1) := by decide +kernel
theorem dM_search_64 : decode cM_search 64 = .ok (.iconst 0, 1) := by decide +kernel
theorem dM_search_65 : decode cM_search 65 = .ok (.putfield 1017, 3) := by decide +kernel
theorem dM_search_68 : decode cM_search 68 = .ok (.aload_n 0, 1) := by decide +kernel
theorem dM_search_69 : decode cM_search 69 = .ok (.iconst 0, 1) := by decide +kernel
theorem dM_search_70 : decode cM_search 70 = .ok (.putfield 1014, 3) := by decide +kernel
theorem dM_search_73 : decode cM_search 73 = .ok (.aload_n 0, 1) := by decide +kernel
theorem dM_search_74 : decode cM_search 74 = .ok (.invokevirtual 1078, 3) := by decide +kernel
theorem dM_search_77 : decode cM_search 77 = .ok (.aload_n 0, 1) := by decide +kernel
theorem dM_search_78 : decode cM_search 78 = .ok (.iconst (-1), 1) := by decide +kernel
theorem dM_search_79 : decode cM_search 79 = .ok (.iconst (-1), 1) := by decide +kernel
theorem dM_search_80 : decode cM_search 80 = .ok (.aload_n 0, 1) := by decide +kernel
theorem dM_search_81 : decode cM_search 81 = .ok (.invokevirtual 1054, 3) := by decide +kernel
theorem dM_search_84 : decode cM_search 84 = .ok (.invokevirtual 1066, 3) := by decide +kernel
theorem dM_search_87 : decode cM_search 87 = .ok (.iconst 0, 1) := by decide +kernel
theorem dM_search_88 : decode cM_search 88 = .ok (.istore_n 2, 1) := by decide +kernel
theorem dM_search_89 : decode cM_search 89 = .ok (.iload_n 2, 1) := by decide +kernel
theorem dM_search_90 : decode cM_search 90 = .ok (.aload_n 0, 1) := by decide +kernel
theorem dM_search_91 : decode cM_search 91 = .ok (.getfield 825, 3) := by decide +kernel
theorem dM_search_94 : decode cM_search 94 = .ok (.if_icmp .ge 88, 3) := by decide +kernel
theorem dM_search_97 : decode cM_search 97 = .ok (.aload_n 0, 1) := by decide +kernel
theorem dM_search_98 : decode cM_search 98 = .ok (.getfield 1014, 3) := by decide +kernel
theorem dM_search_101 : decode cM_search 101 = .ok (.ifCond .ne 81, 3) := by decide +kernel
theorem dM_search_104 : decode cM_search 104 = .ok (.aload_n 0, 1) := by decide +kernel
theorem dM_search_105 : decode cM_search 105 = .ok (.iconst 0, 1) := by decide +kernel
theorem dM_search_106 : decode cM_search 106 = .ok (.putfield 1063, 3) := by decide +kernel
theorem dM_search_109 : decode cM_search 109 = .ok (.aload_n 0, 1) := by decide +kernel
theorem dM_search_110 : decode cM_search 110 = .ok (.iconst 0, 1) := by decide +kernel
theorem dM_search_111 : decode cM_search 111 = .ok (.putfield 1048, 3) := by decide +kernel
theorem dM_search_114 : decode cM_search 114 = .ok (.aload_n 0, 1) := by decide +kernel
theorem dM_search_115 : decode cM_search 115 = .ok (.iconst 0, 1) := by decide +kernel
theorem dM_search_116 : decode cM_search 116 = .ok (.putfield 1051, 3) := by decide +kernel
theorem dM_search_119 : decode cM_search 119 = .ok (.aload_n 0, 1) := by decide +kernel
theorem dM_search_120 : decode cM_search 120 = .ok (.iload_n 2, 1) := by decide +kernel
theorem dM_search_121 : decode cM_search 121 = .ok (.invokevirtual 1081, 3) := by decide +kernel
theorem dM_search_124 : decode cM_search 124 = .ok (.aload_n 0, 1) := by decide +kernel
theorem dM_search_125 : decode cM_search 125 = .ok (.iload_n 2, 1) := by decide +kernel
theorem dM_search_126 : decode cM_search 126 = .ok (.invokevirtual 1084, 3) := by decide +kernel
theorem dM_search_129 : decode cM_search 129 = .ok (.aload_n 0, 1) := by decide +kernel
theorem dM_search_130 : decode cM_search 130 = .ok (.iload_n 2, 1) := by decide +kernel
theorem dM_search_131 : decode cM_search 131 = .ok (.invokevirtual 1087, 3) := by decide +kernel
theorem dM_search_134 : decode cM_search 134 = .ok (.aload_n 0, 1) := by decide +kernel
theorem dM_search_135 : decode cM_search 135 = .ok (.iload_n 2, 1) := by decide +kernel
theorem dM_search_136 : decode cM_search 136 = .ok (.invokevirtual 1090, 3) := by decide +kernel
theorem dM_search_139 : decode cM_search 139 = .ok (.aload_n 0, 1) := by decide +kernel
theorem dM_search_140 : decode cM_search 140 = .ok (.getfield 1014, 3) := by decide +kernel
theorem dM_search_143 : decode cM_search 143 = .ok (.ifCond .ne 33, 3) := by decide +kernel
theorem dM_search_146 : decode cM_search 146 = .ok (.aload_n 0, 1) := by decide +kernel
theorem dM_search_147 : decode cM_search 147 = .ok (.getfield 333, 3) := by decide +kernel
theorem dM_search_150 : decode cM_search 150 = .ok (.iload_n 2, 1) := by decide +kernel
theorem dM_search_151 : decode cM_search 151 = .ok (.aload_n 0, 1) := by decide +kernel
theorem dM_search_152 : decode cM_search 152 = .ok (.getfield 1063, 3) := by decide +kernel
theorem dM_search_155 : decode cM_search 155 = .ok (.iastore, 1) := by decide +kernel
theorem dM_search_156 : decode cM_search 156 = .ok (.aload_n 0, 1) := by decide +kernel
theorem dM_search_157 : decode cM_search 157 = .ok (.getfield 336, 3) := by decide +kernel
theorem dM_search_160 : decode cM_search 160 = .ok (.iload_n 2, 1) := by decide +kernel
theorem dM_search_161 : decode cM_search 161 = .ok (.aload_n 0, 1) := by decide +kernel
theorem dM_search_162 : decode cM_search 162 = .ok (.getfield 1048, 3) := by decide +kernel
theorem dM_search_165 : decode cM_search 165 = .ok (.iastore, 1) := by decide +kernel
theorem dM_search_166 : decode cM_search 166 = .ok (.aload_n 0, 1) := by decide +kernel
theorem dM_search_167 : decode cM_search 167 = .ok (.getfield 339, 3) := by decide +kernel
theorem dM_search_170 : decode cM_search 170 = .ok (.iload_n 2, 1) := by decide +kernel
theorem dM_search_171 : decode cM_search 171 = .ok (.aload_n 0, 1) := by decide +kernel
theorem dM_search_172 : decode cM_search 172 = .ok (.getfield 1051, 3) := by decide +kernel
theorem dM_search_175 : decode cM_search 175 = .ok (.iastore, 1) := by decide +kernel
theorem dM_search_176 : decode cM_search 176 = .ok (.iinc 2 1, 3) := by decide +kernel
theorem dM_search_179 : decode cM_search 179 = .ok (.goto (-90), 3) := by decide +kernel
theorem dM_search_182 : decode cM_search 182 = .ok (.aload_n 0, 1) := by decide +kernel
theorem dM_search_183 : decode cM_search 183 = .ok (.iconst 0, 1) := by decide +kernel
theorem dM_search_184 : decode cM_search 184 = .ok (.putfield 843, 3) := by decide +kernel
theorem dM_search_187 : decode cM_search 187 = .ok (.iconst 0, 1) := by decide +kernel
theorem dM_search_188 : decode cM_search 188 = .ok (.istore_n 2, 1) := by decide +kernel
theorem dM_search_189 : decode cM_search 189 = .ok (.iload_n 2, 1) := by decide +kernel
theorem dM_search_190 : decode cM_search 190 = .ok (.sipush 1104, 3) := by decide +kernel
theorem dM_search_193 : decode cM_search 193 = .ok (.if_icmp .ge 21, 3) := by decide +kernel
theorem dM_search_196 : decode cM_search 196 = .ok (.aload_n 0, 1) := by decide +kernel
theorem dM_search_197 : decode cM_search 197 = .ok (.getfield 299, 3) := by decide +kernel
theorem dM_search_200 : decode cM_search 200 = .ok (.iload_n 2, 1) := by decide +kernel
theorem dM_search_201 : decode cM_search 201 = .ok (.aload_n 0, 1) := by decide +kernel
theorem dM_search_202 : decode cM_search 202 = .ok (.getfield 321, 3) := by decide +kernel
theorem dM_search_205 : decode cM_search 205 = .ok (.iload_n 2, 1) := by decide +kernel
theorem dM_search_206 : decode cM_search 206 = .ok (.iaload, 1) := by decide +kernel
theorem dM_search_207 : decode cM_search 207 = .ok (.iastore, 1) := by decide +kernel
theorem dM_search_208 : decode cM_search 208 = .ok (.iinc 2 1, 3) := by decide +kernel
theorem dM_search_211 : decode cM_search 211 = .ok (.goto (-22), 3) := by decide +kernel
theorem dM_search_214 : decode cM_search 214 = .ok (.aload_n 0, 1) := by decide +kernel
theorem dM_search_215 : decode cM_search 215 = .ok (.getfield 825, 3) := by decide +kernel
theorem dM_search_218 : decode cM_search 218 = .ok (.ireturn, 1) := by decide +kernel
theorem dM_first_0 : decode cM_first 0 = .ok (.aload_n 0, 1) := by decide +kernel
theorem dM_first_1 : decode cM_first 1 = .ok (.getfield 822, 3) := by decide +kernel
theorem dM_first_4 : decode cM_first 4 = .ok (.ifCond .eq 12, 3) := by decide +kernel
theorem dM_first_7 : decode cM_first 7 = .ok (.iload_n 1, 1) := by decide +kernel
theorem dM_first_8 : decode cM_first 8 = .ok (.ifCond .lt 8, 3) := by decide +kernel
theorem dM_first_11 : decode cM_first 11 = .ok (.iload_n 1, 1) := by decide +kernel
theorem dM_first_12 : decode cM_first 12 = .ok (.iconst 4, 1) := by decide +kernel
theorem dM_first_13 : decode cM_first 13 = .ok (.if_icmp .le 5, 3) := by decide +kernel
theorem dM_first_16 : decode cM_first 16 = .ok (.iconst (-1), 1) := by decide +kernel
theorem dM_first_17 : decode cM_first 17 = .ok (.ireturn, 1) := by decide +kernel
theorem dM_first_18 : decode cM_first 18 = .ok (.iload_n 1, 1) := by decide +kernel
theorem dM_first_19 : decode cM_first 19 = .ok (.iconst 4, 1) := by decide +kernel
theorem dM_first_20 : decode cM_first 20 = .ok (.if_icmp .ne 32, 3) := by decide +kernel
theorem dM_first_23 : decode cM_first 23 = .ok (.iload_n 2, 1) := by decide +kernel
theorem dM_first_24 : decode cM_first 24 = .ok (.ifCond .lt 26, 3) := by decide +kernel
theorem dM_first_27 : decode cM_first 27 = .ok (.iload_n 2, 1) := by decide +kernel
theorem dM_first_28 : decode cM_first 28 = .ok (.aload_n 0, 1) := by decide +kernel
theorem dM_first_29 : decode cM_first 29 = .ok (.getfield 495, 3) := by decide +kernel
theorem dM_first_32 : decode cM_first 32 = .ok (.if_icmp .ge 18, 3) := by decide +kernel
theorem dM_first_35 : decode cM_first 35 = .ok (.iload_n 3, 1) := by decide +kernel
theorem dM_first_36 : decode cM_first 36 = .ok (.iconst (-1), 1) := by decide +kernel
theorem dM_first_37 : decode cM_first 37 = .ok (.if_icmp .lt 13, 3) := by decide +kernel
theorem dM_first_40 : decode cM_first 40 = .ok (.iload_n 3, 1) := by decide +kernel
theorem dM_first_41 : decode cM_first 41 = .ok (.aload_n 0, 1) := by decide +kernel
theorem dM_first_42 : decode cM_first 42 = .ok (.getfield 100, 3) := by decide +kernel
theorem dM_first_45 : decode cM_first 45 = .ok (.iload_n 2, 1) := by decide +kernel
theorem dM_first_46 : decode cM_first 46 = .ok (.iaload, 1) := by decide +kernel
theorem dM_first_47 : decode cM_first 47 = .ok (.if_icmp .lt 5, 3) := by decide +kernel
theorem dM_first_50 : decode cM_first 50 = .ok (.iconst (-1), 1) := by decide +kernel
theorem dM_first_51 : decode cM_first 51 = .ok (.ireturn, 1) := by decide +kernel
theorem dM_first_52 : decode cM_first 52 = .ok (.iconst 0, 1) := by decide +kernel
theorem dM_first_53 : decode cM_first 53 = .ok (.istore 4, 2) := by decide +kernel
theorem dM_first_55 : decode cM_first 55 = .ok (.iload 4, 2) := by decide +kernel
theorem dM_first_57 : decode cM_first 57 = .ok (.aload_n 0, 1) := by decide +kernel
theorem dM_first_58 : decode cM_first 58 = .ok (.getfield 825, 3) := by decide +kernel
theorem dM_first_61 : decode cM_first 61 = .ok (.if_icmp .ge 127, 3) := by decide +kernel
theorem dM_first_64 : decode cM_first 64 = .ok (.iload_n 1, 1) := by decide +kernel
theorem dM_first_65 : decode cM_first 65 = .ok (.ifCond .ne 21, 3) := by decide +kernel
theorem dM_first_68 : decode cM_first 68 = .ok (.aload_n 0, 1) := by decide +kernel
theorem dM_first_69 : decode cM_first 69 = .ok (.getfield 333, 3) := by decide +kernel
theorem dM_first_72 : decode cM_first 72 = .ok (.iload 4, 2) := by decide +kernel
theorem dM_first_74 : decode cM_first 74 = .ok (.iaload, 1) := by decide +kernel
theorem dM_first_75 : decode cM_first 75 = .ok (.ifCond .ne 7, 3) := by decide +kernel
theorem dM_first_78 : decode cM_first 78 = .ok (.iconst 1, 1) := by decide +kernel
theorem dM_first_79 : decode cM_first 79 = .ok (.goto 93, 3) := by decide +kernel
theorem dM_first_82 : decode cM_first 82 = .ok (.iconst 0, 1) := by decide +kernel
theorem dM_first_83 : decode cM_first 83 = .ok (.goto 89, 3) := by decide +kernel
theorem dM_first_86 : decode cM_first 86 = .ok (.iload_n 1, 1) := by decide +kernel
theorem dM_first_87 : decode cM_first 87 = .ok (.iconst 1, 1) := by decide +kernel
theorem dM_first_88 : decode cM_first 88 = .ok (.if_icmp .ne 30, 3) := by decide +kernel
theorem dM_first_91 : decode cM_first 91 = .ok (.aload_n 0, 1) := by decide +kernel
theorem dM_first_92 : decode cM_first 92 = .ok (.getfield 333, 3) := by decide +kernel
theorem dM_first_95 : decode cM_first 95 = .ok (.iload 4, 2) := by decide +kernel
theorem dM_first_97 : decode cM_first 97 = .ok (.iaload, 1) := by decide +kernel
theorem dM_first_98 : decode cM_first 98 = .ok (.ifCond .ne 16, 3) := by decide +kernel
theorem dM_first_101 : decode cM_first 101 = .ok (.aload_n 0, 1) := by decide +kernel
theorem dM_first_102 : decode cM_first 102 = .ok (.iload 4, 2) := by decide +kernel
theorem dM_first_104 : decode cM_first 104 = .ok (.invokevirtual 1093, 3) := by decide +kernel
theorem dM_first_107 : decode cM_first 107 = .ok (.ifCond .eq 7, 3) := by decide +kernel
theorem dM_first_110 : decode cM_first 110 = .ok (.iconst 1, 1) := by decide +kernel
theorem dM_first_111 : decode cM_first 111 = .ok (.goto 61, 3) := by decide +kernel
theorem dM_first_114 : decode cM_first 114 = .ok (.iconst 0, 1) := by decide +kernel
theorem dM_first_115 : decode cM_first 115 = .ok (.goto 57, 3) := by decide +kernel
theorem dM_first_118 : decode cM_first 118 = .ok (.iload_n 1, 1) := by decide +kernel
theorem dM_first_119 : decode cM_first 119 = .ok (.iconst 2, 1) := by decide +kernel
theorem dM_first_120 : decode cM_first 120 = .ok (.if_icmp .ne 21, 3) := by decide +kernel
theorem dM_first_123 : decode cM_first 123 = .ok (.aload_n 0, 1) := by decide +kernel
theorem dM_first_124 : decode cM_first 124 = .ok (.getfield 336, 3) := by decide +kernel
theorem dM_first_127 : decode cM_first 127 = .ok (.iload 4, 2) := by decide +kernel
theorem dM_first_129 : decode cM_first 129 = .ok (.iaload, 1) := by decide +kernel
theorem dM_first_130 : decode cM_first 130 = .ok (.ifCond .le 7, 3) := by decide +kernel
theorem dM_first_133 : decode cM_first 133 = .ok (.iconst 1, 1) := by decide +kernel
theorem dM_first_134 : decode cM_first 134 = .ok (.goto 38, 3) := by decide +kernel
theorem dM_first_137 : decode cM_first 137 = .ok (.iconst 0, 1) := by decide +kernel
theorem dM_first_138 : decode cM_first 138 = .ok (.goto 34, 3) := by decide +kernel
theorem dM_first_141 : decode cM_first 141 = .ok (.iload_n 1, 1) := by decide +kernel
theorem dM_first_142 : decode cM_first 142 = .ok (.iconst 3, 1) := by decide +kernel
theorem dM_first_143 : decode cM_first 143 = .ok (.if_icmp .ne 21, 3) := by decide +kernel
theorem dM_first_146 : decode cM_first 146 = .ok (.aload_n 0, 1) := by decide +kernel
theorem dM_first_147 : decode cM_first 147 = .ok (.getfield 339, 3) := by decide +kernel
theorem dM_first_150 : decode cM_first 150 = .ok (.iload 4, 2) := by decide +kernel
theorem dM_first_152 : decode cM_first 152 = .ok (.iaload, 1) := by decide +kernel
theorem dM_first_153 : decode cM_first 153 = .ok (.ifCond .le 7, 3) := by decide +kernel
theorem dM_first_156 : decode cM_first 156 = .ok (.iconst 1, 1) := by decide +kernel
theorem dM_first_157 : decode cM_first 157 = .ok (.goto 15, 3) := by decide +kernel
theorem dM_first_160 : decode cM_first 160 = .ok (.iconst 0, 1) := by decide +kernel
theorem dM_first_161 : decode cM_first 161 = .ok (.goto 11, 3) := by decide +kernel
theorem dM_first_164 : decode cM_first 164 = .ok (.aload_n 0, 1) := by decide +kernel
theorem dM_first_165 : decode cM_first 165 = .ok (.iload 4, 2) := by decide +kernel
theorem dM_first_167 : decode cM_first 167 = .ok (.iload_n 2, 1) := by decide +kernel
theorem dM_first_168 : decode cM_first 168 = .ok (.iload_n 3, 1) := by decide +kernel
theorem dM_first_169 : decode cM_first 169 = .ok (.invokevirtual 1096, 3) := by decide +kernel
theorem dM_first_172 : decode cM_first 172 = .ok (.istore 5, 2) := by decide +kernel
theorem dM_first_174 : decode cM_first 174 = .ok (.iload 5, 2) := by decide +kernel
theorem dM_first_176 : decode cM_first 176 = .ok (.ifCond .eq 6, 3) := by decide +kernel
theorem dM_first_179 : decode cM_first 179 = .ok (.iload 4, 2) := by decide +kernel
theorem dM_first_181 : decode cM_first 181 = .ok (.ireturn, 1) := by decide +kernel
theorem dM_first_182 : decode cM_first 182 = .ok (.iinc 4 1, 3) := by decide +kernel
theorem dM_first_185 : decode cM_first 185 = .ok (.goto (-130), 3) := by decide +kernel
theorem dM_first_188 : decode cM_first 188 = .ok (.iconst (-1), 1) := by decide +kernel
theorem dM_first_189 : decode cM_first 189 = .ok (.ireturn, 1) := by decide +kernel
theorem dM_visit_0 : decode cM_visit 0 = .ok (.aload_n 0, 1) := by decide +kernel
theorem dM_visit_1 : decode cM_visit 1 = .ok (.getfield 822, 3) := by decide +kernel
theorem dM_visit_4 : decode cM_visit 4 = .ok (.ifCond .ne 5, 3) := by decide +kernel
theorem dM_visit_7 : decode cM_visit 7 = .ok (.iconst (-1), 1) := by decide +kernel
theorem dM_visit_8 : decode cM_visit 8 = .ok (.ireturn, 1) := by decide +kernel
theorem dM_visit_9 : decode cM_visit 9 = .ok (.iload_n 1, 1) := by decide +kernel
theorem dM_visit_10 : decode cM_visit 10 = .ok (.ifCond .lt 11, 3) := by decide +kernel
theorem dM_visit_13 : decode cM_visit 13 = .ok (.iload_n 1, 1) := by decide +kernel
theorem dM_visit_14 : decode cM_visit 14 = .ok (.aload_n 0, 1) := by decide +kernel
theorem dM_visit_15 : decode cM_visit 15 = .ok (.getfield 825, 3) := by decide +kernel
theorem dM_visit_18 : decode cM_visit 18 = .ok (.if_icmp .lt 5, 3) := by decide +kernel
theorem dM_visit_21 : decode cM_visit 21 = .ok (.iconst 0, 1) := by decide +kernel
theorem dM_visit_22 : decode cM_visit 22 = .ok (.ireturn, 1) := by decide +kernel
theorem dM_visit_23 : decode cM_visit 23 = .ok (.aload_n 0, 1) := by decide +kernel
theorem dM_visit_24 : decode cM_visit 24 = .ok (.iload_n 1, 1) := by decide +kernel
theorem dM_visit_25 : decode cM_visit 25 = .ok (.invokevirtual 1069, 3) := by decide +kernel
theorem dM_visit_28 : decode cM_visit 28 = .ok (.iconst 0, 1) := by decide +kernel
theorem dM_visit_29 : decode cM_visit 29 = .ok (.istore_n 2, 1) := by decide +kernel
theorem dM_visit_30 : decode cM_visit 30 = .ok (.iload_n 2, 1) := by decide +kernel
theorem dM_visit_31 : decode cM_visit 31 = .ok (.aload_n 0, 1) := by decide +kernel
theorem dM_visit_32 : decode cM_visit 32 = .ok (.getfield 492, 3) := by decide +kernel
theorem dM_visit_35 : decode cM_visit 35 = .ok (.if_icmp .ge 52, 3) := by decide +kernel
theorem dM_visit_38 : decode cM_visit 38 = .ok (.iconst 0, 1) := by decide +kernel
theorem dM_visit_39 : decode cM_visit 39 = .ok (.istore_n 3, 1) := by decide +kernel
theorem dM_visit_40 : decode cM_visit 40 = .ok (.iload_n 3, 1) := by decide +kernel
theorem dM_visit_41 : decode cM_visit 41 = .ok (.aload_n 0, 1) := by decide +kernel
theorem dM_visit_42 : decode cM_visit 42 = .ok (.getfield 299, 3) := by decide +kernel
theorem dM_visit_45 : decode cM_visit 45 = .ok (.iload_n 2, 1) := by decide +kernel
theorem dM_visit_46 : decode cM_visit 46 = .ok (.invokestatic 886, 3) := by decide +kernel
theorem dM_visit_49 : decode cM_visit 49 = .ok (.iaload, 1) := by decide +kernel
theorem dM_visit_50 : decode cM_visit 50 = .ok (.if_icmp .ge 31, 3) := by decide +kernel
theorem dM_visit_53 : decode cM_visit 53 = .ok (.aload_n 0, 1) := by decide +kernel
theorem dM_visit_54 : decode cM_visit 54 = .ok (.getfield 299, 3) := by decide +kernel
theorem dM_visit_57 : decode cM_visit 57 = .ok (.iload_n 2, 1) := by decide +kernel
theorem dM_visit_58 : decode cM_visit 58 = .ok (.invokestatic 886, 3) := by decide +kernel
theorem dM_visit_61 : decode cM_visit 61 = .ok (.iconst 1, 1) := by decide +kernel
theorem dM_visit_62 : decode cM_visit 62 = .ok (.iadd, 1) := by decide +kernel
theorem dM_visit_63 : decode cM_visit 63 = .ok (.bipush 7, 2) := by decide +kernel
theorem dM_visit_65 : decode cM_visit 65 = .ok (.iload_n 3, 1) := by decide +kernel
theorem dM_visit_66 : decode cM_visit 66 = .ok (.imul, 1) := by decide +kernel
theorem dM_visit_67 : decode cM_visit 67 = .ok (.iadd, 1) := by decide +kernel
theorem dM_visit_68 : decode cM_visit 68 = .ok (.iconst 3, 1) := by decide +kernel
theorem dM_visit_69 : decode cM_visit 69 = .ok (.iadd, 1) := by decide +kernel
theorem dM_visit_70 : decode cM_visit 70 = .ok (.aload_n 0, 1) := by decide +kernel
theorem dM_visit_71 : decode cM_visit 71 = .ok (.getfield 877, 3) := by decide +kernel
theorem dM_visit_74 : decode cM_visit 74 = .ok (.iastore, 1) := by decide +kernel
theorem dM_visit_75 : decode cM_visit 75 = .ok (.iinc 3 1, 3) := by decide +kernel
theorem dM_visit_78 : decode cM_visit 78 = .ok (.goto (-38), 3) := by decide +kernel
theorem dM_visit_81 : decode cM_visit 81 = .ok (.iinc 2 1, 3) := by decide +kernel
theorem dM_visit_84 : decode cM_visit 84 = .ok (.goto (-54), 3) := by decide +kernel
theorem dM_visit_87 : decode cM_visit 87 = .ok (.iconst 0, 1) := by decide +kernel
theorem dM_visit_88 : decode cM_visit 88 = .ok (.istore_n 2, 1) := by decide +kernel
theorem dM_visit_89 : decode cM_visit 89 = .ok (.iload_n 2, 1) := by decide +kernel
theorem dM_visit_90 : decode cM_visit 90 = .ok (.aload_n 0, 1) := by decide +kernel
theorem dM_visit_91 : decode cM_visit 91 = .ok (.getfield 299, 3) := by decide +kernel
theorem dM_visit_94 : decode cM_visit 94 = .ok (.iconst 0, 1) := by decide +kernel
theorem dM_visit_95 : decode cM_visit 95 = .ok (.iaload, 1) := by decide +kernel
theorem dM_visit_96 : decode cM_visit 96 = .ok (.if_icmp .ge 57, 3) := by decide +kernel
theorem dM_visit_99 : decode cM_visit 99 = .ok (.iconst 0, 1) := by decide +kernel
theorem dM_visit_100 : decode cM_visit 100 = .ok (.istore_n 3, 1) := by decide +kernel
theorem dM_visit_101 : decode cM_visit 101 = .ok (.iload_n 3, 1) := by decide +kernel
theorem dM_visit_102 : decode cM_visit 102 = .ok (.iconst 3, 1) := by decide +kernel
theorem dM_visit_103 : decode cM_visit 103 = .ok (.if_icmp .ge 44, 3) := by decide +kernel
theorem dM_visit_106 : decode cM_visit 106 = .ok (.aload_n 0, 1) := by decide +kernel
theorem dM_visit_107 : decode cM_visit 107 = .ok (.getfield 299, 3) := by decide +kernel
theorem dM_visit_110 : decode cM_visit 110 = .ok (.iload_n 2, 1) := by decide +kernel
theorem dM_visit_111 : decode cM_visit 111 = .ok (.invokestatic 840, 3) := by decide +kernel
theorem dM_visit_114 : decode cM_visit 114 = .ok (.bipush 22, 2) := by decide +kernel
theorem dM_visit_116 : decode cM_visit 116 = .ok (.iadd, 1) := by decide +kernel
theorem dM_visit_117 : decode cM_visit 117 = .ok (.iload_n 3, 1) := by decide +kernel
theorem dM_visit_118 : decode cM_visit 118 = .ok (.iadd, 1) := by decide +kernel
theorem dM_visit_119 : decode cM_visit 119 = .ok (.iaload, 1) := by decide +kernel
theorem dM_visit_120 : decode cM_visit 120 = .ok (.ifCond .lt 21, 3) := by decide +kernel
theorem dM_visit_123 : decode cM_visit 123 = .ok (.aload_n 0, 1) := by decide +kernel
theorem dM_visit_124 : decode cM_visit 124 = .ok (.getfield 299, 3) := by decide +kernel
theorem dM_visit_127 : decode cM_visit 127 = .ok (.iload_n 2, 1) := by decide +kernel
theorem dM_visit_128 : decode cM_visit 128 = .ok (.invokestatic 840, 3) := by decide +kernel
theorem dM_visit_131 : decode cM_visit 131 = .ok (.bipush 22, 2) := by decide +kernel
theorem dM_visit_133 : decode cM_visit 133 = .ok (.iadd, 1) := by decide +kernel
theorem dM_visit_134 : decode cM_visit 134 = .ok (.iload_n 3, 1) := by decide +kernel
theorem dM_visit_135 : decode cM_visit 135 = .ok (.iadd, 1) := by decide +kernel
theorem dM_visit_136 : decode cM_visit 136 = .ok (.aload_n 0, 1) := by decide +kernel
theorem dM_visit_137 : decode cM_visit 137 = .ok (.getfield 877, 3) := by decide +kernel
theorem dM_visit_140 : decode cM_visit 140 = .ok (.iastore, 1) := by decide +kernel
theorem dM_visit_141 : decode cM_visit 141 = .ok (.iinc 3 1, 3) := by decide +kernel
theorem dM_visit_144 : decode cM_visit 144 = .ok (.goto (-43), 3) := by decide +kernel
theorem dM_visit_147 : decode cM_visit 147 = .ok (.iinc 2 1, 3) := by decide +kernel
theorem dM_visit_150 : decode cM_visit 150 = .ok (.goto (-61), 3) := by decide +kernel
theorem dM_visit_153 : decode cM_visit 153 = .ok (.aload_n 0, 1) := by decide +kernel
theorem dM_visit_154 : decode cM_visit 154 = .ok (.iconst 0, 1) := by decide +kernel
theorem dM_visit_155 : decode cM_visit 155 = .ok (.putfield 1008, 3) := by decide +kernel
theorem dM_visit_158 : decode cM_visit 158 = .ok (.iconst 1, 1) := by decide +kernel
theorem dM_visit_159 : decode cM_visit 159 = .ok (.ireturn, 1) := by decide +kernel

theorem dM_feed_0 : decode cM_feed 0 = .ok (.aload_n 0, 1) := by decide +kernel
theorem dM_feed_1 : decode cM_feed 1 = .ok (.getfield 402, 3) := by decide +kernel
theorem dM_feed_4 : decode cM_feed 4 = .ok (.sipush 4980, 3) := by decide +kernel
theorem dM_feed_7 : decode cM_feed 7 = .ok (.if_icmp .le 5, 3) := by decide +kernel
theorem dM_feed_10 : decode cM_feed 10 = .ok (.iconst 0, 1) := by decide +kernel
theorem dM_feed_11 : decode cM_feed 11 = .ok (.ireturn, 1) := by decide +kernel
theorem dM_feed_12 : decode cM_feed 12 = .ok (.aload_n 0, 1) := by decide +kernel
theorem dM_feed_13 : decode cM_feed 13 = .ok (.iload_n 1, 1) := by decide +kernel
theorem dM_feed_14 : decode cM_feed 14 = .ok (.invokevirtual 405, 3) := by decide +kernel
theorem dM_feed_17 : decode cM_feed 17 = .ok (.aload_n 0, 1) := by decide +kernel
theorem dM_feed_18 : decode cM_feed 18 = .ok (.iload_n 2, 1) := by decide +kernel
theorem dM_feed_19 : decode cM_feed 19 = .ok (.invokevirtual 405, 3) := by decide +kernel
theorem dM_feed_22 : decode cM_feed 22 = .ok (.aload_n 0, 1) := by decide +kernel
theorem dM_feed_23 : decode cM_feed 23 = .ok (.iload_n 3, 1) := by decide +kernel
theorem dM_feed_24 : decode cM_feed 24 = .ok (.invokevirtual 405, 3) := by decide +kernel
theorem dM_feed_27 : decode cM_feed 27 = .ok (.aload_n 0, 1) := by decide +kernel
theorem dM_feed_28 : decode cM_feed 28 = .ok (.iload 4, 2) := by decide +kernel
theorem dM_feed_30 : decode cM_feed 30 = .ok (.invokevirtual 405, 3) := by decide +kernel
theorem dM_feed_33 : decode cM_feed 33 = .ok (.aload_n 0, 1) := by decide +kernel
theorem dM_feed_34 : decode cM_feed 34 = .ok (.iload 5, 2) := by decide +kernel
theorem dM_feed_36 : decode cM_feed 36 = .ok (.invokevirtual 405, 3) := by decide +kernel
theorem dM_feed_39 : decode cM_feed 39 = .ok (.iconst 1, 1) := by decide +kernel
theorem dM_feed_40 : decode cM_feed 40 = .ok (.ireturn, 1) := by decide +kernel
theorem dM_four_0 : decode cM_four 0 = .ok (.bipush 24, 2) := by decide +kernel
theorem dM_four_2 : decode cM_four 2 = .ok (.istore_n 2, 1) := by decide +kernel
theorem dM_four_3 : decode cM_four 3 = .ok (.iload_n 2, 1) := by decide +kernel
theorem dM_four_4 : decode cM_four 4 = .ok (.ifCond .lt 32, 3) := by decide +kernel
theorem dM_four_7 : decode cM_four 7 = .ok (.aload_n 0, 1) := by decide +kernel
theorem dM_four_8 : decode cM_four 8 = .ok (.getfield 9, 3) := by decide +kernel
theorem dM_four_11 : decode cM_four 11 = .ok (.aload_n 0, 1) := by decide +kernel
theorem dM_four_12 : decode cM_four 12 = .ok (.getfield 402, 3) := by decide +kernel
theorem dM_four_15 : decode cM_four 15 = .ok (.iload_n 1, 1) := by decide +kernel
theorem dM_four_16 : decode cM_four 16 = .ok (.iload_n 2, 1) := by decide +kernel
theorem dM_four_17 : decode cM_four 17 = .ok (.ishr, 1) := by decide +kernel
theorem dM_four_18 : decode cM_four 18 = .ok (.i2b, 1) := by decide +kernel
theorem dM_four_19 : decode cM_four 19 = .ok (.bastore, 1) := by decide +kernel
theorem dM_four_20 : decode cM_four 20 = .ok (.aload_n 0, 1) := by decide +kernel
theorem dM_four_21 : decode cM_four 21 = .ok (.dup, 1) := by decide +kernel
theorem dM_four_22 : decode cM_four 22 = .ok (.getfield 402, 3) := by decide +kernel
theorem dM_four_25 : decode cM_four 25 = .ok (.iconst 1, 1) := by decide +kernel
theorem dM_four_26 : decode cM_four 26 = .ok (.iadd, 1) := by decide +kernel
theorem dM_four_27 : decode cM_four 27 = .ok (.putfield 402, 3) := by decide +kernel
theorem dM_four_30 : decode cM_four 30 = .ok (.iinc 2 (-8), 3) := by decide +kernel
theorem dM_four_33 : decode cM_four 33 = .ok (.goto (-30), 3) := by decide +kernel
theorem dM_four_36 : decode cM_four 36 = .ok (.return_, 1) := by decide +kernel
theorem dM_toText_0 : decode cM_toText 0 = .ok (.iconst 0, 1) := by decide +kernel
theorem dM_toText_1 : decode cM_toText 1 = .ok (.istore_n 2, 1) := by decide +kernel
theorem dM_toText_2 : decode cM_toText 2 = .ok (.iload_n 2, 1) := by decide +kernel
theorem dM_toText_3 : decode cM_toText 3 = .ok (.iload_n 1, 1) := by decide +kernel
theorem dM_toText_4 : decode cM_toText 4 = .ok (.if_icmp .ge 21, 3) := by decide +kernel
theorem dM_toText_7 : decode cM_toText 7 = .ok (.aload_n 0, 1) := by decide +kernel
theorem dM_toText_8 : decode cM_toText 8 = .ok (.getfield 13, 3) := by decide +kernel
theorem dM_toText_11 : decode cM_toText 11 = .ok (.iload_n 2, 1) := by decide +kernel
theorem dM_toText_12 : decode cM_toText 12 = .ok (.aload_n 0, 1) := by decide +kernel
theorem dM_toText_13 : decode cM_toText 13 = .ok (.getfield 9, 3) := by decide +kernel
theorem dM_toText_16 : decode cM_toText 16 = .ok (.iload_n 2, 1) := by decide +kernel
theorem dM_toText_17 : decode cM_toText 17 = .ok (.baload, 1) := by decide +kernel
theorem dM_toText_18 : decode cM_toText 18 = .ok (.bastore, 1) := by decide +kernel
theorem dM_toText_19 : decode cM_toText 19 = .ok (.iinc 2 1, 3) := by decide +kernel
theorem dM_toText_22 : decode cM_toText 22 = .ok (.goto (-20), 3) := by decide +kernel
theorem dM_toText_25 : decode cM_toText 25 = .ok (.aload_n 0, 1) := by decide +kernel
theorem dM_toText_26 : decode cM_toText 26 = .ok (.iload_n 1, 1) := by decide +kernel
theorem dM_toText_27 : decode cM_toText 27 = .ok (.putfield 409, 3) := by decide +kernel
theorem dM_toText_30 : decode cM_toText 30 = .ok (.aload_n 0, 1) := by decide +kernel
theorem dM_toText_31 : decode cM_toText 31 = .ok (.iconst 0, 1) := by decide +kernel
theorem dM_toText_32 : decode cM_toText 32 = .ok (.putfield 402, 3) := by decide +kernel
theorem dM_toText_35 : decode cM_toText 35 = .ok (.return_, 1) := by decide +kernel
theorem dM_token_0 : decode cM_token 0 = .ok (.aload_n 0, 1) := by decide +kernel
theorem dM_token_1 : decode cM_token 1 = .ok (.getfield 23, 3) := by decide +kernel
theorem dM_token_4 : decode cM_token 4 = .ok (.aload_n 0, 1) := by decide +kernel
theorem dM_token_5 : decode cM_token 5 = .ok (.getfield 418, 3) := by decide +kernel
theorem dM_token_8 : decode cM_token 8 = .ok (.iload_n 1, 1) := by decide +kernel
theorem dM_token_9 : decode cM_token 9 = .ok (.iastore, 1) := by decide +kernel
theorem dM_token_10 : decode cM_token 10 = .ok (.aload_n 0, 1) := by decide +kernel
theorem dM_token_11 : decode cM_token 11 = .ok (.getfield 27, 3) := by decide +kernel
theorem dM_token_14 : decode cM_token 14 = .ok (.aload_n 0, 1) := by decide +kernel
theorem dM_token_15 : decode cM_token 15 = .ok (.getfield 418, 3) := by decide +kernel
theorem dM_token_18 : decode cM_token 18 = .ok (.iload_n 2, 1) := by decide +kernel
theorem dM_token_19 : decode cM_token 19 = .ok (.iastore, 1) := by decide +kernel
theorem dM_token_20 : decode cM_token 20 = .ok (.aload_n 0, 1) := by decide +kernel
theorem dM_token_21 : decode cM_token 21 = .ok (.getfield 30, 3) := by decide +kernel
theorem dM_token_24 : decode cM_token 24 = .ok (.aload_n 0, 1) := by decide +kernel
theorem dM_token_25 : decode cM_token 25 = .ok (.getfield 418, 3) := by decide +kernel
theorem dM_token_28 : decode cM_token 28 = .ok (.lload_n 3, 1) := by decide +kernel
theorem dM_token_29 : decode cM_token 29 = .ok (.lastore, 1) := by decide +kernel
theorem dM_token_30 : decode cM_token 30 = .ok (.aload_n 0, 1) := by decide +kernel
theorem dM_token_31 : decode cM_token 31 = .ok (.dup, 1) := by decide +kernel
theorem dM_token_32 : decode cM_token 32 = .ok (.getfield 418, 3) := by decide +kernel
theorem dM_token_35 : decode cM_token 35 = .ok (.iconst 1, 1) := by decide +kernel
theorem dM_token_36 : decode cM_token 36 = .ok (.iadd, 1) := by decide +kernel
theorem dM_token_37 : decode cM_token 37 = .ok (.putfield 418, 3) := by decide +kernel
theorem dM_token_40 : decode cM_token 40 = .ok (.return_, 1) := by decide +kernel
theorem dM_cut_0 : decode cM_cut 0 = .ok (.aload_n 0, 1) := by decide +kernel
theorem dM_cut_1 : decode cM_cut 1 = .ok (.iconst 0, 1) := by decide +kernel
theorem dM_cut_2 : decode cM_cut 2 = .ok (.putfield 418, 3) := by decide +kernel
theorem dM_cut_5 : decode cM_cut 5 = .ok (.iconst 0, 1) := by decide +kernel
theorem dM_cut_6 : decode cM_cut 6 = .ok (.istore_n 1, 1) := by decide +kernel
theorem dM_cut_7 : decode cM_cut 7 = .ok (.iconst 0, 1) := by decide +kernel
theorem dM_cut_8 : decode cM_cut 8 = .ok (.istore_n 2, 1) := by decide +kernel
theorem dM_cut_9 : decode cM_cut 9 = .ok (.iload_n 2, 1) := by decide +kernel
theorem dM_cut_10 : decode cM_cut 10 = .ok (.ifCond .ne 60, 3) := by decide +kernel
theorem dM_cut_13 : decode cM_cut 13 = .ok (.aload_n 0, 1) := by decide +kernel
theorem dM_cut_14 : decode cM_cut 14 = .ok (.getfield 418, 3) := by decide +kernel
theorem dM_cut_17 : decode cM_cut 17 = .ok (.sipush 1200, 3) := by decide +kernel
theorem dM_cut_20 : decode cM_cut 20 = .ok (.if_icmp .gt 50, 3) := by decide +kernel
theorem dM_cut_23 : decode cM_cut 23 = .ok (.aload_n 0, 1) := by decide +kernel
theorem dM_cut_24 : decode cM_cut 24 = .ok (.iload_n 1, 1) := by decide +kernel
theorem dM_cut_25 : decode cM_cut 25 = .ok (.invokevirtual 421, 3) := by decide +kernel
theorem dM_cut_28 : decode cM_cut 28 = .ok (.istore_n 1, 1) := by decide +kernel
theorem dM_cut_29 : decode cM_cut 29 = .ok (.iload_n 1, 1) := by decide +kernel
theorem dM_cut_30 : decode cM_cut 30 = .ok (.aload_n 0, 1) := by decide +kernel
theorem dM_cut_31 : decode cM_cut 31 = .ok (.getfield 409, 3) := by decide +kernel
theorem dM_cut_34 : decode cM_cut 34 = .ok (.if_icmp .lt 6, 3) := by decide +kernel
theorem dM_cut_37 : decode cM_cut 37 = .ok (.goto 33, 3) := by decide +kernel
theorem dM_cut_40 : decode cM_cut 40 = .ok (.aload_n 0, 1) := by decide +kernel
theorem dM_cut_41 : decode cM_cut 41 = .ok (.iload_n 1, 1) := by decide +kernel
theorem dM_cut_42 : decode cM_cut 42 = .ok (.invokevirtual 424, 3) := by decide +kernel
theorem dM_cut_45 : decode cM_cut 45 = .ok (.istore_n 1, 1) := by decide +kernel
theorem dM_cut_46 : decode cM_cut 46 = .ok (.aload_n 0, 1) := by decide +kernel
theorem dM_cut_47 : decode cM_cut 47 = .ok (.getfield 23, 3) := by decide +kernel
theorem dM_cut_50 : decode cM_cut 50 = .ok (.aload_n 0, 1) := by decide +kernel
theorem dM_cut_51 : decode cM_cut 51 = .ok (.getfield 418, 3) := by decide +kernel
theorem dM_cut_54 : decode cM_cut 54 = .ok (.iconst 1, 1) := by decide +kernel
theorem dM_cut_55 : decode cM_cut 55 = .ok (.isub, 1) := by decide +kernel
theorem dM_cut_56 : decode cM_cut 56 = .ok (.iaload, 1) := by decide +kernel
theorem dM_cut_57 : decode cM_cut 57 = .ok (.iconst 5, 1) := by decide +kernel
theorem dM_cut_58 : decode cM_cut 58 = .ok (.if_icmp .ne 7, 3) := by decide +kernel
theorem dM_cut_61 : decode cM_cut 61 = .ok (.iconst 1, 1) := by decide +kernel
theorem dM_cut_62 : decode cM_cut 62 = .ok (.goto 4, 3) := by decide +kernel
theorem dM_cut_65 : decode cM_cut 65 = .ok (.iconst 0, 1) := by decide +kernel
theorem dM_cut_66 : decode cM_cut 66 = .ok (.istore_n 2, 1) := by decide +kernel
theorem dM_cut_67 : decode cM_cut 67 = .ok (.goto (-58), 3) := by decide +kernel
theorem dM_cut_70 : decode cM_cut 70 = .ok (.iload_n 2, 1) := by decide +kernel
theorem dM_cut_71 : decode cM_cut 71 = .ok (.ifCond .ne 23, 3) := by decide +kernel
theorem dM_cut_74 : decode cM_cut 74 = .ok (.aload_n 0, 1) := by decide +kernel
theorem dM_cut_75 : decode cM_cut 75 = .ok (.getfield 418, 3) := by decide +kernel
theorem dM_cut_78 : decode cM_cut 78 = .ok (.sipush 1200, 3) := by decide +kernel
theorem dM_cut_81 : decode cM_cut 81 = .ok (.if_icmp .gt 13, 3) := by decide +kernel
theorem dM_cut_84 : decode cM_cut 84 = .ok (.aload_n 0, 1) := by decide +kernel
theorem dM_cut_85 : decode cM_cut 85 = .ok (.iconst 0, 1) := by decide +kernel
theorem dM_cut_86 : decode cM_cut 86 = .ok (.aload_n 0, 1) := by decide +kernel
theorem dM_cut_87 : decode cM_cut 87 = .ok (.getfield 409, 3) := by decide +kernel
theorem dM_cut_90 : decode cM_cut 90 = .ok (.lconst 0, 1) := by decide +kernel
theorem dM_cut_91 : decode cM_cut 91 = .ok (.invokevirtual 427, 3) := by decide +kernel
theorem dM_cut_94 : decode cM_cut 94 = .ok (.return_, 1) := by decide +kernel
theorem dM_behindBlanks_0 : decode cM_behindBlanks 0 = .ok (.iload_n 1, 1) := by decide +kernel
theorem dM_behindBlanks_1 : decode cM_behindBlanks 1 = .ok (.istore_n 2, 1) := by decide +kernel
theorem dM_behindBlanks_2 : decode cM_behindBlanks 2 = .ok (.iconst 1, 1) := by decide +kernel
theorem dM_behindBlanks_3 : decode cM_behindBlanks 3 = .ok (.istore_n 3, 1) := by decide +kernel
theorem dM_behindBlanks_4 : decode cM_behindBlanks 4 = .ok (.iload_n 3, 1) := by decide +kernel
theorem dM_behindBlanks_5 : decode cM_behindBlanks 5 = .ok (.ifCond .eq 88, 3) := by decide +kernel
theorem dM_behindBlanks_8 : decode cM_behindBlanks 8 = .ok (.iload_n 2, 1) := by decide +kernel
theorem dM_behindBlanks_9 : decode cM_behindBlanks 9 = .ok (.aload_n 0, 1) := by decide +kernel
theorem dM_behindBlanks_10 : decode cM_behindBlanks 10 = .ok (.getfield 409, 3) := by decide +kernel
theorem dM_behindBlanks_13 : decode cM_behindBlanks 13 = .ok (.if_icmp .ge 80, 3) := by decide +kernel
theorem dM_behindBlanks_16 : decode cM_behindBlanks 16 = .ok (.aload_n 0, 1) := by decide +kernel
theorem dM_behindBlanks_17 : decode cM_behindBlanks 17 = .ok (.iload_n 2, 1) := by decide +kernel
theorem dM_behindBlanks_18 : decode cM_behindBlanks 18 = .ok (.invokevirtual 431, 3) := by decide +kernel
theorem dM_behindBlanks_21 : decode cM_behindBlanks 21 = .ok (.istore 4, 2) := by decide +kernel
theorem dM_behindBlanks_23 : decode cM_behindBlanks 23 = .ok (.iload 4, 2) := by decide +kernel
theorem dM_behindBlanks_25 : decode cM_behindBlanks 25 = .ok (.bipush 35, 2) := by decide +kernel
theorem dM_behindBlanks_27 : decode cM_behindBlanks 27 = .ok (.if_icmp .ne 27, 3) := by decide +kernel
theorem dM_behindBlanks_30 : decode cM_behindBlanks 30 = .ok (.iload_n 2, 1) := by decide +kernel
theorem dM_behindBlanks_31 : decode cM_behindBlanks 31 = .ok (.aload_n 0, 1) := by decide +kernel
theorem dM_behindBlanks_32 : decode cM_behindBlanks 32 = .ok (.getfield 409, 3) := by decide +kernel
theorem dM_behindBlanks_35 : decode cM_behindBlanks 35 = .ok (.if_icmp .ge 55, 3) := by decide +kernel
theorem dM_behindBlanks_38 : decode cM_behindBlanks 38 = .ok (.aload_n 0, 1) := by decide +kernel
theorem dM_behindBlanks_39 : decode cM_behindBlanks 39 = .ok (.iload_n 2, 1) := by decide +kernel
theorem dM_behindBlanks_40 : decode cM_behindBlanks 40 = .ok (.invokevirtual 431, 3) := by decide +kernel
theorem dM_behindBlanks_43 : decode cM_behindBlanks 43 = .ok (.bipush 10, 2) := by decide +kernel
theorem dM_behindBlanks_45 : decode cM_behindBlanks 45 = .ok (.if_icmp .eq 45, 3) := by decide +kernel
theorem dM_behindBlanks_48 : decode cM_behindBlanks 48 = .ok (.iinc 2 1, 3) := by decide +kernel
theorem dM_behindBlanks_51 : decode cM_behindBlanks 51 = .ok (.goto (-21), 3) := by decide +kernel
theorem dM_behindBlanks_54 : decode cM_behindBlanks 54 = .ok (.iload 4, 2) := by decide +kernel
theorem dM_behindBlanks_56 : decode cM_behindBlanks 56 = .ok (.bipush 9, 2) := by decide +kernel
theorem dM_behindBlanks_58 : decode cM_behindBlanks 58 = .ok (.if_icmp .eq 24, 3) := by decide +kernel
theorem dM_behindBlanks_61 : decode cM_behindBlanks 61 = .ok (.iload 4, 2) := by decide +kernel
theorem dM_behindBlanks_63 : decode cM_behindBlanks 63 = .ok (.bipush 10, 2) := by decide +kernel
theorem dM_behindBlanks_65 : decode cM_behindBlanks 65 = .ok (.if_icmp .eq 17, 3) := by decide +kernel
theorem dM_behindBlanks_68 : decode cM_behindBlanks 68 = .ok (.iload 4, 2) := by decide +kernel
theorem dM_behindBlanks_70 : decode cM_behindBlanks 70 = .ok (.bipush 13, 2) := by decide +kernel
theorem dM_behindBlanks_72 : decode cM_behindBlanks 72 = .ok (.if_icmp .eq 10, 3) := by decide +kernel
theorem dM_behindBlanks_75 : decode cM_behindBlanks 75 = .ok (.iload 4, 2) := by decide +kernel
theorem dM_behindBlanks_77 : decode cM_behindBlanks 77 = .ok (.bipush 32, 2) := by decide +kernel
theorem dM_behindBlanks_79 : decode cM_behindBlanks 79 = .ok (.if_icmp .ne 9, 3) := by decide +kernel
theorem dM_behindBlanks_82 : decode cM_behindBlanks 82 = .ok (.iinc 2 1, 3) := by decide +kernel
theorem dM_behindBlanks_85 : decode cM_behindBlanks 85 = .ok (.goto 5, 3) := by decide +kernel
theorem dM_behindBlanks_88 : decode cM_behindBlanks 88 = .ok (.iconst 0, 1) := by decide +kernel
theorem dM_behindBlanks_89 : decode cM_behindBlanks 89 = .ok (.istore_n 3, 1) := by decide +kernel
theorem dM_behindBlanks_90 : decode cM_behindBlanks 90 = .ok (.goto (-86), 3) := by decide +kernel
theorem dM_behindBlanks_93 : decode cM_behindBlanks 93 = .ok (.iload_n 2, 1) := by decide +kernel
theorem dM_behindBlanks_94 : decode cM_behindBlanks 94 = .ok (.ireturn, 1) := by decide +kernel
theorem dM_breaks_0 : decode cM_breaks 0 = .ok (.aload_n 0, 1) := by decide +kernel
theorem dM_breaks_1 : decode cM_breaks 1 = .ok (.getfield 444, 3) := by decide +kernel
theorem dM_breaks_4 : decode cM_breaks 4 = .ok (.ifCond .ne 13, 3) := by decide +kernel
theorem dM_breaks_7 : decode cM_breaks 7 = .ok (.aload_n 0, 1) := by decide +kernel
theorem dM_breaks_8 : decode cM_breaks 8 = .ok (.iload_n 1, 1) := by decide +kernel
theorem dM_breaks_9 : decode cM_breaks 9 = .ok (.putfield 444, 3) := by decide +kernel
theorem dM_breaks_12 : decode cM_breaks 12 = .ok (.aload_n 0, 1) := by decide +kernel
theorem dM_breaks_13 : decode cM_breaks 13 = .ok (.iload_n 2, 1) := by decide +kernel
theorem dM_breaks_14 : decode cM_breaks 14 = .ok (.putfield 447, 3) := by decide +kernel
theorem dM_breaks_17 : decode cM_breaks 17 = .ok (.return_, 1) := by decide +kernel
theorem dM_wrong_0 : decode cM_wrong 0 = .ok (.aload_n 0, 1) := by decide +kernel
theorem dM_wrong_1 : decode cM_wrong 1 = .ok (.iconst 1, 1) := by decide +kernel
theorem dM_wrong_2 : decode cM_wrong 2 = .ok (.aload_n 0, 1) := by decide +kernel
theorem dM_wrong_3 : decode cM_wrong 3 = .ok (.getfield 27, 3) := by decide +kernel
theorem dM_wrong_6 : decode cM_wrong 6 = .ok (.aload_n 0, 1) := by decide +kernel
theorem dM_wrong_7 : decode cM_wrong 7 = .ok (.getfield 450, 3) := by decide +kernel
theorem dM_wrong_10 : decode cM_wrong 10 = .ok (.iaload, 1) := by decide +kernel
theorem dM_wrong_11 : decode cM_wrong 11 = .ok (.invokevirtual 453, 3) := by decide +kernel
theorem dM_wrong_14 : decode cM_wrong 14 = .ok (.return_, 1) := by decide +kernel
theorem dM_stops_0 : decode cM_stops 0 = .ok (.aload_n 0, 1) := by decide +kernel
theorem dM_stops_1 : decode cM_stops 1 = .ok (.getfield 444, 3) := by decide +kernel
theorem dM_stops_4 : decode cM_stops 4 = .ok (.ifCond .le 14, 3) := by decide +kernel
theorem dM_stops_7 : decode cM_stops 7 = .ok (.aload_n 0, 1) := by decide +kernel
theorem dM_stops_8 : decode cM_stops 8 = .ok (.getfield 457, 3) := by decide +kernel
theorem dM_stops_11 : decode cM_stops 11 = .ok (.ifCond .ne 7, 3) := by decide +kernel
theorem dM_stops_14 : decode cM_stops 14 = .ok (.iconst 1, 1) := by decide +kernel
theorem dM_stops_15 : decode cM_stops 15 = .ok (.goto 4, 3) := by decide +kernel
theorem dM_stops_18 : decode cM_stops 18 = .ok (.iconst 0, 1) := by decide +kernel
theorem dM_stops_19 : decode cM_stops 19 = .ok (.ireturn, 1) := by decide +kernel
theorem dM_isWord_0 : decode cM_isWord 0 = .ok (.aload_n 0, 1) := by decide +kernel
theorem dM_isWord_1 : decode cM_isWord 1 = .ok (.getfield 23, 3) := by decide +kernel
theorem dM_isWord_4 : decode cM_isWord 4 = .ok (.aload_n 0, 1) := by decide +kernel
theorem dM_isWord_5 : decode cM_isWord 5 = .ok (.getfield 450, 3) := by decide +kernel
theorem dM_isWord_8 : decode cM_isWord 8 = .ok (.iaload, 1) := by decide +kernel
theorem dM_isWord_9 : decode cM_isWord 9 = .ok (.iconst 4, 1) := by decide +kernel
theorem dM_isWord_10 : decode cM_isWord 10 = .ok (.if_icmp .ne 22, 3) := by decide +kernel
theorem dM_isWord_13 : decode cM_isWord 13 = .ok (.aload_n 0, 1) := by decide +kernel
theorem dM_isWord_14 : decode cM_isWord 14 = .ok (.getfield 30, 3) := by decide +kernel
theorem dM_isWord_17 : decode cM_isWord 17 = .ok (.aload_n 0, 1) := by decide +kernel
theorem dM_isWord_18 : decode cM_isWord 18 = .ok (.getfield 450, 3) := by decide +kernel
theorem dM_isWord_21 : decode cM_isWord 21 = .ok (.laload, 1) := by decide +kernel
theorem dM_isWord_22 : decode cM_isWord 22 = .ok (.iload_n 1, 1) := by decide +kernel
theorem dM_isWord_23 : decode cM_isWord 23 = .ok (.i2l, 1) := by decide +kernel
theorem dM_isWord_24 : decode cM_isWord 24 = .ok (.lcmp, 1) := by decide +kernel
theorem dM_isWord_25 : decode cM_isWord 25 = .ok (.ifCond .ne 7, 3) := by decide +kernel
theorem dM_isWord_28 : decode cM_isWord 28 = .ok (.iconst 1, 1) := by decide +kernel
theorem dM_isWord_29 : decode cM_isWord 29 = .ok (.goto 4, 3) := by decide +kernel
theorem dM_isWord_32 : decode cM_isWord 32 = .ok (.iconst 0, 1) := by decide +kernel
theorem dM_isWord_33 : decode cM_isWord 33 = .ok (.ireturn, 1) := by decide +kernel
theorem dM_mayWord_0 : decode cM_mayWord 0 = .ok (.aload_n 0, 1) := by decide +kernel
theorem dM_mayWord_1 : decode cM_mayWord 1 = .ok (.invokevirtual 461, 3) := by decide +kernel
theorem dM_mayWord_4 : decode cM_mayWord 4 = .ok (.ifCond .ne 15, 3) := by decide +kernel
theorem dM_mayWord_7 : decode cM_mayWord 7 = .ok (.aload_n 0, 1) := by decide +kernel
theorem dM_mayWord_8 : decode cM_mayWord 8 = .ok (.iload_n 1, 1) := by decide +kernel
theorem dM_mayWord_9 : decode cM_mayWord 9 = .ok (.invokevirtual 471, 3) := by decide +kernel
theorem dM_mayWord_12 : decode cM_mayWord 12 = .ok (.ifCond .eq 7, 3) := by decide +kernel
theorem dM_mayWord_15 : decode cM_mayWord 15 = .ok (.iconst 1, 1) := by decide +kernel
theorem dM_mayWord_16 : decode cM_mayWord 16 = .ok (.goto 4, 3) := by decide +kernel
theorem dM_mayWord_19 : decode cM_mayWord 19 = .ok (.iconst 0, 1) := by decide +kernel
theorem dM_mayWord_20 : decode cM_mayWord 20 = .ok (.istore_n 2, 1) := by decide +kernel
theorem dM_mayWord_21 : decode cM_mayWord 21 = .ok (.iload_n 2, 1) := by decide +kernel
theorem dM_mayWord_22 : decode cM_mayWord 22 = .ok (.ifCond .eq 7, 3) := by decide +kernel
theorem dM_mayWord_25 : decode cM_mayWord 25 = .ok (.aload_n 0, 1) := by decide +kernel
theorem dM_mayWord_26 : decode cM_mayWord 26 = .ok (.invokevirtual 468, 3) := by decide +kernel
theorem dM_mayWord_29 : decode cM_mayWord 29 = .ok (.iload_n 2, 1) := by decide +kernel
theorem dM_mayWord_30 : decode cM_mayWord 30 = .ok (.ireturn, 1) := by decide +kernel
theorem dM_system_0 : decode cM_system 0 = .ok (.aload_n 0, 1) := by decide +kernel
theorem dM_system_1 : decode cM_system 1 = .ok (.iconst 0, 1) := by decide +kernel
theorem dM_system_2 : decode cM_system 2 = .ok (.putfield 450, 3) := by decide +kernel
theorem dM_system_5 : decode cM_system 5 = .ok (.aload_n 0, 1) := by decide +kernel
theorem dM_system_6 : decode cM_system 6 = .ok (.iconst 0, 1) := by decide +kernel
theorem dM_system_7 : decode cM_system 7 = .ok (.putfield 480, 3) := by decide +kernel
theorem dM_system_10 : decode cM_system 10 = .ok (.aload_n 0, 1) := by decide +kernel
theorem dM_system_11 : decode cM_system 11 = .ok (.iconst 0, 1) := by decide +kernel
theorem dM_system_12 : decode cM_system 12 = .ok (.putfield 504, 3) := by decide +kernel
theorem dM_system_15 : decode cM_system 15 = .ok (.aload_n 0, 1) := by decide +kernel
theorem dM_system_16 : decode cM_system 16 = .ok (.iconst 0, 1) := by decide +kernel
theorem dM_system_17 : decode cM_system 17 = .ok (.putfield 507, 3) := by decide +kernel
theorem dM_system_20 : decode cM_system 20 = .ok (.aload_n 0, 1) := by decide +kernel
theorem dM_system_21 : decode cM_system 21 = .ok (.iconst 0, 1) := by decide +kernel
theorem dM_system_22 : decode cM_system 22 = .ok (.putfield 510, 3) := by decide +kernel
theorem dM_system_25 : decode cM_system 25 = .ok (.aload_n 0, 1) := by decide +kernel
theorem dM_system_26 : decode cM_system 26 = .ok (.iconst 0, 1) := by decide +kernel
theorem dM_system_27 : decode cM_system 27 = .ok (.putfield 513, 3) := by decide +kernel
theorem dM_system_30 : decode cM_system 30 = .ok (.aload_n 0, 1) := by decide +kernel
theorem dM_system_31 : decode cM_system 31 = .ok (.iconst 0, 1) := by decide +kernel
theorem dM_system_32 : decode cM_system 32 = .ok (.putfield 516, 3) := by decide +kernel
theorem dM_system_35 : decode cM_system 35 = .ok (.aload_n 0, 1) := by decide +kernel
theorem dM_system_36 : decode cM_system 36 = .ok (.iconst 0, 1) := by decide +kernel
theorem dM_system_37 : decode cM_system 37 = .ok (.putfield 519, 3) := by decide +kernel
theorem dM_system_40 : decode cM_system 40 = .ok (.iconst 0, 1) := by decide +kernel
theorem dM_system_41 : decode cM_system 41 = .ok (.istore_n 1, 1) := by decide +kernel
theorem dM_system_42 : decode cM_system 42 = .ok (.iconst 0, 1) := by decide +kernel
theorem dM_system_43 : decode cM_system 43 = .ok (.istore_n 2, 1) := by decide +kernel
theorem dM_system_44 : decode cM_system 44 = .ok (.iconst 0, 1) := by decide +kernel
theorem dM_system_45 : decode cM_system 45 = .ok (.istore_n 3, 1) := by decide +kernel
theorem dM_system_46 : decode cM_system 46 = .ok (.iconst 1, 1) := by decide +kernel
theorem dM_system_47 : decode cM_system 47 = .ok (.istore 4, 2) := by decide +kernel
theorem dM_system_49 : decode cM_system 49 = .ok (.aload_n 0, 1) := by decide +kernel
theorem dM_system_50 : decode cM_system 50 = .ok (.invokevirtual 461, 3) := by decide +kernel
theorem dM_system_53 : decode cM_system 53 = .ok (.ifCond .ne 83, 3) := by decide +kernel
theorem dM_system_56 : decode cM_system 56 = .ok (.iload 4, 2) := by decide +kernel
theorem dM_system_58 : decode cM_system 58 = .ok (.ifCond .ne 15, 3) := by decide +kernel
theorem dM_system_61 : decode cM_system 61 = .ok (.aload_n 0, 1) := by decide +kernel
theorem dM_system_62 : decode cM_system 62 = .ok (.getfield 23, 3) := by decide +kernel
theorem dM_system_65 : decode cM_system 65 = .ok (.aload_n 0, 1) := by decide +kernel
theorem dM_system_66 : decode cM_system 66 = .ok (.getfield 450, 3) := by decide +kernel
theorem dM_system_69 : decode cM_system 69 = .ok (.iaload, 1) := by decide +kernel
theorem dM_system_70 : decode cM_system 70 = .ok (.ifCond .eq 66, 3) := by decide +kernel
theorem dM_system_73 : decode cM_system 73 = .ok (.iconst 0, 1) := by decide +kernel
theorem dM_system_74 : decode cM_system 74 = .ok (.istore 4, 2) := by decide +kernel
theorem dM_system_76 : decode cM_system 76 = .ok (.aload_n 0, 1) := by decide +kernel
theorem dM_system_77 : decode cM_system 77 = .ok (.iconst 0, 1) := by decide +kernel
theorem dM_system_78 : decode cM_system 78 = .ok (.invokevirtual 522, 3) := by decide +kernel
theorem dM_system_81 : decode cM_system 81 = .ok (.ifCond .eq 10, 3) := by decide +kernel
theorem dM_system_84 : decode cM_system 84 = .ok (.aload_n 0, 1) := by decide +kernel
theorem dM_system_85 : decode cM_system 85 = .ok (.invokevirtual 525, 3) := by decide +kernel
theorem dM_system_88 : decode cM_system 88 = .ok (.goto (-39), 3) := by decide +kernel
theorem dM_system_91 : decode cM_system 91 = .ok (.aload_n 0, 1) := by decide +kernel
theorem dM_system_92 : decode cM_system 92 = .ok (.iconst 1, 1) := by decide +kernel
theorem dM_system_93 : decode cM_system 93 = .ok (.invokevirtual 522, 3) := by decide +kernel
theorem dM_system_96 : decode cM_system 96 = .ok (.ifCond .eq 14, 3) := by decide +kernel
theorem dM_system_99 : decode cM_system 99 = .ok (.aload_n 0, 1) := by decide +kernel
theorem dM_system_100 : decode cM_system 100 = .ok (.iload_n 2, 1) := by decide +kernel
theorem dM_system_101 : decode cM_system 101 = .ok (.invokevirtual 528, 3) := by decide +kernel
theorem dM_system_104 : decode cM_system 104 = .ok (.iinc 2 1, 3) := by decide +kernel
theorem dM_system_107 : decode cM_system 107 = .ok (.goto (-58), 3) := by decide +kernel
theorem dM_system_110 : decode cM_system 110 = .ok (.aload_n 0, 1) := by decide +kernel
theorem dM_system_111 : decode cM_system 111 = .ok (.iconst 2, 1) := by decide +kernel
theorem dM_system_112 : decode cM_system 112 = .ok (.invokevirtual 522, 3) := by decide +kernel
theorem dM_system_115 : decode cM_system 115 = .ok (.ifCond .eq 14, 3) := by decide +kernel
theorem dM_system_118 : decode cM_system 118 = .ok (.aload_n 0, 1) := by decide +kernel
theorem dM_system_119 : decode cM_system 119 = .ok (.iload_n 3, 1) := by decide +kernel
theorem dM_system_120 : decode cM_system 120 = .ok (.invokevirtual 531, 3) := by decide +kernel
theorem dM_system_123 : decode cM_system 123 = .ok (.iinc 3 1, 3) := by decide +kernel
theorem dM_system_126 : decode cM_system 126 = .ok (.goto (-77), 3) := by decide +kernel
theorem dM_system_129 : decode cM_system 129 = .ok (.aload_n 0, 1) := by decide +kernel
theorem dM_system_130 : decode cM_system 130 = .ok (.invokevirtual 474, 3) := by decide +kernel
theorem dM_system_133 : decode cM_system 133 = .ok (.goto (-84), 3) := by decide +kernel
theorem dM_system_136 : decode cM_system 136 = .ok (.return_, 1) := by decide +kernel
theorem dM_parse_0 : decode cM_parse 0 = .ok (.aload_n 0, 1) := by decide +kernel
theorem dM_parse_1 : decode cM_parse 1 = .ok (.iconst 0, 1) := by decide +kernel
theorem dM_parse_2 : decode cM_parse 2 = .ok (.putfield 489, 3) := by decide +kernel
theorem dM_parse_5 : decode cM_parse 5 = .ok (.aload_n 0, 1) := by decide +kernel
theorem dM_parse_6 : decode cM_parse 6 = .ok (.iconst 0, 1) := by decide +kernel
theorem dM_parse_7 : decode cM_parse 7 = .ok (.putfield 492, 3) := by decide +kernel
theorem dM_parse_10 : decode cM_parse 10 = .ok (.aload_n 0, 1) := by decide +kernel
theorem dM_parse_11 : decode cM_parse 11 = .ok (.iconst 0, 1) := by decide +kernel
theorem dM_parse_12 : decode cM_parse 12 = .ok (.putfield 495, 3) := by decide +kernel
theorem dM_parse_15 : decode cM_parse 15 = .ok (.aload_n 0, 1) := by decide +kernel
theorem dM_parse_16 : decode cM_parse 16 = .ok (.iconst 0, 1) := by decide +kernel
theorem dM_parse_17 : decode cM_parse 17 = .ok (.putfield 498, 3) := by decide +kernel
theorem dM_parse_20 : decode cM_parse 20 = .ok (.aload_n 0, 1) := by decide +kernel
theorem dM_parse_21 : decode cM_parse 21 = .ok (.iconst 0, 1) := by decide +kernel
theorem dM_parse_22 : decode cM_parse 22 = .ok (.putfield 444, 3) := by decide +kernel
theorem dM_parse_25 : decode cM_parse 25 = .ok (.aload_n 0, 1) := by decide +kernel
theorem dM_parse_26 : decode cM_parse 26 = .ok (.iconst 0, 1) := by decide +kernel
theorem dM_parse_27 : decode cM_parse 27 = .ok (.putfield 457, 3) := by decide +kernel
theorem dM_parse_30 : decode cM_parse 30 = .ok (.aload_n 0, 1) := by decide +kernel
theorem dM_parse_31 : decode cM_parse 31 = .ok (.invokevirtual 801, 3) := by decide +kernel
theorem dM_parse_34 : decode cM_parse 34 = .ok (.aload_n 0, 1) := by decide +kernel
theorem dM_parse_35 : decode cM_parse 35 = .ok (.invokevirtual 804, 3) := by decide +kernel
theorem dM_parse_38 : decode cM_parse 38 = .ok (.aload_n 0, 1) := by decide +kernel
theorem dM_parse_39 : decode cM_parse 39 = .ok (.getfield 444, 3) := by decide +kernel
theorem dM_parse_42 : decode cM_parse 42 = .ok (.ifCond .le 5, 3) := by decide +kernel
theorem dM_parse_45 : decode cM_parse 45 = .ok (.iconst 0, 1) := by decide +kernel
theorem dM_parse_46 : decode cM_parse 46 = .ok (.ireturn, 1) := by decide +kernel
theorem dM_parse_47 : decode cM_parse 47 = .ok (.aload_n 0, 1) := by decide +kernel
theorem dM_parse_48 : decode cM_parse 48 = .ok (.invokevirtual 807, 3) := by decide +kernel
theorem dM_parse_51 : decode cM_parse 51 = .ok (.aload_n 0, 1) := by decide +kernel
theorem dM_parse_52 : decode cM_parse 52 = .ok (.iconst 1, 1) := by decide +kernel
theorem dM_parse_53 : decode cM_parse 53 = .ok (.putfield 457, 3) := by decide +kernel
theorem dM_parse_56 : decode cM_parse 56 = .ok (.aload_n 0, 1) := by decide +kernel
theorem dM_parse_57 : decode cM_parse 57 = .ok (.invokevirtual 804, 3) := by decide +kernel
theorem dM_parse_60 : decode cM_parse 60 = .ok (.aload_n 0, 1) := by decide +kernel
theorem dM_parse_61 : decode cM_parse 61 = .ok (.iconst 0, 1) := by decide +kernel
theorem dM_parse_62 : decode cM_parse 62 = .ok (.putfield 457, 3) := by decide +kernel
theorem dM_parse_65 : decode cM_parse 65 = .ok (.aload_n 0, 1) := by decide +kernel
theorem dM_parse_66 : decode cM_parse 66 = .ok (.getfield 444, 3) := by decide +kernel
theorem dM_parse_69 : decode cM_parse 69 = .ok (.ifCond .ne 7, 3) := by decide +kernel
theorem dM_parse_72 : decode cM_parse 72 = .ok (.iconst 1, 1) := by decide +kernel
theorem dM_parse_73 : decode cM_parse 73 = .ok (.goto 4, 3) := by decide +kernel
theorem dM_parse_76 : decode cM_parse 76 = .ok (.iconst 0, 1) := by decide +kernel
theorem dM_parse_77 : decode cM_parse 77 = .ok (.ireturn, 1) := by decide +kernel
theorem dM_load_0 : decode cM_load 0 = .ok (.iload_n 1, 1) := by decide +kernel
theorem dM_load_1 : decode cM_load 1 = .ok (.ifCond .lt 11, 3) := by decide +kernel
theorem dM_load_4 : decode cM_load 4 = .ok (.iload_n 1, 1) := by decide +kernel
theorem dM_load_5 : decode cM_load 5 = .ok (.aload_n 0, 1) := by decide +kernel
theorem dM_load_6 : decode cM_load 6 = .ok (.getfield 402, 3) := by decide +kernel
theorem dM_load_9 : decode cM_load 9 = .ok (.if_icmp .le 6, 3) := by decide +kernel
theorem dM_load_12 : decode cM_load 12 = .ok (.bipush (-2), 2) := by decide +kernel
theorem dM_load_14 : decode cM_load 14 = .ok (.ireturn, 1) := by decide +kernel
theorem dM_load_15 : decode cM_load 15 = .ok (.aload_n 0, 1) := by decide +kernel
theorem dM_load_16 : decode cM_load 16 = .ok (.iload_n 1, 1) := by decide +kernel
theorem dM_load_17 : decode cM_load 17 = .ok (.invokevirtual 810, 3) := by decide +kernel
theorem dM_load_20 : decode cM_load 20 = .ok (.aload_n 0, 1) := by decide +kernel
theorem dM_load_21 : decode cM_load 21 = .ok (.invokevirtual 813, 3) := by decide +kernel
theorem dM_load_24 : decode cM_load 24 = .ok (.ifCond .eq 54, 3) := by decide +kernel
theorem dM_load_27 : decode cM_load 27 = .ok (.iconst 0, 1) := by decide +kernel
theorem dM_load_28 : decode cM_load 28 = .ok (.istore_n 2, 1) := by decide +kernel
theorem dM_load_29 : decode cM_load 29 = .ok (.iload_n 2, 1) := by decide +kernel
theorem dM_load_30 : decode cM_load 30 = .ok (.iload_n 1, 1) := by decide +kernel
theorem dM_load_31 : decode cM_load 31 = .ok (.if_icmp .ge 21, 3) := by decide +kernel
theorem dM_load_34 : decode cM_load 34 = .ok (.aload_n 0, 1) := by decide +kernel
theorem dM_load_35 : decode cM_load 35 = .ok (.getfield 16, 3) := by decide +kernel
theorem dM_load_38 : decode cM_load 38 = .ok (.iload_n 2, 1) := by decide +kernel
theorem dM_load_39 : decode cM_load 39 = .ok (.aload_n 0, 1) := by decide +kernel
theorem dM_load_40 : decode cM_load 40 = .ok (.getfield 13, 3) := by decide +kernel
theorem dM_load_43 : decode cM_load 43 = .ok (.iload_n 2, 1) := by decide +kernel
theorem dM_load_44 : decode cM_load 44 = .ok (.baload, 1) := by decide +kernel
theorem dM_load_45 : decode cM_load 45 = .ok (.bastore, 1) := by decide +kernel
theorem dM_load_46 : decode cM_load 46 = .ok (.iinc 2 1, 3) := by decide +kernel
theorem dM_load_49 : decode cM_load 49 = .ok (.goto (-20), 3) := by decide +kernel
theorem dM_load_52 : decode cM_load 52 = .ok (.aload_n 0, 1) := by decide +kernel
theorem dM_load_53 : decode cM_load 53 = .ok (.iload_n 1, 1) := by decide +kernel
theorem dM_load_54 : decode cM_load 54 = .ok (.putfield 816, 3) := by decide +kernel
theorem dM_load_57 : decode cM_load 57 = .ok (.aload_n 0, 1) := by decide +kernel
theorem dM_load_58 : decode cM_load 58 = .ok (.iconst 1, 1) := by decide +kernel
theorem dM_load_59 : decode cM_load 59 = .ok (.putfield 819, 3) := by decide +kernel
theorem dM_load_62 : decode cM_load 62 = .ok (.aload_n 0, 1) := by decide +kernel
theorem dM_load_63 : decode cM_load 63 = .ok (.iconst 0, 1) := by decide +kernel
theorem dM_load_64 : decode cM_load 64 = .ok (.putfield 822, 3) := by decide +kernel
theorem dM_load_67 : decode cM_load 67 = .ok (.aload_n 0, 1) := by decide +kernel
theorem dM_load_68 : decode cM_load 68 = .ok (.iconst 0, 1) := by decide +kernel
theorem dM_load_69 : decode cM_load 69 = .ok (.putfield 825, 3) := by decide +kernel
theorem dM_load_72 : decode cM_load 72 = .ok (.aload_n 0, 1) := by decide +kernel
theorem dM_load_73 : decode cM_load 73 = .ok (.invokevirtual 828, 3) := by decide +kernel
theorem dM_load_76 : decode cM_load 76 = .ok (.iconst 0, 1) := by decide +kernel
theorem dM_load_77 : decode cM_load 77 = .ok (.ireturn, 1) := by decide +kernel
theorem dM_load_78 : decode cM_load 78 = .ok (.aload_n 0, 1) := by decide +kernel
theorem dM_load_79 : decode cM_load 79 = .ok (.aload_n 0, 1) := by decide +kernel
theorem dM_load_80 : decode cM_load 80 = .ok (.getfield 447, 3) := by decide +kernel
theorem dM_load_83 : decode cM_load 83 = .ok (.putfield 283, 3) := by decide +kernel
theorem dM_load_86 : decode cM_load 86 = .ok (.aload_n 0, 1) := by decide +kernel
theorem dM_load_87 : decode cM_load 87 = .ok (.getfield 444, 3) := by decide +kernel
theorem dM_load_90 : decode cM_load 90 = .ok (.istore_n 2, 1) := by decide +kernel
theorem dM_load_91 : decode cM_load 91 = .ok (.aload_n 0, 1) := by decide +kernel
theorem dM_load_92 : decode cM_load 92 = .ok (.getfield 819, 3) := by decide +kernel
theorem dM_load_95 : decode cM_load 95 = .ok (.ifCond .eq 44, 3) := by decide +kernel
theorem dM_load_98 : decode cM_load 98 = .ok (.iconst 0, 1) := by decide +kernel
theorem dM_load_99 : decode cM_load 99 = .ok (.istore_n 3, 1) := by decide +kernel
theorem dM_load_100 : decode cM_load 100 = .ok (.iload_n 3, 1) := by decide +kernel
theorem dM_load_101 : decode cM_load 101 = .ok (.aload_n 0, 1) := by decide +kernel
theorem dM_load_102 : decode cM_load 102 = .ok (.getfield 816, 3) := by decide +kernel
theorem dM_load_105 : decode cM_load 105 = .ok (.if_icmp .ge 21, 3) := by decide +kernel
theorem dM_load_108 : decode cM_load 108 = .ok (.aload_n 0, 1) := by decide +kernel
theorem dM_load_109 : decode cM_load 109 = .ok (.getfield 13, 3) := by decide +kernel
theorem dM_load_112 : decode cM_load 112 = .ok (.iload_n 3, 1) := by decide +kernel
theorem dM_load_113 : decode cM_load 113 = .ok (.aload_n 0, 1) := by decide +kernel
theorem dM_load_114 : decode cM_load 114 = .ok (.getfield 16, 3) := by decide +kernel
theorem dM_load_117 : decode cM_load 117 = .ok (.iload_n 3, 1) := by decide +kernel
theorem dM_load_118 : decode cM_load 118 = .ok (.baload, 1) := by decide +kernel
theorem dM_load_119 : decode cM_load 119 = .ok (.bastore, 1) := by decide +kernel
theorem dM_load_120 : decode cM_load 120 = .ok (.iinc 3 1, 3) := by decide +kernel
theorem dM_load_123 : decode cM_load 123 = .ok (.goto (-23), 3) := by decide +kernel
theorem dM_load_126 : decode cM_load 126 = .ok (.aload_n 0, 1) := by decide +kernel
theorem dM_load_127 : decode cM_load 127 = .ok (.aload_n 0, 1) := by decide +kernel
theorem dM_load_128 : decode cM_load 128 = .ok (.getfield 816, 3) := by decide +kernel
theorem dM_load_131 : decode cM_load 131 = .ok (.putfield 409, 3) := by decide +kernel
theorem dM_load_134 : decode cM_load 134 = .ok (.aload_n 0, 1) := by decide +kernel
theorem dM_load_135 : decode cM_load 135 = .ok (.invokevirtual 813, 3) := by decide +kernel
theorem dM_load_138 : decode cM_load 138 = .ok (.pop, 1) := by decide +kernel
theorem dM_load_139 : decode cM_load 139 = .ok (.iload_n 2, 1) := by decide +kernel
theorem dM_load_140 : decode cM_load 140 = .ok (.ireturn, 1) := by decide +kernel
theorem dM_place_0 : decode cM_place 0 = .ok (.aload_n 0, 1) := by decide +kernel
theorem dM_place_1 : decode cM_place 1 = .ok (.getfield 283, 3) := by decide +kernel
theorem dM_place_4 : decode cM_place 4 = .ok (.ireturn, 1) := by decide +kernel
theorem dM_warning_0 : decode cM_warning 0 = .ok (.iload_n 1, 1) := by decide +kernel
theorem dM_warning_1 : decode cM_warning 1 = .ok (.ifCond .lt 20, 3) := by decide +kernel
theorem dM_warning_4 : decode cM_warning 4 = .ok (.iload_n 1, 1) := by decide +kernel
theorem dM_warning_5 : decode cM_warning 5 = .ok (.aload_n 0, 1) := by decide +kernel
theorem dM_warning_6 : decode cM_warning 6 = .ok (.getfield 831, 3) := by decide +kernel
theorem dM_warning_9 : decode cM_warning 9 = .ok (.if_icmp .ge 12, 3) := by decide +kernel
theorem dM_warning_12 : decode cM_warning 12 = .ok (.iload_n 2, 1) := by decide +kernel
theorem dM_warning_13 : decode cM_warning 13 = .ok (.ifCond .lt 8, 3) := by decide +kernel
theorem dM_warning_16 : decode cM_warning 16 = .ok (.iload_n 2, 1) := by decide +kernel
theorem dM_warning_17 : decode cM_warning 17 = .ok (.iconst 1, 1) := by decide +kernel
theorem dM_warning_18 : decode cM_warning 18 = .ok (.if_icmp .le 5, 3) := by decide +kernel
theorem dM_warning_21 : decode cM_warning 21 = .ok (.iconst (-1), 1) := by decide +kernel
theorem dM_warning_22 : decode cM_warning 22 = .ok (.ireturn, 1) := by decide +kernel
theorem dM_warning_23 : decode cM_warning 23 = .ok (.iload_n 2, 1) := by decide +kernel
theorem dM_warning_24 : decode cM_warning 24 = .ok (.ifCond .ne 12, 3) := by decide +kernel
theorem dM_warning_27 : decode cM_warning 27 = .ok (.aload_n 0, 1) := by decide +kernel
theorem dM_warning_28 : decode cM_warning 28 = .ok (.getfield 287, 3) := by decide +kernel
theorem dM_warning_31 : decode cM_warning 31 = .ok (.iload_n 1, 1) := by decide +kernel
theorem dM_warning_32 : decode cM_warning 32 = .ok (.iaload, 1) := by decide +kernel
theorem dM_warning_33 : decode cM_warning 33 = .ok (.goto 9, 3) := by decide +kernel
theorem dM_warning_36 : decode cM_warning 36 = .ok (.aload_n 0, 1) := by decide +kernel
theorem dM_warning_37 : decode cM_warning 37 = .ok (.getfield 290, 3) := by decide +kernel
theorem dM_warning_40 : decode cM_warning 40 = .ok (.iload_n 1, 1) := by decide +kernel
theorem dM_warning_41 : decode cM_warning 41 = .ok (.iaload, 1) := by decide +kernel
theorem dM_warning_42 : decode cM_warning 42 = .ok (.ireturn, 1) := by decide +kernel
theorem dM_begin_0 : decode cM_begin 0 = .ok (.aload_n 0, 1) := by decide +kernel
theorem dM_begin_1 : decode cM_begin 1 = .ok (.getfield 819, 3) := by decide +kernel
theorem dM_begin_4 : decode cM_begin 4 = .ok (.ifCond .ne 5, 3) := by decide +kernel
theorem dM_begin_7 : decode cM_begin 7 = .ok (.iconst (-1), 1) := by decide +kernel
theorem dM_begin_8 : decode cM_begin 8 = .ok (.ireturn, 1) := by decide +kernel
theorem dM_begin_9 : decode cM_begin 9 = .ok (.iconst 0, 1) := by decide +kernel
theorem dM_begin_10 : decode cM_begin 10 = .ok (.istore_n 2, 1) := by decide +kernel
theorem dM_begin_11 : decode cM_begin 11 = .ok (.iload_n 2, 1) := by decide +kernel
theorem dM_begin_12 : decode cM_begin 12 = .ok (.sipush 1104, 3) := by decide +kernel
theorem dM_begin_15 : decode cM_begin 15 = .ok (.if_icmp .ge 16, 3) := by decide +kernel
theorem dM_begin_18 : decode cM_begin 18 = .ok (.aload_n 0, 1) := by decide +kernel
theorem dM_begin_19 : decode cM_begin 19 = .ok (.getfield 299, 3) := by decide +kernel
theorem dM_begin_22 : decode cM_begin 22 = .ok (.iload_n 2, 1) := by decide +kernel
theorem dM_begin_23 : decode cM_begin 23 = .ok (.iconst 0, 1) := by decide +kernel
theorem dM_begin_24 : decode cM_begin 24 = .ok (.iastore, 1) := by decide +kernel
theorem dM_begin_25 : decode cM_begin 25 = .ok (.iinc 2 1, 3) := by decide +kernel
theorem dM_begin_28 : decode cM_begin 28 = .ok (.goto (-17), 3) := by decide +kernel
theorem dM_begin_31 : decode cM_begin 31 = .ok (.aload_n 0, 1) := by decide +kernel
theorem dM_begin_32 : decode cM_begin 32 = .ok (.getfield 299, 3) := by decide +kernel
theorem dM_begin_35 : decode cM_begin 35 = .ok (.iconst 1, 1) := by decide +kernel
theorem dM_begin_36 : decode cM_begin 36 = .ok (.iconst 1, 1) := by decide +kernel
theorem dM_begin_37 : decode cM_begin 37 = .ok (.iastore, 1) := by decide +kernel
theorem dM_begin_38 : decode cM_begin 38 = .ok (.aload_n 0, 1) := by decide +kernel
theorem dM_begin_39 : decode cM_begin 39 = .ok (.iconst 1, 1) := by decide +kernel
theorem dM_begin_40 : decode cM_begin 40 = .ok (.putfield 822, 3) := by decide +kernel
theorem dM_begin_43 : decode cM_begin 43 = .ok (.aload_n 0, 1) := by decide +kernel
theorem dM_begin_44 : decode cM_begin 44 = .ok (.iconst 0, 1) := by decide +kernel
theorem dM_begin_45 : decode cM_begin 45 = .ok (.putfield 843, 3) := by decide +kernel
theorem dM_begin_48 : decode cM_begin 48 = .ok (.aload_n 0, 1) := by decide +kernel
theorem dM_begin_49 : decode cM_begin 49 = .ok (.iconst 0, 1) := by decide +kernel
theorem dM_begin_50 : decode cM_begin 50 = .ok (.putfield 877, 3) := by decide +kernel
theorem dM_begin_53 : decode cM_begin 53 = .ok (.aload_n 0, 1) := by decide +kernel
theorem dM_begin_54 : decode cM_begin 54 = .ok (.iload_n 1, 1) := by decide +kernel
theorem dM_begin_55 : decode cM_begin 55 = .ok (.putfield 895, 3) := by decide +kernel
theorem dM_begin_58 : decode cM_begin 58 = .ok (.aload_n 0, 1) := by decide +kernel
theorem dM_begin_59 : decode cM_begin 59 = .ok (.iconst 0, 1) := by decide +kernel
theorem dM_begin_60 : decode cM_begin 60 = .ok (.putfield 1008, 3) := by decide +kernel
theorem dM_begin_63 : decode cM_begin 63 = .ok (.aload_n 0, 1) := by decide +kernel
theorem dM_begin_64 : decode cM_begin 64 = .ok (.iconst 0, 1) := by decide +kernel
theorem dM_begin_65 : decode cM_begin 65 = .ok (.putfield 907, 3) := by decide +kernel
theorem dM_begin_68 : decode cM_begin 68 = .ok (.aload_n 0, 1) := by decide +kernel
theorem dM_begin_69 : decode cM_begin 69 = .ok (.iconst 0, 1) := by decide +kernel
theorem dM_begin_70 : decode cM_begin 70 = .ok (.putfield 858, 3) := by decide +kernel
theorem dM_begin_73 : decode cM_begin 73 = .ok (.aload_n 0, 1) := by decide +kernel
theorem dM_begin_74 : decode cM_begin 74 = .ok (.iconst 0, 1) := by decide +kernel
theorem dM_begin_75 : decode cM_begin 75 = .ok (.putfield 913, 3) := by decide +kernel
theorem dM_begin_78 : decode cM_begin 78 = .ok (.aload_n 0, 1) := by decide +kernel
theorem dM_begin_79 : decode cM_begin 79 = .ok (.iconst 0, 1) := by decide +kernel
theorem dM_begin_80 : decode cM_begin 80 = .ok (.putfield 916, 3) := by decide +kernel
theorem dM_begin_83 : decode cM_begin 83 = .ok (.aload_n 0, 1) := by decide +kernel
theorem dM_begin_84 : decode cM_begin 84 = .ok (.iconst 0, 1) := by decide +kernel
theorem dM_begin_85 : decode cM_begin 85 = .ok (.putfield 919, 3) := by decide +kernel
theorem dM_begin_88 : decode cM_begin 88 = .ok (.aload_n 0, 1) := by decide +kernel
theorem dM_begin_89 : decode cM_begin 89 = .ok (.iconst 0, 1) := by decide +kernel
theorem dM_begin_90 : decode cM_begin 90 = .ok (.putfield 1011, 3) := by decide +kernel
theorem dM_begin_93 : decode cM_begin 93 = .ok (.aload_n 0, 1) := by decide +kernel
theorem dM_begin_94 : decode cM_begin 94 = .ok (.iconst 0, 1) := by decide +kernel
theorem dM_begin_95 : decode cM_begin 95 = .ok (.putfield 883, 3) := by decide +kernel
theorem dM_begin_98 : decode cM_begin 98 = .ok (.aload_n 0, 1) := by decide +kernel
theorem dM_begin_99 : decode cM_begin 99 = .ok (.iconst 0, 1) := by decide +kernel
theorem dM_begin_100 : decode cM_begin 100 = .ok (.putfield 874, 3) := by decide +kernel
theorem dM_begin_103 : decode cM_begin 103 = .ok (.aload_n 0, 1) := by decide +kernel
theorem dM_begin_104 : decode cM_begin 104 = .ok (.iconst 0, 1) := by decide +kernel
theorem dM_begin_105 : decode cM_begin 105 = .ok (.putfield 880, 3) := by decide +kernel
theorem dM_begin_108 : decode cM_begin 108 = .ok (.aload_n 0, 1) := by decide +kernel
theorem dM_begin_109 : decode cM_begin 109 = .ok (.iconst 0, 1) := by decide +kernel
theorem dM_begin_110 : decode cM_begin 110 = .ok (.putfield 849, 3) := by decide +kernel
theorem dM_begin_113 : decode cM_begin 113 = .ok (.aload_n 0, 1) := by decide +kernel
theorem dM_begin_114 : decode cM_begin 114 = .ok (.iconst 0, 1) := by decide +kernel
theorem dM_begin_115 : decode cM_begin 115 = .ok (.putfield 846, 3) := by decide +kernel
theorem dM_begin_118 : decode cM_begin 118 = .ok (.aload_n 0, 1) := by decide +kernel
theorem dM_begin_119 : decode cM_begin 119 = .ok (.iconst 0, 1) := by decide +kernel
theorem dM_begin_120 : decode cM_begin 120 = .ok (.putfield 825, 3) := by decide +kernel
theorem dM_begin_123 : decode cM_begin 123 = .ok (.aload_n 0, 1) := by decide +kernel
theorem dM_begin_124 : decode cM_begin 124 = .ok (.iconst 0, 1) := by decide +kernel
theorem dM_begin_125 : decode cM_begin 125 = .ok (.putfield 1014, 3) := by decide +kernel
theorem dM_begin_128 : decode cM_begin 128 = .ok (.aload_n 0, 1) := by decide +kernel
theorem dM_begin_129 : decode cM_begin 129 = .ok (.iconst 0, 1) := by decide +kernel
theorem dM_begin_130 : decode cM_begin 130 = .ok (.putfield 1017, 3) := by decide +kernel
theorem dM_begin_133 : decode cM_begin 133 = .ok (.iconst 0, 1) := by decide +kernel
theorem dM_begin_134 : decode cM_begin 134 = .ok (.istore_n 2, 1) := by decide +kernel
theorem dM_begin_135 : decode cM_begin 135 = .ok (.iload_n 2, 1) := by decide +kernel
theorem dM_begin_136 : decode cM_begin 136 = .ok (.aload_n 0, 1) := by decide +kernel
theorem dM_begin_137 : decode cM_begin 137 = .ok (.getfield 495, 3) := by decide +kernel
theorem dM_begin_140 : decode cM_begin 140 = .ok (.if_icmp .ge 45, 3) := by decide +kernel
theorem dM_begin_143 : decode cM_begin 143 = .ok (.iconst 0, 1) := by decide +kernel
theorem dM_begin_144 : decode cM_begin 144 = .ok (.istore_n 3, 1) := by decide +kernel
theorem dM_begin_145 : decode cM_begin 145 = .ok (.iload_n 3, 1) := by decide +kernel
theorem dM_begin_146 : decode cM_begin 146 = .ok (.aload_n 0, 1) := by decide +kernel
theorem dM_begin_147 : decode cM_begin 147 = .ok (.getfield 82, 3) := by decide +kernel
theorem dM_begin_150 : decode cM_begin 150 = .ok (.iload_n 2, 1) := by decide +kernel
theorem dM_begin_151 : decode cM_begin 151 = .ok (.iaload, 1) := by decide +kernel
theorem dM_begin_152 : decode cM_begin 152 = .ok (.if_icmp .ge 27, 3) := by decide +kernel
theorem dM_begin_155 : decode cM_begin 155 = .ok (.aload_n 0, 1) := by decide +kernel
theorem dM_begin_156 : decode cM_begin 156 = .ok (.getfield 299, 3) := by decide +kernel
theorem dM_begin_159 : decode cM_begin 159 = .ok (.iconst 0, 1) := by decide +kernel
theorem dM_begin_160 : decode cM_begin 160 = .ok (.iaload, 1) := by decide +kernel
theorem dM_begin_161 : decode cM_begin 161 = .ok (.bipush 12, 2) := by decide +kernel
theorem dM_begin_163 : decode cM_begin 163 = .ok (.if_icmp .ge 16, 3) := by decide +kernel
theorem dM_begin_166 : decode cM_begin 166 = .ok (.aload_n 0, 1) := by decide +kernel
theorem dM_begin_167 : decode cM_begin 167 = .ok (.iload_n 2, 1) := by decide +kernel
theorem dM_begin_168 : decode cM_begin 168 = .ok (.iconst 0, 1) := by decide +kernel
theorem dM_begin_169 : decode cM_begin 169 = .ok (.invokevirtual 977, 3) := by decide +kernel
theorem dM_begin_172 : decode cM_begin 172 = .ok (.pop, 1) := by decide +kernel
theorem dM_begin_173 : decode cM_begin 173 = .ok (.iinc 3 1, 3) := by decide +kernel
theorem dM_begin_176 : decode cM_begin 176 = .ok (.goto (-31), 3) := by decide +kernel
theorem dM_begin_179 : decode cM_begin 179 = .ok (.iinc 2 1, 3) := by decide +kernel
theorem dM_begin_182 : decode cM_begin 182 = .ok (.goto (-47), 3) := by decide +kernel
theorem dM_begin_185 : decode cM_begin 185 = .ok (.aload_n 0, 1) := by decide +kernel
theorem dM_begin_186 : decode cM_begin 186 = .ok (.getfield 299, 3) := by decide +kernel
theorem dM_begin_189 : decode cM_begin 189 = .ok (.iconst 0, 1) := by decide +kernel
theorem dM_begin_190 : decode cM_begin 190 = .ok (.iaload, 1) := by decide +kernel
theorem dM_begin_191 : decode cM_begin 191 = .ok (.ireturn, 1) := by decide +kernel
theorem dM_run_0 : decode cM_run 0 = .ok (.aload_n 0, 1) := by decide +kernel
theorem dM_run_1 : decode cM_run 1 = .ok (.getfield 822, 3) := by decide +kernel
theorem dM_run_4 : decode cM_run 4 = .ok (.ifCond .eq 15, 3) := by decide +kernel
theorem dM_run_7 : decode cM_run 7 = .ok (.iload_n 1, 1) := by decide +kernel
theorem dM_run_8 : decode cM_run 8 = .ok (.iconst 1, 1) := by decide +kernel
theorem dM_run_9 : decode cM_run 9 = .ok (.if_icmp .lt 10, 3) := by decide +kernel
theorem dM_run_12 : decode cM_run 12 = .ok (.iload_n 1, 1) := by decide +kernel
theorem dM_run_13 : decode cM_run 13 = .ok (.sipush 1000, 3) := by decide +kernel
theorem dM_run_16 : decode cM_run 16 = .ok (.if_icmp .le 5, 3) := by decide +kernel
theorem dM_run_19 : decode cM_run 19 = .ok (.iconst (-1), 1) := by decide +kernel
theorem dM_run_20 : decode cM_run 20 = .ok (.ireturn, 1) := by decide +kernel
theorem dM_run_21 : decode cM_run 21 = .ok (.iconst 0, 1) := by decide +kernel
theorem dM_run_22 : decode cM_run 22 = .ok (.istore_n 2, 1) := by decide +kernel
theorem dM_run_23 : decode cM_run 23 = .ok (.iload_n 2, 1) := by decide +kernel
theorem dM_run_24 : decode cM_run 24 = .ok (.iload_n 1, 1) := by decide +kernel
theorem dM_run_25 : decode cM_run 25 = .ok (.if_icmp .ge 77, 3) := by decide +kernel
theorem dM_run_28 : decode cM_run 28 = .ok (.aload_n 0, 1) := by decide +kernel
theorem dM_run_29 : decode cM_run 29 = .ok (.invokevirtual 1020, 3) := by decide +kernel
theorem dM_run_32 : decode cM_run 32 = .ok (.aload_n 0, 1) := by decide +kernel
theorem dM_run_33 : decode cM_run 33 = .ok (.invokevirtual 1023, 3) := by decide +kernel
theorem dM_run_36 : decode cM_run 36 = .ok (.istore_n 3, 1) := by decide +kernel
theorem dM_run_37 : decode cM_run 37 = .ok (.iload_n 3, 1) := by decide +kernel
theorem dM_run_38 : decode cM_run 38 = .ok (.ifCond .lt 42, 3) := by decide +kernel
theorem dM_run_41 : decode cM_run 41 = .ok (.aload_n 0, 1) := by decide +kernel
theorem dM_run_42 : decode cM_run 42 = .ok (.aload_n 0, 1) := by decide +kernel
theorem dM_run_43 : decode cM_run 43 = .ok (.getfield 299, 3) := by decide +kernel
theorem dM_run_46 : decode cM_run 46 = .ok (.iload_n 3, 1) := by decide +kernel
theorem dM_run_47 : decode cM_run 47 = .ok (.invokestatic 840, 3) := by decide +kernel
theorem dM_run_50 : decode cM_run 50 = .ok (.iaload, 1) := by decide +kernel
theorem dM_run_51 : decode cM_run 51 = .ok (.putfield 1008, 3) := by decide +kernel
theorem dM_run_54 : decode cM_run 54 = .ok (.aload_n 0, 1) := by decide +kernel
theorem dM_run_55 : decode cM_run 55 = .ok (.iload_n 3, 1) := by decide +kernel
theorem dM_run_56 : decode cM_run 56 = .ok (.aload_n 0, 1) := by decide +kernel
theorem dM_run_57 : decode cM_run 57 = .ok (.iload_n 3, 1) := by decide +kernel
theorem dM_run_58 : decode cM_run 58 = .ok (.invokevirtual 1026, 3) := by decide +kernel
theorem dM_run_61 : decode cM_run 61 = .ok (.invokevirtual 1029, 3) := by decide +kernel
theorem dM_run_64 : decode cM_run 64 = .ok (.aload_n 0, 1) := by decide +kernel
theorem dM_run_65 : decode cM_run 65 = .ok (.dup, 1) := by decide +kernel
theorem dM_run_66 : decode cM_run 66 = .ok (.getfield 1011, 3) := by decide +kernel
theorem dM_run_69 : decode cM_run 69 = .ok (.iconst 1, 1) := by decide +kernel
theorem dM_run_70 : decode cM_run 70 = .ok (.iadd, 1) := by decide +kernel
theorem dM_run_71 : decode cM_run 71 = .ok (.putfield 1011, 3) := by decide +kernel
theorem dM_run_74 : decode cM_run 74 = .ok (.iinc 2 1, 3) := by decide +kernel
theorem dM_run_77 : decode cM_run 77 = .ok (.goto 22, 3) := by decide +kernel
theorem dM_run_80 : decode cM_run 80 = .ok (.aload_n 0, 1) := by decide +kernel
theorem dM_run_81 : decode cM_run 81 = .ok (.invokevirtual 1032, 3) := by decide +kernel
theorem dM_run_84 : decode cM_run 84 = .ok (.istore 4, 2) := by decide +kernel
theorem dM_run_86 : decode cM_run 86 = .ok (.iload 4, 2) := by decide +kernel
theorem dM_run_88 : decode cM_run 88 = .ok (.ifCond .ge 5, 3) := by decide +kernel
theorem dM_run_91 : decode cM_run 91 = .ok (.iload_n 2, 1) := by decide +kernel
theorem dM_run_92 : decode cM_run 92 = .ok (.ireturn, 1) := by decide +kernel
theorem dM_run_93 : decode cM_run 93 = .ok (.aload_n 0, 1) := by decide +kernel
theorem dM_run_94 : decode cM_run 94 = .ok (.iload 4, 2) := by decide +kernel
theorem dM_run_96 : decode cM_run 96 = .ok (.putfield 877, 3) := by decide +kernel
theorem dM_run_99 : decode cM_run 99 = .ok (.goto (-76), 3) := by decide +kernel
theorem dM_run_102 : decode cM_run 102 = .ok (.iload_n 2, 1) := by decide +kernel
theorem dM_run_103 : decode cM_run 103 = .ok (.ireturn, 1) := by decide +kernel
theorem dM_go_0 : decode cM_go 0 = .ok (.aload_n 0, 1) := by decide +kernel
theorem dM_go_1 : decode cM_go 1 = .ok (.getfield 822, 3) := by decide +kernel
theorem dM_go_4 : decode cM_go 4 = .ok (.ifCond .ne 5, 3) := by decide +kernel
theorem dM_go_7 : decode cM_go 7 = .ok (.iconst (-1), 1) := by decide +kernel
theorem dM_go_8 : decode cM_go 8 = .ok (.ireturn, 1) := by decide +kernel
theorem dM_go_9 : decode cM_go 9 = .ok (.aload_n 0, 1) := by decide +kernel
theorem dM_go_10 : decode cM_go 10 = .ok (.invokevirtual 1020, 3) := by decide +kernel
theorem dM_go_13 : decode cM_go 13 = .ok (.aload_n 0, 1) := by decide +kernel
theorem dM_go_14 : decode cM_go 14 = .ok (.iload_n 1, 1) := by decide +kernel
theorem dM_go_15 : decode cM_go 15 = .ok (.invokevirtual 864, 3) := by decide +kernel
theorem dM_go_18 : decode cM_go 18 = .ok (.istore_n 2, 1) := by decide +kernel
theorem dM_go_19 : decode cM_go 19 = .ok (.iload_n 1, 1) := by decide +kernel
theorem dM_go_20 : decode cM_go 20 = .ok (.iconst 1, 1) := by decide +kernel
theorem dM_go_21 : decode cM_go 21 = .ok (.if_icmp .lt 7, 3) := by decide +kernel
theorem dM_go_24 : decode cM_go 24 = .ok (.iload_n 2, 1) := by decide +kernel
theorem dM_go_25 : decode cM_go 25 = .ok (.ifCond .ge 5, 3) := by decide +kernel
theorem dM_go_28 : decode cM_go 28 = .ok (.iconst 0, 1) := by decide +kernel
theorem dM_go_29 : decode cM_go 29 = .ok (.ireturn, 1) := by decide +kernel
theorem dM_go_30 : decode cM_go 30 = .ok (.aload_n 0, 1) := by decide +kernel
theorem dM_go_31 : decode cM_go 31 = .ok (.iload_n 2, 1) := by decide +kernel
theorem dM_go_32 : decode cM_go 32 = .ok (.invokevirtual 1026, 3) := by decide +kernel
theorem dM_go_35 : decode cM_go 35 = .ok (.istore_n 3, 1) := by decide +kernel
theorem dM_go_36 : decode cM_go 36 = .ok (.iload_n 3, 1) := by decide +kernel
theorem dM_go_37 : decode cM_go 37 = .ok (.ifCond .ne 5, 3) := by decide +kernel
theorem dM_go_40 : decode cM_go 40 = .ok (.iconst 0, 1) := by decide +kernel
theorem dM_go_41 : decode cM_go 41 = .ok (.ireturn, 1) := by decide +kernel
theorem dM_go_42 : decode cM_go 42 = .ok (.aload_n 0, 1) := by decide +kernel
theorem dM_go_43 : decode cM_go 43 = .ok (.iload_n 1, 1) := by decide +kernel
theorem dM_go_44 : decode cM_go 44 = .ok (.putfield 1008, 3) := by decide +kernel
theorem dM_go_47 : decode cM_go 47 = .ok (.aload_n 0, 1) := by decide +kernel
theorem dM_go_48 : decode cM_go 48 = .ok (.iload_n 2, 1) := by decide +kernel
theorem dM_go_49 : decode cM_go 49 = .ok (.iload_n 3, 1) := by decide +kernel
theorem dM_go_50 : decode cM_go 50 = .ok (.invokevirtual 1029, 3) := by decide +kernel
theorem dM_go_53 : decode cM_go 53 = .ok (.aload_n 0, 1) := by decide +kernel
theorem dM_go_54 : decode cM_go 54 = .ok (.dup, 1) := by decide +kernel
theorem dM_go_55 : decode cM_go 55 = .ok (.getfield 1011, 3) := by decide +kernel
theorem dM_go_58 : decode cM_go 58 = .ok (.iconst 1, 1) := by decide +kernel
theorem dM_go_59 : decode cM_go 59 = .ok (.iadd, 1) := by decide +kernel
theorem dM_go_60 : decode cM_go 60 = .ok (.putfield 1011, 3) := by decide +kernel
theorem dM_go_63 : decode cM_go 63 = .ok (.iconst 1, 1) := by decide +kernel
theorem dM_go_64 : decode cM_go 64 = .ok (.ireturn, 1) := by decide +kernel
theorem dM_none_0 : decode cM_none 0 = .ok (.aload_n 0, 1) := by decide +kernel
theorem dM_none_1 : decode cM_none 1 = .ok (.getfield 822, 3) := by decide +kernel
theorem dM_none_4 : decode cM_none 4 = .ok (.ifCond .ne 5, 3) := by decide +kernel
theorem dM_none_7 : decode cM_none 7 = .ok (.iconst (-1), 1) := by decide +kernel
theorem dM_none_8 : decode cM_none 8 = .ok (.ireturn, 1) := by decide +kernel
theorem dM_none_9 : decode cM_none 9 = .ok (.aload_n 0, 1) := by decide +kernel
theorem dM_none_10 : decode cM_none 10 = .ok (.invokevirtual 1020, 3) := by decide +kernel
theorem dM_none_13 : decode cM_none 13 = .ok (.aload_n 0, 1) := by decide +kernel
theorem dM_none_14 : decode cM_none 14 = .ok (.iload_n 1, 1) := by decide +kernel
theorem dM_none_15 : decode cM_none 15 = .ok (.invokevirtual 864, 3) := by decide +kernel
theorem dM_none_18 : decode cM_none 18 = .ok (.istore_n 3, 1) := by decide +kernel
theorem dM_none_19 : decode cM_none 19 = .ok (.iload_n 1, 1) := by decide +kernel
theorem dM_none_20 : decode cM_none 20 = .ok (.iconst 1, 1) := by decide +kernel
theorem dM_none_21 : decode cM_none 21 = .ok (.if_icmp .lt 7, 3) := by decide +kernel
theorem dM_none_24 : decode cM_none 24 = .ok (.iload_n 3, 1) := by decide +kernel
theorem dM_none_25 : decode cM_none 25 = .ok (.ifCond .ge 7, 3) := by decide +kernel
theorem dM_none_28 : decode cM_none 28 = .ok (.iconst (-1), 1) := by decide +kernel
theorem dM_none_29 : decode cM_none 29 = .ok (.goto 9, 3) := by decide +kernel
theorem dM_none_32 : decode cM_none 32 = .ok (.aload_n 0, 1) := by decide +kernel
theorem dM_none_33 : decode cM_none 33 = .ok (.iload_n 3, 1) := by decide +kernel
theorem dM_none_34 : decode cM_none 34 = .ok (.iload_n 2, 1) := by decide +kernel
theorem dM_none_35 : decode cM_none 35 = .ok (.invokevirtual 1035, 3) := by decide +kernel
theorem dM_none_38 : decode cM_none 38 = .ok (.istore 4, 2) := by decide +kernel
theorem dM_none_40 : decode cM_none 40 = .ok (.iload 4, 2) := by decide +kernel
theorem dM_none_42 : decode cM_none 42 = .ok (.ifCond .ge 5, 3) := by decide +kernel
theorem dM_none_45 : decode cM_none 45 = .ok (.iconst 0, 1) := by decide +kernel
theorem dM_none_46 : decode cM_none 46 = .ok (.ireturn, 1) := by decide +kernel
theorem dM_none_47 : decode cM_none 47 = .ok (.aload_n 0, 1) := by decide +kernel
theorem dM_none_48 : decode cM_none 48 = .ok (.iload_n 3, 1) := by decide +kernel
theorem dM_none_49 : decode cM_none 49 = .ok (.iload 4, 2) := by decide +kernel
theorem dM_none_51 : decode cM_none 51 = .ok (.invokevirtual 1038, 3) := by decide +kernel
theorem dM_none_54 : decode cM_none 54 = .ok (.iconst 1, 1) := by decide +kernel
theorem dM_none_55 : decode cM_none 55 = .ok (.ireturn, 1) := by decide +kernel
theorem dM_wait_0 : decode cM_wait 0 = .ok (.aload_n 0, 1) := by decide +kernel
theorem dM_wait_1 : decode cM_wait 1 = .ok (.getfield 822, 3) := by decide +kernel
theorem dM_wait_4 : decode cM_wait 4 = .ok (.ifCond .eq 14, 3) := by decide +kernel
theorem dM_wait_7 : decode cM_wait 7 = .ok (.iload_n 1, 1) := by decide +kernel
theorem dM_wait_8 : decode cM_wait 8 = .ok (.ifCond .lt 10, 3) := by decide +kernel
theorem dM_wait_11 : decode cM_wait 11 = .ok (.iload_n 1, 1) := by decide +kernel
theorem dM_wait_12 : decode cM_wait 12 = .ok (.ldc_w 1041, 3) := by decide +kernel
theorem dM_wait_15 : decode cM_wait 15 = .ok (.if_icmp .le 5, 3) := by decide +kernel
theorem dM_wait_18 : decode cM_wait 18 = .ok (.iconst (-1), 1) := by decide +kernel
theorem dM_wait_19 : decode cM_wait 19 = .ok (.ireturn, 1) := by decide +kernel
theorem dM_wait_20 : decode cM_wait 20 = .ok (.aload_n 0, 1) := by decide +kernel
theorem dM_wait_21 : decode cM_wait 21 = .ok (.aload_n 0, 1) := by decide +kernel
theorem dM_wait_22 : decode cM_wait 22 = .ok (.getfield 877, 3) := by decide +kernel
theorem dM_wait_25 : decode cM_wait 25 = .ok (.ldc_w 964, 3) := by decide +kernel
theorem dM_wait_28 : decode cM_wait 28 = .ok (.iload_n 1, 1) := by decide +kernel
theorem dM_wait_29 : decode cM_wait 29 = .ok (.isub, 1) := by decide +kernel
theorem dM_wait_30 : decode cM_wait 30 = .ok (.if_icmp .le 9, 3) := by decide +kernel
theorem dM_wait_33 : decode cM_wait 33 = .ok (.ldc_w 964, 3) := by decide +kernel
theorem dM_wait_36 : decode cM_wait 36 = .ok (.goto 9, 3) := by decide +kernel
theorem dM_wait_39 : decode cM_wait 39 = .ok (.aload_n 0, 1) := by decide +kernel
theorem dM_wait_40 : decode cM_wait 40 = .ok (.getfield 877, 3) := by decide +kernel
theorem dM_wait_43 : decode cM_wait 43 = .ok (.iload_n 1, 1) := by decide +kernel
theorem dM_wait_44 : decode cM_wait 44 = .ok (.iadd, 1) := by decide +kernel
theorem dM_wait_45 : decode cM_wait 45 = .ok (.putfield 877, 3) := by decide +kernel
theorem dM_wait_48 : decode cM_wait 48 = .ok (.aload_n 0, 1) := by decide +kernel
theorem dM_wait_49 : decode cM_wait 49 = .ok (.getfield 877, 3) := by decide +kernel
theorem dM_wait_52 : decode cM_wait 52 = .ok (.ireturn, 1) := by decide +kernel
theorem dM_put__0 : decode cM_put_ 0 = .ok (.aload_n 0, 1) := by decide +kernel
theorem dM_put__1 : decode cM_put_ 1 = .ok (.getfield 822, 3) := by decide +kernel
theorem dM_put__4 : decode cM_put_ 4 = .ok (.ifCond .ne 5, 3) := by decide +kernel
theorem dM_put__7 : decode cM_put_ 7 = .ok (.iconst (-1), 1) := by decide +kernel
theorem dM_put__8 : decode cM_put_ 8 = .ok (.ireturn, 1) := by decide +kernel
theorem dM_put__9 : decode cM_put_ 9 = .ok (.aload_n 0, 1) := by decide +kernel
theorem dM_put__10 : decode cM_put_ 10 = .ok (.iload_n 2, 1) := by decide +kernel
theorem dM_put__11 : decode cM_put_ 11 = .ok (.invokevirtual 864, 3) := by decide +kernel
theorem dM_put__14 : decode cM_put_ 14 = .ok (.istore 6, 2) := by decide +kernel
theorem dM_put__16 : decode cM_put_ 16 = .ok (.iload_n 1, 1) := by decide +kernel
theorem dM_put__17 : decode cM_put_ 17 = .ok (.ifCond .lt 21, 3) := by decide +kernel
theorem dM_put__20 : decode cM_put_ 20 = .ok (.iload_n 1, 1) := by decide +kernel
theorem dM_put__21 : decode cM_put_ 21 = .ok (.aload_n 0, 1) := by decide +kernel
theorem dM_put__22 : decode cM_put_ 22 = .ok (.getfield 489, 3) := by decide +kernel
theorem dM_put__25 : decode cM_put_ 25 = .ok (.if_icmp .ge 13, 3) := by decide +kernel
theorem dM_put__28 : decode cM_put_ 28 = .ok (.iload_n 2, 1) := by decide +kernel
theorem dM_put__29 : decode cM_put_ 29 = .ok (.iconst 1, 1) := by decide +kernel
theorem dM_put__30 : decode cM_put_ 30 = .ok (.if_icmp .lt 8, 3) := by decide +kernel
theorem dM_put__33 : decode cM_put_ 33 = .ok (.iload 6, 2) := by decide +kernel
theorem dM_put__35 : decode cM_put_ 35 = .ok (.ifCond .ge 5, 3) := by decide +kernel
theorem dM_put__38 : decode cM_put_ 38 = .ok (.iconst 0, 1) := by decide +kernel
theorem dM_put__39 : decode cM_put_ 39 = .ok (.ireturn, 1) := by decide +kernel
theorem dM_put__40 : decode cM_put_ 40 = .ok (.aload_n 0, 1) := by decide +kernel
theorem dM_put__41 : decode cM_put_ 41 = .ok (.iconst (-1), 1) := by decide +kernel
theorem dM_put__42 : decode cM_put_ 42 = .ok (.aload_n 0, 1) := by decide +kernel
theorem dM_put__43 : decode cM_put_ 43 = .ok (.getfield 299, 3) := by decide +kernel
theorem dM_put__46 : decode cM_put_ 46 = .ok (.iload 6, 2) := by decide +kernel
theorem dM_put__48 : decode cM_put_ 48 = .ok (.invokestatic 840, 3) := by decide +kernel
theorem dM_put__51 : decode cM_put_ 51 = .ok (.iconst 1, 1) := by decide +kernel
theorem dM_put__52 : decode cM_put_ 52 = .ok (.iadd, 1) := by decide +kernel
theorem dM_put__53 : decode cM_put_ 53 = .ok (.iaload, 1) := by decide +kernel
theorem dM_put__54 : decode cM_put_ 54 = .ok (.iload_n 1, 1) := by decide +kernel
theorem dM_put__55 : decode cM_put_ 55 = .ok (.iconst 0, 1) := by decide +kernel
theorem dM_put__56 : decode cM_put_ 56 = .ok (.invokevirtual 980, 3) := by decide +kernel
theorem dM_put__59 : decode cM_put_ 59 = .ok (.istore 7, 2) := by decide +kernel
theorem dM_put__61 : decode cM_put_ 61 = .ok (.iload 7, 2) := by decide +kernel
theorem dM_put__63 : decode cM_put_ 63 = .ok (.ifCond .ge 5, 3) := by decide +kernel
theorem dM_put__66 : decode cM_put_ 66 = .ok (.iconst 0, 1) := by decide +kernel
theorem dM_put__67 : decode cM_put_ 67 = .ok (.ireturn, 1) := by decide +kernel
theorem dM_put__68 : decode cM_put_ 68 = .ok (.iconst 0, 1) := by decide +kernel
theorem dM_put__69 : decode cM_put_ 69 = .ok (.istore 8, 2) := by decide +kernel
theorem dM_put__71 : decode cM_put_ 71 = .ok (.iload 8, 2) := by decide +kernel
theorem dM_put__73 : decode cM_put_ 73 = .ok (.iconst 3, 1) := by decide +kernel
theorem dM_put__74 : decode cM_put_ 74 = .ok (.if_icmp .ge 81, 3) := by decide +kernel
theorem dM_put__77 : decode cM_put_ 77 = .ok (.iload 8, 2) := by decide +kernel
theorem dM_put__79 : decode cM_put_ 79 = .ok (.ifCond .ne 7, 3) := by decide +kernel
theorem dM_put__82 : decode cM_put_ 82 = .ok (.iload_n 3, 1) := by decide +kernel
theorem dM_put__83 : decode cM_put_ 83 = .ok (.goto 16, 3) := by decide +kernel
theorem dM_put__86 : decode cM_put_ 86 = .ok (.iload 8, 2) := by decide +kernel
theorem dM_put__88 : decode cM_put_ 88 = .ok (.iconst 1, 1) := by decide +kernel
theorem dM_put__89 : decode cM_put_ 89 = .ok (.if_icmp .ne 8, 3) := by decide +kernel
theorem dM_put__92 : decode cM_put_ 92 = .ok (.iload 4, 2) := by decide +kernel
theorem dM_put__94 : decode cM_put_ 94 = .ok (.goto 5, 3) := by decide +kernel
theorem dM_put__97 : decode cM_put_ 97 = .ok (.iload 5, 2) := by decide +kernel
theorem dM_put__99 : decode cM_put_ 99 = .ok (.istore 9, 2) := by decide +kernel
theorem dM_put__101 : decode cM_put_ 101 = .ok (.aload_n 0, 1) := by decide +kernel
theorem dM_put__102 : decode cM_put_ 102 = .ok (.getfield 308, 3) := by decide +kernel
theorem dM_put__105 : decode cM_put_ 105 = .ok (.iload 8, 2) := by decide +kernel
theorem dM_put__107 : decode cM_put_ 107 = .ok (.iload 8, 2) := by decide +kernel
theorem dM_put__109 : decode cM_put_ 109 = .ok (.aload_n 0, 1) := by decide +kernel
theorem dM_put__110 : decode cM_put_ 110 = .ok (.getfield 45, 3) := by decide +kernel
theorem dM_put__113 : decode cM_put_ 113 = .ok (.iload_n 1, 1) := by decide +kernel
theorem dM_put__114 : decode cM_put_ 114 = .ok (.iaload, 1) := by decide +kernel
theorem dM_put__115 : decode cM_put_ 115 = .ok (.if_icmp .lt 7, 3) := by decide +kernel
theorem dM_put__118 : decode cM_put_ 118 = .ok (.iconst 0, 1) := by decide +kernel
theorem dM_put__119 : decode cM_put_ 119 = .ok (.goto 29, 3) := by decide +kernel
theorem dM_put__122 : decode cM_put_ 122 = .ok (.aload_n 0, 1) := by decide +kernel
theorem dM_put__123 : decode cM_put_ 123 = .ok (.getfield 48, 3) := by decide +kernel
theorem dM_put__126 : decode cM_put_ 126 = .ok (.iconst 3, 1) := by decide +kernel
theorem dM_put__127 : decode cM_put_ 127 = .ok (.iload_n 1, 1) := by decide +kernel
theorem dM_put__128 : decode cM_put_ 128 = .ok (.imul, 1) := by decide +kernel
theorem dM_put__129 : decode cM_put_ 129 = .ok (.iload 8, 2) := by decide +kernel
theorem dM_put__131 : decode cM_put_ 131 = .ok (.iadd, 1) := by decide +kernel
theorem dM_put__132 : decode cM_put_ 132 = .ok (.iaload, 1) := by decide +kernel
theorem dM_put__133 : decode cM_put_ 133 = .ok (.iconst 2, 1) := by decide +kernel
theorem dM_put__134 : decode cM_put_ 134 = .ok (.if_icmp .ne 12, 3) := by decide +kernel
theorem dM_put__137 : decode cM_put_ 137 = .ok (.iload 9, 2) := by decide +kernel
theorem dM_put__139 : decode cM_put_ 139 = .ok (.ifCond .eq 7, 3) := by decide +kernel
theorem dM_put__142 : decode cM_put_ 142 = .ok (.iconst 1, 1) := by decide +kernel
theorem dM_put__143 : decode cM_put_ 143 = .ok (.goto 5, 3) := by decide +kernel
theorem dM_put__146 : decode cM_put_ 146 = .ok (.iload 9, 2) := by decide +kernel
theorem dM_put__148 : decode cM_put_ 148 = .ok (.iastore, 1) := by decide +kernel
theorem dM_put__149 : decode cM_put_ 149 = .ok (.iinc 8 1, 3) := by decide +kernel
theorem dM_put__152 : decode cM_put_ 152 = .ok (.goto (-81), 3) := by decide +kernel
theorem dM_put__155 : decode cM_put_ 155 = .ok (.aload_n 0, 1) := by decide +kernel
theorem dM_put__156 : decode cM_put_ 156 = .ok (.iload 7, 2) := by decide +kernel
theorem dM_put__158 : decode cM_put_ 158 = .ok (.iload_n 1, 1) := by decide +kernel
theorem dM_put__159 : decode cM_put_ 159 = .ok (.iconst 0, 1) := by decide +kernel
theorem dM_put__160 : decode cM_put_ 160 = .ok (.iload_n 2, 1) := by decide +kernel
theorem dM_put__161 : decode cM_put_ 161 = .ok (.invokevirtual 987, 3) := by decide +kernel
theorem dM_put__164 : decode cM_put_ 164 = .ok (.iconst 1, 1) := by decide +kernel
theorem dM_put__165 : decode cM_put_ 165 = .ok (.ireturn, 1) := by decide +kernel
theorem dM_slotAsked_0 : decode cM_slotAsked 0 = .ok (.aload_n 0, 1) := by decide +kernel
theorem dM_slotAsked_1 : decode cM_slotAsked 1 = .ok (.getfield 822, 3) := by decide +kernel
theorem dM_slotAsked_4 : decode cM_slotAsked 4 = .ok (.ifCond .eq 15, 3) := by decide +kernel
theorem dM_slotAsked_7 : decode cM_slotAsked 7 = .ok (.iload_n 1, 1) := by decide +kernel
theorem dM_slotAsked_8 : decode cM_slotAsked 8 = .ok (.ifCond .le 11, 3) := by decide +kernel
theorem dM_slotAsked_11 : decode cM_slotAsked 11 = .ok (.aload_n 0, 1) := by decide +kernel
theorem dM_slotAsked_12 : decode cM_slotAsked 12 = .ok (.iload_n 1, 1) := by decide +kernel
theorem dM_slotAsked_13 : decode cM_slotAsked 13 = .ok (.invokevirtual 864, 3) := by decide +kernel
theorem dM_slotAsked_16 : decode cM_slotAsked 16 = .ok (.goto 4, 3) := by decide +kernel
theorem dM_slotAsked_19 : decode cM_slotAsked 19 = .ok (.iconst (-1), 1) := by decide +kernel
theorem dM_slotAsked_20 : decode cM_slotAsked 20 = .ok (.ireturn, 1) := by decide +kernel
theorem dM_alive_0 : decode cM_alive 0 = .ok (.aload_n 0, 1) := by decide +kernel
theorem dM_alive_1 : decode cM_alive 1 = .ok (.getfield 822, 3) := by decide +kernel
theorem dM_alive_4 : decode cM_alive 4 = .ok (.ifCond .eq 29, 3) := by decide +kernel
theorem dM_alive_7 : decode cM_alive 7 = .ok (.iload_n 1, 1) := by decide +kernel
theorem dM_alive_8 : decode cM_alive 8 = .ok (.ifCond .lt 25, 3) := by decide +kernel
theorem dM_alive_11 : decode cM_alive 11 = .ok (.iload_n 1, 1) := by decide +kernel
theorem dM_alive_12 : decode cM_alive 12 = .ok (.aload_n 0, 1) := by decide +kernel
theorem dM_alive_13 : decode cM_alive 13 = .ok (.getfield 299, 3) := by decide +kernel
theorem dM_alive_16 : decode cM_alive 16 = .ok (.iconst 0, 1) := by decide +kernel
theorem dM_alive_17 : decode cM_alive 17 = .ok (.iaload, 1) := by decide +kernel
theorem dM_alive_18 : decode cM_alive 18 = .ok (.if_icmp .ge 15, 3) := by decide +kernel
theorem dM_alive_21 : decode cM_alive 21 = .ok (.aload_n 0, 1) := by decide +kernel
theorem dM_alive_22 : decode cM_alive 22 = .ok (.getfield 299, 3) := by decide +kernel
theorem dM_alive_25 : decode cM_alive 25 = .ok (.iload_n 1, 1) := by decide +kernel
theorem dM_alive_26 : decode cM_alive 26 = .ok (.invokestatic 840, 3) := by decide +kernel
theorem dM_alive_29 : decode cM_alive 29 = .ok (.iaload, 1) := by decide +kernel
theorem dM_alive_30 : decode cM_alive 30 = .ok (.goto 4, 3) := by decide +kernel
theorem dM_alive_33 : decode cM_alive 33 = .ok (.iconst (-1), 1) := by decide +kernel
theorem dM_alive_34 : decode cM_alive 34 = .ok (.ireturn, 1) := by decide +kernel
theorem dM_instance_0 : decode cM_instance 0 = .ok (.aload_n 0, 1) := by decide +kernel
theorem dM_instance_1 : decode cM_instance 1 = .ok (.iload_n 1, 1) := by decide +kernel
theorem dM_instance_2 : decode cM_instance 2 = .ok (.invokevirtual 1042, 3) := by decide +kernel
theorem dM_instance_5 : decode cM_instance 5 = .ok (.istore_n 3, 1) := by decide +kernel
theorem dM_instance_6 : decode cM_instance 6 = .ok (.iload_n 3, 1) := by decide +kernel
theorem dM_instance_7 : decode cM_instance 7 = .ok (.ifCond .ge 5, 3) := by decide +kernel
theorem dM_instance_10 : decode cM_instance 10 = .ok (.iconst (-1), 1) := by decide +kernel
theorem dM_instance_11 : decode cM_instance 11 = .ok (.ireturn, 1) := by decide +kernel
theorem dM_instance_12 : decode cM_instance 12 = .ok (.iload_n 3, 1) := by decide +kernel
theorem dM_instance_13 : decode cM_instance 13 = .ok (.invokestatic 840, 3) := by decide +kernel
theorem dM_instance_16 : decode cM_instance 16 = .ok (.istore 4, 2) := by decide +kernel
theorem dM_instance_18 : decode cM_instance 18 = .ok (.iload_n 2, 1) := by decide +kernel
theorem dM_instance_19 : decode cM_instance 19 = .ok (.tableswitch 108 0 6 #[41, 51, 61, 72, 82, 92, 102], 41) := by decide +kernel
theorem dM_instance_60 : decode cM_instance 60 = .ok (.aload_n 0, 1) := by decide +kernel
theorem dM_instance_61 : decode cM_instance 61 = .ok (.getfield 299, 3) := by decide +kernel
theorem dM_instance_64 : decode cM_instance 64 = .ok (.iload 4, 2) := by decide +kernel
theorem dM_instance_66 : decode cM_instance 66 = .ok (.iconst 1, 1) := by decide +kernel
theorem dM_instance_67 : decode cM_instance 67 = .ok (.iadd, 1) := by decide +kernel
theorem dM_instance_68 : decode cM_instance 68 = .ok (.iaload, 1) := by decide +kernel
theorem dM_instance_69 : decode cM_instance 69 = .ok (.ireturn, 1) := by decide +kernel
theorem dM_instance_70 : decode cM_instance 70 = .ok (.aload_n 0, 1) := by decide +kernel
theorem dM_instance_71 : decode cM_instance 71 = .ok (.getfield 299, 3) := by decide +kernel
theorem dM_instance_74 : decode cM_instance 74 = .ok (.iload 4, 2) := by decide +kernel
theorem dM_instance_76 : decode cM_instance 76 = .ok (.iconst 2, 1) := by decide +kernel
theorem dM_instance_77 : decode cM_instance 77 = .ok (.iadd, 1) := by decide +kernel
theorem dM_instance_78 : decode cM_instance 78 = .ok (.iaload, 1) := by decide +kernel
theorem dM_instance_79 : decode cM_instance 79 = .ok (.ireturn, 1) := by decide +kernel
theorem dM_instance_80 : decode cM_instance 80 = .ok (.aload_n 0, 1) := by decide +kernel
theorem dM_instance_81 : decode cM_instance 81 = .ok (.getfield 299, 3) := by decide +kernel
theorem dM_instance_84 : decode cM_instance 84 = .ok (.iload 4, 2) := by decide +kernel
theorem dM_instance_86 : decode cM_instance 86 = .ok (.bipush 25, 2) := by decide +kernel
theorem dM_instance_88 : decode cM_instance 88 = .ok (.iadd, 1) := by decide +kernel
theorem dM_instance_89 : decode cM_instance 89 = .ok (.iaload, 1) := by decide +kernel
theorem dM_instance_90 : decode cM_instance 90 = .ok (.ireturn, 1) := by decide +kernel
theorem dM_instance_91 : decode cM_instance 91 = .ok (.aload_n 0, 1) := by decide +kernel
theorem dM_instance_92 : decode cM_instance 92 = .ok (.getfield 299, 3) := by decide +kernel
theorem dM_instance_95 : decode cM_instance 95 = .ok (.iload 4, 2) := by decide +kernel
theorem dM_instance_97 : decode cM_instance 97 = .ok (.iconst 3, 1) := by decide +kernel
theorem dM_instance_98 : decode cM_instance 98 = .ok (.iadd, 1) := by decide +kernel
theorem dM_instance_99 : decode cM_instance 99 = .ok (.iaload, 1) := by decide +kernel
theorem dM_instance_100 : decode cM_instance 100 = .ok (.ireturn, 1) := by decide +kernel
theorem dM_instance_101 : decode cM_instance 101 = .ok (.aload_n 0, 1) := by decide +kernel
theorem dM_instance_102 : decode cM_instance 102 = .ok (.getfield 299, 3) := by decide +kernel
theorem dM_instance_105 : decode cM_instance 105 = .ok (.iload 4, 2) := by decide +kernel
theorem dM_instance_107 : decode cM_instance 107 = .ok (.iconst 4, 1) := by decide +kernel
theorem dM_instance_108 : decode cM_instance 108 = .ok (.iadd, 1) := by decide +kernel
theorem dM_instance_109 : decode cM_instance 109 = .ok (.iaload, 1) := by decide +kernel
theorem dM_instance_110 : decode cM_instance 110 = .ok (.ireturn, 1) := by decide +kernel
theorem dM_instance_111 : decode cM_instance 111 = .ok (.aload_n 0, 1) := by decide +kernel
theorem dM_instance_112 : decode cM_instance 112 = .ok (.getfield 299, 3) := by decide +kernel
theorem dM_instance_115 : decode cM_instance 115 = .ok (.iload 4, 2) := by decide +kernel
theorem dM_instance_117 : decode cM_instance 117 = .ok (.iconst 5, 1) := by decide +kernel
theorem dM_instance_118 : decode cM_instance 118 = .ok (.iadd, 1) := by decide +kernel
theorem dM_instance_119 : decode cM_instance 119 = .ok (.iaload, 1) := by decide +kernel
theorem dM_instance_120 : decode cM_instance 120 = .ok (.ireturn, 1) := by decide +kernel
theorem dM_instance_121 : decode cM_instance 121 = .ok (.aload_n 0, 1) := by decide +kernel
theorem dM_instance_122 : decode cM_instance 122 = .ok (.iload_n 3, 1) := by decide +kernel
theorem dM_instance_123 : decode cM_instance 123 = .ok (.invokevirtual 1026, 3) := by decide +kernel
theorem dM_instance_126 : decode cM_instance 126 = .ok (.ireturn, 1) := by decide +kernel
theorem dM_instance_127 : decode cM_instance 127 = .ok (.iconst (-1), 1) := by decide +kernel
theorem dM_instance_128 : decode cM_instance 128 = .ok (.ireturn, 1) := by decide +kernel
theorem dM_cell_0 : decode cM_cell 0 = .ok (.aload_n 0, 1) := by decide +kernel
theorem dM_cell_1 : decode cM_cell 1 = .ok (.iload_n 1, 1) := by decide +kernel
theorem dM_cell_2 : decode cM_cell 2 = .ok (.invokevirtual 1042, 3) := by decide +kernel
theorem dM_cell_5 : decode cM_cell 5 = .ok (.istore_n 3, 1) := by decide +kernel
theorem dM_cell_6 : decode cM_cell 6 = .ok (.iload_n 3, 1) := by decide +kernel
theorem dM_cell_7 : decode cM_cell 7 = .ok (.ifCond .lt 27, 3) := by decide +kernel
theorem dM_cell_10 : decode cM_cell 10 = .ok (.iload_n 2, 1) := by decide +kernel
theorem dM_cell_11 : decode cM_cell 11 = .ok (.ifCond .lt 23, 3) := by decide +kernel
theorem dM_cell_14 : decode cM_cell 14 = .ok (.iload_n 2, 1) := by decide +kernel
theorem dM_cell_15 : decode cM_cell 15 = .ok (.aload_n 0, 1) := by decide +kernel
theorem dM_cell_16 : decode cM_cell 16 = .ok (.getfield 94, 3) := by decide +kernel
theorem dM_cell_19 : decode cM_cell 19 = .ok (.aload_n 0, 1) := by decide +kernel
theorem dM_cell_20 : decode cM_cell 20 = .ok (.getfield 299, 3) := by decide +kernel
theorem dM_cell_23 : decode cM_cell 23 = .ok (.iload_n 3, 1) := by decide +kernel
theorem dM_cell_24 : decode cM_cell 24 = .ok (.invokestatic 840, 3) := by decide +kernel
theorem dM_cell_27 : decode cM_cell 27 = .ok (.iconst 1, 1) := by decide +kernel
theorem dM_cell_28 : decode cM_cell 28 = .ok (.iadd, 1) := by decide +kernel
theorem dM_cell_29 : decode cM_cell 29 = .ok (.iaload, 1) := by decide +kernel
theorem dM_cell_30 : decode cM_cell 30 = .ok (.iaload, 1) := by decide +kernel
theorem dM_cell_31 : decode cM_cell 31 = .ok (.if_icmp .lt 7, 3) := by decide +kernel
theorem dM_cell_34 : decode cM_cell 34 = .ok (.iconst 0, 1) := by decide +kernel
theorem dM_cell_35 : decode cM_cell 35 = .ok (.goto 17, 3) := by decide +kernel
theorem dM_cell_38 : decode cM_cell 38 = .ok (.aload_n 0, 1) := by decide +kernel
theorem dM_cell_39 : decode cM_cell 39 = .ok (.getfield 299, 3) := by decide +kernel
theorem dM_cell_42 : decode cM_cell 42 = .ok (.iload_n 3, 1) := by decide +kernel
theorem dM_cell_43 : decode cM_cell 43 = .ok (.invokestatic 840, 3) := by decide +kernel
theorem dM_cell_46 : decode cM_cell 46 = .ok (.bipush 6, 2) := by decide +kernel
theorem dM_cell_48 : decode cM_cell 48 = .ok (.iadd, 1) := by decide +kernel
theorem dM_cell_49 : decode cM_cell 49 = .ok (.iload_n 2, 1) := by decide +kernel
theorem dM_cell_50 : decode cM_cell 50 = .ok (.iadd, 1) := by decide +kernel
theorem dM_cell_51 : decode cM_cell 51 = .ok (.iaload, 1) := by decide +kernel
theorem dM_cell_52 : decode cM_cell 52 = .ok (.ireturn, 1) := by decide +kernel
theorem dM_timer_0 : decode cM_timer 0 = .ok (.aload_n 0, 1) := by decide +kernel
theorem dM_timer_1 : decode cM_timer 1 = .ok (.iload_n 1, 1) := by decide +kernel
theorem dM_timer_2 : decode cM_timer 2 = .ok (.invokevirtual 1042, 3) := by decide +kernel
theorem dM_timer_5 : decode cM_timer 5 = .ok (.istore_n 3, 1) := by decide +kernel
theorem dM_timer_6 : decode cM_timer 6 = .ok (.iload_n 3, 1) := by decide +kernel
theorem dM_timer_7 : decode cM_timer 7 = .ok (.ifCond .lt 27, 3) := by decide +kernel
theorem dM_timer_10 : decode cM_timer 10 = .ok (.iload_n 2, 1) := by decide +kernel
theorem dM_timer_11 : decode cM_timer 11 = .ok (.ifCond .lt 23, 3) := by decide +kernel
theorem dM_timer_14 : decode cM_timer 14 = .ok (.iload_n 2, 1) := by decide +kernel
theorem dM_timer_15 : decode cM_timer 15 = .ok (.aload_n 0, 1) := by decide +kernel
theorem dM_timer_16 : decode cM_timer 16 = .ok (.getfield 97, 3) := by decide +kernel
theorem dM_timer_19 : decode cM_timer 19 = .ok (.aload_n 0, 1) := by decide +kernel
theorem dM_timer_20 : decode cM_timer 20 = .ok (.getfield 299, 3) := by decide +kernel
theorem dM_timer_23 : decode cM_timer 23 = .ok (.iload_n 3, 1) := by decide +kernel
theorem dM_timer_24 : decode cM_timer 24 = .ok (.invokestatic 840, 3) := by decide +kernel
theorem dM_timer_27 : decode cM_timer 27 = .ok (.iconst 1, 1) := by decide +kernel
theorem dM_timer_28 : decode cM_timer 28 = .ok (.iadd, 1) := by decide +kernel
theorem dM_timer_29 : decode cM_timer 29 = .ok (.iaload, 1) := by decide +kernel
theorem dM_timer_30 : decode cM_timer 30 = .ok (.iaload, 1) := by decide +kernel
theorem dM_timer_31 : decode cM_timer 31 = .ok (.if_icmp .lt 7, 3) := by decide +kernel
theorem dM_timer_34 : decode cM_timer 34 = .ok (.iconst (-1), 1) := by decide +kernel
theorem dM_timer_35 : decode cM_timer 35 = .ok (.goto 17, 3) := by decide +kernel
theorem dM_timer_38 : decode cM_timer 38 = .ok (.aload_n 0, 1) := by decide +kernel
theorem dM_timer_39 : decode cM_timer 39 = .ok (.getfield 299, 3) := by decide +kernel
theorem dM_timer_42 : decode cM_timer 42 = .ok (.iload_n 3, 1) := by decide +kernel
theorem dM_timer_43 : decode cM_timer 43 = .ok (.invokestatic 840, 3) := by decide +kernel
theorem dM_timer_46 : decode cM_timer 46 = .ok (.bipush 22, 2) := by decide +kernel
theorem dM_timer_48 : decode cM_timer 48 = .ok (.iadd, 1) := by decide +kernel
theorem dM_timer_49 : decode cM_timer 49 = .ok (.iload_n 2, 1) := by decide +kernel
theorem dM_timer_50 : decode cM_timer 50 = .ok (.iadd, 1) := by decide +kernel
theorem dM_timer_51 : decode cM_timer 51 = .ok (.iaload, 1) := by decide +kernel
theorem dM_timer_52 : decode cM_timer 52 = .ok (.ireturn, 1) := by decide +kernel
theorem dM_queued_0 : decode cM_queued 0 = .ok (.aload_n 0, 1) := by decide +kernel
theorem dM_queued_1 : decode cM_queued 1 = .ok (.iload_n 1, 1) := by decide +kernel
theorem dM_queued_2 : decode cM_queued 2 = .ok (.invokevirtual 1042, 3) := by decide +kernel
theorem dM_queued_5 : decode cM_queued 5 = .ok (.istore 4, 2) := by decide +kernel
theorem dM_queued_7 : decode cM_queued 7 = .ok (.iload 4, 2) := by decide +kernel
theorem dM_queued_9 : decode cM_queued 9 = .ok (.ifCond .lt 33, 3) := by decide +kernel
theorem dM_queued_12 : decode cM_queued 12 = .ok (.iload_n 2, 1) := by decide +kernel
theorem dM_queued_13 : decode cM_queued 13 = .ok (.ifCond .lt 29, 3) := by decide +kernel
theorem dM_queued_16 : decode cM_queued 16 = .ok (.iload_n 2, 1) := by decide +kernel
theorem dM_queued_17 : decode cM_queued 17 = .ok (.aload_n 0, 1) := by decide +kernel
theorem dM_queued_18 : decode cM_queued 18 = .ok (.getfield 299, 3) := by decide +kernel
theorem dM_queued_21 : decode cM_queued 21 = .ok (.iload 4, 2) := by decide +kernel
theorem dM_queued_23 : decode cM_queued 23 = .ok (.invokestatic 840, 3) := by decide +kernel
theorem dM_queued_26 : decode cM_queued 26 = .ok (.bipush 25, 2) := by decide +kernel
theorem dM_queued_28 : decode cM_queued 28 = .ok (.iadd, 1) := by decide +kernel
theorem dM_queued_29 : decode cM_queued 29 = .ok (.iaload, 1) := by decide +kernel
theorem dM_queued_30 : decode cM_queued 30 = .ok (.if_icmp .ge 12, 3) := by decide +kernel
theorem dM_queued_33 : decode cM_queued 33 = .ok (.iload_n 3, 1) := by decide +kernel
theorem dM_queued_34 : decode cM_queued 34 = .ok (.ifCond .lt 8, 3) := by decide +kernel
theorem dM_queued_37 : decode cM_queued 37 = .ok (.iload_n 3, 1) := by decide +kernel
theorem dM_queued_38 : decode cM_queued 38 = .ok (.iconst 5, 1) := by decide +kernel
theorem dM_queued_39 : decode cM_queued 39 = .ok (.if_icmp .lt 5, 3) := by decide +kernel
theorem dM_queued_42 : decode cM_queued 42 = .ok (.iconst (-1), 1) := by decide +kernel
theorem dM_queued_43 : decode cM_queued 43 = .ok (.ireturn, 1) := by decide +kernel
theorem dM_queued_44 : decode cM_queued 44 = .ok (.aload_n 0, 1) := by decide +kernel
theorem dM_queued_45 : decode cM_queued 45 = .ok (.getfield 299, 3) := by decide +kernel
theorem dM_queued_48 : decode cM_queued 48 = .ok (.iload 4, 2) := by decide +kernel
theorem dM_queued_50 : decode cM_queued 50 = .ok (.invokestatic 840, 3) := by decide +kernel
theorem dM_queued_53 : decode cM_queued 53 = .ok (.bipush 25, 2) := by decide +kernel
theorem dM_queued_55 : decode cM_queued 55 = .ok (.iadd, 1) := by decide +kernel
theorem dM_queued_56 : decode cM_queued 56 = .ok (.iconst 1, 1) := by decide +kernel
theorem dM_queued_57 : decode cM_queued 57 = .ok (.iadd, 1) := by decide +kernel
theorem dM_queued_58 : decode cM_queued 58 = .ok (.iconst 5, 1) := by decide +kernel
theorem dM_queued_59 : decode cM_queued 59 = .ok (.iload_n 2, 1) := by decide +kernel
theorem dM_queued_60 : decode cM_queued 60 = .ok (.imul, 1) := by decide +kernel
theorem dM_queued_61 : decode cM_queued 61 = .ok (.iadd, 1) := by decide +kernel
theorem dM_queued_62 : decode cM_queued 62 = .ok (.iload_n 3, 1) := by decide +kernel
theorem dM_queued_63 : decode cM_queued 63 = .ok (.iadd, 1) := by decide +kernel
theorem dM_queued_64 : decode cM_queued 64 = .ok (.iaload, 1) := by decide +kernel
theorem dM_queued_65 : decode cM_queued 65 = .ok (.ireturn, 1) := by decide +kernel
theorem dM_way_0 : decode cM_way 0 = .ok (.aload_n 0, 1) := by decide +kernel
theorem dM_way_1 : decode cM_way 1 = .ok (.getfield 822, 3) := by decide +kernel
theorem dM_way_4 : decode cM_way 4 = .ok (.ifCond .eq 42, 3) := by decide +kernel
theorem dM_way_7 : decode cM_way 7 = .ok (.iload_n 1, 1) := by decide +kernel
theorem dM_way_8 : decode cM_way 8 = .ok (.ifCond .lt 38, 3) := by decide +kernel
theorem dM_way_11 : decode cM_way 11 = .ok (.iload_n 1, 1) := by decide +kernel
theorem dM_way_12 : decode cM_way 12 = .ok (.aload_n 0, 1) := by decide +kernel
theorem dM_way_13 : decode cM_way 13 = .ok (.getfield 492, 3) := by decide +kernel
theorem dM_way_16 : decode cM_way 16 = .ok (.if_icmp .ge 30, 3) := by decide +kernel
theorem dM_way_19 : decode cM_way 19 = .ok (.iload_n 2, 1) := by decide +kernel
theorem dM_way_20 : decode cM_way 20 = .ok (.ifCond .lt 26, 3) := by decide +kernel
theorem dM_way_23 : decode cM_way 23 = .ok (.iload_n 2, 1) := by decide +kernel
theorem dM_way_24 : decode cM_way 24 = .ok (.aload_n 0, 1) := by decide +kernel
theorem dM_way_25 : decode cM_way 25 = .ok (.getfield 299, 3) := by decide +kernel
theorem dM_way_28 : decode cM_way 28 = .ok (.iload_n 1, 1) := by decide +kernel
theorem dM_way_29 : decode cM_way 29 = .ok (.invokestatic 886, 3) := by decide +kernel
theorem dM_way_32 : decode cM_way 32 = .ok (.iaload, 1) := by decide +kernel
theorem dM_way_33 : decode cM_way 33 = .ok (.if_icmp .ge 13, 3) := by decide +kernel
theorem dM_way_36 : decode cM_way 36 = .ok (.iload_n 3, 1) := by decide +kernel
theorem dM_way_37 : decode cM_way 37 = .ok (.ifCond .lt 9, 3) := by decide +kernel
theorem dM_way_40 : decode cM_way 40 = .ok (.iload_n 3, 1) := by decide +kernel
theorem dM_way_41 : decode cM_way 41 = .ok (.bipush 7, 2) := by decide +kernel
theorem dM_way_43 : decode cM_way 43 = .ok (.if_icmp .lt 5, 3) := by decide +kernel
theorem dM_way_46 : decode cM_way 46 = .ok (.iconst (-1), 1) := by decide +kernel
theorem dM_way_47 : decode cM_way 47 = .ok (.ireturn, 1) := by decide +kernel
theorem dM_way_48 : decode cM_way 48 = .ok (.aload_n 0, 1) := by decide +kernel
theorem dM_way_49 : decode cM_way 49 = .ok (.getfield 299, 3) := by decide +kernel
theorem dM_way_52 : decode cM_way 52 = .ok (.iload_n 1, 1) := by decide +kernel
theorem dM_way_53 : decode cM_way 53 = .ok (.invokestatic 886, 3) := by decide +kernel
theorem dM_way_56 : decode cM_way 56 = .ok (.iconst 1, 1) := by decide +kernel
theorem dM_way_57 : decode cM_way 57 = .ok (.iadd, 1) := by decide +kernel
theorem dM_way_58 : decode cM_way 58 = .ok (.bipush 7, 2) := by decide +kernel
theorem dM_way_60 : decode cM_way 60 = .ok (.iload_n 2, 1) := by decide +kernel
theorem dM_way_61 : decode cM_way 61 = .ok (.imul, 1) := by decide +kernel
theorem dM_way_62 : decode cM_way 62 = .ok (.iadd, 1) := by decide +kernel
theorem dM_way_63 : decode cM_way 63 = .ok (.iload_n 3, 1) := by decide +kernel
theorem dM_way_64 : decode cM_way 64 = .ok (.iadd, 1) := by decide +kernel
theorem dM_way_65 : decode cM_way 65 = .ok (.iaload, 1) := by decide +kernel
theorem dM_way_66 : decode cM_way 66 = .ok (.ireturn, 1) := by decide +kernel
theorem dM_out_0 : decode cM_out 0 = .ok (.aload_n 0, 1) := by decide +kernel
theorem dM_out_1 : decode cM_out 1 = .ok (.getfield 822, 3) := by decide +kernel
theorem dM_out_4 : decode cM_out 4 = .ok (.ifCond .eq 24, 3) := by decide +kernel
theorem dM_out_7 : decode cM_out 7 = .ok (.iload_n 1, 1) := by decide +kernel
theorem dM_out_8 : decode cM_out 8 = .ok (.ifCond .lt 20, 3) := by decide +kernel
theorem dM_out_11 : decode cM_out 11 = .ok (.iload_n 1, 1) := by decide +kernel
theorem dM_out_12 : decode cM_out 12 = .ok (.aload_n 0, 1) := by decide +kernel
theorem dM_out_13 : decode cM_out 13 = .ok (.getfield 880, 3) := by decide +kernel
theorem dM_out_16 : decode cM_out 16 = .ok (.if_icmp .ge 12, 3) := by decide +kernel
theorem dM_out_19 : decode cM_out 19 = .ok (.iload_n 2, 1) := by decide +kernel
theorem dM_out_20 : decode cM_out 20 = .ok (.ifCond .lt 8, 3) := by decide +kernel
theorem dM_out_23 : decode cM_out 23 = .ok (.iload_n 2, 1) := by decide +kernel
theorem dM_out_24 : decode cM_out 24 = .ok (.iconst 5, 1) := by decide +kernel
theorem dM_out_25 : decode cM_out 25 = .ok (.if_icmp .le 5, 3) := by decide +kernel
theorem dM_out_28 : decode cM_out 28 = .ok (.iconst (-1), 1) := by decide +kernel
theorem dM_out_29 : decode cM_out 29 = .ok (.ireturn, 1) := by decide +kernel
theorem dM_out_30 : decode cM_out 30 = .ok (.aload_n 0, 1) := by decide +kernel
theorem dM_out_31 : decode cM_out 31 = .ok (.getfield 305, 3) := by decide +kernel
theorem dM_out_34 : decode cM_out 34 = .ok (.bipush 6, 2) := by decide +kernel
theorem dM_out_36 : decode cM_out 36 = .ok (.aload_n 0, 1) := by decide +kernel
theorem dM_out_37 : decode cM_out 37 = .ok (.getfield 874, 3) := by decide +kernel
theorem dM_out_40 : decode cM_out 40 = .ok (.aload_n 0, 1) := by decide +kernel
theorem dM_out_41 : decode cM_out 41 = .ok (.getfield 880, 3) := by decide +kernel
theorem dM_out_44 : decode cM_out 44 = .ok (.isub, 1) := by decide +kernel
theorem dM_out_45 : decode cM_out 45 = .ok (.iload_n 1, 1) := by decide +kernel
theorem dM_out_46 : decode cM_out 46 = .ok (.iadd, 1) := by decide +kernel
theorem dM_out_47 : decode cM_out 47 = .ok (.sipush 200, 3) := by decide +kernel
theorem dM_out_50 : decode cM_out 50 = .ok (.iadd, 1) := by decide +kernel
theorem dM_out_51 : decode cM_out 51 = .ok (.sipush 200, 3) := by decide +kernel
theorem dM_out_54 : decode cM_out 54 = .ok (.irem, 1) := by decide +kernel
theorem dM_out_55 : decode cM_out 55 = .ok (.imul, 1) := by decide +kernel
theorem dM_out_56 : decode cM_out 56 = .ok (.iload_n 2, 1) := by decide +kernel
theorem dM_out_57 : decode cM_out 57 = .ok (.iadd, 1) := by decide +kernel
theorem dM_out_58 : decode cM_out 58 = .ok (.iaload, 1) := by decide +kernel
theorem dM_out_59 : decode cM_out 59 = .ok (.ireturn, 1) := by decide +kernel
theorem dM_event_0 : decode cM_event 0 = .ok (.aload_n 0, 1) := by decide +kernel
theorem dM_event_1 : decode cM_event 1 = .ok (.getfield 822, 3) := by decide +kernel
theorem dM_event_4 : decode cM_event 4 = .ok (.ifCond .eq 24, 3) := by decide +kernel
theorem dM_event_7 : decode cM_event 7 = .ok (.iload_n 1, 1) := by decide +kernel
theorem dM_event_8 : decode cM_event 8 = .ok (.ifCond .lt 20, 3) := by decide +kernel
theorem dM_event_11 : decode cM_event 11 = .ok (.iload_n 1, 1) := by decide +kernel
theorem dM_event_12 : decode cM_event 12 = .ok (.aload_n 0, 1) := by decide +kernel
theorem dM_event_13 : decode cM_event 13 = .ok (.getfield 849, 3) := by decide +kernel
theorem dM_event_16 : decode cM_event 16 = .ok (.if_icmp .ge 12, 3) := by decide +kernel
theorem dM_event_19 : decode cM_event 19 = .ok (.iload_n 2, 1) := by decide +kernel
theorem dM_event_20 : decode cM_event 20 = .ok (.ifCond .lt 8, 3) := by decide +kernel
theorem dM_event_23 : decode cM_event 23 = .ok (.iload_n 2, 1) := by decide +kernel
theorem dM_event_24 : decode cM_event 24 = .ok (.iconst 3, 1) := by decide +kernel
theorem dM_event_25 : decode cM_event 25 = .ok (.if_icmp .le 5, 3) := by decide +kernel
theorem dM_event_28 : decode cM_event 28 = .ok (.iconst (-1), 1) := by decide +kernel
theorem dM_event_29 : decode cM_event 29 = .ok (.ireturn, 1) := by decide +kernel
theorem dM_event_30 : decode cM_event 30 = .ok (.aload_n 0, 1) := by decide +kernel
theorem dM_event_31 : decode cM_event 31 = .ok (.getfield 302, 3) := by decide +kernel
theorem dM_event_34 : decode cM_event 34 = .ok (.iconst 4, 1) := by decide +kernel
theorem dM_event_35 : decode cM_event 35 = .ok (.aload_n 0, 1) := by decide +kernel
theorem dM_event_36 : decode cM_event 36 = .ok (.getfield 846, 3) := by decide +kernel
theorem dM_event_39 : decode cM_event 39 = .ok (.iload_n 1, 1) := by decide +kernel
theorem dM_event_40 : decode cM_event 40 = .ok (.iadd, 1) := by decide +kernel
theorem dM_event_41 : decode cM_event 41 = .ok (.sipush 500, 3) := by decide +kernel
theorem dM_event_44 : decode cM_event 44 = .ok (.irem, 1) := by decide +kernel
theorem dM_event_45 : decode cM_event 45 = .ok (.imul, 1) := by decide +kernel
theorem dM_event_46 : decode cM_event 46 = .ok (.iload_n 2, 1) := by decide +kernel
theorem dM_event_47 : decode cM_event 47 = .ok (.iadd, 1) := by decide +kernel
theorem dM_event_48 : decode cM_event 48 = .ok (.iaload, 1) := by decide +kernel
theorem dM_event_49 : decode cM_event 49 = .ok (.ireturn, 1) := by decide +kernel
theorem dM_count_0 : decode cM_count 0 = .ok (.iload_n 1, 1) := by decide +kernel
theorem dM_count_1 : decode cM_count 1 = .ok (.tableswitch 144 0 14 #[75, 91, 107, 123, 144, 144, 144, 144, 144, 144, 144, 144, 144, 144, 139], 75) := by decide +kernel
theorem dM_count_76 : decode cM_count 76 = .ok (.aload_n 0, 1) := by decide +kernel
theorem dM_count_77 : decode cM_count 77 = .ok (.getfield 819, 3) := by decide +kernel
theorem dM_count_80 : decode cM_count 80 = .ok (.ifCond .eq 10, 3) := by decide +kernel
theorem dM_count_83 : decode cM_count 83 = .ok (.aload_n 0, 1) := by decide +kernel
theorem dM_count_84 : decode cM_count 84 = .ok (.getfield 489, 3) := by decide +kernel
theorem dM_count_87 : decode cM_count 87 = .ok (.goto 4, 3) := by decide +kernel
theorem dM_count_90 : decode cM_count 90 = .ok (.iconst 0, 1) := by decide +kernel
theorem dM_count_91 : decode cM_count 91 = .ok (.ireturn, 1) := by decide +kernel
theorem dM_count_92 : decode cM_count 92 = .ok (.aload_n 0, 1) := by decide +kernel
theorem dM_count_93 : decode cM_count 93 = .ok (.getfield 819, 3) := by decide +kernel
theorem dM_count_96 : decode cM_count 96 = .ok (.ifCond .eq 10, 3) := by decide +kernel
theorem dM_count_99 : decode cM_count 99 = .ok (.aload_n 0, 1) := by decide +kernel
theorem dM_count_100 : decode cM_count 100 = .ok (.getfield 492, 3) := by decide +kernel
theorem dM_count_103 : decode cM_count 103 = .ok (.goto 4, 3) := by decide +kernel
theorem dM_count_106 : decode cM_count 106 = .ok (.iconst 0, 1) := by decide +kernel
theorem dM_count_107 : decode cM_count 107 = .ok (.ireturn, 1) := by decide +kernel
theorem dM_count_108 : decode cM_count 108 = .ok (.aload_n 0, 1) := by decide +kernel
theorem dM_count_109 : decode cM_count 109 = .ok (.getfield 819, 3) := by decide +kernel
theorem dM_count_112 : decode cM_count 112 = .ok (.ifCond .eq 10, 3) := by decide +kernel
theorem dM_count_115 : decode cM_count 115 = .ok (.aload_n 0, 1) := by decide +kernel
theorem dM_count_116 : decode cM_count 116 = .ok (.getfield 495, 3) := by decide +kernel
theorem dM_count_119 : decode cM_count 119 = .ok (.goto 4, 3) := by decide +kernel
theorem dM_count_122 : decode cM_count 122 = .ok (.iconst 0, 1) := by decide +kernel
theorem dM_count_123 : decode cM_count 123 = .ok (.ireturn, 1) := by decide +kernel
theorem dM_count_124 : decode cM_count 124 = .ok (.aload_n 0, 1) := by decide +kernel
theorem dM_count_125 : decode cM_count 125 = .ok (.getfield 819, 3) := by decide +kernel
theorem dM_count_128 : decode cM_count 128 = .ok (.ifCond .eq 10, 3) := by decide +kernel
theorem dM_count_131 : decode cM_count 131 = .ok (.aload_n 0, 1) := by decide +kernel
theorem dM_count_132 : decode cM_count 132 = .ok (.getfield 831, 3) := by decide +kernel
theorem dM_count_135 : decode cM_count 135 = .ok (.goto 4, 3) := by decide +kernel
theorem dM_count_138 : decode cM_count 138 = .ok (.iconst 0, 1) := by decide +kernel
theorem dM_count_139 : decode cM_count 139 = .ok (.ireturn, 1) := by decide +kernel
theorem dM_count_140 : decode cM_count 140 = .ok (.aload_n 0, 1) := by decide +kernel
theorem dM_count_141 : decode cM_count 141 = .ok (.getfield 402, 3) := by decide +kernel
theorem dM_count_144 : decode cM_count 144 = .ok (.ireturn, 1) := by decide +kernel
theorem dM_count_145 : decode cM_count 145 = .ok (.iload_n 1, 1) := by decide +kernel
theorem dM_count_146 : decode cM_count 146 = .ok (.ifCond .lt 9, 3) := by decide +kernel
theorem dM_count_149 : decode cM_count 149 = .ok (.iload_n 1, 1) := by decide +kernel
theorem dM_count_150 : decode cM_count 150 = .ok (.bipush 18, 2) := by decide +kernel
theorem dM_count_152 : decode cM_count 152 = .ok (.if_icmp .le 7, 3) := by decide +kernel
theorem dM_count_155 : decode cM_count 155 = .ok (.iconst (-1), 1) := by decide +kernel
theorem dM_count_156 : decode cM_count 156 = .ok (.goto 19, 3) := by decide +kernel
theorem dM_count_159 : decode cM_count 159 = .ok (.aload_n 0, 1) := by decide +kernel
theorem dM_count_160 : decode cM_count 160 = .ok (.getfield 822, 3) := by decide +kernel
theorem dM_count_163 : decode cM_count 163 = .ok (.ifCond .eq 11, 3) := by decide +kernel
theorem dM_count_166 : decode cM_count 166 = .ok (.aload_n 0, 1) := by decide +kernel
theorem dM_count_167 : decode cM_count 167 = .ok (.iload_n 1, 1) := by decide +kernel
theorem dM_count_168 : decode cM_count 168 = .ok (.invokevirtual 1045, 3) := by decide +kernel
theorem dM_count_171 : decode cM_count 171 = .ok (.goto 4, 3) := by decide +kernel
theorem dM_count_174 : decode cM_count 174 = .ok (.iconst 0, 1) := by decide +kernel
theorem dM_count_175 : decode cM_count 175 = .ok (.ireturn, 1) := by decide +kernel
theorem dM_type_0 : decode cM_type 0 = .ok (.aload_n 0, 1) := by decide +kernel
theorem dM_type_1 : decode cM_type 1 = .ok (.getfield 819, 3) := by decide +kernel
theorem dM_type_4 : decode cM_type 4 = .ok (.ifCond .eq 15, 3) := by decide +kernel
theorem dM_type_7 : decode cM_type 7 = .ok (.iload_n 1, 1) := by decide +kernel
theorem dM_type_8 : decode cM_type 8 = .ok (.ifCond .lt 11, 3) := by decide +kernel
theorem dM_type_11 : decode cM_type 11 = .ok (.iload_n 1, 1) := by decide +kernel
theorem dM_type_12 : decode cM_type 12 = .ok (.aload_n 0, 1) := by decide +kernel
theorem dM_type_13 : decode cM_type 13 = .ok (.getfield 495, 3) := by decide +kernel
theorem dM_type_16 : decode cM_type 16 = .ok (.if_icmp .lt 5, 3) := by decide +kernel
theorem dM_type_19 : decode cM_type 19 = .ok (.iconst (-1), 1) := by decide +kernel
theorem dM_type_20 : decode cM_type 20 = .ok (.ireturn, 1) := by decide +kernel
theorem dM_type_21 : decode cM_type 21 = .ok (.iload_n 2, 1) := by decide +kernel
theorem dM_type_22 : decode cM_type 22 = .ok (.tableswitch 69 0 4 #[34, 41, 48, 55, 62], 34) := by decide +kernel
theorem dM_type_56 : decode cM_type 56 = .ok (.aload_n 0, 1) := by decide +kernel
theorem dM_type_57 : decode cM_type 57 = .ok (.getfield 100, 3) := by decide +kernel
theorem dM_type_60 : decode cM_type 60 = .ok (.iload_n 1, 1) := by decide +kernel
theorem dM_type_61 : decode cM_type 61 = .ok (.iaload, 1) := by decide +kernel
theorem dM_type_62 : decode cM_type 62 = .ok (.ireturn, 1) := by decide +kernel
theorem dM_type_63 : decode cM_type 63 = .ok (.aload_n 0, 1) := by decide +kernel
theorem dM_type_64 : decode cM_type 64 = .ok (.getfield 94, 3) := by decide +kernel
theorem dM_type_67 : decode cM_type 67 = .ok (.iload_n 1, 1) := by decide +kernel
theorem dM_type_68 : decode cM_type 68 = .ok (.iaload, 1) := by decide +kernel
theorem dM_type_69 : decode cM_type 69 = .ok (.ireturn, 1) := by decide +kernel
theorem dM_type_70 : decode cM_type 70 = .ok (.aload_n 0, 1) := by decide +kernel
theorem dM_type_71 : decode cM_type 71 = .ok (.getfield 97, 3) := by decide +kernel
theorem dM_type_74 : decode cM_type 74 = .ok (.iload_n 1, 1) := by decide +kernel
theorem dM_type_75 : decode cM_type 75 = .ok (.iaload, 1) := by decide +kernel
theorem dM_type_76 : decode cM_type 76 = .ok (.ireturn, 1) := by decide +kernel
theorem dM_type_77 : decode cM_type 77 = .ok (.aload_n 0, 1) := by decide +kernel
theorem dM_type_78 : decode cM_type 78 = .ok (.getfield 82, 3) := by decide +kernel
theorem dM_type_81 : decode cM_type 81 = .ok (.iload_n 1, 1) := by decide +kernel
theorem dM_type_82 : decode cM_type 82 = .ok (.iaload, 1) := by decide +kernel
theorem dM_type_83 : decode cM_type 83 = .ok (.ireturn, 1) := by decide +kernel
theorem dM_type_84 : decode cM_type 84 = .ok (.aload_n 0, 1) := by decide +kernel
theorem dM_type_85 : decode cM_type 85 = .ok (.getfield 85, 3) := by decide +kernel
theorem dM_type_88 : decode cM_type 88 = .ok (.iload_n 1, 1) := by decide +kernel
theorem dM_type_89 : decode cM_type 89 = .ok (.iaload, 1) := by decide +kernel
theorem dM_type_90 : decode cM_type 90 = .ok (.ireturn, 1) := by decide +kernel
theorem dM_type_91 : decode cM_type 91 = .ok (.iconst (-1), 1) := by decide +kernel
theorem dM_type_92 : decode cM_type 92 = .ok (.ireturn, 1) := by decide +kernel
theorem dM_search_0 : decode cM_search 0 = .ok (.aload_n 0, 1) := by decide +kernel
theorem dM_search_1 : decode cM_search 1 = .ok (.getfield 822, 3) := by decide +kernel
theorem dM_search_4 : decode cM_search 4 = .ok (.ifCond .eq 15, 3) := by decide +kernel
theorem dM_search_7 : decode cM_search 7 = .ok (.iload_n 1, 1) := by decide +kernel
theorem dM_search_8 : decode cM_search 8 = .ok (.iconst 1, 1) := by decide +kernel
theorem dM_search_9 : decode cM_search 9 = .ok (.if_icmp .lt 10, 3) := by decide +kernel
theorem dM_search_12 : decode cM_search 12 = .ok (.iload_n 1, 1) := by decide +kernel
theorem dM_search_13 : decode cM_search 13 = .ok (.sipush 200, 3) := by decide +kernel
theorem dM_search_16 : decode cM_search 16 = .ok (.if_icmp .le 5, 3) := by decide +kernel
theorem dM_search_19 : decode cM_search 19 = .ok (.iconst (-1), 1) := by decide +kernel
theorem dM_search_20 : decode cM_search 20 = .ok (.ireturn, 1) := by decide +kernel
theorem dM_search_21 : decode cM_search 21 = .ok (.iconst 0, 1) := by decide +kernel
theorem dM_search_22 : decode cM_search 22 = .ok (.istore_n 2, 1) := by decide +kernel
theorem dM_search_23 : decode cM_search 23 = .ok (.iload_n 2, 1) := by decide +kernel
theorem dM_search_24 : decode cM_search 24 = .ok (.sipush 1104, 3) := by decide +kernel
theorem dM_search_27 : decode cM_search 27 = .ok (.if_icmp .ge 21, 3) := by decide +kernel
theorem dM_search_30 : decode cM_search 30 = .ok (.aload_n 0, 1) := by decide +kernel
theorem dM_search_31 : decode cM_search 31 = .ok (.getfield 321, 3) := by decide +kernel
theorem dM_search_34 : decode cM_search 34 = .ok (.iload_n 2, 1) := by decide +kernel
theorem dM_search_35 : decode cM_search 35 = .ok (.aload_n 0, 1) := by decide +kernel
theorem dM_search_36 : decode cM_search 36 = .ok (.getfield 299, 3) := by decide +kernel
theorem dM_search_39 : decode cM_search 39 = .ok (.iload_n 2, 1) := by decide +kernel
theorem dM_search_40 : decode cM_search 40 = .ok (.iaload, 1) := by decide +kernel
theorem dM_search_41 : decode cM_search 41 = .ok (.iastore, 1) := by decide +kernel
theorem dM_search_42 : decode cM_search 42 = .ok (.iinc 2 1, 3) := by decide +kernel
theorem dM_search_45 : decode cM_search 45 = .ok (.goto (-22), 3) := by decide +kernel
theorem dM_search_48 : decode cM_search 48 = .ok (.aload_n 0, 1) := by decide +kernel
theorem dM_search_49 : decode cM_search 49 = .ok (.iconst 1, 1) := by decide +kernel
theorem dM_search_50 : decode cM_search 50 = .ok (.putfield 843, 3) := by decide +kernel
theorem dM_search_53 : decode cM_search 53 = .ok (.aload_n 0, 1) := by decide +kernel
theorem dM_search_54 : decode cM_search 54 = .ok (.iload_n 1, 1) := by decide +kernel
theorem dM_search_55 : decode cM_search 55 = .ok (.putfield 1060, 3) := by decide +kernel
theorem dM_search_58 : decode cM_search 58 = .ok (.aload_n 0, 1) := by decide +kernel
theorem dM_search_59 : decode cM_search 59 = .ok (.iconst 0, 1) := by decide +kernel
theorem dM_search_60 : decode cM_search 60 = .ok (.putfield 825, 3) := by decide +kernel
theorem dM_search_63 : decode cM_search 63 = .ok (.aload_n 0, 1) := by decide +kernel
theorem dM_search_64 : decode cM_search 64 = .ok (.iconst 0, 1) := by decide +kernel
theorem dM_search_65 : decode cM_search 65 = .ok (.putfield 1017, 3) := by decide +kernel
theorem dM_search_68 : decode cM_search 68 = .ok (.aload_n 0, 1) := by decide +kernel
theorem dM_search_69 : decode cM_search 69 = .ok (.iconst 0, 1) := by decide +kernel
theorem dM_search_70 : decode cM_search 70 = .ok (.putfield 1014, 3) := by decide +kernel
theorem dM_search_73 : decode cM_search 73 = .ok (.aload_n 0, 1) := by decide +kernel
theorem dM_search_74 : decode cM_search 74 = .ok (.invokevirtual 1078, 3) := by decide +kernel
theorem dM_search_77 : decode cM_search 77 = .ok (.aload_n 0, 1) := by decide +kernel
theorem dM_search_78 : decode cM_search 78 = .ok (.iconst (-1), 1) := by decide +kernel
theorem dM_search_79 : decode cM_search 79 = .ok (.iconst (-1), 1) := by decide +kernel
theorem dM_search_80 : decode cM_search 80 = .ok (.aload_n 0, 1) := by decide +kernel
theorem dM_search_81 : decode cM_search 81 = .ok (.invokevirtual 1054, 3) := by decide +kernel
theorem dM_search_84 : decode cM_search 84 = .ok (.invokevirtual 1066, 3) := by decide +kernel
theorem dM_search_87 : decode cM_search 87 = .ok (.iconst 0, 1) := by decide +kernel
theorem dM_search_88 : decode cM_search 88 = .ok (.istore_n 2, 1) := by decide +kernel
theorem dM_search_89 : decode cM_search 89 = .ok (.iload_n 2, 1) := by decide +kernel
theorem dM_search_90 : decode cM_search 90 = .ok (.aload_n 0, 1) := by decide +kernel
theorem dM_search_91 : decode cM_search 91 = .ok (.getfield 825, 3) := by decide +kernel
theorem dM_search_94 : decode cM_search 94 = .ok (.if_icmp .ge 88, 3) := by decide +kernel
theorem dM_search_97 : decode cM_search 97 = .ok (.aload_n 0, 1) := by decide +kernel
theorem dM_search_98 : decode cM_search 98 = .ok (.getfield 1014, 3) := by decide +kernel
theorem dM_search_101 : decode cM_search 101 = .ok (.ifCond .ne 81, 3) := by decide +kernel
theorem dM_search_104 : decode cM_search 104 = .ok (.aload_n 0, 1) := by decide +kernel
theorem dM_search_105 : decode cM_search 105 = .ok (.iconst 0, 1) := by decide +kernel
theorem dM_search_106 : decode cM_search 106 = .ok (.putfield 1063, 3) := by decide +kernel
theorem dM_search_109 : decode cM_search 109 = .ok (.aload_n 0, 1) := by decide +kernel
theorem dM_search_110 : decode cM_search 110 = .ok (.iconst 0, 1) := by decide +kernel
theorem dM_search_111 : decode cM_search 111 = .ok (.putfield 1048, 3) := by decide +kernel
theorem dM_search_114 : decode cM_search 114 = .ok (.aload_n 0, 1) := by decide +kernel
theorem dM_search_115 : decode cM_search 115 = .ok (.iconst 0, 1) := by decide +kernel
theorem dM_search_116 : decode cM_search 116 = .ok (.putfield 1051, 3) := by decide +kernel
theorem dM_search_119 : decode cM_search 119 = .ok (.aload_n 0, 1) := by decide +kernel
theorem dM_search_120 : decode cM_search 120 = .ok (.iload_n 2, 1) := by decide +kernel
theorem dM_search_121 : decode cM_search 121 = .ok (.invokevirtual 1081, 3) := by decide +kernel
theorem dM_search_124 : decode cM_search 124 = .ok (.aload_n 0, 1) := by decide +kernel
theorem dM_search_125 : decode cM_search 125 = .ok (.iload_n 2, 1) := by decide +kernel
theorem dM_search_126 : decode cM_search 126 = .ok (.invokevirtual 1084, 3) := by decide +kernel
theorem dM_search_129 : decode cM_search 129 = .ok (.aload_n 0, 1) := by decide +kernel
theorem dM_search_130 : decode cM_search 130 = .ok (.iload_n 2, 1) := by decide +kernel
theorem dM_search_131 : decode cM_search 131 = .ok (.invokevirtual 1087, 3) := by decide +kernel
theorem dM_search_134 : decode cM_search 134 = .ok (.aload_n 0, 1) := by decide +kernel
theorem dM_search_135 : decode cM_search 135 = .ok (.iload_n 2, 1) := by decide +kernel
theorem dM_search_136 : decode cM_search 136 = .ok (.invokevirtual 1090, 3) := by decide +kernel
theorem dM_search_139 : decode cM_search 139 = .ok (.aload_n 0, 1) := by decide +kernel
theorem dM_search_140 : decode cM_search 140 = .ok (.getfield 1014, 3) := by decide +kernel
theorem dM_search_143 : decode cM_search 143 = .ok (.ifCond .ne 33, 3) := by decide +kernel
theorem dM_search_146 : decode cM_search 146 = .ok (.aload_n 0, 1) := by decide +kernel
theorem dM_search_147 : decode cM_search 147 = .ok (.getfield 333, 3) := by decide +kernel
theorem dM_search_150 : decode cM_search 150 = .ok (.iload_n 2, 1) := by decide +kernel
theorem dM_search_151 : decode cM_search 151 = .ok (.aload_n 0, 1) := by decide +kernel
theorem dM_search_152 : decode cM_search 152 = .ok (.getfield 1063, 3) := by decide +kernel
theorem dM_search_155 : decode cM_search 155 = .ok (.iastore, 1) := by decide +kernel
theorem dM_search_156 : decode cM_search 156 = .ok (.aload_n 0, 1) := by decide +kernel
theorem dM_search_157 : decode cM_search 157 = .ok (.getfield 336, 3) := by decide +kernel
theorem dM_search_160 : decode cM_search 160 = .ok (.iload_n 2, 1) := by decide +kernel
theorem dM_search_161 : decode cM_search 161 = .ok (.aload_n 0, 1) := by decide +kernel
theorem dM_search_162 : decode cM_search 162 = .ok (.getfield 1048, 3) := by decide +kernel
theorem dM_search_165 : decode cM_search 165 = .ok (.iastore, 1) := by decide +kernel
theorem dM_search_166 : decode cM_search 166 = .ok (.aload_n 0, 1) := by decide +kernel
theorem dM_search_167 : decode cM_search 167 = .ok (.getfield 339, 3) := by decide +kernel
theorem dM_search_170 : decode cM_search 170 = .ok (.iload_n 2, 1) := by decide +kernel
theorem dM_search_171 : decode cM_search 171 = .ok (.aload_n 0, 1) := by decide +kernel
theorem dM_search_172 : decode cM_search 172 = .ok (.getfield 1051, 3) := by decide +kernel
theorem dM_search_175 : decode cM_search 175 = .ok (.iastore, 1) := by decide +kernel
theorem dM_search_176 : decode cM_search 176 = .ok (.iinc 2 1, 3) := by decide +kernel
theorem dM_search_179 : decode cM_search 179 = .ok (.goto (-90), 3) := by decide +kernel
theorem dM_search_182 : decode cM_search 182 = .ok (.aload_n 0, 1) := by decide +kernel
theorem dM_search_183 : decode cM_search 183 = .ok (.iconst 0, 1) := by decide +kernel
theorem dM_search_184 : decode cM_search 184 = .ok (.putfield 843, 3) := by decide +kernel
theorem dM_search_187 : decode cM_search 187 = .ok (.iconst 0, 1) := by decide +kernel
theorem dM_search_188 : decode cM_search 188 = .ok (.istore_n 2, 1) := by decide +kernel
theorem dM_search_189 : decode cM_search 189 = .ok (.iload_n 2, 1) := by decide +kernel
theorem dM_search_190 : decode cM_search 190 = .ok (.sipush 1104, 3) := by decide +kernel
theorem dM_search_193 : decode cM_search 193 = .ok (.if_icmp .ge 21, 3) := by decide +kernel
theorem dM_search_196 : decode cM_search 196 = .ok (.aload_n 0, 1) := by decide +kernel
theorem dM_search_197 : decode cM_search 197 = .ok (.getfield 299, 3) := by decide +kernel
theorem dM_search_200 : decode cM_search 200 = .ok (.iload_n 2, 1) := by decide +kernel
theorem dM_search_201 : decode cM_search 201 = .ok (.aload_n 0, 1) := by decide +kernel
theorem dM_search_202 : decode cM_search 202 = .ok (.getfield 321, 3) := by decide +kernel
theorem dM_search_205 : decode cM_search 205 = .ok (.iload_n 2, 1) := by decide +kernel
theorem dM_search_206 : decode cM_search 206 = .ok (.iaload, 1) := by decide +kernel
theorem dM_search_207 : decode cM_search 207 = .ok (.iastore, 1) := by decide +kernel
theorem dM_search_208 : decode cM_search 208 = .ok (.iinc 2 1, 3) := by decide +kernel
theorem dM_search_211 : decode cM_search 211 = .ok (.goto (-22), 3) := by decide +kernel
theorem dM_search_214 : decode cM_search 214 = .ok (.aload_n 0, 1) := by decide +kernel
theorem dM_search_215 : decode cM_search 215 = .ok (.getfield 825, 3) := by decide +kernel
theorem dM_search_218 : decode cM_search 218 = .ok (.ireturn, 1) := by decide +kernel
theorem dM_state_0 : decode cM_state 0 = .ok (.aload_n 0, 1) := by decide +kernel
theorem dM_state_1 : decode cM_state 1 = .ok (.getfield 822, 3) := by decide +kernel
theorem dM_state_4 : decode cM_state 4 = .ok (.ifCond .eq 15, 3) := by decide +kernel
theorem dM_state_7 : decode cM_state 7 = .ok (.iload_n 1, 1) := by decide +kernel
theorem dM_state_8 : decode cM_state 8 = .ok (.ifCond .lt 11, 3) := by decide +kernel
theorem dM_state_11 : decode cM_state 11 = .ok (.iload_n 1, 1) := by decide +kernel
theorem dM_state_12 : decode cM_state 12 = .ok (.aload_n 0, 1) := by decide +kernel
theorem dM_state_13 : decode cM_state 13 = .ok (.getfield 825, 3) := by decide +kernel
theorem dM_state_16 : decode cM_state 16 = .ok (.if_icmp .lt 5, 3) := by decide +kernel
theorem dM_state_19 : decode cM_state 19 = .ok (.iconst (-1), 1) := by decide +kernel
theorem dM_state_20 : decode cM_state 20 = .ok (.ireturn, 1) := by decide +kernel
theorem dM_state_21 : decode cM_state 21 = .ok (.iload_n 2, 1) := by decide +kernel
theorem dM_state_22 : decode cM_state 22 = .ok (.tableswitch 95 0 6 #[42, 49, 56, 63, 70, 77, 84], 42) := by decide +kernel
theorem dM_state_64 : decode cM_state 64 = .ok (.aload_n 0, 1) := by decide +kernel
theorem dM_state_65 : decode cM_state 65 = .ok (.getfield 324, 3) := by decide +kernel
theorem dM_state_68 : decode cM_state 68 = .ok (.iload_n 1, 1) := by decide +kernel
theorem dM_state_69 : decode cM_state 69 = .ok (.iaload, 1) := by decide +kernel
theorem dM_state_70 : decode cM_state 70 = .ok (.ireturn, 1) := by decide +kernel
theorem dM_state_71 : decode cM_state 71 = .ok (.aload_n 0, 1) := by decide +kernel
theorem dM_state_72 : decode cM_state 72 = .ok (.getfield 327, 3) := by decide +kernel
theorem dM_state_75 : decode cM_state 75 = .ok (.iload_n 1, 1) := by decide +kernel
theorem dM_state_76 : decode cM_state 76 = .ok (.iaload, 1) := by decide +kernel
theorem dM_state_77 : decode cM_state 77 = .ok (.ireturn, 1) := by decide +kernel
theorem dM_state_78 : decode cM_state 78 = .ok (.aload_n 0, 1) := by decide +kernel
theorem dM_state_79 : decode cM_state 79 = .ok (.getfield 330, 3) := by decide +kernel
theorem dM_state_82 : decode cM_state 82 = .ok (.iload_n 1, 1) := by decide +kernel
theorem dM_state_83 : decode cM_state 83 = .ok (.iaload, 1) := by decide +kernel
theorem dM_state_84 : decode cM_state 84 = .ok (.ireturn, 1) := by decide +kernel
theorem dM_state_85 : decode cM_state 85 = .ok (.aload_n 0, 1) := by decide +kernel
theorem dM_state_86 : decode cM_state 86 = .ok (.getfield 333, 3) := by decide +kernel
theorem dM_state_89 : decode cM_state 89 = .ok (.iload_n 1, 1) := by decide +kernel
theorem dM_state_90 : decode cM_state 90 = .ok (.iaload, 1) := by decide +kernel
theorem dM_state_91 : decode cM_state 91 = .ok (.ireturn, 1) := by decide +kernel
theorem dM_state_92 : decode cM_state 92 = .ok (.aload_n 0, 1) := by decide +kernel
theorem dM_state_93 : decode cM_state 93 = .ok (.getfield 336, 3) := by decide +kernel
theorem dM_state_96 : decode cM_state 96 = .ok (.iload_n 1, 1) := by decide +kernel
theorem dM_state_97 : decode cM_state 97 = .ok (.iaload, 1) := by decide +kernel
theorem dM_state_98 : decode cM_state 98 = .ok (.ireturn, 1) := by decide +kernel
theorem dM_state_99 : decode cM_state 99 = .ok (.aload_n 0, 1) := by decide +kernel
theorem dM_state_100 : decode cM_state 100 = .ok (.getfield 339, 3) := by decide +kernel
theorem dM_state_103 : decode cM_state 103 = .ok (.iload_n 1, 1) := by decide +kernel
theorem dM_state_104 : decode cM_state 104 = .ok (.iaload, 1) := by decide +kernel
theorem dM_state_105 : decode cM_state 105 = .ok (.ireturn, 1) := by decide +kernel
theorem dM_state_106 : decode cM_state 106 = .ok (.aload_n 0, 1) := by decide +kernel
theorem dM_state_107 : decode cM_state 107 = .ok (.getfield 318, 3) := by decide +kernel
theorem dM_state_110 : decode cM_state 110 = .ok (.sipush 1104, 3) := by decide +kernel
theorem dM_state_113 : decode cM_state 113 = .ok (.iload_n 1, 1) := by decide +kernel
theorem dM_state_114 : decode cM_state 114 = .ok (.imul, 1) := by decide +kernel
theorem dM_state_115 : decode cM_state 115 = .ok (.iaload, 1) := by decide +kernel
theorem dM_state_116 : decode cM_state 116 = .ok (.ireturn, 1) := by decide +kernel
theorem dM_state_117 : decode cM_state 117 = .ok (.iconst (-1), 1) := by decide +kernel
theorem dM_state_118 : decode cM_state 118 = .ok (.ireturn, 1) := by decide +kernel
theorem dM_first_0 : decode cM_first 0 = .ok (.aload_n 0, 1) := by decide +kernel
theorem dM_first_1 : decode cM_first 1 = .ok (.getfield 822, 3) := by decide +kernel
theorem dM_first_4 : decode cM_first 4 = .ok (.ifCond .eq 12, 3) := by decide +kernel
theorem dM_first_7 : decode cM_first 7 = .ok (.iload_n 1, 1) := by decide +kernel
theorem dM_first_8 : decode cM_first 8 = .ok (.ifCond .lt 8, 3) := by decide +kernel
theorem dM_first_11 : decode cM_first 11 = .ok (.iload_n 1, 1) := by decide +kernel
theorem dM_first_12 : decode cM_first 12 = .ok (.iconst 4, 1) := by decide +kernel
theorem dM_first_13 : decode cM_first 13 = .ok (.if_icmp .le 5, 3) := by decide +kernel
theorem dM_first_16 : decode cM_first 16 = .ok (.iconst (-1), 1) := by decide +kernel
theorem dM_first_17 : decode cM_first 17 = .ok (.ireturn, 1) := by decide +kernel
theorem dM_first_18 : decode cM_first 18 = .ok (.iload_n 1, 1) := by decide +kernel
theorem dM_first_19 : decode cM_first 19 = .ok (.iconst 4, 1) := by decide +kernel
theorem dM_first_20 : decode cM_first 20 = .ok (.if_icmp .ne 32, 3) := by decide +kernel
theorem dM_first_23 : decode cM_first 23 = .ok (.iload_n 2, 1) := by decide +kernel
theorem dM_first_24 : decode cM_first 24 = .ok (.ifCond .lt 26, 3) := by decide +kernel
theorem dM_first_27 : decode cM_first 27 = .ok (.iload_n 2, 1) := by decide +kernel
theorem dM_first_28 : decode cM_first 28 = .ok (.aload_n 0, 1) := by decide +kernel
theorem dM_first_29 : decode cM_first 29 = .ok (.getfield 495, 3) := by decide +kernel
theorem dM_first_32 : decode cM_first 32 = .ok (.if_icmp .ge 18, 3) := by decide +kernel
theorem dM_first_35 : decode cM_first 35 = .ok (.iload_n 3, 1) := by decide +kernel
theorem dM_first_36 : decode cM_first 36 = .ok (.iconst (-1), 1) := by decide +kernel
theorem dM_first_37 : decode cM_first 37 = .ok (.if_icmp .lt 13, 3) := by decide +kernel
theorem dM_first_40 : decode cM_first 40 = .ok (.iload_n 3, 1) := by decide +kernel
theorem dM_first_41 : decode cM_first 41 = .ok (.aload_n 0, 1) := by decide +kernel
theorem dM_first_42 : decode cM_first 42 = .ok (.getfield 100, 3) := by decide +kernel
theorem dM_first_45 : decode cM_first 45 = .ok (.iload_n 2, 1) := by decide +kernel
theorem dM_first_46 : decode cM_first 46 = .ok (.iaload, 1) := by decide +kernel
theorem dM_first_47 : decode cM_first 47 = .ok (.if_icmp .lt 5, 3) := by decide +kernel
theorem dM_first_50 : decode cM_first 50 = .ok (.iconst (-1), 1) := by decide +kernel
theorem dM_first_51 : decode cM_first 51 = .ok (.ireturn, 1) := by decide +kernel
theorem dM_first_52 : decode cM_first 52 = .ok (.iconst 0, 1) := by decide +kernel
theorem dM_first_53 : decode cM_first 53 = .ok (.istore 4, 2) := by decide +kernel
theorem dM_first_55 : decode cM_first 55 = .ok (.iload 4, 2) := by decide +kernel
theorem dM_first_57 : decode cM_first 57 = .ok (.aload_n 0, 1) := by decide +kernel
theorem dM_first_58 : decode cM_first 58 = .ok (.getfield 825, 3) := by decide +kernel
theorem dM_first_61 : decode cM_first 61 = .ok (.if_icmp .ge 127, 3) := by decide +kernel
theorem dM_first_64 : decode cM_first 64 = .ok (.iload_n 1, 1) := by decide +kernel
theorem dM_first_65 : decode cM_first 65 = .ok (.ifCond .ne 21, 3) := by decide +kernel
theorem dM_first_68 : decode cM_first 68 = .ok (.aload_n 0, 1) := by decide +kernel
theorem dM_first_69 : decode cM_first 69 = .ok (.getfield 333, 3) := by decide +kernel
theorem dM_first_72 : decode cM_first 72 = .ok (.iload 4, 2) := by decide +kernel
theorem dM_first_74 : decode cM_first 74 = .ok (.iaload, 1) := by decide +kernel
theorem dM_first_75 : decode cM_first 75 = .ok (.ifCond .ne 7, 3) := by decide +kernel
theorem dM_first_78 : decode cM_first 78 = .ok (.iconst 1, 1) := by decide +kernel
theorem dM_first_79 : decode cM_first 79 = .ok (.goto 93, 3) := by decide +kernel
theorem dM_first_82 : decode cM_first 82 = .ok (.iconst 0, 1) := by decide +kernel
theorem dM_first_83 : decode cM_first 83 = .ok (.goto 89, 3) := by decide +kernel
theorem dM_first_86 : decode cM_first 86 = .ok (.iload_n 1, 1) := by decide +kernel
theorem dM_first_87 : decode cM_first 87 = .ok (.iconst 1, 1) := by decide +kernel
theorem dM_first_88 : decode cM_first 88 = .ok (.if_icmp .ne 30, 3) := by decide +kernel
theorem dM_first_91 : decode cM_first 91 = .ok (.aload_n 0, 1) := by decide +kernel
theorem dM_first_92 : decode cM_first 92 = .ok (.getfield 333, 3) := by decide +kernel
theorem dM_first_95 : decode cM_first 95 = .ok (.iload 4, 2) := by decide +kernel
theorem dM_first_97 : decode cM_first 97 = .ok (.iaload, 1) := by decide +kernel
theorem dM_first_98 : decode cM_first 98 = .ok (.ifCond .ne 16, 3) := by decide +kernel
theorem dM_first_101 : decode cM_first 101 = .ok (.aload_n 0, 1) := by decide +kernel
theorem dM_first_102 : decode cM_first 102 = .ok (.iload 4, 2) := by decide +kernel
theorem dM_first_104 : decode cM_first 104 = .ok (.invokevirtual 1093, 3) := by decide +kernel
theorem dM_first_107 : decode cM_first 107 = .ok (.ifCond .eq 7, 3) := by decide +kernel
theorem dM_first_110 : decode cM_first 110 = .ok (.iconst 1, 1) := by decide +kernel
theorem dM_first_111 : decode cM_first 111 = .ok (.goto 61, 3) := by decide +kernel
theorem dM_first_114 : decode cM_first 114 = .ok (.iconst 0, 1) := by decide +kernel
theorem dM_first_115 : decode cM_first 115 = .ok (.goto 57, 3) := by decide +kernel
theorem dM_first_118 : decode cM_first 118 = .ok (.iload_n 1, 1) := by decide +kernel
theorem dM_first_119 : decode cM_first 119 = .ok (.iconst 2, 1) := by decide +kernel
theorem dM_first_120 : decode cM_first 120 = .ok (.if_icmp .ne 21, 3) := by decide +kernel
theorem dM_first_123 : decode cM_first 123 = .ok (.aload_n 0, 1) := by decide +kernel
theorem dM_first_124 : decode cM_first 124 = .ok (.getfield 336, 3) := by decide +kernel
theorem dM_first_127 : decode cM_first 127 = .ok (.iload 4, 2) := by decide +kernel
theorem dM_first_129 : decode cM_first 129 = .ok (.iaload, 1) := by decide +kernel
theorem dM_first_130 : decode cM_first 130 = .ok (.ifCond .le 7, 3) := by decide +kernel
theorem dM_first_133 : decode cM_first 133 = .ok (.iconst 1, 1) := by decide +kernel
theorem dM_first_134 : decode cM_first 134 = .ok (.goto 38, 3) := by decide +kernel
theorem dM_first_137 : decode cM_first 137 = .ok (.iconst 0, 1) := by decide +kernel
theorem dM_first_138 : decode cM_first 138 = .ok (.goto 34, 3) := by decide +kernel
theorem dM_first_141 : decode cM_first 141 = .ok (.iload_n 1, 1) := by decide +kernel
theorem dM_first_142 : decode cM_first 142 = .ok (.iconst 3, 1) := by decide +kernel
theorem dM_first_143 : decode cM_first 143 = .ok (.if_icmp .ne 21, 3) := by decide +kernel
theorem dM_first_146 : decode cM_first 146 = .ok (.aload_n 0, 1) := by decide +kernel
theorem dM_first_147 : decode cM_first 147 = .ok (.getfield 339, 3) := by decide +kernel
theorem dM_first_150 : decode cM_first 150 = .ok (.iload 4, 2) := by decide +kernel
theorem dM_first_152 : decode cM_first 152 = .ok (.iaload, 1) := by decide +kernel
theorem dM_first_153 : decode cM_first 153 = .ok (.ifCond .le 7, 3) := by decide +kernel
theorem dM_first_156 : decode cM_first 156 = .ok (.iconst 1, 1) := by decide +kernel
theorem dM_first_157 : decode cM_first 157 = .ok (.goto 15, 3) := by decide +kernel
theorem dM_first_160 : decode cM_first 160 = .ok (.iconst 0, 1) := by decide +kernel
theorem dM_first_161 : decode cM_first 161 = .ok (.goto 11, 3) := by decide +kernel
theorem dM_first_164 : decode cM_first 164 = .ok (.aload_n 0, 1) := by decide +kernel
theorem dM_first_165 : decode cM_first 165 = .ok (.iload 4, 2) := by decide +kernel
theorem dM_first_167 : decode cM_first 167 = .ok (.iload_n 2, 1) := by decide +kernel
theorem dM_first_168 : decode cM_first 168 = .ok (.iload_n 3, 1) := by decide +kernel
theorem dM_first_169 : decode cM_first 169 = .ok (.invokevirtual 1096, 3) := by decide +kernel
theorem dM_first_172 : decode cM_first 172 = .ok (.istore 5, 2) := by decide +kernel
theorem dM_first_174 : decode cM_first 174 = .ok (.iload 5, 2) := by decide +kernel
theorem dM_first_176 : decode cM_first 176 = .ok (.ifCond .eq 6, 3) := by decide +kernel
theorem dM_first_179 : decode cM_first 179 = .ok (.iload 4, 2) := by decide +kernel
theorem dM_first_181 : decode cM_first 181 = .ok (.ireturn, 1) := by decide +kernel
theorem dM_first_182 : decode cM_first 182 = .ok (.iinc 4 1, 3) := by decide +kernel
theorem dM_first_185 : decode cM_first 185 = .ok (.goto (-130), 3) := by decide +kernel
theorem dM_first_188 : decode cM_first 188 = .ok (.iconst (-1), 1) := by decide +kernel
theorem dM_first_189 : decode cM_first 189 = .ok (.ireturn, 1) := by decide +kernel
theorem dM_visit_0 : decode cM_visit 0 = .ok (.aload_n 0, 1) := by decide +kernel
theorem dM_visit_1 : decode cM_visit 1 = .ok (.getfield 822, 3) := by decide +kernel
theorem dM_visit_4 : decode cM_visit 4 = .ok (.ifCond .ne 5, 3) := by decide +kernel
theorem dM_visit_7 : decode cM_visit 7 = .ok (.iconst (-1), 1) := by decide +kernel
theorem dM_visit_8 : decode cM_visit 8 = .ok (.ireturn, 1) := by decide +kernel
theorem dM_visit_9 : decode cM_visit 9 = .ok (.iload_n 1, 1) := by decide +kernel
theorem dM_visit_10 : decode cM_visit 10 = .ok (.ifCond .lt 11, 3) := by decide +kernel
theorem dM_visit_13 : decode cM_visit 13 = .ok (.iload_n 1, 1) := by decide +kernel
theorem dM_visit_14 : decode cM_visit 14 = .ok (.aload_n 0, 1) := by decide +kernel
theorem dM_visit_15 : decode cM_visit 15 = .ok (.getfield 825, 3) := by decide +kernel
theorem dM_visit_18 : decode cM_visit 18 = .ok (.if_icmp .lt 5, 3) := by decide +kernel
theorem dM_visit_21 : decode cM_visit 21 = .ok (.iconst 0, 1) := by decide +kernel
theorem dM_visit_22 : decode cM_visit 22 = .ok (.ireturn, 1) := by decide +kernel
theorem dM_visit_23 : decode cM_visit 23 = .ok (.aload_n 0, 1) := by decide +kernel
theorem dM_visit_24 : decode cM_visit 24 = .ok (.iload_n 1, 1) := by decide +kernel
theorem dM_visit_25 : decode cM_visit 25 = .ok (.invokevirtual 1069, 3) := by decide +kernel
theorem dM_visit_28 : decode cM_visit 28 = .ok (.iconst 0, 1) := by decide +kernel
theorem dM_visit_29 : decode cM_visit 29 = .ok (.istore_n 2, 1) := by decide +kernel
theorem dM_visit_30 : decode cM_visit 30 = .ok (.iload_n 2, 1) := by decide +kernel
theorem dM_visit_31 : decode cM_visit 31 = .ok (.aload_n 0, 1) := by decide +kernel
theorem dM_visit_32 : decode cM_visit 32 = .ok (.getfield 492, 3) := by decide +kernel
theorem dM_visit_35 : decode cM_visit 35 = .ok (.if_icmp .ge 52, 3) := by decide +kernel
theorem dM_visit_38 : decode cM_visit 38 = .ok (.iconst 0, 1) := by decide +kernel
theorem dM_visit_39 : decode cM_visit 39 = .ok (.istore_n 3, 1) := by decide +kernel
theorem dM_visit_40 : decode cM_visit 40 = .ok (.iload_n 3, 1) := by decide +kernel
theorem dM_visit_41 : decode cM_visit 41 = .ok (.aload_n 0, 1) := by decide +kernel
theorem dM_visit_42 : decode cM_visit 42 = .ok (.getfield 299, 3) := by decide +kernel
theorem dM_visit_45 : decode cM_visit 45 = .ok (.iload_n 2, 1) := by decide +kernel
theorem dM_visit_46 : decode cM_visit 46 = .ok (.invokestatic 886, 3) := by decide +kernel
theorem dM_visit_49 : decode cM_visit 49 = .ok (.iaload, 1) := by decide +kernel
theorem dM_visit_50 : decode cM_visit 50 = .ok (.if_icmp .ge 31, 3) := by decide +kernel
theorem dM_visit_53 : decode cM_visit 53 = .ok (.aload_n 0, 1) := by decide +kernel
theorem dM_visit_54 : decode cM_visit 54 = .ok (.getfield 299, 3) := by decide +kernel
theorem dM_visit_57 : decode cM_visit 57 = .ok (.iload_n 2, 1) := by decide +kernel
theorem dM_visit_58 : decode cM_visit 58 = .ok (.invokestatic 886, 3) := by decide +kernel
theorem dM_visit_61 : decode cM_visit 61 = .ok (.iconst 1, 1) := by decide +kernel
theorem dM_visit_62 : decode cM_visit 62 = .ok (.iadd, 1) := by decide +kernel
theorem dM_visit_63 : decode cM_visit 63 = .ok (.bipush 7, 2) := by decide +kernel
theorem dM_visit_65 : decode cM_visit 65 = .ok (.iload_n 3, 1) := by decide +kernel
theorem dM_visit_66 : decode cM_visit 66 = .ok (.imul, 1) := by decide +kernel
theorem dM_visit_67 : decode cM_visit 67 = .ok (.iadd, 1) := by decide +kernel
theorem dM_visit_68 : decode cM_visit 68 = .ok (.iconst 3, 1) := by decide +kernel
theorem dM_visit_69 : decode cM_visit 69 = .ok (.iadd, 1) := by decide +kernel
theorem dM_visit_70 : decode cM_visit 70 = .ok (.aload_n 0, 1) := by decide +kernel
theorem dM_visit_71 : decode cM_visit 71 = .ok (.getfield 877, 3) := by decide +kernel
theorem dM_visit_74 : decode cM_visit 74 = .ok (.iastore, 1) := by decide +kernel
theorem dM_visit_75 : decode cM_visit 75 = .ok (.iinc 3 1, 3) := by decide +kernel
theorem dM_visit_78 : decode cM_visit 78 = .ok (.goto (-38), 3) := by decide +kernel
theorem dM_visit_81 : decode cM_visit 81 = .ok (.iinc 2 1, 3) := by decide +kernel
theorem dM_visit_84 : decode cM_visit 84 = .ok (.goto (-54), 3) := by decide +kernel
theorem dM_visit_87 : decode cM_visit 87 = .ok (.iconst 0, 1) := by decide +kernel
theorem dM_visit_88 : decode cM_visit 88 = .ok (.istore_n 2, 1) := by decide +kernel
theorem dM_visit_89 : decode cM_visit 89 = .ok (.iload_n 2, 1) := by decide +kernel
theorem dM_visit_90 : decode cM_visit 90 = .ok (.aload_n 0, 1) := by decide +kernel
theorem dM_visit_91 : decode cM_visit 91 = .ok (.getfield 299, 3) := by decide +kernel
theorem dM_visit_94 : decode cM_visit 94 = .ok (.iconst 0, 1) := by decide +kernel
theorem dM_visit_95 : decode cM_visit 95 = .ok (.iaload, 1) := by decide +kernel
theorem dM_visit_96 : decode cM_visit 96 = .ok (.if_icmp .ge 57, 3) := by decide +kernel
theorem dM_visit_99 : decode cM_visit 99 = .ok (.iconst 0, 1) := by decide +kernel
theorem dM_visit_100 : decode cM_visit 100 = .ok (.istore_n 3, 1) := by decide +kernel
theorem dM_visit_101 : decode cM_visit 101 = .ok (.iload_n 3, 1) := by decide +kernel
theorem dM_visit_102 : decode cM_visit 102 = .ok (.iconst 3, 1) := by decide +kernel
theorem dM_visit_103 : decode cM_visit 103 = .ok (.if_icmp .ge 44, 3) := by decide +kernel
theorem dM_visit_106 : decode cM_visit 106 = .ok (.aload_n 0, 1) := by decide +kernel
theorem dM_visit_107 : decode cM_visit 107 = .ok (.getfield 299, 3) := by decide +kernel
theorem dM_visit_110 : decode cM_visit 110 = .ok (.iload_n 2, 1) := by decide +kernel
theorem dM_visit_111 : decode cM_visit 111 = .ok (.invokestatic 840, 3) := by decide +kernel
theorem dM_visit_114 : decode cM_visit 114 = .ok (.bipush 22, 2) := by decide +kernel
theorem dM_visit_116 : decode cM_visit 116 = .ok (.iadd, 1) := by decide +kernel
theorem dM_visit_117 : decode cM_visit 117 = .ok (.iload_n 3, 1) := by decide +kernel
theorem dM_visit_118 : decode cM_visit 118 = .ok (.iadd, 1) := by decide +kernel
theorem dM_visit_119 : decode cM_visit 119 = .ok (.iaload, 1) := by decide +kernel
theorem dM_visit_120 : decode cM_visit 120 = .ok (.ifCond .lt 21, 3) := by decide +kernel
theorem dM_visit_123 : decode cM_visit 123 = .ok (.aload_n 0, 1) := by decide +kernel
theorem dM_visit_124 : decode cM_visit 124 = .ok (.getfield 299, 3) := by decide +kernel
theorem dM_visit_127 : decode cM_visit 127 = .ok (.iload_n 2, 1) := by decide +kernel
theorem dM_visit_128 : decode cM_visit 128 = .ok (.invokestatic 840, 3) := by decide +kernel
theorem dM_visit_131 : decode cM_visit 131 = .ok (.bipush 22, 2) := by decide +kernel
theorem dM_visit_133 : decode cM_visit 133 = .ok (.iadd, 1) := by decide +kernel
theorem dM_visit_134 : decode cM_visit 134 = .ok (.iload_n 3, 1) := by decide +kernel
theorem dM_visit_135 : decode cM_visit 135 = .ok (.iadd, 1) := by decide +kernel
theorem dM_visit_136 : decode cM_visit 136 = .ok (.aload_n 0, 1) := by decide +kernel
theorem dM_visit_137 : decode cM_visit 137 = .ok (.getfield 877, 3) := by decide +kernel
theorem dM_visit_140 : decode cM_visit 140 = .ok (.iastore, 1) := by decide +kernel
theorem dM_visit_141 : decode cM_visit 141 = .ok (.iinc 3 1, 3) := by decide +kernel
theorem dM_visit_144 : decode cM_visit 144 = .ok (.goto (-43), 3) := by decide +kernel
theorem dM_visit_147 : decode cM_visit 147 = .ok (.iinc 2 1, 3) := by decide +kernel
theorem dM_visit_150 : decode cM_visit 150 = .ok (.goto (-61), 3) := by decide +kernel
theorem dM_visit_153 : decode cM_visit 153 = .ok (.aload_n 0, 1) := by decide +kernel
theorem dM_visit_154 : decode cM_visit 154 = .ok (.iconst 0, 1) := by decide +kernel
theorem dM_visit_155 : decode cM_visit 155 = .ok (.putfield 1008, 3) := by decide +kernel
theorem dM_visit_158 : decode cM_visit 158 = .ok (.iconst 1, 1) := by decide +kernel
theorem dM_visit_159 : decode cM_visit 159 = .ok (.ireturn, 1) := by decide +kernel
theorem dM_chart_0 : decode cM_chart 0 = .ok (.iload_n 1, 1) := by decide +kernel
theorem dM_chart_1 : decode cM_chart 1 = .ok (.ifCond .lt 11, 3) := by decide +kernel
theorem dM_chart_4 : decode cM_chart 4 = .ok (.iload_n 1, 1) := by decide +kernel
theorem dM_chart_5 : decode cM_chart 5 = .ok (.aload_n 0, 1) := by decide +kernel
theorem dM_chart_6 : decode cM_chart 6 = .ok (.getfield 402, 3) := by decide +kernel
theorem dM_chart_9 : decode cM_chart 9 = .ok (.if_icmp .le 6, 3) := by decide +kernel
theorem dM_chart_12 : decode cM_chart 12 = .ok (.bipush (-2), 2) := by decide +kernel
theorem dM_chart_14 : decode cM_chart 14 = .ok (.ireturn, 1) := by decide +kernel
theorem dM_chart_15 : decode cM_chart 15 = .ok (.aload_n 0, 1) := by decide +kernel
theorem dM_chart_16 : decode cM_chart 16 = .ok (.iload_n 1, 1) := by decide +kernel
theorem dM_chart_17 : decode cM_chart 17 = .ok (.invokevirtual 810, 3) := by decide +kernel
theorem dM_chart_20 : decode cM_chart 20 = .ok (.aload_n 0, 1) := by decide +kernel
theorem dM_chart_21 : decode cM_chart 21 = .ok (.getfield 822, 3) := by decide +kernel
theorem dM_chart_24 : decode cM_chart 24 = .ok (.ifCond .ne 5, 3) := by decide +kernel
theorem dM_chart_27 : decode cM_chart 27 = .ok (.iconst (-1), 1) := by decide +kernel
theorem dM_chart_28 : decode cM_chart 28 = .ok (.ireturn, 1) := by decide +kernel
theorem dM_chart_29 : decode cM_chart 29 = .ok (.aload_n 0, 1) := by decide +kernel
theorem dM_chart_30 : decode cM_chart 30 = .ok (.iconst 0, 1) := by decide +kernel
theorem dM_chart_31 : decode cM_chart 31 = .ok (.putfield 444, 3) := by decide +kernel
theorem dM_chart_34 : decode cM_chart 34 = .ok (.aload_n 0, 1) := by decide +kernel
theorem dM_chart_35 : decode cM_chart 35 = .ok (.iconst 0, 1) := by decide +kernel
theorem dM_chart_36 : decode cM_chart 36 = .ok (.putfield 457, 3) := by decide +kernel
theorem dM_chart_39 : decode cM_chart 39 = .ok (.aload_n 0, 1) := by decide +kernel
theorem dM_chart_40 : decode cM_chart 40 = .ok (.invokevirtual 801, 3) := by decide +kernel
theorem dM_chart_43 : decode cM_chart 43 = .ok (.aload_n 0, 1) := by decide +kernel
theorem dM_chart_44 : decode cM_chart 44 = .ok (.invokevirtual 1160, 3) := by decide +kernel
theorem dM_chart_47 : decode cM_chart 47 = .ok (.aload_n 0, 1) := by decide +kernel
theorem dM_chart_48 : decode cM_chart 48 = .ok (.getfield 444, 3) := by decide +kernel
theorem dM_chart_51 : decode cM_chart 51 = .ok (.ifCond .ne 17, 3) := by decide +kernel
theorem dM_chart_54 : decode cM_chart 54 = .ok (.aload_n 0, 1) := by decide +kernel
theorem dM_chart_55 : decode cM_chart 55 = .ok (.iconst 1, 1) := by decide +kernel
theorem dM_chart_56 : decode cM_chart 56 = .ok (.putfield 457, 3) := by decide +kernel
theorem dM_chart_59 : decode cM_chart 59 = .ok (.aload_n 0, 1) := by decide +kernel
theorem dM_chart_60 : decode cM_chart 60 = .ok (.invokevirtual 1160, 3) := by decide +kernel
theorem dM_chart_63 : decode cM_chart 63 = .ok (.aload_n 0, 1) := by decide +kernel
theorem dM_chart_64 : decode cM_chart 64 = .ok (.iconst 0, 1) := by decide +kernel
theorem dM_chart_65 : decode cM_chart 65 = .ok (.putfield 457, 3) := by decide +kernel
theorem dM_chart_68 : decode cM_chart 68 = .ok (.aload_n 0, 1) := by decide +kernel
theorem dM_chart_69 : decode cM_chart 69 = .ok (.getfield 444, 3) := by decide +kernel
theorem dM_chart_72 : decode cM_chart 72 = .ok (.ifCond .le 19, 3) := by decide +kernel
theorem dM_chart_75 : decode cM_chart 75 = .ok (.aload_n 0, 1) := by decide +kernel
theorem dM_chart_76 : decode cM_chart 76 = .ok (.aload_n 0, 1) := by decide +kernel
theorem dM_chart_77 : decode cM_chart 77 = .ok (.getfield 447, 3) := by decide +kernel
theorem dM_chart_80 : decode cM_chart 80 = .ok (.putfield 283, 3) := by decide +kernel
theorem dM_chart_83 : decode cM_chart 83 = .ok (.bipush (-10), 2) := by decide +kernel
theorem dM_chart_85 : decode cM_chart 85 = .ok (.aload_n 0, 1) := by decide +kernel
theorem dM_chart_86 : decode cM_chart 86 = .ok (.getfield 444, 3) := by decide +kernel
theorem dM_chart_89 : decode cM_chart 89 = .ok (.isub, 1) := by decide +kernel
theorem dM_chart_90 : decode cM_chart 90 = .ok (.ireturn, 1) := by decide +kernel
theorem dM_chart_91 : decode cM_chart 91 = .ok (.aload_n 0, 1) := by decide +kernel
theorem dM_chart_92 : decode cM_chart 92 = .ok (.invokevirtual 1163, 3) := by decide +kernel
theorem dM_chart_95 : decode cM_chart 95 = .ok (.aload_n 0, 1) := by decide +kernel
theorem dM_chart_96 : decode cM_chart 96 = .ok (.getfield 1151, 3) := by decide +kernel
theorem dM_chart_99 : decode cM_chart 99 = .ok (.ifCond .le 7, 3) := by decide +kernel
theorem dM_chart_102 : decode cM_chart 102 = .ok (.iconst 1, 1) := by decide +kernel
theorem dM_chart_103 : decode cM_chart 103 = .ok (.goto 4, 3) := by decide +kernel
theorem dM_chart_106 : decode cM_chart 106 = .ok (.iconst 0, 1) := by decide +kernel
theorem dM_chart_107 : decode cM_chart 107 = .ok (.ireturn, 1) := by decide +kernel
theorem dM_choices_0 : decode cM_choices 0 = .ok (.iload_n 1, 1) := by decide +kernel
theorem dM_choices_1 : decode cM_choices 1 = .ok (.ifCond .ne 10, 3) := by decide +kernel
theorem dM_choices_4 : decode cM_choices 4 = .ok (.aload_n 0, 1) := by decide +kernel
theorem dM_choices_5 : decode cM_choices 5 = .ok (.getfield 1148, 3) := by decide +kernel
theorem dM_choices_8 : decode cM_choices 8 = .ok (.goto 16, 3) := by decide +kernel
theorem dM_choices_11 : decode cM_choices 11 = .ok (.iload_n 1, 1) := by decide +kernel
theorem dM_choices_12 : decode cM_choices 12 = .ok (.iconst 1, 1) := by decide +kernel
theorem dM_choices_13 : decode cM_choices 13 = .ok (.if_icmp .ne 10, 3) := by decide +kernel
theorem dM_choices_16 : decode cM_choices 16 = .ok (.aload_n 0, 1) := by decide +kernel
theorem dM_choices_17 : decode cM_choices 17 = .ok (.getfield 1151, 3) := by decide +kernel
theorem dM_choices_20 : decode cM_choices 20 = .ok (.goto 4, 3) := by decide +kernel
theorem dM_choices_23 : decode cM_choices 23 = .ok (.iconst (-1), 1) := by decide +kernel
theorem dM_choices_24 : decode cM_choices 24 = .ok (.ireturn, 1) := by decide +kernel
theorem vM_instance_1042 : OkV RM 1042 yM_slotAsked cM_slotAsked 2 (some .int) 1 := ⟨aw_v (tm 3363 (by decide +kernel) rfl) (tm 3365 (by decide +kernel) rfl) (tm 270 (by decide +kernel) rfl) (tm 302 (by decide +kernel) rfl) (tm 3366 (by decide +kernel) rfl), by decide +kernel, by decide +kernel, by decide +kernel⟩
theorem vM_cell_1042 : OkV RM 1042 yM_slotAsked cM_slotAsked 2 (some .int) 1 := ⟨aw_v (tm 3363 (by decide +kernel) rfl) (tm 3365 (by decide +kernel) rfl) (tm 270 (by decide +kernel) rfl) (tm 302 (by decide +kernel) rfl) (tm 3366 (by decide +kernel) rfl), by decide +kernel, by decide +kernel, by decide +kernel⟩
theorem vM_timer_1042 : OkV RM 1042 yM_slotAsked cM_slotAsked 2 (some .int) 1 := ⟨aw_v (tm 3363 (by decide +kernel) rfl) (tm 3365 (by decide +kernel) rfl) (tm 270 (by decide +kernel) rfl) (tm 302 (by decide +kernel) rfl) (tm 3366 (by decide +kernel) rfl), by decide +kernel, by decide +kernel, by decide +kernel⟩
theorem vM_queued_1042 : OkV RM 1042 yM_slotAsked cM_slotAsked 2 (some .int) 1 := ⟨aw_v (tm 3363 (by decide +kernel) rfl) (tm 3365 (by decide +kernel) rfl) (tm 270 (by decide +kernel) rfl) (tm 302 (by decide +kernel) rfl) (tm 3366 (by decide +kernel) rfl), by decide +kernel, by decide +kernel, by decide +kernel⟩
theorem vM_feed_405 : OkV RM 405 yM_four cM_four 3 none 1 := ⟨aw_v (tm 2737 (by decide +kernel) rfl) (tm 2739 (by decide +kernel) rfl) (tm 130 (by decide +kernel) rfl) (tm 302 (by decide +kernel) rfl) (tm 2740 (by decide +kernel) rfl), by decide +kernel, by decide +kernel, by decide +kernel⟩
theorem vM_wrong_453 : OkV RM 453 yM_breaks cM_breaks 3 none 2 := ⟨aw_v (tm 2803 (by decide +kernel) rfl) (tm 2805 (by decide +kernel) rfl) (tm 145 (by decide +kernel) rfl) (tm 302 (by decide +kernel) rfl) (tm 2806 (by decide +kernel) rfl), by decide +kernel, by decide +kernel, by decide +kernel⟩
theorem vM_cut_421 : OkV RM 421 yM_behindBlanks cM_behindBlanks 5 (some .int) 1 := ⟨aw_v (tm 2757 (by decide +kernel) rfl) (tm 2759 (by decide +kernel) rfl) (tm 134 (by decide +kernel) rfl) (tm 302 (by decide +kernel) rfl) (tm 2760 (by decide +kernel) rfl), by decide +kernel, by decide +kernel, by decide +kernel⟩
theorem vM_cut_427 : OkV RM 427 yM_token cM_token 5 none 3 := ⟨aw_v (tm 2773 (by decide +kernel) rfl) (tm 2775 (by decide +kernel) rfl) (tm 138 (by decide +kernel) rfl) (tm 302 (by decide +kernel) rfl) (tm 2776 (by decide +kernel) rfl), by decide +kernel, by decide +kernel, by decide +kernel⟩
theorem vM_mayWord_461 : OkV RM 461 yM_stops cM_stops 1 (some .boolean) 0 := ⟨aw_v (tm 2787 (by decide +kernel) rfl) (tm 2789 (by decide +kernel) rfl) (tm 141 (by decide +kernel) rfl) (tm 302 (by decide +kernel) rfl) (tm 2790 (by decide +kernel) rfl), by decide +kernel, by decide +kernel, by decide +kernel⟩
theorem vM_mayWord_471 : OkV RM 471 yM_isWord cM_isWord 2 (some .boolean) 1 := ⟨aw_v (tm 2795 (by decide +kernel) rfl) (tm 2797 (by decide +kernel) rfl) (tm 143 (by decide +kernel) rfl) (tm 302 (by decide +kernel) rfl) (tm 2798 (by decide +kernel) rfl), by decide +kernel, by decide +kernel, by decide +kernel⟩
theorem vM_system_461 : OkV RM 461 yM_stops cM_stops 1 (some .boolean) 0 := ⟨aw_v (tm 2787 (by decide +kernel) rfl) (tm 2789 (by decide +kernel) rfl) (tm 141 (by decide +kernel) rfl) (tm 302 (by decide +kernel) rfl) (tm 2790 (by decide +kernel) rfl), by decide +kernel, by decide +kernel, by decide +kernel⟩
theorem vM_system_474 : OkV RM 474 yM_wrong cM_wrong 1 none 0 := ⟨aw_v (tm 2815 (by decide +kernel) rfl) (tm 2817 (by decide +kernel) rfl) (tm 148 (by decide +kernel) rfl) (tm 302 (by decide +kernel) rfl) (tm 2818 (by decide +kernel) rfl), by decide +kernel, by decide +kernel, by decide +kernel⟩
theorem vM_system_522 : OkV RM 522 yM_mayWord cM_mayWord 3 (some .boolean) 1 := ⟨aw_v (tm 2791 (by decide +kernel) rfl) (tm 2793 (by decide +kernel) rfl) (tm 142 (by decide +kernel) rfl) (tm 302 (by decide +kernel) rfl) (tm 2794 (by decide +kernel) rfl), by decide +kernel, by decide +kernel, by decide +kernel⟩
theorem vM_parse_801 : OkV RM 801 yM_cut cM_cut 3 none 0 := ⟨aw_v (tm 2753 (by decide +kernel) rfl) (tm 2755 (by decide +kernel) rfl) (tm 133 (by decide +kernel) rfl) (tm 302 (by decide +kernel) rfl) (tm 2756 (by decide +kernel) rfl), by decide +kernel, by decide +kernel, by decide +kernel⟩
theorem vM_parse_804 : OkV RM 804 yM_system cM_system 5 none 0 := ⟨aw_v (tm 2783 (by decide +kernel) rfl) (tm 2785 (by decide +kernel) rfl) (tm 140 (by decide +kernel) rfl) (tm 302 (by decide +kernel) rfl) (tm 2786 (by decide +kernel) rfl), by decide +kernel, by decide +kernel, by decide +kernel⟩
theorem vM_load_810 : OkV RM 810 yM_toText cM_toText 3 none 1 := ⟨aw_v (tm 2745 (by decide +kernel) rfl) (tm 2747 (by decide +kernel) rfl) (tm 131 (by decide +kernel) rfl) (tm 302 (by decide +kernel) rfl) (tm 2748 (by decide +kernel) rfl), by decide +kernel, by decide +kernel, by decide +kernel⟩
theorem vM_load_813 : OkV RM 813 yM_parse cM_parse 1 (some .boolean) 0 := ⟨aw_v (tm 2749 (by decide +kernel) rfl) (tm 2751 (by decide +kernel) rfl) (tm 132 (by decide +kernel) rfl) (tm 302 (by decide +kernel) rfl) (tm 2752 (by decide +kernel) rfl), by decide +kernel, by decide +kernel, by decide +kernel⟩
theorem vM_chart_810 : OkV RM 810 yM_toText cM_toText 3 none 1 := ⟨aw_v (tm 2745 (by decide +kernel) rfl) (tm 2747 (by decide +kernel) rfl) (tm 131 (by decide +kernel) rfl) (tm 302 (by decide +kernel) rfl) (tm 2748 (by decide +kernel) rfl), by decide +kernel, by decide +kernel, by decide +kernel⟩

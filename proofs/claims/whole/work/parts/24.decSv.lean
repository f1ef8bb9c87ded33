theorem d_Sv_turn_0 : decode c_Sv_turn 0 = .ok (.aload_n 0, 1) := by decide +kernel
theorem d_Sv_turn_1 : decode c_Sv_turn 1 = .ok (.iload_n 1, 1) := by decide +kernel
theorem d_Sv_turn_2 : decode c_Sv_turn 2 = .ok (.putfield 47, 3) := by decide +kernel
theorem d_Sv_turn_5 : decode c_Sv_turn 5 = .ok (.aload_n 0, 1) := by decide +kernel
theorem d_Sv_turn_6 : decode c_Sv_turn 6 = .ok (.iconst 0, 1) := by decide +kernel
theorem d_Sv_turn_7 : decode c_Sv_turn 7 = .ok (.putfield 68, 3) := by decide +kernel
theorem d_Sv_turn_10 : decode c_Sv_turn 10 = .ok (.aload_n 0, 1) := by decide +kernel
theorem d_Sv_turn_11 : decode c_Sv_turn 11 = .ok (.iconst 0, 1) := by decide +kernel
theorem d_Sv_turn_12 : decode c_Sv_turn 12 = .ok (.putfield 71, 3) := by decide +kernel
theorem d_Sv_turn_15 : decode c_Sv_turn 15 = .ok (.aload_n 0, 1) := by decide +kernel
theorem d_Sv_turn_16 : decode c_Sv_turn 16 = .ok (.iconst 0, 1) := by decide +kernel
theorem d_Sv_turn_17 : decode c_Sv_turn 17 = .ok (.putfield 74, 3) := by decide +kernel
theorem d_Sv_turn_20 : decode c_Sv_turn 20 = .ok (.return_, 1) := by decide +kernel
theorem d_Sv_takeRequest_0 : decode c_Sv_takeRequest 0 = .ok (.aload_n 0, 1) := by decide +kernel
theorem d_Sv_takeRequest_1 : decode c_Sv_takeRequest 1 = .ok (.getfield 47, 3) := by decide +kernel
theorem d_Sv_takeRequest_4 : decode c_Sv_takeRequest 4 = .ok (.ifCond .ne 4, 3) := by decide +kernel
theorem d_Sv_takeRequest_7 : decode c_Sv_takeRequest 7 = .ok (.return_, 1) := by decide +kernel
theorem d_Sv_takeRequest_8 : decode c_Sv_takeRequest 8 = .ok (.aload_n 0, 1) := by decide +kernel
theorem d_Sv_takeRequest_9 : decode c_Sv_takeRequest 9 = .ok (.aload_n 1, 1) := by decide +kernel
theorem d_Sv_takeRequest_10 : decode c_Sv_takeRequest 10 = .ok (.invokevirtual 77, 3) := by decide +kernel
theorem d_Sv_takeRequest_13 : decode c_Sv_takeRequest 13 = .ok (.ifCond .ne 14, 3) := by decide +kernel
theorem d_Sv_takeRequest_16 : decode c_Sv_takeRequest 16 = .ok (.aload_n 0, 1) := by decide +kernel
theorem d_Sv_takeRequest_17 : decode c_Sv_takeRequest 17 = .ok (.dup, 1) := by decide +kernel
theorem d_Sv_takeRequest_18 : decode c_Sv_takeRequest 18 = .ok (.getfield 81, 3) := by decide +kernel
theorem d_Sv_takeRequest_21 : decode c_Sv_takeRequest 21 = .ok (.iconst 1, 1) := by decide +kernel
theorem d_Sv_takeRequest_22 : decode c_Sv_takeRequest 22 = .ok (.iadd, 1) := by decide +kernel
theorem d_Sv_takeRequest_23 : decode c_Sv_takeRequest 23 = .ok (.putfield 81, 3) := by decide +kernel
theorem d_Sv_takeRequest_26 : decode c_Sv_takeRequest 26 = .ok (.return_, 1) := by decide +kernel
theorem d_Sv_takeRequest_27 : decode c_Sv_takeRequest 27 = .ok (.aload_n 0, 1) := by decide +kernel
theorem d_Sv_takeRequest_28 : decode c_Sv_takeRequest 28 = .ok (.invokevirtual 84, 3) := by decide +kernel
theorem d_Sv_takeRequest_31 : decode c_Sv_takeRequest 31 = .ok (.istore_n 2, 1) := by decide +kernel
theorem d_Sv_takeRequest_32 : decode c_Sv_takeRequest 32 = .ok (.iload_n 2, 1) := by decide +kernel
theorem d_Sv_takeRequest_33 : decode c_Sv_takeRequest 33 = .ok (.iconst (-1), 1) := by decide +kernel
theorem d_Sv_takeRequest_34 : decode c_Sv_takeRequest 34 = .ok (.if_icmp .ne 19, 3) := by decide +kernel
theorem d_Sv_takeRequest_37 : decode c_Sv_takeRequest 37 = .ok (.aload_n 0, 1) := by decide +kernel
theorem d_Sv_takeRequest_38 : decode c_Sv_takeRequest 38 = .ok (.aload_n 0, 1) := by decide +kernel
theorem d_Sv_takeRequest_39 : decode c_Sv_takeRequest 39 = .ok (.getfield 33, 3) := by decide +kernel
theorem d_Sv_takeRequest_42 : decode c_Sv_takeRequest 42 = .ok (.getfield 88, 3) := by decide +kernel
theorem d_Sv_takeRequest_45 : decode c_Sv_takeRequest 45 = .ok (.invokevirtual 91, 3) := by decide +kernel
theorem d_Sv_takeRequest_48 : decode c_Sv_takeRequest 48 = .ok (.aload_n 0, 1) := by decide +kernel
theorem d_Sv_takeRequest_49 : decode c_Sv_takeRequest 49 = .ok (.invokevirtual 95, 3) := by decide +kernel
theorem d_Sv_takeRequest_52 : decode c_Sv_takeRequest 52 = .ok (.istore_n 2, 1) := by decide +kernel
theorem d_Sv_takeRequest_53 : decode c_Sv_takeRequest 53 = .ok (.aload_n 0, 1) := by decide +kernel
theorem d_Sv_takeRequest_54 : decode c_Sv_takeRequest 54 = .ok (.getfield 62, 3) := by decide +kernel
theorem d_Sv_takeRequest_57 : decode c_Sv_takeRequest 57 = .ok (.iconst 3, 1) := by decide +kernel
theorem d_Sv_takeRequest_58 : decode c_Sv_takeRequest 58 = .ok (.aload_n 0, 1) := by decide +kernel
theorem d_Sv_takeRequest_59 : decode c_Sv_takeRequest 59 = .ok (.getfield 51, 3) := by decide +kernel
theorem d_Sv_takeRequest_62 : decode c_Sv_takeRequest 62 = .ok (.aload_n 0, 1) := by decide +kernel
theorem d_Sv_takeRequest_63 : decode c_Sv_takeRequest 63 = .ok (.getfield 26, 3) := by decide +kernel
theorem d_Sv_takeRequest_66 : decode c_Sv_takeRequest 66 = .ok (.iload_n 2, 1) := by decide +kernel
theorem d_Sv_takeRequest_67 : decode c_Sv_takeRequest 67 = .ok (.aaload, 1) := by decide +kernel
theorem d_Sv_takeRequest_68 : decode c_Sv_takeRequest 68 = .ok (.invokevirtual 98, 3) := by decide +kernel
theorem d_Sv_takeRequest_71 : decode c_Sv_takeRequest 71 = .ok (.return_, 1) := by decide +kernel
theorem d_Sv_accepts_0 : decode c_Sv_accepts 0 = .ok (.aload_n 0, 1) := by decide +kernel
theorem d_Sv_accepts_1 : decode c_Sv_accepts 1 = .ok (.getfield 33, 3) := by decide +kernel
theorem d_Sv_accepts_4 : decode c_Sv_accepts 4 = .ok (.aload_n 1, 1) := by decide +kernel
theorem d_Sv_accepts_5 : decode c_Sv_accepts 5 = .ok (.invokevirtual 104, 3) := by decide +kernel
theorem d_Sv_accepts_8 : decode c_Sv_accepts 8 = .ok (.ifCond .eq 49, 3) := by decide +kernel
theorem d_Sv_accepts_11 : decode c_Sv_accepts 11 = .ok (.aload_n 0, 1) := by decide +kernel
theorem d_Sv_accepts_12 : decode c_Sv_accepts 12 = .ok (.getfield 33, 3) := by decide +kernel
theorem d_Sv_accepts_15 : decode c_Sv_accepts 15 = .ok (.invokevirtual 107, 3) := by decide +kernel
theorem d_Sv_accepts_18 : decode c_Sv_accepts 18 = .ok (.iconst 1, 1) := by decide +kernel
theorem d_Sv_accepts_19 : decode c_Sv_accepts 19 = .ok (.if_icmp .ne 38, 3) := by decide +kernel
theorem d_Sv_accepts_22 : decode c_Sv_accepts 22 = .ok (.aload_n 0, 1) := by decide +kernel
theorem d_Sv_accepts_23 : decode c_Sv_accepts 23 = .ok (.getfield 33, 3) := by decide +kernel
theorem d_Sv_accepts_26 : decode c_Sv_accepts 26 = .ok (.getfield 110, 3) := by decide +kernel
theorem d_Sv_accepts_29 : decode c_Sv_accepts 29 = .ok (.ifCond .eq 28, 3) := by decide +kernel
theorem d_Sv_accepts_32 : decode c_Sv_accepts 32 = .ok (.aload_n 0, 1) := by decide +kernel
theorem d_Sv_accepts_33 : decode c_Sv_accepts 33 = .ok (.getfield 33, 3) := by decide +kernel
theorem d_Sv_accepts_36 : decode c_Sv_accepts 36 = .ok (.aload_n 0, 1) := by decide +kernel
theorem d_Sv_accepts_37 : decode c_Sv_accepts 37 = .ok (.getfield 55, 3) := by decide +kernel
theorem d_Sv_accepts_40 : decode c_Sv_accepts 40 = .ok (.aload_n 0, 1) := by decide +kernel
theorem d_Sv_accepts_41 : decode c_Sv_accepts 41 = .ok (.getfield 33, 3) := by decide +kernel
theorem d_Sv_accepts_44 : decode c_Sv_accepts 44 = .ok (.getfield 113, 3) := by decide +kernel
theorem d_Sv_accepts_47 : decode c_Sv_accepts 47 = .ok (.invokevirtual 116, 3) := by decide +kernel
theorem d_Sv_accepts_50 : decode c_Sv_accepts 50 = .ok (.ifCond .eq 7, 3) := by decide +kernel
theorem d_Sv_accepts_53 : decode c_Sv_accepts 53 = .ok (.iconst 1, 1) := by decide +kernel
theorem d_Sv_accepts_54 : decode c_Sv_accepts 54 = .ok (.goto 4, 3) := by decide +kernel
theorem d_Sv_accepts_57 : decode c_Sv_accepts 57 = .ok (.iconst 0, 1) := by decide +kernel
theorem d_Sv_accepts_58 : decode c_Sv_accepts 58 = .ok (.ireturn, 1) := by decide +kernel
theorem d_Sv_slotOfRequest_0 : decode c_Sv_slotOfRequest 0 = .ok (.iconst 0, 1) := by decide +kernel
theorem d_Sv_slotOfRequest_1 : decode c_Sv_slotOfRequest 1 = .ok (.istore_n 1, 1) := by decide +kernel
theorem d_Sv_slotOfRequest_2 : decode c_Sv_slotOfRequest 2 = .ok (.iload_n 1, 1) := by decide +kernel
theorem d_Sv_slotOfRequest_3 : decode c_Sv_slotOfRequest 3 = .ok (.aload_n 0, 1) := by decide +kernel
theorem d_Sv_slotOfRequest_4 : decode c_Sv_slotOfRequest 4 = .ok (.getfield 71, 3) := by decide +kernel
theorem d_Sv_slotOfRequest_7 : decode c_Sv_slotOfRequest 7 = .ok (.if_icmp .ge 43, 3) := by decide +kernel
theorem d_Sv_slotOfRequest_10 : decode c_Sv_slotOfRequest 10 = .ok (.aload_n 0, 1) := by decide +kernel
theorem d_Sv_slotOfRequest_11 : decode c_Sv_slotOfRequest 11 = .ok (.getfield 17, 3) := by decide +kernel
theorem d_Sv_slotOfRequest_14 : decode c_Sv_slotOfRequest 14 = .ok (.iload_n 1, 1) := by decide +kernel
theorem d_Sv_slotOfRequest_15 : decode c_Sv_slotOfRequest 15 = .ok (.iaload, 1) := by decide +kernel
theorem d_Sv_slotOfRequest_16 : decode c_Sv_slotOfRequest 16 = .ok (.aload_n 0, 1) := by decide +kernel
theorem d_Sv_slotOfRequest_17 : decode c_Sv_slotOfRequest 17 = .ok (.getfield 33, 3) := by decide +kernel
theorem d_Sv_slotOfRequest_20 : decode c_Sv_slotOfRequest 20 = .ok (.invokevirtual 120, 3) := by decide +kernel
theorem d_Sv_slotOfRequest_23 : decode c_Sv_slotOfRequest 23 = .ok (.if_icmp .ne 21, 3) := by decide +kernel
theorem d_Sv_slotOfRequest_26 : decode c_Sv_slotOfRequest 26 = .ok (.aload_n 0, 1) := by decide +kernel
theorem d_Sv_slotOfRequest_27 : decode c_Sv_slotOfRequest 27 = .ok (.getfield 21, 3) := by decide +kernel
theorem d_Sv_slotOfRequest_30 : decode c_Sv_slotOfRequest 30 = .ok (.iload_n 1, 1) := by decide +kernel
theorem d_Sv_slotOfRequest_31 : decode c_Sv_slotOfRequest 31 = .ok (.iaload, 1) := by decide +kernel
theorem d_Sv_slotOfRequest_32 : decode c_Sv_slotOfRequest 32 = .ok (.aload_n 0, 1) := by decide +kernel
theorem d_Sv_slotOfRequest_33 : decode c_Sv_slotOfRequest 33 = .ok (.getfield 33, 3) := by decide +kernel
theorem d_Sv_slotOfRequest_36 : decode c_Sv_slotOfRequest 36 = .ok (.getfield 113, 3) := by decide +kernel
theorem d_Sv_slotOfRequest_39 : decode c_Sv_slotOfRequest 39 = .ok (.if_icmp .ne 5, 3) := by decide +kernel
theorem d_Sv_slotOfRequest_42 : decode c_Sv_slotOfRequest 42 = .ok (.iload_n 1, 1) := by decide +kernel
theorem d_Sv_slotOfRequest_43 : decode c_Sv_slotOfRequest 43 = .ok (.ireturn, 1) := by decide +kernel
theorem d_Sv_slotOfRequest_44 : decode c_Sv_slotOfRequest 44 = .ok (.iinc 1 1, 3) := by decide +kernel
theorem d_Sv_slotOfRequest_47 : decode c_Sv_slotOfRequest 47 = .ok (.goto (-45), 3) := by decide +kernel
theorem d_Sv_slotOfRequest_50 : decode c_Sv_slotOfRequest 50 = .ok (.iconst (-1), 1) := by decide +kernel
theorem d_Sv_slotOfRequest_51 : decode c_Sv_slotOfRequest 51 = .ok (.ireturn, 1) := by decide +kernel
theorem d_Sv_keepAnswer_0 : decode c_Sv_keepAnswer 0 = .ok (.aload_n 0, 1) := by decide +kernel
theorem d_Sv_keepAnswer_1 : decode c_Sv_keepAnswer 1 = .ok (.getfield 74, 3) := by decide +kernel
theorem d_Sv_keepAnswer_4 : decode c_Sv_keepAnswer 4 = .ok (.istore_n 1, 1) := by decide +kernel
theorem d_Sv_keepAnswer_5 : decode c_Sv_keepAnswer 5 = .ok (.aload_n 0, 1) := by decide +kernel
theorem d_Sv_keepAnswer_6 : decode c_Sv_keepAnswer 6 = .ok (.getfield 37, 3) := by decide +kernel
theorem d_Sv_keepAnswer_9 : decode c_Sv_keepAnswer 9 = .ok (.aload_n 0, 1) := by decide +kernel
theorem d_Sv_keepAnswer_10 : decode c_Sv_keepAnswer 10 = .ok (.getfield 123, 3) := by decide +kernel
theorem d_Sv_keepAnswer_13 : decode c_Sv_keepAnswer 13 = .ok (.aload_n 0, 1) := by decide +kernel
theorem d_Sv_keepAnswer_14 : decode c_Sv_keepAnswer 14 = .ok (.getfield 33, 3) := by decide +kernel
theorem d_Sv_keepAnswer_17 : decode c_Sv_keepAnswer 17 = .ok (.invokevirtual 120, 3) := by decide +kernel
theorem d_Sv_keepAnswer_20 : decode c_Sv_keepAnswer 20 = .ok (.aload_n 0, 1) := by decide +kernel
theorem d_Sv_keepAnswer_21 : decode c_Sv_keepAnswer 21 = .ok (.getfield 33, 3) := by decide +kernel
theorem d_Sv_keepAnswer_24 : decode c_Sv_keepAnswer 24 = .ok (.getfield 113, 3) := by decide +kernel
theorem d_Sv_keepAnswer_27 : decode c_Sv_keepAnswer 27 = .ok (.iconst (-1), 1) := by decide +kernel
theorem d_Sv_keepAnswer_28 : decode c_Sv_keepAnswer 28 = .ok (.aload_n 0, 1) := by decide +kernel
theorem d_Sv_keepAnswer_29 : decode c_Sv_keepAnswer 29 = .ok (.getfield 126, 3) := by decide +kernel
theorem d_Sv_keepAnswer_32 : decode c_Sv_keepAnswer 32 = .ok (.aload_n 0, 1) := by decide +kernel
theorem d_Sv_keepAnswer_33 : decode c_Sv_keepAnswer 33 = .ok (.getfield 43, 3) := by decide +kernel
theorem d_Sv_keepAnswer_36 : decode c_Sv_keepAnswer 36 = .ok (.invokevirtual 129, 3) := by decide +kernel
theorem d_Sv_keepAnswer_39 : decode c_Sv_keepAnswer 39 = .ok (.aload_n 0, 1) := by decide +kernel
theorem d_Sv_keepAnswer_40 : decode c_Sv_keepAnswer 40 = .ok (.getfield 37, 3) := by decide +kernel
theorem d_Sv_keepAnswer_43 : decode c_Sv_keepAnswer 43 = .ok (.aload_n 0, 1) := by decide +kernel
theorem d_Sv_keepAnswer_44 : decode c_Sv_keepAnswer 44 = .ok (.getfield 55, 3) := by decide +kernel
theorem d_Sv_keepAnswer_47 : decode c_Sv_keepAnswer 47 = .ok (.invokevirtual 133, 3) := by decide +kernel
theorem d_Sv_keepAnswer_50 : decode c_Sv_keepAnswer 50 = .ok (.aload_n 0, 1) := by decide +kernel
theorem d_Sv_keepAnswer_51 : decode c_Sv_keepAnswer 51 = .ok (.getfield 17, 3) := by decide +kernel
theorem d_Sv_keepAnswer_54 : decode c_Sv_keepAnswer 54 = .ok (.iload_n 1, 1) := by decide +kernel
theorem d_Sv_keepAnswer_55 : decode c_Sv_keepAnswer 55 = .ok (.aload_n 0, 1) := by decide +kernel
theorem d_Sv_keepAnswer_56 : decode c_Sv_keepAnswer 56 = .ok (.getfield 33, 3) := by decide +kernel
theorem d_Sv_keepAnswer_59 : decode c_Sv_keepAnswer 59 = .ok (.invokevirtual 120, 3) := by decide +kernel
theorem d_Sv_keepAnswer_62 : decode c_Sv_keepAnswer 62 = .ok (.iastore, 1) := by decide +kernel
theorem d_Sv_keepAnswer_63 : decode c_Sv_keepAnswer 63 = .ok (.aload_n 0, 1) := by decide +kernel
theorem d_Sv_keepAnswer_64 : decode c_Sv_keepAnswer 64 = .ok (.getfield 21, 3) := by decide +kernel
theorem d_Sv_keepAnswer_67 : decode c_Sv_keepAnswer 67 = .ok (.iload_n 1, 1) := by decide +kernel
theorem d_Sv_keepAnswer_68 : decode c_Sv_keepAnswer 68 = .ok (.aload_n 0, 1) := by decide +kernel
theorem d_Sv_keepAnswer_69 : decode c_Sv_keepAnswer 69 = .ok (.getfield 33, 3) := by decide +kernel
theorem d_Sv_keepAnswer_72 : decode c_Sv_keepAnswer 72 = .ok (.getfield 113, 3) := by decide +kernel
theorem d_Sv_keepAnswer_75 : decode c_Sv_keepAnswer 75 = .ok (.iastore, 1) := by decide +kernel
theorem d_Sv_keepAnswer_76 : decode c_Sv_keepAnswer 76 = .ok (.aload_n 0, 1) := by decide +kernel
theorem d_Sv_keepAnswer_77 : decode c_Sv_keepAnswer 77 = .ok (.getfield 26, 3) := by decide +kernel
theorem d_Sv_keepAnswer_80 : decode c_Sv_keepAnswer 80 = .ok (.iload_n 1, 1) := by decide +kernel
theorem d_Sv_keepAnswer_81 : decode c_Sv_keepAnswer 81 = .ok (.aaload, 1) := by decide +kernel
theorem d_Sv_keepAnswer_82 : decode c_Sv_keepAnswer 82 = .ok (.aload_n 0, 1) := by decide +kernel
theorem d_Sv_keepAnswer_83 : decode c_Sv_keepAnswer 83 = .ok (.getfield 37, 3) := by decide +kernel
theorem d_Sv_keepAnswer_86 : decode c_Sv_keepAnswer 86 = .ok (.getfield 137, 3) := by decide +kernel
theorem d_Sv_keepAnswer_89 : decode c_Sv_keepAnswer 89 = .ok (.invokevirtual 141, 3) := by decide +kernel
theorem d_Sv_keepAnswer_92 : decode c_Sv_keepAnswer 92 = .ok (.aload_n 0, 1) := by decide +kernel
theorem d_Sv_keepAnswer_93 : decode c_Sv_keepAnswer 93 = .ok (.iload_n 1, 1) := by decide +kernel
theorem d_Sv_keepAnswer_94 : decode c_Sv_keepAnswer 94 = .ok (.iconst 1, 1) := by decide +kernel
theorem d_Sv_keepAnswer_95 : decode c_Sv_keepAnswer 95 = .ok (.iadd, 1) := by decide +kernel
theorem d_Sv_keepAnswer_96 : decode c_Sv_keepAnswer 96 = .ok (.iconst 4, 1) := by decide +kernel
theorem d_Sv_keepAnswer_97 : decode c_Sv_keepAnswer 97 = .ok (.irem, 1) := by decide +kernel
theorem d_Sv_keepAnswer_98 : decode c_Sv_keepAnswer 98 = .ok (.putfield 74, 3) := by decide +kernel
theorem d_Sv_keepAnswer_101 : decode c_Sv_keepAnswer 101 = .ok (.aload_n 0, 1) := by decide +kernel
theorem d_Sv_keepAnswer_102 : decode c_Sv_keepAnswer 102 = .ok (.aload_n 0, 1) := by decide +kernel
theorem d_Sv_keepAnswer_103 : decode c_Sv_keepAnswer 103 = .ok (.getfield 71, 3) := by decide +kernel
theorem d_Sv_keepAnswer_106 : decode c_Sv_keepAnswer 106 = .ok (.iconst 1, 1) := by decide +kernel
theorem d_Sv_keepAnswer_107 : decode c_Sv_keepAnswer 107 = .ok (.iadd, 1) := by decide +kernel
theorem d_Sv_keepAnswer_108 : decode c_Sv_keepAnswer 108 = .ok (.iconst 4, 1) := by decide +kernel
theorem d_Sv_keepAnswer_109 : decode c_Sv_keepAnswer 109 = .ok (.invokestatic 145, 3) := by decide +kernel
theorem d_Sv_keepAnswer_112 : decode c_Sv_keepAnswer 112 = .ok (.putfield 71, 3) := by decide +kernel
theorem d_Sv_keepAnswer_115 : decode c_Sv_keepAnswer 115 = .ok (.iload_n 1, 1) := by decide +kernel
theorem d_Sv_keepAnswer_116 : decode c_Sv_keepAnswer 116 = .ok (.ireturn, 1) := by decide +kernel
theorem d_Sv_decide_0 : decode c_Sv_decide 0 = .ok (.aload_n 0, 1) := by decide +kernel
theorem d_Sv_decide_1 : decode c_Sv_decide 1 = .ok (.aload_n 0, 1) := by decide +kernel
theorem d_Sv_decide_2 : decode c_Sv_decide 2 = .ok (.getfield 33, 3) := by decide +kernel
theorem d_Sv_decide_5 : decode c_Sv_decide 5 = .ok (.getfield 151, 3) := by decide +kernel
theorem d_Sv_decide_8 : decode c_Sv_decide 8 = .ok (.invokevirtual 154, 3) := by decide +kernel
theorem d_Sv_decide_11 : decode c_Sv_decide 11 = .ok (.astore_n 2, 1) := by decide +kernel
theorem d_Sv_decide_12 : decode c_Sv_decide 12 = .ok (.iconst 0, 1) := by decide +kernel
theorem d_Sv_decide_13 : decode c_Sv_decide 13 = .ok (.istore_n 3, 1) := by decide +kernel
theorem d_Sv_decide_14 : decode c_Sv_decide 14 = .ok (.aload_n 1, 1) := by decide +kernel
theorem d_Sv_decide_15 : decode c_Sv_decide 15 = .ok (.invokevirtual 158, 3) := by decide +kernel
theorem d_Sv_decide_18 : decode c_Sv_decide 18 = .ok (.iconst 2, 1) := by decide +kernel
theorem d_Sv_decide_19 : decode c_Sv_decide 19 = .ok (.if_icmp .ne 20, 3) := by decide +kernel
theorem d_Sv_decide_22 : decode c_Sv_decide 22 = .ok (.aload_n 1, 1) := by decide +kernel
theorem d_Sv_decide_23 : decode c_Sv_decide 23 = .ok (.invokevirtual 159, 3) := by decide +kernel
theorem d_Sv_decide_26 : decode c_Sv_decide 26 = .ok (.iconst 1, 1) := by decide +kernel
theorem d_Sv_decide_27 : decode c_Sv_decide 27 = .ok (.if_icmp .ne 12, 3) := by decide +kernel
theorem d_Sv_decide_30 : decode c_Sv_decide 30 = .ok (.aload_n 0, 1) := by decide +kernel
theorem d_Sv_decide_31 : decode c_Sv_decide 31 = .ok (.aload_n 1, 1) := by decide +kernel
theorem d_Sv_decide_32 : decode c_Sv_decide 32 = .ok (.invokevirtual 162, 3) := by decide +kernel
theorem d_Sv_decide_35 : decode c_Sv_decide 35 = .ok (.istore_n 3, 1) := by decide +kernel
theorem d_Sv_decide_36 : decode c_Sv_decide 36 = .ok (.goto 33, 3) := by decide +kernel
theorem d_Sv_decide_39 : decode c_Sv_decide 39 = .ok (.aload_n 1, 1) := by decide +kernel
theorem d_Sv_decide_40 : decode c_Sv_decide 40 = .ok (.invokevirtual 158, 3) := by decide +kernel
theorem d_Sv_decide_43 : decode c_Sv_decide 43 = .ok (.iconst 2, 1) := by decide +kernel
theorem d_Sv_decide_44 : decode c_Sv_decide 44 = .ok (.if_icmp .ne 25, 3) := by decide +kernel
theorem d_Sv_decide_47 : decode c_Sv_decide 47 = .ok (.aload_n 2, 1) := by decide +kernel
theorem d_Sv_decide_48 : decode c_Sv_decide 48 = .ok (.ifnull 21, 3) := by decide +kernel
theorem d_Sv_decide_51 : decode c_Sv_decide 51 = .ok (.aload_n 1, 1) := by decide +kernel
theorem d_Sv_decide_52 : decode c_Sv_decide 52 = .ok (.invokevirtual 166, 3) := by decide +kernel
theorem d_Sv_decide_55 : decode c_Sv_decide 55 = .ok (.aload_n 2, 1) := by decide +kernel
theorem d_Sv_decide_56 : decode c_Sv_decide 56 = .ok (.getfield 167, 3) := by decide +kernel
theorem d_Sv_decide_59 : decode c_Sv_decide 59 = .ok (.if_icmp .ne 10, 3) := by decide +kernel
theorem d_Sv_decide_62 : decode c_Sv_decide 62 = .ok (.aload_n 0, 1) := by decide +kernel
theorem d_Sv_decide_63 : decode c_Sv_decide 63 = .ok (.aload_n 2, 1) := by decide +kernel
theorem d_Sv_decide_64 : decode c_Sv_decide 64 = .ok (.aload_n 1, 1) := by decide +kernel
theorem d_Sv_decide_65 : decode c_Sv_decide 65 = .ok (.invokevirtual 170, 3) := by decide +kernel
theorem d_Sv_decide_68 : decode c_Sv_decide 68 = .ok (.istore_n 3, 1) := by decide +kernel
theorem d_Sv_decide_69 : decode c_Sv_decide 69 = .ok (.iload_n 3, 1) := by decide +kernel
theorem d_Sv_decide_70 : decode c_Sv_decide 70 = .ok (.ifCond .ne 10, 3) := by decide +kernel
theorem d_Sv_decide_73 : decode c_Sv_decide 73 = .ok (.aload_n 0, 1) := by decide +kernel
theorem d_Sv_decide_74 : decode c_Sv_decide 74 = .ok (.iconst 3, 1) := by decide +kernel
theorem d_Sv_decide_75 : decode c_Sv_decide 75 = .ok (.iconst 4, 1) := by decide +kernel
theorem d_Sv_decide_76 : decode c_Sv_decide 76 = .ok (.aload_n 2, 1) := by decide +kernel
theorem d_Sv_decide_77 : decode c_Sv_decide 77 = .ok (.invokevirtual 174, 3) := by decide +kernel
theorem d_Sv_decide_80 : decode c_Sv_decide 80 = .ok (.return_, 1) := by decide +kernel
theorem d_Sv_sessionNumbered_0 : decode c_Sv_sessionNumbered 0 = .ok (.iconst 0, 1) := by decide +kernel
theorem d_Sv_sessionNumbered_1 : decode c_Sv_sessionNumbered 1 = .ok (.istore_n 2, 1) := by decide +kernel
theorem d_Sv_sessionNumbered_2 : decode c_Sv_sessionNumbered 2 = .ok (.iload_n 2, 1) := by decide +kernel
theorem d_Sv_sessionNumbered_3 : decode c_Sv_sessionNumbered 3 = .ok (.aload_n 0, 1) := by decide +kernel
theorem d_Sv_sessionNumbered_4 : decode c_Sv_sessionNumbered 4 = .ok (.getfield 68, 3) := by decide +kernel
theorem d_Sv_sessionNumbered_7 : decode c_Sv_sessionNumbered 7 = .ok (.if_icmp .ge 29, 3) := by decide +kernel
theorem d_Sv_sessionNumbered_10 : decode c_Sv_sessionNumbered 10 = .ok (.aload_n 0, 1) := by decide +kernel
theorem d_Sv_sessionNumbered_11 : decode c_Sv_sessionNumbered 11 = .ok (.getfield 13, 3) := by decide +kernel
theorem d_Sv_sessionNumbered_14 : decode c_Sv_sessionNumbered 14 = .ok (.iload_n 2, 1) := by decide +kernel
theorem d_Sv_sessionNumbered_15 : decode c_Sv_sessionNumbered 15 = .ok (.aaload, 1) := by decide +kernel
theorem d_Sv_sessionNumbered_16 : decode c_Sv_sessionNumbered 16 = .ok (.getfield 178, 3) := by decide +kernel
theorem d_Sv_sessionNumbered_19 : decode c_Sv_sessionNumbered 19 = .ok (.iload_n 1, 1) := by decide +kernel
theorem d_Sv_sessionNumbered_20 : decode c_Sv_sessionNumbered 20 = .ok (.if_icmp .ne 10, 3) := by decide +kernel
theorem d_Sv_sessionNumbered_23 : decode c_Sv_sessionNumbered 23 = .ok (.aload_n 0, 1) := by decide +kernel
theorem d_Sv_sessionNumbered_24 : decode c_Sv_sessionNumbered 24 = .ok (.getfield 13, 3) := by decide +kernel
theorem d_Sv_sessionNumbered_27 : decode c_Sv_sessionNumbered 27 = .ok (.iload_n 2, 1) := by decide +kernel
theorem d_Sv_sessionNumbered_28 : decode c_Sv_sessionNumbered 28 = .ok (.aaload, 1) := by decide +kernel
theorem d_Sv_sessionNumbered_29 : decode c_Sv_sessionNumbered 29 = .ok (.areturn, 1) := by decide +kernel
theorem d_Sv_sessionNumbered_30 : decode c_Sv_sessionNumbered 30 = .ok (.iinc 2 1, 3) := by decide +kernel
theorem d_Sv_sessionNumbered_33 : decode c_Sv_sessionNumbered 33 = .ok (.goto (-31), 3) := by decide +kernel
theorem d_Sv_sessionNumbered_36 : decode c_Sv_sessionNumbered 36 = .ok (.aconst_null, 1) := by decide +kernel
theorem d_Sv_sessionNumbered_37 : decode c_Sv_sessionNumbered 37 = .ok (.areturn, 1) := by decide +kernel
theorem d_Sv_openSession_0 : decode c_Sv_openSession 0 = .ok (.aload_n 1, 1) := by decide +kernel
theorem d_Sv_openSession_1 : decode c_Sv_openSession 1 = .ok (.invokevirtual 179, 3) := by decide +kernel
theorem d_Sv_openSession_4 : decode c_Sv_openSession 4 = .ok (.istore_n 2, 1) := by decide +kernel
theorem d_Sv_openSession_5 : decode c_Sv_openSession 5 = .ok (.aload_n 1, 1) := by decide +kernel
theorem d_Sv_openSession_6 : decode c_Sv_openSession 6 = .ok (.invokevirtual 182, 3) := by decide +kernel
theorem d_Sv_openSession_9 : decode c_Sv_openSession 9 = .ok (.iconst 1, 1) := by decide +kernel
theorem d_Sv_openSession_10 : decode c_Sv_openSession 10 = .ok (.if_icmp .ne 14, 3) := by decide +kernel
theorem d_Sv_openSession_13 : decode c_Sv_openSession 13 = .ok (.aload_n 0, 1) := by decide +kernel
theorem d_Sv_openSession_14 : decode c_Sv_openSession 14 = .ok (.getfield 58, 3) := by decide +kernel
theorem d_Sv_openSession_17 : decode c_Sv_openSession 17 = .ok (.iload_n 2, 1) := by decide +kernel
theorem d_Sv_openSession_18 : decode c_Sv_openSession 18 = .ok (.invokevirtual 185, 3) := by decide +kernel
theorem d_Sv_openSession_21 : decode c_Sv_openSession 21 = .ok (.ifCond .ne 5, 3) := by decide +kernel
theorem d_Sv_openSession_24 : decode c_Sv_openSession 24 = .ok (.iconst 0, 1) := by decide +kernel
theorem d_Sv_openSession_25 : decode c_Sv_openSession 25 = .ok (.ireturn, 1) := by decide +kernel
theorem d_Sv_openSession_26 : decode c_Sv_openSession 26 = .ok (.aload_n 0, 1) := by decide +kernel
theorem d_Sv_openSession_27 : decode c_Sv_openSession 27 = .ok (.getfield 68, 3) := by decide +kernel
theorem d_Sv_openSession_30 : decode c_Sv_openSession 30 = .ok (.iconst 4, 1) := by decide +kernel
theorem d_Sv_openSession_31 : decode c_Sv_openSession 31 = .ok (.if_icmp .ne 13, 3) := by decide +kernel
theorem d_Sv_openSession_34 : decode c_Sv_openSession 34 = .ok (.aload_n 0, 1) := by decide +kernel
theorem d_Sv_openSession_35 : decode c_Sv_openSession 35 = .ok (.aload_n 0, 1) := by decide +kernel
theorem d_Sv_openSession_36 : decode c_Sv_openSession 36 = .ok (.getfield 13, 3) := by decide +kernel
theorem d_Sv_openSession_39 : decode c_Sv_openSession 39 = .ok (.iconst 0, 1) := by decide +kernel
theorem d_Sv_openSession_40 : decode c_Sv_openSession 40 = .ok (.aaload, 1) := by decide +kernel
theorem d_Sv_openSession_41 : decode c_Sv_openSession 41 = .ok (.invokevirtual 191, 3) := by decide +kernel
theorem d_Sv_openSession_44 : decode c_Sv_openSession 44 = .ok (.aload_n 0, 1) := by decide +kernel
theorem d_Sv_openSession_45 : decode c_Sv_openSession 45 = .ok (.getfield 13, 3) := by decide +kernel
theorem d_Sv_openSession_48 : decode c_Sv_openSession 48 = .ok (.aload_n 0, 1) := by decide +kernel
theorem d_Sv_openSession_49 : decode c_Sv_openSession 49 = .ok (.getfield 68, 3) := by decide +kernel
theorem d_Sv_openSession_52 : decode c_Sv_openSession 52 = .ok (.aaload, 1) := by decide +kernel
theorem d_Sv_openSession_53 : decode c_Sv_openSession 53 = .ok (.astore_n 3, 1) := by decide +kernel
theorem d_Sv_openSession_54 : decode c_Sv_openSession 54 = .ok (.aload_n 0, 1) := by decide +kernel
theorem d_Sv_openSession_55 : decode c_Sv_openSession 55 = .ok (.dup, 1) := by decide +kernel
theorem d_Sv_openSession_56 : decode c_Sv_openSession 56 = .ok (.getfield 68, 3) := by decide +kernel
theorem d_Sv_openSession_59 : decode c_Sv_openSession 59 = .ok (.iconst 1, 1) := by decide +kernel
theorem d_Sv_openSession_60 : decode c_Sv_openSession 60 = .ok (.iadd, 1) := by decide +kernel
theorem d_Sv_openSession_61 : decode c_Sv_openSession 61 = .ok (.putfield 68, 3) := by decide +kernel
theorem d_Sv_openSession_64 : decode c_Sv_openSession 64 = .ok (.aload_n 3, 1) := by decide +kernel
theorem d_Sv_openSession_65 : decode c_Sv_openSession 65 = .ok (.aload_n 0, 1) := by decide +kernel
theorem d_Sv_openSession_66 : decode c_Sv_openSession 66 = .ok (.getfield 195, 3) := by decide +kernel
theorem d_Sv_openSession_69 : decode c_Sv_openSession 69 = .ok (.ldc 198, 2) := by decide +kernel
theorem d_Sv_openSession_71 : decode c_Sv_openSession 71 = .ok (.iand, 1) := by decide +kernel
theorem d_Sv_openSession_72 : decode c_Sv_openSession 72 = .ok (.putfield 178, 3) := by decide +kernel
theorem d_Sv_openSession_75 : decode c_Sv_openSession 75 = .ok (.aload_n 0, 1) := by decide +kernel
theorem d_Sv_openSession_76 : decode c_Sv_openSession 76 = .ok (.dup, 1) := by decide +kernel
theorem d_Sv_openSession_77 : decode c_Sv_openSession 77 = .ok (.getfield 195, 3) := by decide +kernel
theorem d_Sv_openSession_80 : decode c_Sv_openSession 80 = .ok (.iconst 1, 1) := by decide +kernel
theorem d_Sv_openSession_81 : decode c_Sv_openSession 81 = .ok (.iadd, 1) := by decide +kernel
theorem d_Sv_openSession_82 : decode c_Sv_openSession 82 = .ok (.putfield 195, 3) := by decide +kernel
theorem d_Sv_openSession_85 : decode c_Sv_openSession 85 = .ok (.aload_n 3, 1) := by decide +kernel
theorem d_Sv_openSession_86 : decode c_Sv_openSession 86 = .ok (.iload_n 2, 1) := by decide +kernel
theorem d_Sv_openSession_87 : decode c_Sv_openSession 87 = .ok (.putfield 199, 3) := by decide +kernel
theorem d_Sv_openSession_90 : decode c_Sv_openSession 90 = .ok (.aload_n 3, 1) := by decide +kernel
theorem d_Sv_openSession_91 : decode c_Sv_openSession 91 = .ok (.iconst 0, 1) := by decide +kernel
theorem d_Sv_openSession_92 : decode c_Sv_openSession 92 = .ok (.putfield 202, 3) := by decide +kernel
theorem d_Sv_openSession_95 : decode c_Sv_openSession 95 = .ok (.aload_n 3, 1) := by decide +kernel
theorem d_Sv_openSession_96 : decode c_Sv_openSession 96 = .ok (.iconst 0, 1) := by decide +kernel
theorem d_Sv_openSession_97 : decode c_Sv_openSession 97 = .ok (.putfield 205, 3) := by decide +kernel
theorem d_Sv_openSession_100 : decode c_Sv_openSession 100 = .ok (.aload_n 0, 1) := by decide +kernel
theorem d_Sv_openSession_101 : decode c_Sv_openSession 101 = .ok (.aload_n 3, 1) := by decide +kernel
theorem d_Sv_openSession_102 : decode c_Sv_openSession 102 = .ok (.aload_n 0, 1) := by decide +kernel
theorem d_Sv_openSession_103 : decode c_Sv_openSession 103 = .ok (.getfield 58, 3) := by decide +kernel
theorem d_Sv_openSession_106 : decode c_Sv_openSession 106 = .ok (.getfield 208, 3) := by decide +kernel
theorem d_Sv_openSession_109 : decode c_Sv_openSession 109 = .ok (.iload_n 2, 1) := by decide +kernel
theorem d_Sv_openSession_110 : decode c_Sv_openSession 110 = .ok (.iaload, 1) := by decide +kernel
theorem d_Sv_openSession_111 : decode c_Sv_openSession 111 = .ok (.iconst 1, 1) := by decide +kernel
theorem d_Sv_openSession_112 : decode c_Sv_openSession 112 = .ok (.iand, 1) := by decide +kernel
theorem d_Sv_openSession_113 : decode c_Sv_openSession 113 = .ok (.ifCond .eq 7, 3) := by decide +kernel
theorem d_Sv_openSession_116 : decode c_Sv_openSession 116 = .ok (.iconst 1, 1) := by decide +kernel
theorem d_Sv_openSession_117 : decode c_Sv_openSession 117 = .ok (.goto 4, 3) := by decide +kernel
theorem d_Sv_openSession_120 : decode c_Sv_openSession 120 = .ok (.iconst 2, 1) := by decide +kernel
theorem d_Sv_openSession_121 : decode c_Sv_openSession 121 = .ok (.invokevirtual 211, 3) := by decide +kernel
theorem d_Sv_openSession_124 : decode c_Sv_openSession 124 = .ok (.iconst 1, 1) := by decide +kernel
theorem d_Sv_openSession_125 : decode c_Sv_openSession 125 = .ok (.ireturn, 1) := by decide +kernel
theorem d_Sv_dropSession_0 : decode c_Sv_dropSession 0 = .ok (.iconst 0, 1) := by decide +kernel
theorem d_Sv_dropSession_1 : decode c_Sv_dropSession 1 = .ok (.istore_n 2, 1) := by decide +kernel
theorem d_Sv_dropSession_2 : decode c_Sv_dropSession 2 = .ok (.iconst 0, 1) := by decide +kernel
theorem d_Sv_dropSession_3 : decode c_Sv_dropSession 3 = .ok (.istore_n 3, 1) := by decide +kernel
theorem d_Sv_dropSession_4 : decode c_Sv_dropSession 4 = .ok (.iload_n 3, 1) := by decide +kernel
theorem d_Sv_dropSession_5 : decode c_Sv_dropSession 5 = .ok (.aload_n 0, 1) := by decide +kernel
theorem d_Sv_dropSession_6 : decode c_Sv_dropSession 6 = .ok (.getfield 68, 3) := by decide +kernel
theorem d_Sv_dropSession_9 : decode c_Sv_dropSession 9 = .ok (.if_icmp .ge 57, 3) := by decide +kernel
theorem d_Sv_dropSession_12 : decode c_Sv_dropSession 12 = .ok (.iload_n 2, 1) := by decide +kernel
theorem d_Sv_dropSession_13 : decode c_Sv_dropSession 13 = .ok (.ifCond .ne 13, 3) := by decide +kernel
theorem d_Sv_dropSession_16 : decode c_Sv_dropSession 16 = .ok (.aload_n 0, 1) := by decide +kernel
theorem d_Sv_dropSession_17 : decode c_Sv_dropSession 17 = .ok (.getfield 13, 3) := by decide +kernel
theorem d_Sv_dropSession_20 : decode c_Sv_dropSession 20 = .ok (.iload_n 3, 1) := by decide +kernel
theorem d_Sv_dropSession_21 : decode c_Sv_dropSession 21 = .ok (.aaload, 1) := by decide +kernel
theorem d_Sv_dropSession_22 : decode c_Sv_dropSession 22 = .ok (.aload_n 1, 1) := by decide +kernel
theorem d_Sv_dropSession_23 : decode c_Sv_dropSession 23 = .ok (.if_acmp .ne 7, 3) := by decide +kernel
theorem d_Sv_dropSession_26 : decode c_Sv_dropSession 26 = .ok (.iconst 1, 1) := by decide +kernel
theorem d_Sv_dropSession_27 : decode c_Sv_dropSession 27 = .ok (.goto 4, 3) := by decide +kernel
theorem d_Sv_dropSession_30 : decode c_Sv_dropSession 30 = .ok (.iconst 0, 1) := by decide +kernel
theorem d_Sv_dropSession_31 : decode c_Sv_dropSession 31 = .ok (.istore_n 2, 1) := by decide +kernel
theorem d_Sv_dropSession_32 : decode c_Sv_dropSession 32 = .ok (.iload_n 2, 1) := by decide +kernel
theorem d_Sv_dropSession_33 : decode c_Sv_dropSession 33 = .ok (.ifCond .eq 27, 3) := by decide +kernel
theorem d_Sv_dropSession_36 : decode c_Sv_dropSession 36 = .ok (.iload_n 3, 1) := by decide +kernel
theorem d_Sv_dropSession_37 : decode c_Sv_dropSession 37 = .ok (.iconst 1, 1) := by decide +kernel
theorem d_Sv_dropSession_38 : decode c_Sv_dropSession 38 = .ok (.iadd, 1) := by decide +kernel
theorem d_Sv_dropSession_39 : decode c_Sv_dropSession 39 = .ok (.aload_n 0, 1) := by decide +kernel
theorem d_Sv_dropSession_40 : decode c_Sv_dropSession 40 = .ok (.getfield 68, 3) := by decide +kernel
theorem d_Sv_dropSession_43 : decode c_Sv_dropSession 43 = .ok (.if_icmp .ge 17, 3) := by decide +kernel
theorem d_Sv_dropSession_46 : decode c_Sv_dropSession 46 = .ok (.aload_n 0, 1) := by decide +kernel
theorem d_Sv_dropSession_47 : decode c_Sv_dropSession 47 = .ok (.getfield 13, 3) := by decide +kernel
theorem d_Sv_dropSession_50 : decode c_Sv_dropSession 50 = .ok (.iload_n 3, 1) := by decide +kernel
theorem d_Sv_dropSession_51 : decode c_Sv_dropSession 51 = .ok (.aload_n 0, 1) := by decide +kernel
theorem d_Sv_dropSession_52 : decode c_Sv_dropSession 52 = .ok (.getfield 13, 3) := by decide +kernel
theorem d_Sv_dropSession_55 : decode c_Sv_dropSession 55 = .ok (.iload_n 3, 1) := by decide +kernel
theorem d_Sv_dropSession_56 : decode c_Sv_dropSession 56 = .ok (.iconst 1, 1) := by decide +kernel
theorem d_Sv_dropSession_57 : decode c_Sv_dropSession 57 = .ok (.iadd, 1) := by decide +kernel
theorem d_Sv_dropSession_58 : decode c_Sv_dropSession 58 = .ok (.aaload, 1) := by decide +kernel
theorem d_Sv_dropSession_59 : decode c_Sv_dropSession 59 = .ok (.aastore, 1) := by decide +kernel
theorem d_Sv_dropSession_60 : decode c_Sv_dropSession 60 = .ok (.iinc 3 1, 3) := by decide +kernel
theorem d_Sv_dropSession_63 : decode c_Sv_dropSession 63 = .ok (.goto (-59), 3) := by decide +kernel
theorem d_Sv_dropSession_66 : decode c_Sv_dropSession 66 = .ok (.iload_n 2, 1) := by decide +kernel
theorem d_Sv_dropSession_67 : decode c_Sv_dropSession 67 = .ok (.ifCond .eq 23, 3) := by decide +kernel
theorem d_Sv_dropSession_70 : decode c_Sv_dropSession 70 = .ok (.aload_n 0, 1) := by decide +kernel
theorem d_Sv_dropSession_71 : decode c_Sv_dropSession 71 = .ok (.dup, 1) := by decide +kernel
theorem d_Sv_dropSession_72 : decode c_Sv_dropSession 72 = .ok (.getfield 68, 3) := by decide +kernel
theorem d_Sv_dropSession_75 : decode c_Sv_dropSession 75 = .ok (.iconst 1, 1) := by decide +kernel
theorem d_Sv_dropSession_76 : decode c_Sv_dropSession 76 = .ok (.isub, 1) := by decide +kernel
theorem d_Sv_dropSession_77 : decode c_Sv_dropSession 77 = .ok (.putfield 68, 3) := by decide +kernel
theorem d_Sv_dropSession_80 : decode c_Sv_dropSession 80 = .ok (.aload_n 0, 1) := by decide +kernel
theorem d_Sv_dropSession_81 : decode c_Sv_dropSession 81 = .ok (.getfield 13, 3) := by decide +kernel
theorem d_Sv_dropSession_84 : decode c_Sv_dropSession 84 = .ok (.aload_n 0, 1) := by decide +kernel
theorem d_Sv_dropSession_85 : decode c_Sv_dropSession 85 = .ok (.getfield 68, 3) := by decide +kernel
theorem d_Sv_dropSession_88 : decode c_Sv_dropSession 88 = .ok (.aload_n 1, 1) := by decide +kernel
theorem d_Sv_dropSession_89 : decode c_Sv_dropSession 89 = .ok (.aastore, 1) := by decide +kernel
theorem d_Sv_dropSession_90 : decode c_Sv_dropSession 90 = .ok (.return_, 1) := by decide +kernel
theorem d_Sv_beginMethod_0 : decode c_Sv_beginMethod 0 = .ok (.aload_n 1, 1) := by decide +kernel
theorem d_Sv_beginMethod_1 : decode c_Sv_beginMethod 1 = .ok (.iload_n 2, 1) := by decide +kernel
theorem d_Sv_beginMethod_2 : decode c_Sv_beginMethod 2 = .ok (.putfield 215, 3) := by decide +kernel
theorem d_Sv_beginMethod_5 : decode c_Sv_beginMethod 5 = .ok (.aload_n 1, 1) := by decide +kernel
theorem d_Sv_beginMethod_6 : decode c_Sv_beginMethod 6 = .ok (.dup, 1) := by decide +kernel
theorem d_Sv_beginMethod_7 : decode c_Sv_beginMethod 7 = .ok (.getfield 202, 3) := by decide +kernel
theorem d_Sv_beginMethod_10 : decode c_Sv_beginMethod 10 = .ok (.iload_n 2, 1) := by decide +kernel
theorem d_Sv_beginMethod_11 : decode c_Sv_beginMethod 11 = .ok (.ior, 1) := by decide +kernel
theorem d_Sv_beginMethod_12 : decode c_Sv_beginMethod 12 = .ok (.putfield 202, 3) := by decide +kernel
theorem d_Sv_beginMethod_15 : decode c_Sv_beginMethod 15 = .ok (.aload_n 1, 1) := by decide +kernel
theorem d_Sv_beginMethod_16 : decode c_Sv_beginMethod 16 = .ok (.aload_n 0, 1) := by decide +kernel
theorem d_Sv_beginMethod_17 : decode c_Sv_beginMethod 17 = .ok (.getfield 58, 3) := by decide +kernel
theorem d_Sv_beginMethod_20 : decode c_Sv_beginMethod 20 = .ok (.getfield 218, 3) := by decide +kernel
theorem d_Sv_beginMethod_23 : decode c_Sv_beginMethod 23 = .ok (.aload_n 1, 1) := by decide +kernel
theorem d_Sv_beginMethod_24 : decode c_Sv_beginMethod 24 = .ok (.getfield 199, 3) := by decide +kernel
theorem d_Sv_beginMethod_27 : decode c_Sv_beginMethod 27 = .ok (.iaload, 1) := by decide +kernel
theorem d_Sv_beginMethod_28 : decode c_Sv_beginMethod 28 = .ok (.aload_n 0, 1) := by decide +kernel
theorem d_Sv_beginMethod_29 : decode c_Sv_beginMethod 29 = .ok (.getfield 51, 3) := by decide +kernel
theorem d_Sv_beginMethod_32 : decode c_Sv_beginMethod 32 = .ok (.aload_n 0, 1) := by decide +kernel
theorem d_Sv_beginMethod_33 : decode c_Sv_beginMethod 33 = .ok (.getfield 221, 3) := by decide +kernel
theorem d_Sv_beginMethod_36 : decode c_Sv_beginMethod 36 = .ok (.invokestatic 224, 3) := by decide +kernel
theorem d_Sv_beginMethod_39 : decode c_Sv_beginMethod 39 = .ok (.putfield 230, 3) := by decide +kernel
theorem d_Sv_beginMethod_42 : decode c_Sv_beginMethod 42 = .ok (.aload_n 0, 1) := by decide +kernel
theorem d_Sv_beginMethod_43 : decode c_Sv_beginMethod 43 = .ok (.dup, 1) := by decide +kernel
theorem d_Sv_beginMethod_44 : decode c_Sv_beginMethod 44 = .ok (.getfield 221, 3) := by decide +kernel
theorem d_Sv_beginMethod_47 : decode c_Sv_beginMethod 47 = .ok (.iconst 1, 1) := by decide +kernel
theorem d_Sv_beginMethod_48 : decode c_Sv_beginMethod 48 = .ok (.iadd, 1) := by decide +kernel
theorem d_Sv_beginMethod_49 : decode c_Sv_beginMethod 49 = .ok (.putfield 221, 3) := by decide +kernel
theorem d_Sv_beginMethod_52 : decode c_Sv_beginMethod 52 = .ok (.iload_n 2, 1) := by decide +kernel
theorem d_Sv_beginMethod_53 : decode c_Sv_beginMethod 53 = .ok (.iconst 1, 1) := by decide +kernel
theorem d_Sv_beginMethod_54 : decode c_Sv_beginMethod 54 = .ok (.if_icmp .ne 12, 3) := by decide +kernel
theorem d_Sv_beginMethod_57 : decode c_Sv_beginMethod 57 = .ok (.aload_n 0, 1) := by decide +kernel
theorem d_Sv_beginMethod_58 : decode c_Sv_beginMethod 58 = .ok (.aload_n 1, 1) := by decide +kernel
theorem d_Sv_beginMethod_59 : decode c_Sv_beginMethod 59 = .ok (.iconst 4, 1) := by decide +kernel
theorem d_Sv_beginMethod_60 : decode c_Sv_beginMethod 60 = .ok (.invokevirtual 232, 3) := by decide +kernel
theorem d_Sv_beginMethod_63 : decode c_Sv_beginMethod 63 = .ok (.goto 18, 3) := by decide +kernel
theorem d_Sv_beginMethod_66 : decode c_Sv_beginMethod 66 = .ok (.aload_n 0, 1) := by decide +kernel
theorem d_Sv_beginMethod_67 : decode c_Sv_beginMethod 67 = .ok (.aload_n 1, 1) := by decide +kernel
theorem d_Sv_beginMethod_68 : decode c_Sv_beginMethod 68 = .ok (.bipush 51, 2) := by decide +kernel
theorem d_Sv_beginMethod_70 : decode c_Sv_beginMethod 70 = .ok (.invokevirtual 232, 3) := by decide +kernel
theorem d_Sv_beginMethod_73 : decode c_Sv_beginMethod 73 = .ok (.aload_n 0, 1) := by decide +kernel
theorem d_Sv_beginMethod_74 : decode c_Sv_beginMethod 74 = .ok (.getfield 43, 3) := by decide +kernel
theorem d_Sv_beginMethod_77 : decode c_Sv_beginMethod 77 = .ok (.iconst 1, 1) := by decide +kernel
theorem d_Sv_beginMethod_78 : decode c_Sv_beginMethod 78 = .ok (.invokevirtual 235, 3) := by decide +kernel
theorem d_Sv_beginMethod_81 : decode c_Sv_beginMethod 81 = .ok (.aload_n 0, 1) := by decide +kernel
theorem d_Sv_beginMethod_82 : decode c_Sv_beginMethod 82 = .ok (.getfield 43, 3) := by decide +kernel
theorem d_Sv_beginMethod_85 : decode c_Sv_beginMethod 85 = .ok (.aload_n 1, 1) := by decide +kernel
theorem d_Sv_beginMethod_86 : decode c_Sv_beginMethod 86 = .ok (.getfield 230, 3) := by decide +kernel
theorem d_Sv_beginMethod_89 : decode c_Sv_beginMethod 89 = .ok (.invokevirtual 238, 3) := by decide +kernel
theorem d_Sv_beginMethod_92 : decode c_Sv_beginMethod 92 = .ok (.aload_n 0, 1) := by decide +kernel
theorem d_Sv_beginMethod_93 : decode c_Sv_beginMethod 93 = .ok (.getfield 43, 3) := by decide +kernel
theorem d_Sv_beginMethod_96 : decode c_Sv_beginMethod 96 = .ok (.invokevirtual 241, 3) := by decide +kernel
theorem d_Sv_beginMethod_99 : decode c_Sv_beginMethod 99 = .ok (.return_, 1) := by decide +kernel
theorem d_Sv_openRequest_0 : decode c_Sv_openRequest 0 = .ok (.aload_n 0, 1) := by decide +kernel
theorem d_Sv_openRequest_1 : decode c_Sv_openRequest 1 = .ok (.bipush 11, 2) := by decide +kernel
theorem d_Sv_openRequest_3 : decode c_Sv_openRequest 3 = .ok (.putfield 123, 3) := by decide +kernel
theorem d_Sv_openRequest_6 : decode c_Sv_openRequest 6 = .ok (.aload_n 0, 1) := by decide +kernel
theorem d_Sv_openRequest_7 : decode c_Sv_openRequest 7 = .ok (.aload_n 1, 1) := by decide +kernel
theorem d_Sv_openRequest_8 : decode c_Sv_openRequest 8 = .ok (.getfield 178, 3) := by decide +kernel
theorem d_Sv_openRequest_11 : decode c_Sv_openRequest 11 = .ok (.putfield 126, 3) := by decide +kernel
theorem d_Sv_openRequest_14 : decode c_Sv_openRequest 14 = .ok (.aload_n 1, 1) := by decide +kernel
theorem d_Sv_openRequest_15 : decode c_Sv_openRequest 15 = .ok (.aload_n 0, 1) := by decide +kernel
theorem d_Sv_openRequest_16 : decode c_Sv_openRequest 16 = .ok (.getfield 33, 3) := by decide +kernel
theorem d_Sv_openRequest_19 : decode c_Sv_openRequest 19 = .ok (.getfield 88, 3) := by decide +kernel
theorem d_Sv_openRequest_22 : decode c_Sv_openRequest 22 = .ok (.invokevirtual 166, 3) := by decide +kernel
theorem d_Sv_openRequest_25 : decode c_Sv_openRequest 25 = .ok (.iconst 1, 1) := by decide +kernel
theorem d_Sv_openRequest_26 : decode c_Sv_openRequest 26 = .ok (.iadd, 1) := by decide +kernel
theorem d_Sv_openRequest_27 : decode c_Sv_openRequest 27 = .ok (.sipush 255, 3) := by decide +kernel
theorem d_Sv_openRequest_30 : decode c_Sv_openRequest 30 = .ok (.iand, 1) := by decide +kernel
theorem d_Sv_openRequest_31 : decode c_Sv_openRequest 31 = .ok (.putfield 167, 3) := by decide +kernel
theorem d_Sv_openRequest_34 : decode c_Sv_openRequest 34 = .ok (.aload_n 0, 1) := by decide +kernel
theorem d_Sv_openRequest_35 : decode c_Sv_openRequest 35 = .ok (.getfield 43, 3) := by decide +kernel
theorem d_Sv_openRequest_38 : decode c_Sv_openRequest 38 = .ok (.iconst 1, 1) := by decide +kernel
theorem d_Sv_openRequest_39 : decode c_Sv_openRequest 39 = .ok (.aload_n 1, 1) := by decide +kernel
theorem d_Sv_openRequest_40 : decode c_Sv_openRequest 40 = .ok (.getfield 167, 3) := by decide +kernel
theorem d_Sv_openRequest_43 : decode c_Sv_openRequest 43 = .ok (.iload_n 2, 1) := by decide +kernel
theorem d_Sv_openRequest_44 : decode c_Sv_openRequest 44 = .ok (.invokevirtual 244, 3) := by decide +kernel
theorem d_Sv_openRequest_47 : decode c_Sv_openRequest 47 = .ok (.return_, 1) := by decide +kernel
theorem d_Sv_finish_0 : decode c_Sv_finish 0 = .ok (.aload_n 0, 1) := by decide +kernel
theorem d_Sv_finish_1 : decode c_Sv_finish 1 = .ok (.iload_n 1, 1) := by decide +kernel
theorem d_Sv_finish_2 : decode c_Sv_finish 2 = .ok (.putfield 123, 3) := by decide +kernel
theorem d_Sv_finish_5 : decode c_Sv_finish 5 = .ok (.aload_n 0, 1) := by decide +kernel
theorem d_Sv_finish_6 : decode c_Sv_finish 6 = .ok (.iconst (-1), 1) := by decide +kernel
theorem d_Sv_finish_7 : decode c_Sv_finish 7 = .ok (.putfield 126, 3) := by decide +kernel
theorem d_Sv_finish_10 : decode c_Sv_finish 10 = .ok (.aload_n 0, 1) := by decide +kernel
theorem d_Sv_finish_11 : decode c_Sv_finish 11 = .ok (.getfield 43, 3) := by decide +kernel
theorem d_Sv_finish_14 : decode c_Sv_finish 14 = .ok (.iload_n 2, 1) := by decide +kernel
theorem d_Sv_finish_15 : decode c_Sv_finish 15 = .ok (.aload_n 0, 1) := by decide +kernel
theorem d_Sv_finish_16 : decode c_Sv_finish 16 = .ok (.getfield 33, 3) := by decide +kernel
theorem d_Sv_finish_19 : decode c_Sv_finish 19 = .ok (.getfield 88, 3) := by decide +kernel
theorem d_Sv_finish_22 : decode c_Sv_finish 22 = .ok (.invokevirtual 166, 3) := by decide +kernel
theorem d_Sv_finish_25 : decode c_Sv_finish 25 = .ok (.invokevirtual 248, 3) := by decide +kernel
theorem d_Sv_finish_28 : decode c_Sv_finish 28 = .ok (.aload_n 3, 1) := by decide +kernel
theorem d_Sv_finish_29 : decode c_Sv_finish 29 = .ok (.ifnull 8, 3) := by decide +kernel
theorem d_Sv_finish_32 : decode c_Sv_finish 32 = .ok (.aload_n 0, 1) := by decide +kernel
theorem d_Sv_finish_33 : decode c_Sv_finish 33 = .ok (.aload_n 3, 1) := by decide +kernel
theorem d_Sv_finish_34 : decode c_Sv_finish 34 = .ok (.invokevirtual 191, 3) := by decide +kernel
theorem d_Sv_finish_37 : decode c_Sv_finish 37 = .ok (.return_, 1) := by decide +kernel
theorem d_Sv_proceed_0 : decode c_Sv_proceed 0 = .ok (.aload_n 2, 1) := by decide +kernel
theorem d_Sv_proceed_1 : decode c_Sv_proceed 1 = .ok (.invokevirtual 159, 3) := by decide +kernel
theorem d_Sv_proceed_4 : decode c_Sv_proceed 4 = .ok (.lookupswitch 119 #[(3, 36), (4, 63), (51, 86)], 36) := by decide +kernel
theorem d_Sv_proceed_40 : decode c_Sv_proceed 40 = .ok (.aload_n 0, 1) := by decide +kernel
theorem d_Sv_proceed_41 : decode c_Sv_proceed 41 = .ok (.aload_n 1, 1) := by decide +kernel
theorem d_Sv_proceed_42 : decode c_Sv_proceed 42 = .ok (.aload_n 2, 1) := by decide +kernel
theorem d_Sv_proceed_43 : decode c_Sv_proceed 43 = .ok (.invokevirtual 252, 3) := by decide +kernel
theorem d_Sv_proceed_46 : decode c_Sv_proceed 46 = .ok (.istore_n 3, 1) := by decide +kernel
theorem d_Sv_proceed_47 : decode c_Sv_proceed 47 = .ok (.iload_n 3, 1) := by decide +kernel
theorem d_Sv_proceed_48 : decode c_Sv_proceed 48 = .ok (.ifCond .eq 9, 3) := by decide +kernel
theorem d_Sv_proceed_51 : decode c_Sv_proceed 51 = .ok (.aload_n 0, 1) := by decide +kernel
theorem d_Sv_proceed_52 : decode c_Sv_proceed 52 = .ok (.aload_n 1, 1) := by decide +kernel
theorem d_Sv_proceed_53 : decode c_Sv_proceed 53 = .ok (.iload_n 3, 1) := by decide +kernel
theorem d_Sv_proceed_54 : decode c_Sv_proceed 54 = .ok (.invokevirtual 211, 3) := by decide +kernel
theorem d_Sv_proceed_57 : decode c_Sv_proceed 57 = .ok (.iload_n 3, 1) := by decide +kernel
theorem d_Sv_proceed_58 : decode c_Sv_proceed 58 = .ok (.ifCond .eq 7, 3) := by decide +kernel
theorem d_Sv_proceed_61 : decode c_Sv_proceed 61 = .ok (.iconst 1, 1) := by decide +kernel
theorem d_Sv_proceed_62 : decode c_Sv_proceed 62 = .ok (.goto 4, 3) := by decide +kernel
theorem d_Sv_proceed_65 : decode c_Sv_proceed 65 = .ok (.iconst 0, 1) := by decide +kernel
theorem d_Sv_proceed_66 : decode c_Sv_proceed 66 = .ok (.ireturn, 1) := by decide +kernel
theorem d_Sv_proceed_67 : decode c_Sv_proceed 67 = .ok (.aload_n 1, 1) := by decide +kernel
theorem d_Sv_proceed_68 : decode c_Sv_proceed 68 = .ok (.getfield 215, 3) := by decide +kernel
theorem d_Sv_proceed_71 : decode c_Sv_proceed 71 = .ok (.iconst 1, 1) := by decide +kernel
theorem d_Sv_proceed_72 : decode c_Sv_proceed 72 = .ok (.if_icmp .ne 16, 3) := by decide +kernel
theorem d_Sv_proceed_75 : decode c_Sv_proceed 75 = .ok (.aload_n 0, 1) := by decide +kernel
theorem d_Sv_proceed_76 : decode c_Sv_proceed 76 = .ok (.aload_n 1, 1) := by decide +kernel
theorem d_Sv_proceed_77 : decode c_Sv_proceed 77 = .ok (.aload_n 2, 1) := by decide +kernel
theorem d_Sv_proceed_78 : decode c_Sv_proceed 78 = .ok (.invokevirtual 256, 3) := by decide +kernel
theorem d_Sv_proceed_81 : decode c_Sv_proceed 81 = .ok (.ifCond .eq 7, 3) := by decide +kernel
theorem d_Sv_proceed_84 : decode c_Sv_proceed 84 = .ok (.iconst 1, 1) := by decide +kernel
theorem d_Sv_proceed_85 : decode c_Sv_proceed 85 = .ok (.goto 4, 3) := by decide +kernel
theorem d_Sv_proceed_88 : decode c_Sv_proceed 88 = .ok (.iconst 0, 1) := by decide +kernel
theorem d_Sv_proceed_89 : decode c_Sv_proceed 89 = .ok (.ireturn, 1) := by decide +kernel
theorem d_Sv_proceed_90 : decode c_Sv_proceed 90 = .ok (.aload_n 1, 1) := by decide +kernel
theorem d_Sv_proceed_91 : decode c_Sv_proceed 91 = .ok (.getfield 215, 3) := by decide +kernel
theorem d_Sv_proceed_94 : decode c_Sv_proceed 94 = .ok (.iconst 2, 1) := by decide +kernel
theorem d_Sv_proceed_95 : decode c_Sv_proceed 95 = .ok (.if_icmp .eq 5, 3) := by decide +kernel
theorem d_Sv_proceed_98 : decode c_Sv_proceed 98 = .ok (.iconst 0, 1) := by decide +kernel
theorem d_Sv_proceed_99 : decode c_Sv_proceed 99 = .ok (.ireturn, 1) := by decide +kernel
theorem d_Sv_proceed_100 : decode c_Sv_proceed 100 = .ok (.aload_n 1, 1) := by decide +kernel
theorem d_Sv_proceed_101 : decode c_Sv_proceed 101 = .ok (.getfield 205, 3) := by decide +kernel
theorem d_Sv_proceed_104 : decode c_Sv_proceed 104 = .ok (.ifCond .eq 12, 3) := by decide +kernel
theorem d_Sv_proceed_107 : decode c_Sv_proceed 107 = .ok (.aload_n 0, 1) := by decide +kernel
theorem d_Sv_proceed_108 : decode c_Sv_proceed 108 = .ok (.aload_n 1, 1) := by decide +kernel
theorem d_Sv_proceed_109 : decode c_Sv_proceed 109 = .ok (.aload_n 2, 1) := by decide +kernel
theorem d_Sv_proceed_110 : decode c_Sv_proceed 110 = .ok (.invokevirtual 259, 3) := by decide +kernel
theorem d_Sv_proceed_113 : decode c_Sv_proceed 113 = .ok (.goto 9, 3) := by decide +kernel
theorem d_Sv_proceed_116 : decode c_Sv_proceed 116 = .ok (.aload_n 0, 1) := by decide +kernel
theorem d_Sv_proceed_117 : decode c_Sv_proceed 117 = .ok (.aload_n 1, 1) := by decide +kernel
theorem d_Sv_proceed_118 : decode c_Sv_proceed 118 = .ok (.aload_n 2, 1) := by decide +kernel
theorem d_Sv_proceed_119 : decode c_Sv_proceed 119 = .ok (.invokevirtual 262, 3) := by decide +kernel
theorem d_Sv_proceed_122 : decode c_Sv_proceed 122 = .ok (.ireturn, 1) := by decide +kernel
theorem d_Sv_proceed_123 : decode c_Sv_proceed 123 = .ok (.iconst 0, 1) := by decide +kernel
theorem d_Sv_proceed_124 : decode c_Sv_proceed 124 = .ok (.ireturn, 1) := by decide +kernel
theorem d_Sv_methodWanted_0 : decode c_Sv_methodWanted 0 = .ok (.aload_n 2, 1) := by decide +kernel
theorem d_Sv_methodWanted_1 : decode c_Sv_methodWanted 1 = .ok (.invokevirtual 182, 3) := by decide +kernel
theorem d_Sv_methodWanted_4 : decode c_Sv_methodWanted 4 = .ok (.iconst 1, 1) := by decide +kernel
theorem d_Sv_methodWanted_5 : decode c_Sv_methodWanted 5 = .ok (.if_icmp .eq 5, 3) := by decide +kernel
theorem d_Sv_methodWanted_8 : decode c_Sv_methodWanted 8 = .ok (.iconst 0, 1) := by decide +kernel
theorem d_Sv_methodWanted_9 : decode c_Sv_methodWanted 9 = .ok (.ireturn, 1) := by decide +kernel
theorem d_Sv_methodWanted_10 : decode c_Sv_methodWanted 10 = .ok (.aload_n 0, 1) := by decide +kernel
theorem d_Sv_methodWanted_11 : decode c_Sv_methodWanted 11 = .ok (.getfield 58, 3) := by decide +kernel
theorem d_Sv_methodWanted_14 : decode c_Sv_methodWanted 14 = .ok (.getfield 208, 3) := by decide +kernel
theorem d_Sv_methodWanted_17 : decode c_Sv_methodWanted 17 = .ok (.aload_n 1, 1) := by decide +kernel
theorem d_Sv_methodWanted_18 : decode c_Sv_methodWanted 18 = .ok (.getfield 199, 3) := by decide +kernel
theorem d_Sv_methodWanted_21 : decode c_Sv_methodWanted 21 = .ok (.iaload, 1) := by decide +kernel
theorem d_Sv_methodWanted_22 : decode c_Sv_methodWanted 22 = .ok (.aload_n 1, 1) := by decide +kernel
theorem d_Sv_methodWanted_23 : decode c_Sv_methodWanted 23 = .ok (.getfield 202, 3) := by decide +kernel
theorem d_Sv_methodWanted_26 : decode c_Sv_methodWanted 26 = .ok (.iconst (-1), 1) := by decide +kernel
theorem d_Sv_methodWanted_27 : decode c_Sv_methodWanted 27 = .ok (.ixor, 1) := by decide +kernel
theorem d_Sv_methodWanted_28 : decode c_Sv_methodWanted 28 = .ok (.iand, 1) := by decide +kernel
theorem d_Sv_methodWanted_29 : decode c_Sv_methodWanted 29 = .ok (.istore_n 3, 1) := by decide +kernel
theorem d_Sv_methodWanted_30 : decode c_Sv_methodWanted 30 = .ok (.aload_n 2, 1) := by decide +kernel
theorem d_Sv_methodWanted_31 : decode c_Sv_methodWanted 31 = .ok (.invokevirtual 179, 3) := by decide +kernel
theorem d_Sv_methodWanted_34 : decode c_Sv_methodWanted 34 = .ok (.lookupswitch 34 #[(4, 26), (51, 30)], 26) := by decide +kernel
theorem d_Sv_methodWanted_60 : decode c_Sv_methodWanted 60 = .ok (.iload_n 3, 1) := by decide +kernel
theorem d_Sv_methodWanted_61 : decode c_Sv_methodWanted 61 = .ok (.iconst 1, 1) := by decide +kernel
theorem d_Sv_methodWanted_62 : decode c_Sv_methodWanted 62 = .ok (.iand, 1) := by decide +kernel
theorem d_Sv_methodWanted_63 : decode c_Sv_methodWanted 63 = .ok (.ireturn, 1) := by decide +kernel
theorem d_Sv_methodWanted_64 : decode c_Sv_methodWanted 64 = .ok (.iload_n 3, 1) := by decide +kernel
theorem d_Sv_methodWanted_65 : decode c_Sv_methodWanted 65 = .ok (.iconst 2, 1) := by decide +kernel
theorem d_Sv_methodWanted_66 : decode c_Sv_methodWanted 66 = .ok (.iand, 1) := by decide +kernel
theorem d_Sv_methodWanted_67 : decode c_Sv_methodWanted 67 = .ok (.ireturn, 1) := by decide +kernel
theorem d_Sv_methodWanted_68 : decode c_Sv_methodWanted 68 = .ok (.iconst 0, 1) := by decide +kernel
theorem d_Sv_methodWanted_69 : decode c_Sv_methodWanted 69 = .ok (.ireturn, 1) := by decide +kernel
theorem d_Sv_takeChallengeResponse_0 : decode c_Sv_takeChallengeResponse 0 = .ok (.aload_n 2, 1) := by decide +kernel
theorem d_Sv_takeChallengeResponse_1 : decode c_Sv_takeChallengeResponse 1 = .ok (.invokevirtual 166, 3) := by decide +kernel
theorem d_Sv_takeChallengeResponse_4 : decode c_Sv_takeChallengeResponse 4 = .ok (.aload_n 0, 1) := by decide +kernel
theorem d_Sv_takeChallengeResponse_5 : decode c_Sv_takeChallengeResponse 5 = .ok (.getfield 58, 3) := by decide +kernel
theorem d_Sv_takeChallengeResponse_8 : decode c_Sv_takeChallengeResponse 8 = .ok (.getfield 218, 3) := by decide +kernel
theorem d_Sv_takeChallengeResponse_11 : decode c_Sv_takeChallengeResponse 11 = .ok (.aload_n 1, 1) := by decide +kernel
theorem d_Sv_takeChallengeResponse_12 : decode c_Sv_takeChallengeResponse 12 = .ok (.getfield 199, 3) := by decide +kernel
theorem d_Sv_takeChallengeResponse_15 : decode c_Sv_takeChallengeResponse 15 = .ok (.iaload, 1) := by decide +kernel
theorem d_Sv_takeChallengeResponse_16 : decode c_Sv_takeChallengeResponse 16 = .ok (.aload_n 1, 1) := by decide +kernel
theorem d_Sv_takeChallengeResponse_17 : decode c_Sv_takeChallengeResponse 17 = .ok (.getfield 230, 3) := by decide +kernel
theorem d_Sv_takeChallengeResponse_20 : decode c_Sv_takeChallengeResponse 20 = .ok (.invokestatic 265, 3) := by decide +kernel
theorem d_Sv_takeChallengeResponse_23 : decode c_Sv_takeChallengeResponse 23 = .ok (.istore_n 3, 1) := by decide +kernel
theorem d_Sv_takeChallengeResponse_24 : decode c_Sv_takeChallengeResponse 24 = .ok (.aload_n 2, 1) := by decide +kernel
theorem d_Sv_takeChallengeResponse_25 : decode c_Sv_takeChallengeResponse 25 = .ok (.invokevirtual 182, 3) := by decide +kernel
theorem d_Sv_takeChallengeResponse_28 : decode c_Sv_takeChallengeResponse 28 = .ok (.iconst 4, 1) := by decide +kernel
theorem d_Sv_takeChallengeResponse_29 : decode c_Sv_takeChallengeResponse 29 = .ok (.if_icmp .ne 12, 3) := by decide +kernel
theorem d_Sv_takeChallengeResponse_32 : decode c_Sv_takeChallengeResponse 32 = .ok (.aload_n 2, 1) := by decide +kernel
theorem d_Sv_takeChallengeResponse_33 : decode c_Sv_takeChallengeResponse 33 = .ok (.iconst 0, 1) := by decide +kernel
theorem d_Sv_takeChallengeResponse_34 : decode c_Sv_takeChallengeResponse 34 = .ok (.invokevirtual 268, 3) := by decide +kernel
theorem d_Sv_takeChallengeResponse_37 : decode c_Sv_takeChallengeResponse 37 = .ok (.iload_n 3, 1) := by decide +kernel
theorem d_Sv_takeChallengeResponse_38 : decode c_Sv_takeChallengeResponse 38 = .ok (.if_icmp .eq 5, 3) := by decide +kernel
theorem d_Sv_takeChallengeResponse_41 : decode c_Sv_takeChallengeResponse 41 = .ok (.iconst 0, 1) := by decide +kernel
theorem d_Sv_takeChallengeResponse_42 : decode c_Sv_takeChallengeResponse 42 = .ok (.ireturn, 1) := by decide +kernel
theorem d_Sv_takeChallengeResponse_43 : decode c_Sv_takeChallengeResponse 43 = .ok (.aload_n 0, 1) := by decide +kernel
theorem d_Sv_takeChallengeResponse_44 : decode c_Sv_takeChallengeResponse 44 = .ok (.iconst 2, 1) := by decide +kernel
theorem d_Sv_takeChallengeResponse_45 : decode c_Sv_takeChallengeResponse 45 = .ok (.iconst 3, 1) := by decide +kernel
theorem d_Sv_takeChallengeResponse_46 : decode c_Sv_takeChallengeResponse 46 = .ok (.aload_n 1, 1) := by decide +kernel
theorem d_Sv_takeChallengeResponse_47 : decode c_Sv_takeChallengeResponse 47 = .ok (.invokevirtual 174, 3) := by decide +kernel
theorem d_Sv_takeChallengeResponse_50 : decode c_Sv_takeChallengeResponse 50 = .ok (.iconst 1, 1) := by decide +kernel
theorem d_Sv_takeChallengeResponse_51 : decode c_Sv_takeChallengeResponse 51 = .ok (.ireturn, 1) := by decide +kernel
theorem d_Sv_takeFirstProof_0 : decode c_Sv_takeFirstProof 0 = .ok (.aload_n 0, 1) := by decide +kernel
theorem d_Sv_takeFirstProof_1 : decode c_Sv_takeFirstProof 1 = .ok (.getfield 58, 3) := by decide +kernel
theorem d_Sv_takeFirstProof_4 : decode c_Sv_takeFirstProof 4 = .ok (.getfield 218, 3) := by decide +kernel
theorem d_Sv_takeFirstProof_7 : decode c_Sv_takeFirstProof 7 = .ok (.aload_n 1, 1) := by decide +kernel
theorem d_Sv_takeFirstProof_8 : decode c_Sv_takeFirstProof 8 = .ok (.getfield 199, 3) := by decide +kernel
theorem d_Sv_takeFirstProof_11 : decode c_Sv_takeFirstProof 11 = .ok (.iaload, 1) := by decide +kernel
theorem d_Sv_takeFirstProof_12 : decode c_Sv_takeFirstProof 12 = .ok (.istore_n 3, 1) := by decide +kernel
theorem d_Sv_takeFirstProof_13 : decode c_Sv_takeFirstProof 13 = .ok (.aload_n 2, 1) := by decide +kernel
theorem d_Sv_takeFirstProof_14 : decode c_Sv_takeFirstProof 14 = .ok (.iconst 1, 1) := by decide +kernel
theorem d_Sv_takeFirstProof_15 : decode c_Sv_takeFirstProof 15 = .ok (.invokevirtual 268, 3) := by decide +kernel
theorem d_Sv_takeFirstProof_18 : decode c_Sv_takeFirstProof 18 = .ok (.istore 4, 2) := by decide +kernel
theorem d_Sv_takeFirstProof_20 : decode c_Sv_takeFirstProof 20 = .ok (.aload_n 2, 1) := by decide +kernel
theorem d_Sv_takeFirstProof_21 : decode c_Sv_takeFirstProof 21 = .ok (.invokevirtual 182, 3) := by decide +kernel
theorem d_Sv_takeFirstProof_24 : decode c_Sv_takeFirstProof 24 = .ok (.bipush 9, 2) := by decide +kernel
theorem d_Sv_takeFirstProof_26 : decode c_Sv_takeFirstProof 26 = .ok (.if_icmp .ne 30, 3) := by decide +kernel
theorem d_Sv_takeFirstProof_29 : decode c_Sv_takeFirstProof 29 = .ok (.aload_n 2, 1) := by decide +kernel
theorem d_Sv_takeFirstProof_30 : decode c_Sv_takeFirstProof 30 = .ok (.invokevirtual 179, 3) := by decide +kernel
theorem d_Sv_takeFirstProof_33 : decode c_Sv_takeFirstProof 33 = .ok (.iconst 2, 1) := by decide +kernel
theorem d_Sv_takeFirstProof_34 : decode c_Sv_takeFirstProof 34 = .ok (.if_icmp .ne 22, 3) := by decide +kernel
theorem d_Sv_takeFirstProof_37 : decode c_Sv_takeFirstProof 37 = .ok (.aload_n 2, 1) := by decide +kernel
theorem d_Sv_takeFirstProof_38 : decode c_Sv_takeFirstProof 38 = .ok (.iconst 5, 1) := by decide +kernel
theorem d_Sv_takeFirstProof_39 : decode c_Sv_takeFirstProof 39 = .ok (.invokevirtual 268, 3) := by decide +kernel
theorem d_Sv_takeFirstProof_42 : decode c_Sv_takeFirstProof 42 = .ok (.iload_n 3, 1) := by decide +kernel
theorem d_Sv_takeFirstProof_43 : decode c_Sv_takeFirstProof 43 = .ok (.iconst 2, 1) := by decide +kernel
theorem d_Sv_takeFirstProof_44 : decode c_Sv_takeFirstProof 44 = .ok (.aload_n 1, 1) := by decide +kernel
theorem d_Sv_takeFirstProof_45 : decode c_Sv_takeFirstProof 45 = .ok (.getfield 230, 3) := by decide +kernel
theorem d_Sv_takeFirstProof_48 : decode c_Sv_takeFirstProof 48 = .ok (.iload 4, 2) := by decide +kernel
theorem d_Sv_takeFirstProof_50 : decode c_Sv_takeFirstProof 50 = .ok (.invokestatic 272, 3) := by decide +kernel
theorem d_Sv_takeFirstProof_53 : decode c_Sv_takeFirstProof 53 = .ok (.if_icmp .eq 5, 3) := by decide +kernel
theorem d_Sv_takeFirstProof_56 : decode c_Sv_takeFirstProof 56 = .ok (.iconst 0, 1) := by decide +kernel
theorem d_Sv_takeFirstProof_57 : decode c_Sv_takeFirstProof 57 = .ok (.ireturn, 1) := by decide +kernel
theorem d_Sv_takeFirstProof_58 : decode c_Sv_takeFirstProof 58 = .ok (.aload_n 1, 1) := by decide +kernel
theorem d_Sv_takeFirstProof_59 : decode c_Sv_takeFirstProof 59 = .ok (.iload 4, 2) := by decide +kernel
theorem d_Sv_takeFirstProof_61 : decode c_Sv_takeFirstProof 61 = .ok (.putfield 276, 3) := by decide +kernel
theorem d_Sv_takeFirstProof_64 : decode c_Sv_takeFirstProof 64 = .ok (.aload_n 1, 1) := by decide +kernel
theorem d_Sv_takeFirstProof_65 : decode c_Sv_takeFirstProof 65 = .ok (.iconst 1, 1) := by decide +kernel
theorem d_Sv_takeFirstProof_66 : decode c_Sv_takeFirstProof 66 = .ok (.putfield 205, 3) := by decide +kernel
theorem d_Sv_takeFirstProof_69 : decode c_Sv_takeFirstProof 69 = .ok (.aload_n 0, 1) := by decide +kernel
theorem d_Sv_takeFirstProof_70 : decode c_Sv_takeFirstProof 70 = .ok (.aload_n 1, 1) := by decide +kernel
theorem d_Sv_takeFirstProof_71 : decode c_Sv_takeFirstProof 71 = .ok (.bipush 51, 2) := by decide +kernel
theorem d_Sv_takeFirstProof_73 : decode c_Sv_takeFirstProof 73 = .ok (.invokevirtual 232, 3) := by decide +kernel
theorem d_Sv_takeFirstProof_76 : decode c_Sv_takeFirstProof 76 = .ok (.aload_n 0, 1) := by decide +kernel
theorem d_Sv_takeFirstProof_77 : decode c_Sv_takeFirstProof 77 = .ok (.getfield 43, 3) := by decide +kernel
theorem d_Sv_takeFirstProof_80 : decode c_Sv_takeFirstProof 80 = .ok (.iconst 3, 1) := by decide +kernel
theorem d_Sv_takeFirstProof_81 : decode c_Sv_takeFirstProof 81 = .ok (.invokevirtual 235, 3) := by decide +kernel
theorem d_Sv_takeFirstProof_84 : decode c_Sv_takeFirstProof 84 = .ok (.aload_n 0, 1) := by decide +kernel
theorem d_Sv_takeFirstProof_85 : decode c_Sv_takeFirstProof 85 = .ok (.getfield 43, 3) := by decide +kernel
theorem d_Sv_takeFirstProof_88 : decode c_Sv_takeFirstProof 88 = .ok (.iload_n 3, 1) := by decide +kernel
theorem d_Sv_takeFirstProof_89 : decode c_Sv_takeFirstProof 89 = .ok (.iconst 3, 1) := by decide +kernel
theorem d_Sv_takeFirstProof_90 : decode c_Sv_takeFirstProof 90 = .ok (.iload 4, 2) := by decide +kernel
theorem d_Sv_takeFirstProof_92 : decode c_Sv_takeFirstProof 92 = .ok (.aload_n 1, 1) := by decide +kernel
theorem d_Sv_takeFirstProof_93 : decode c_Sv_takeFirstProof 93 = .ok (.getfield 230, 3) := by decide +kernel
theorem d_Sv_takeFirstProof_96 : decode c_Sv_takeFirstProof 96 = .ok (.invokestatic 272, 3) := by decide +kernel
theorem d_Sv_takeFirstProof_99 : decode c_Sv_takeFirstProof 99 = .ok (.invokevirtual 238, 3) := by decide +kernel
theorem d_Sv_takeFirstProof_102 : decode c_Sv_takeFirstProof 102 = .ok (.aload_n 0, 1) := by decide +kernel
theorem d_Sv_takeFirstProof_103 : decode c_Sv_takeFirstProof 103 = .ok (.getfield 43, 3) := by decide +kernel
theorem d_Sv_takeFirstProof_106 : decode c_Sv_takeFirstProof 106 = .ok (.invokevirtual 241, 3) := by decide +kernel
theorem d_Sv_takeFirstProof_109 : decode c_Sv_takeFirstProof 109 = .ok (.iconst 1, 1) := by decide +kernel
theorem d_Sv_takeFirstProof_110 : decode c_Sv_takeFirstProof 110 = .ok (.ireturn, 1) := by decide +kernel
theorem d_Sv_takeLastProof_0 : decode c_Sv_takeLastProof 0 = .ok (.aload_n 0, 1) := by decide +kernel
theorem d_Sv_takeLastProof_1 : decode c_Sv_takeLastProof 1 = .ok (.getfield 58, 3) := by decide +kernel
theorem d_Sv_takeLastProof_4 : decode c_Sv_takeLastProof 4 = .ok (.getfield 218, 3) := by decide +kernel
theorem d_Sv_takeLastProof_7 : decode c_Sv_takeLastProof 7 = .ok (.aload_n 1, 1) := by decide +kernel
theorem d_Sv_takeLastProof_8 : decode c_Sv_takeLastProof 8 = .ok (.getfield 199, 3) := by decide +kernel
theorem d_Sv_takeLastProof_11 : decode c_Sv_takeLastProof 11 = .ok (.iaload, 1) := by decide +kernel
theorem d_Sv_takeLastProof_12 : decode c_Sv_takeLastProof 12 = .ok (.iconst 4, 1) := by decide +kernel
theorem d_Sv_takeLastProof_13 : decode c_Sv_takeLastProof 13 = .ok (.aload_n 1, 1) := by decide +kernel
theorem d_Sv_takeLastProof_14 : decode c_Sv_takeLastProof 14 = .ok (.getfield 230, 3) := by decide +kernel
theorem d_Sv_takeLastProof_17 : decode c_Sv_takeLastProof 17 = .ok (.aload_n 1, 1) := by decide +kernel
theorem d_Sv_takeLastProof_18 : decode c_Sv_takeLastProof 18 = .ok (.getfield 276, 3) := by decide +kernel
theorem d_Sv_takeLastProof_21 : decode c_Sv_takeLastProof 21 = .ok (.invokestatic 272, 3) := by decide +kernel
theorem d_Sv_takeLastProof_24 : decode c_Sv_takeLastProof 24 = .ok (.istore_n 3, 1) := by decide +kernel
theorem d_Sv_takeLastProof_25 : decode c_Sv_takeLastProof 25 = .ok (.aload_n 2, 1) := by decide +kernel
theorem d_Sv_takeLastProof_26 : decode c_Sv_takeLastProof 26 = .ok (.invokevirtual 182, 3) := by decide +kernel
theorem d_Sv_takeLastProof_29 : decode c_Sv_takeLastProof 29 = .ok (.iconst 5, 1) := by decide +kernel
theorem d_Sv_takeLastProof_30 : decode c_Sv_takeLastProof 30 = .ok (.if_icmp .ne 20, 3) := by decide +kernel
theorem d_Sv_takeLastProof_33 : decode c_Sv_takeLastProof 33 = .ok (.aload_n 2, 1) := by decide +kernel
theorem d_Sv_takeLastProof_34 : decode c_Sv_takeLastProof 34 = .ok (.invokevirtual 179, 3) := by decide +kernel
theorem d_Sv_takeLastProof_37 : decode c_Sv_takeLastProof 37 = .ok (.iconst 4, 1) := by decide +kernel
theorem d_Sv_takeLastProof_38 : decode c_Sv_takeLastProof 38 = .ok (.if_icmp .ne 12, 3) := by decide +kernel
theorem d_Sv_takeLastProof_41 : decode c_Sv_takeLastProof 41 = .ok (.aload_n 2, 1) := by decide +kernel
theorem d_Sv_takeLastProof_42 : decode c_Sv_takeLastProof 42 = .ok (.iconst 1, 1) := by decide +kernel
theorem d_Sv_takeLastProof_43 : decode c_Sv_takeLastProof 43 = .ok (.invokevirtual 268, 3) := by decide +kernel
theorem d_Sv_takeLastProof_46 : decode c_Sv_takeLastProof 46 = .ok (.iload_n 3, 1) := by decide +kernel
theorem d_Sv_takeLastProof_47 : decode c_Sv_takeLastProof 47 = .ok (.if_icmp .eq 5, 3) := by decide +kernel
theorem d_Sv_takeLastProof_50 : decode c_Sv_takeLastProof 50 = .ok (.iconst 0, 1) := by decide +kernel
theorem d_Sv_takeLastProof_51 : decode c_Sv_takeLastProof 51 = .ok (.ireturn, 1) := by decide +kernel
theorem d_Sv_takeLastProof_52 : decode c_Sv_takeLastProof 52 = .ok (.aload_n 0, 1) := by decide +kernel
theorem d_Sv_takeLastProof_53 : decode c_Sv_takeLastProof 53 = .ok (.iconst 2, 1) := by decide +kernel
theorem d_Sv_takeLastProof_54 : decode c_Sv_takeLastProof 54 = .ok (.iconst 3, 1) := by decide +kernel
theorem d_Sv_takeLastProof_55 : decode c_Sv_takeLastProof 55 = .ok (.aload_n 1, 1) := by decide +kernel
theorem d_Sv_takeLastProof_56 : decode c_Sv_takeLastProof 56 = .ok (.invokevirtual 174, 3) := by decide +kernel
theorem d_Sv_takeLastProof_59 : decode c_Sv_takeLastProof 59 = .ok (.iconst 1, 1) := by decide +kernel
theorem d_Sv_takeLastProof_60 : decode c_Sv_takeLastProof 60 = .ok (.ireturn, 1) := by decide +kernel
theorem d_Sv_tell_0 : decode c_Sv_tell 0 = .ok (.iload_n 1, 1) := by decide +kernel
theorem d_Sv_tell_1 : decode c_Sv_tell 1 = .ok (.tableswitch 59 0 3 #[31, 44, 49, 54], 31) := by decide +kernel
theorem d_Sv_tell_32 : decode c_Sv_tell 32 = .ok (.aload_n 0, 1) := by decide +kernel
theorem d_Sv_tell_33 : decode c_Sv_tell 33 = .ok (.getfield 47, 3) := by decide +kernel
theorem d_Sv_tell_36 : decode c_Sv_tell 36 = .ok (.ifCond .eq 7, 3) := by decide +kernel
theorem d_Sv_tell_39 : decode c_Sv_tell 39 = .ok (.iconst 1, 1) := by decide +kernel
theorem d_Sv_tell_40 : decode c_Sv_tell 40 = .ok (.goto 4, 3) := by decide +kernel
theorem d_Sv_tell_43 : decode c_Sv_tell 43 = .ok (.iconst 0, 1) := by decide +kernel
theorem d_Sv_tell_44 : decode c_Sv_tell 44 = .ok (.ireturn, 1) := by decide +kernel
theorem d_Sv_tell_45 : decode c_Sv_tell 45 = .ok (.aload_n 0, 1) := by decide +kernel
theorem d_Sv_tell_46 : decode c_Sv_tell 46 = .ok (.getfield 68, 3) := by decide +kernel
theorem d_Sv_tell_49 : decode c_Sv_tell 49 = .ok (.ireturn, 1) := by decide +kernel
theorem d_Sv_tell_50 : decode c_Sv_tell 50 = .ok (.aload_n 0, 1) := by decide +kernel
theorem d_Sv_tell_51 : decode c_Sv_tell 51 = .ok (.getfield 195, 3) := by decide +kernel
theorem d_Sv_tell_54 : decode c_Sv_tell 54 = .ok (.ireturn, 1) := by decide +kernel
theorem d_Sv_tell_55 : decode c_Sv_tell 55 = .ok (.aload_n 0, 1) := by decide +kernel
theorem d_Sv_tell_56 : decode c_Sv_tell 56 = .ok (.getfield 221, 3) := by decide +kernel
theorem d_Sv_tell_59 : decode c_Sv_tell 59 = .ok (.ireturn, 1) := by decide +kernel
theorem d_Sv_tell_60 : decode c_Sv_tell 60 = .ok (.bipush (-2), 2) := by decide +kernel
theorem d_Sv_tell_62 : decode c_Sv_tell 62 = .ok (.ireturn, 1) := by decide +kernel

theorem d_Ho_become_0 : decode c_Ho_become 0 = .ok (.aload_n 0, 1) := by decide +kernel
theorem d_Ho_become_1 : decode c_Ho_become 1 = .ok (.iload_n 1, 1) := by decide +kernel
theorem d_Ho_become_2 : decode c_Ho_become 2 = .ok (.putfield 21, 3) := by decide +kernel
theorem d_Ho_become_5 : decode c_Ho_become 5 = .ok (.aload_n 0, 1) := by decide +kernel
theorem d_Ho_become_6 : decode c_Ho_become 6 = .ok (.iload_n 2, 1) := by decide +kernel
theorem d_Ho_become_7 : decode c_Ho_become 7 = .ok (.putfield 32, 3) := by decide +kernel
theorem d_Ho_become_10 : decode c_Ho_become 10 = .ok (.aload_n 0, 1) := by decide +kernel
theorem d_Ho_become_11 : decode c_Ho_become 11 = .ok (.iload_n 3, 1) := by decide +kernel
theorem d_Ho_become_12 : decode c_Ho_become 12 = .ok (.putfield 35, 3) := by decide +kernel
theorem d_Ho_become_15 : decode c_Ho_become 15 = .ok (.aload_n 0, 1) := by decide +kernel
theorem d_Ho_become_16 : decode c_Ho_become 16 = .ok (.invokevirtual 38, 3) := by decide +kernel
theorem d_Ho_become_19 : decode c_Ho_become 19 = .ok (.return_, 1) := by decide +kernel
theorem d_Ho_call_0 : decode c_Ho_call 0 = .ok (.aload_n 0, 1) := by decide +kernel
theorem d_Ho_call_1 : decode c_Ho_call 1 = .ok (.invokevirtual 38, 3) := by decide +kernel
theorem d_Ho_call_4 : decode c_Ho_call 4 = .ok (.aload_n 0, 1) := by decide +kernel
theorem d_Ho_call_5 : decode c_Ho_call 5 = .ok (.getfield 28, 3) := by decide +kernel
theorem d_Ho_call_8 : decode c_Ho_call 8 = .ok (.iconst 0, 1) := by decide +kernel
theorem d_Ho_call_9 : decode c_Ho_call 9 = .ok (.aload_n 0, 1) := by decide +kernel
theorem d_Ho_call_10 : decode c_Ho_call 10 = .ok (.getfield 25, 3) := by decide +kernel
theorem d_Ho_call_13 : decode c_Ho_call 13 = .ok (.iload_n 1, 1) := by decide +kernel
theorem d_Ho_call_14 : decode c_Ho_call 14 = .ok (.invokevirtual 41, 3) := by decide +kernel
theorem d_Ho_call_17 : decode c_Ho_call 17 = .ok (.return_, 1) := by decide +kernel
theorem d_Ho_forget_0 : decode c_Ho_forget 0 = .ok (.aload_n 0, 1) := by decide +kernel
theorem d_Ho_forget_1 : decode c_Ho_forget 1 = .ok (.iconst 0, 1) := by decide +kernel
theorem d_Ho_forget_2 : decode c_Ho_forget 2 = .ok (.putfield 47, 3) := by decide +kernel
theorem d_Ho_forget_5 : decode c_Ho_forget 5 = .ok (.aload_n 0, 1) := by decide +kernel
theorem d_Ho_forget_6 : decode c_Ho_forget 6 = .ok (.iconst 0, 1) := by decide +kernel
theorem d_Ho_forget_7 : decode c_Ho_forget 7 = .ok (.putfield 51, 3) := by decide +kernel
theorem d_Ho_forget_10 : decode c_Ho_forget 10 = .ok (.aload_n 0, 1) := by decide +kernel
theorem d_Ho_forget_11 : decode c_Ho_forget 11 = .ok (.iconst 0, 1) := by decide +kernel
theorem d_Ho_forget_12 : decode c_Ho_forget 12 = .ok (.putfield 54, 3) := by decide +kernel
theorem d_Ho_forget_15 : decode c_Ho_forget 15 = .ok (.aload_n 0, 1) := by decide +kernel
theorem d_Ho_forget_16 : decode c_Ho_forget 16 = .ok (.iconst 0, 1) := by decide +kernel
theorem d_Ho_forget_17 : decode c_Ho_forget 17 = .ok (.putfield 57, 3) := by decide +kernel
theorem d_Ho_forget_20 : decode c_Ho_forget 20 = .ok (.return_, 1) := by decide +kernel
theorem d_Ho_takeFrame_0 : decode c_Ho_takeFrame 0 = .ok (.aload_n 0, 1) := by decide +kernel
theorem d_Ho_takeFrame_1 : decode c_Ho_takeFrame 1 = .ok (.getfield 21, 3) := by decide +kernel
theorem d_Ho_takeFrame_4 : decode c_Ho_takeFrame 4 = .ok (.iconst (-1), 1) := by decide +kernel
theorem d_Ho_takeFrame_5 : decode c_Ho_takeFrame 5 = .ok (.if_icmp .ne 4, 3) := by decide +kernel
theorem d_Ho_takeFrame_8 : decode c_Ho_takeFrame 8 = .ok (.return_, 1) := by decide +kernel
theorem d_Ho_takeFrame_9 : decode c_Ho_takeFrame 9 = .ok (.aload_n 0, 1) := by decide +kernel
theorem d_Ho_takeFrame_10 : decode c_Ho_takeFrame 10 = .ok (.getfield 12, 3) := by decide +kernel
theorem d_Ho_takeFrame_13 : decode c_Ho_takeFrame 13 = .ok (.aload_n 1, 1) := by decide +kernel
theorem d_Ho_takeFrame_14 : decode c_Ho_takeFrame 14 = .ok (.invokevirtual 60, 3) := by decide +kernel
theorem d_Ho_takeFrame_17 : decode c_Ho_takeFrame 17 = .ok (.istore_n 2, 1) := by decide +kernel
theorem d_Ho_takeFrame_18 : decode c_Ho_takeFrame 18 = .ok (.iload_n 2, 1) := by decide +kernel
theorem d_Ho_takeFrame_19 : decode c_Ho_takeFrame 19 = .ok (.iconst (-1), 1) := by decide +kernel
theorem d_Ho_takeFrame_20 : decode c_Ho_takeFrame 20 = .ok (.if_icmp .ne 13, 3) := by decide +kernel
theorem d_Ho_takeFrame_23 : decode c_Ho_takeFrame 23 = .ok (.aload_n 0, 1) := by decide +kernel
theorem d_Ho_takeFrame_24 : decode c_Ho_takeFrame 24 = .ok (.dup, 1) := by decide +kernel
theorem d_Ho_takeFrame_25 : decode c_Ho_takeFrame 25 = .ok (.getfield 64, 3) := by decide +kernel
theorem d_Ho_takeFrame_28 : decode c_Ho_takeFrame 28 = .ok (.iconst 1, 1) := by decide +kernel
theorem d_Ho_takeFrame_29 : decode c_Ho_takeFrame 29 = .ok (.iadd, 1) := by decide +kernel
theorem d_Ho_takeFrame_30 : decode c_Ho_takeFrame 30 = .ok (.putfield 64, 3) := by decide +kernel
theorem d_Ho_takeFrame_33 : decode c_Ho_takeFrame 33 = .ok (.iload_n 2, 1) := by decide +kernel
theorem d_Ho_takeFrame_34 : decode c_Ho_takeFrame 34 = .ok (.ifCond .eq 4, 3) := by decide +kernel
theorem d_Ho_takeFrame_37 : decode c_Ho_takeFrame 37 = .ok (.return_, 1) := by decide +kernel
theorem d_Ho_takeFrame_38 : decode c_Ho_takeFrame 38 = .ok (.aload_n 0, 1) := by decide +kernel
theorem d_Ho_takeFrame_39 : decode c_Ho_takeFrame 39 = .ok (.getfield 12, 3) := by decide +kernel
theorem d_Ho_takeFrame_42 : decode c_Ho_takeFrame 42 = .ok (.invokevirtual 67, 3) := by decide +kernel
theorem d_Ho_takeFrame_45 : decode c_Ho_takeFrame 45 = .ok (.tableswitch 104 1 4 #[31, 104, 69, 91], 31) := by decide +kernel
theorem d_Ho_takeFrame_76 : decode c_Ho_takeFrame 76 = .ok (.aload_n 0, 1) := by decide +kernel
theorem d_Ho_takeFrame_77 : decode c_Ho_takeFrame 77 = .ok (.invokevirtual 71, 3) := by decide +kernel
theorem d_Ho_takeFrame_80 : decode c_Ho_takeFrame 80 = .ok (.ifCond .ne 10, 3) := by decide +kernel
theorem d_Ho_takeFrame_83 : decode c_Ho_takeFrame 83 = .ok (.aload_n 0, 1) := by decide +kernel
theorem d_Ho_takeFrame_84 : decode c_Ho_takeFrame 84 = .ok (.invokevirtual 75, 3) := by decide +kernel
theorem d_Ho_takeFrame_87 : decode c_Ho_takeFrame 87 = .ok (.ifCond .eq 62, 3) := by decide +kernel
theorem d_Ho_takeFrame_90 : decode c_Ho_takeFrame 90 = .ok (.aload_n 0, 1) := by decide +kernel
theorem d_Ho_takeFrame_91 : decode c_Ho_takeFrame 91 = .ok (.iconst 1, 1) := by decide +kernel
theorem d_Ho_takeFrame_92 : decode c_Ho_takeFrame 92 = .ok (.putfield 47, 3) := by decide +kernel
theorem d_Ho_takeFrame_95 : decode c_Ho_takeFrame 95 = .ok (.aload_n 0, 1) := by decide +kernel
theorem d_Ho_takeFrame_96 : decode c_Ho_takeFrame 96 = .ok (.getfield 28, 3) := by decide +kernel
theorem d_Ho_takeFrame_99 : decode c_Ho_takeFrame 99 = .ok (.iconst 0, 1) := by decide +kernel
theorem d_Ho_takeFrame_100 : decode c_Ho_takeFrame 100 = .ok (.aload_n 0, 1) := by decide +kernel
theorem d_Ho_takeFrame_101 : decode c_Ho_takeFrame 101 = .ok (.getfield 25, 3) := by decide +kernel
theorem d_Ho_takeFrame_104 : decode c_Ho_takeFrame 104 = .ok (.aload_n 0, 1) := by decide +kernel
theorem d_Ho_takeFrame_105 : decode c_Ho_takeFrame 105 = .ok (.getfield 18, 3) := by decide +kernel
theorem d_Ho_takeFrame_108 : decode c_Ho_takeFrame 108 = .ok (.invokevirtual 78, 3) := by decide +kernel
theorem d_Ho_takeFrame_111 : decode c_Ho_takeFrame 111 = .ok (.goto 38, 3) := by decide +kernel
theorem d_Ho_takeFrame_114 : decode c_Ho_takeFrame 114 = .ok (.aload_n 0, 1) := by decide +kernel
theorem d_Ho_takeFrame_115 : decode c_Ho_takeFrame 115 = .ok (.aload_n 0, 1) := by decide +kernel
theorem d_Ho_takeFrame_116 : decode c_Ho_takeFrame 116 = .ok (.getfield 54, 3) := by decide +kernel
theorem d_Ho_takeFrame_119 : decode c_Ho_takeFrame 119 = .ok (.ifCond .eq 7, 3) := by decide +kernel
theorem d_Ho_takeFrame_122 : decode c_Ho_takeFrame 122 = .ok (.iconst 1, 1) := by decide +kernel
theorem d_Ho_takeFrame_123 : decode c_Ho_takeFrame 123 = .ok (.goto 7, 3) := by decide +kernel
theorem d_Ho_takeFrame_126 : decode c_Ho_takeFrame 126 = .ok (.aload_n 0, 1) := by decide +kernel
theorem d_Ho_takeFrame_127 : decode c_Ho_takeFrame 127 = .ok (.getfield 57, 3) := by decide +kernel
theorem d_Ho_takeFrame_130 : decode c_Ho_takeFrame 130 = .ok (.putfield 57, 3) := by decide +kernel
theorem d_Ho_takeFrame_133 : decode c_Ho_takeFrame 133 = .ok (.goto 16, 3) := by decide +kernel
theorem d_Ho_takeFrame_136 : decode c_Ho_takeFrame 136 = .ok (.aload_n 0, 1) := by decide +kernel
theorem d_Ho_takeFrame_137 : decode c_Ho_takeFrame 137 = .ok (.iconst 2, 1) := by decide +kernel
theorem d_Ho_takeFrame_138 : decode c_Ho_takeFrame 138 = .ok (.putfield 57, 3) := by decide +kernel
theorem d_Ho_takeFrame_141 : decode c_Ho_takeFrame 141 = .ok (.aload_n 0, 1) := by decide +kernel
theorem d_Ho_takeFrame_142 : decode c_Ho_takeFrame 142 = .ok (.iconst 0, 1) := by decide +kernel
theorem d_Ho_takeFrame_143 : decode c_Ho_takeFrame 143 = .ok (.putfield 54, 3) := by decide +kernel
theorem d_Ho_takeFrame_146 : decode c_Ho_takeFrame 146 = .ok (.goto 3, 3) := by decide +kernel
theorem d_Ho_takeFrame_149 : decode c_Ho_takeFrame 149 = .ok (.return_, 1) := by decide +kernel
theorem d_Ho_isRepeated_0 : decode c_Ho_isRepeated 0 = .ok (.aload_n 0, 1) := by decide +kernel
theorem d_Ho_isRepeated_1 : decode c_Ho_isRepeated 1 = .ok (.getfield 47, 3) := by decide +kernel
theorem d_Ho_isRepeated_4 : decode c_Ho_isRepeated 4 = .ok (.ifCond .eq 24, 3) := by decide +kernel
theorem d_Ho_isRepeated_7 : decode c_Ho_isRepeated 7 = .ok (.aload_n 0, 1) := by decide +kernel
theorem d_Ho_isRepeated_8 : decode c_Ho_isRepeated 8 = .ok (.getfield 18, 3) := by decide +kernel
theorem d_Ho_isRepeated_11 : decode c_Ho_isRepeated 11 = .ok (.invokevirtual 82, 3) := by decide +kernel
theorem d_Ho_isRepeated_14 : decode c_Ho_isRepeated 14 = .ok (.aload_n 0, 1) := by decide +kernel
theorem d_Ho_isRepeated_15 : decode c_Ho_isRepeated 15 = .ok (.getfield 12, 3) := by decide +kernel
theorem d_Ho_isRepeated_18 : decode c_Ho_isRepeated 18 = .ok (.invokevirtual 82, 3) := by decide +kernel
theorem d_Ho_isRepeated_21 : decode c_Ho_isRepeated 21 = .ok (.if_icmp .ne 7, 3) := by decide +kernel
theorem d_Ho_isRepeated_24 : decode c_Ho_isRepeated 24 = .ok (.iconst 1, 1) := by decide +kernel
theorem d_Ho_isRepeated_25 : decode c_Ho_isRepeated 25 = .ok (.goto 4, 3) := by decide +kernel
theorem d_Ho_isRepeated_28 : decode c_Ho_isRepeated 28 = .ok (.iconst 0, 1) := by decide +kernel
theorem d_Ho_isRepeated_29 : decode c_Ho_isRepeated 29 = .ok (.ireturn, 1) := by decide +kernel
theorem d_Ho_respond_0 : decode c_Ho_respond 0 = .ok (.aload_n 0, 1) := by decide +kernel
theorem d_Ho_respond_1 : decode c_Ho_respond 1 = .ok (.getfield 12, 3) := by decide +kernel
theorem d_Ho_respond_4 : decode c_Ho_respond 4 = .ok (.invokevirtual 85, 3) := by decide +kernel
theorem d_Ho_respond_7 : decode c_Ho_respond 7 = .ok (.lookupswitch 93 #[(1, 33), (4, 38), (51, 59)], 33) := by decide +kernel
theorem d_Ho_respond_40 : decode c_Ho_respond 40 = .ok (.aload_n 0, 1) := by decide +kernel
theorem d_Ho_respond_41 : decode c_Ho_respond 41 = .ok (.invokevirtual 88, 3) := by decide +kernel
theorem d_Ho_respond_44 : decode c_Ho_respond 44 = .ok (.ireturn, 1) := by decide +kernel
theorem d_Ho_respond_45 : decode c_Ho_respond 45 = .ok (.aload_n 0, 1) := by decide +kernel
theorem d_Ho_respond_46 : decode c_Ho_respond 46 = .ok (.getfield 35, 3) := by decide +kernel
theorem d_Ho_respond_49 : decode c_Ho_respond 49 = .ok (.iconst 1, 1) := by decide +kernel
theorem d_Ho_respond_50 : decode c_Ho_respond 50 = .ok (.iand, 1) := by decide +kernel
theorem d_Ho_respond_51 : decode c_Ho_respond 51 = .ok (.ifCond .eq 10, 3) := by decide +kernel
theorem d_Ho_respond_54 : decode c_Ho_respond 54 = .ok (.aload_n 0, 1) := by decide +kernel
theorem d_Ho_respond_55 : decode c_Ho_respond 55 = .ok (.invokevirtual 91, 3) := by decide +kernel
theorem d_Ho_respond_58 : decode c_Ho_respond 58 = .ok (.goto 7, 3) := by decide +kernel
theorem d_Ho_respond_61 : decode c_Ho_respond 61 = .ok (.aload_n 0, 1) := by decide +kernel
theorem d_Ho_respond_62 : decode c_Ho_respond 62 = .ok (.invokevirtual 94, 3) := by decide +kernel
theorem d_Ho_respond_65 : decode c_Ho_respond 65 = .ok (.ireturn, 1) := by decide +kernel
theorem d_Ho_respond_66 : decode c_Ho_respond 66 = .ok (.aload_n 0, 1) := by decide +kernel
theorem d_Ho_respond_67 : decode c_Ho_respond 67 = .ok (.getfield 35, 3) := by decide +kernel
theorem d_Ho_respond_70 : decode c_Ho_respond 70 = .ok (.iconst 2, 1) := by decide +kernel
theorem d_Ho_respond_71 : decode c_Ho_respond 71 = .ok (.iand, 1) := by decide +kernel
theorem d_Ho_respond_72 : decode c_Ho_respond 72 = .ok (.ifCond .ne 8, 3) := by decide +kernel
theorem d_Ho_respond_75 : decode c_Ho_respond 75 = .ok (.aload_n 0, 1) := by decide +kernel
theorem d_Ho_respond_76 : decode c_Ho_respond 76 = .ok (.invokevirtual 94, 3) := by decide +kernel
theorem d_Ho_respond_79 : decode c_Ho_respond 79 = .ok (.ireturn, 1) := by decide +kernel
theorem d_Ho_respond_80 : decode c_Ho_respond 80 = .ok (.aload_n 0, 1) := by decide +kernel
theorem d_Ho_respond_81 : decode c_Ho_respond 81 = .ok (.invokevirtual 97, 3) := by decide +kernel
theorem d_Ho_respond_84 : decode c_Ho_respond 84 = .ok (.ifCond .ne 10, 3) := by decide +kernel
theorem d_Ho_respond_87 : decode c_Ho_respond 87 = .ok (.aload_n 0, 1) := by decide +kernel
theorem d_Ho_respond_88 : decode c_Ho_respond 88 = .ok (.invokevirtual 100, 3) := by decide +kernel
theorem d_Ho_respond_91 : decode c_Ho_respond 91 = .ok (.ifCond .eq 7, 3) := by decide +kernel
theorem d_Ho_respond_94 : decode c_Ho_respond 94 = .ok (.iconst 1, 1) := by decide +kernel
theorem d_Ho_respond_95 : decode c_Ho_respond 95 = .ok (.goto 4, 3) := by decide +kernel
theorem d_Ho_respond_98 : decode c_Ho_respond 98 = .ok (.iconst 0, 1) := by decide +kernel
theorem d_Ho_respond_99 : decode c_Ho_respond 99 = .ok (.ireturn, 1) := by decide +kernel
theorem d_Ho_respond_100 : decode c_Ho_respond 100 = .ok (.iconst 0, 1) := by decide +kernel
theorem d_Ho_respond_101 : decode c_Ho_respond 101 = .ok (.ireturn, 1) := by decide +kernel
theorem d_Ho_tellUser_0 : decode c_Ho_tellUser 0 = .ok (.aload_n 0, 1) := by decide +kernel
theorem d_Ho_tellUser_1 : decode c_Ho_tellUser 1 = .ok (.iconst 0, 1) := by decide +kernel
theorem d_Ho_tellUser_2 : decode c_Ho_tellUser 2 = .ok (.putfield 54, 3) := by decide +kernel
theorem d_Ho_tellUser_5 : decode c_Ho_tellUser 5 = .ok (.aload_n 0, 1) := by decide +kernel
theorem d_Ho_tellUser_6 : decode c_Ho_tellUser 6 = .ok (.getfield 18, 3) := by decide +kernel
theorem d_Ho_tellUser_9 : decode c_Ho_tellUser 9 = .ok (.iconst 2, 1) := by decide +kernel
theorem d_Ho_tellUser_10 : decode c_Ho_tellUser 10 = .ok (.aload_n 0, 1) := by decide +kernel
theorem d_Ho_tellUser_11 : decode c_Ho_tellUser 11 = .ok (.getfield 12, 3) := by decide +kernel
theorem d_Ho_tellUser_14 : decode c_Ho_tellUser 14 = .ok (.invokevirtual 82, 3) := by decide +kernel
theorem d_Ho_tellUser_17 : decode c_Ho_tellUser 17 = .ok (.iconst 1, 1) := by decide +kernel
theorem d_Ho_tellUser_18 : decode c_Ho_tellUser 18 = .ok (.invokevirtual 103, 3) := by decide +kernel
theorem d_Ho_tellUser_21 : decode c_Ho_tellUser 21 = .ok (.aload_n 0, 1) := by decide +kernel
theorem d_Ho_tellUser_22 : decode c_Ho_tellUser 22 = .ok (.getfield 18, 3) := by decide +kernel
theorem d_Ho_tellUser_25 : decode c_Ho_tellUser 25 = .ok (.aload_n 0, 1) := by decide +kernel
theorem d_Ho_tellUser_26 : decode c_Ho_tellUser 26 = .ok (.getfield 21, 3) := by decide +kernel
theorem d_Ho_tellUser_29 : decode c_Ho_tellUser 29 = .ok (.invokevirtual 106, 3) := by decide +kernel
theorem d_Ho_tellUser_32 : decode c_Ho_tellUser 32 = .ok (.aload_n 0, 1) := by decide +kernel
theorem d_Ho_tellUser_33 : decode c_Ho_tellUser 33 = .ok (.getfield 18, 3) := by decide +kernel
theorem d_Ho_tellUser_36 : decode c_Ho_tellUser 36 = .ok (.invokevirtual 110, 3) := by decide +kernel
theorem d_Ho_tellUser_39 : decode c_Ho_tellUser 39 = .ok (.iconst 1, 1) := by decide +kernel
theorem d_Ho_tellUser_40 : decode c_Ho_tellUser 40 = .ok (.ireturn, 1) := by decide +kernel
theorem d_Ho_refuse_0 : decode c_Ho_refuse 0 = .ok (.aload_n 0, 1) := by decide +kernel
theorem d_Ho_refuse_1 : decode c_Ho_refuse 1 = .ok (.getfield 18, 3) := by decide +kernel
theorem d_Ho_refuse_4 : decode c_Ho_refuse 4 = .ok (.iconst 2, 1) := by decide +kernel
theorem d_Ho_refuse_5 : decode c_Ho_refuse 5 = .ok (.aload_n 0, 1) := by decide +kernel
theorem d_Ho_refuse_6 : decode c_Ho_refuse 6 = .ok (.getfield 12, 3) := by decide +kernel
theorem d_Ho_refuse_9 : decode c_Ho_refuse 9 = .ok (.invokevirtual 82, 3) := by decide +kernel
theorem d_Ho_refuse_12 : decode c_Ho_refuse 12 = .ok (.iconst 3, 1) := by decide +kernel
theorem d_Ho_refuse_13 : decode c_Ho_refuse 13 = .ok (.invokevirtual 103, 3) := by decide +kernel
theorem d_Ho_refuse_16 : decode c_Ho_refuse 16 = .ok (.aload_n 0, 1) := by decide +kernel
theorem d_Ho_refuse_17 : decode c_Ho_refuse 17 = .ok (.getfield 35, 3) := by decide +kernel
theorem d_Ho_refuse_20 : decode c_Ho_refuse 20 = .ok (.iconst 1, 1) := by decide +kernel
theorem d_Ho_refuse_21 : decode c_Ho_refuse 21 = .ok (.iand, 1) := by decide +kernel
theorem d_Ho_refuse_22 : decode c_Ho_refuse 22 = .ok (.ifCond .eq 14, 3) := by decide +kernel
theorem d_Ho_refuse_25 : decode c_Ho_refuse 25 = .ok (.aload_n 0, 1) := by decide +kernel
theorem d_Ho_refuse_26 : decode c_Ho_refuse 26 = .ok (.getfield 18, 3) := by decide +kernel
theorem d_Ho_refuse_29 : decode c_Ho_refuse 29 = .ok (.iconst 4, 1) := by decide +kernel
theorem d_Ho_refuse_30 : decode c_Ho_refuse 30 = .ok (.invokevirtual 106, 3) := by decide +kernel
theorem d_Ho_refuse_33 : decode c_Ho_refuse 33 = .ok (.goto 25, 3) := by decide +kernel
theorem d_Ho_refuse_36 : decode c_Ho_refuse 36 = .ok (.aload_n 0, 1) := by decide +kernel
theorem d_Ho_refuse_37 : decode c_Ho_refuse 37 = .ok (.getfield 18, 3) := by decide +kernel
theorem d_Ho_refuse_40 : decode c_Ho_refuse 40 = .ok (.aload_n 0, 1) := by decide +kernel
theorem d_Ho_refuse_41 : decode c_Ho_refuse 41 = .ok (.getfield 35, 3) := by decide +kernel
theorem d_Ho_refuse_44 : decode c_Ho_refuse 44 = .ok (.iconst 2, 1) := by decide +kernel
theorem d_Ho_refuse_45 : decode c_Ho_refuse 45 = .ok (.iand, 1) := by decide +kernel
theorem d_Ho_refuse_46 : decode c_Ho_refuse 46 = .ok (.ifCond .eq 8, 3) := by decide +kernel
theorem d_Ho_refuse_49 : decode c_Ho_refuse 49 = .ok (.bipush 51, 2) := by decide +kernel
theorem d_Ho_refuse_51 : decode c_Ho_refuse 51 = .ok (.goto 4, 3) := by decide +kernel
theorem d_Ho_refuse_54 : decode c_Ho_refuse 54 = .ok (.iconst 0, 1) := by decide +kernel
theorem d_Ho_refuse_55 : decode c_Ho_refuse 55 = .ok (.invokevirtual 106, 3) := by decide +kernel
theorem d_Ho_refuse_58 : decode c_Ho_refuse 58 = .ok (.aload_n 0, 1) := by decide +kernel
theorem d_Ho_refuse_59 : decode c_Ho_refuse 59 = .ok (.getfield 18, 3) := by decide +kernel
theorem d_Ho_refuse_62 : decode c_Ho_refuse 62 = .ok (.invokevirtual 110, 3) := by decide +kernel
theorem d_Ho_refuse_65 : decode c_Ho_refuse 65 = .ok (.iconst 1, 1) := by decide +kernel
theorem d_Ho_refuse_66 : decode c_Ho_refuse 66 = .ok (.ireturn, 1) := by decide +kernel
theorem d_Ho_meetChallenge_0 : decode c_Ho_meetChallenge 0 = .ok (.aload_n 0, 1) := by decide +kernel
theorem d_Ho_meetChallenge_1 : decode c_Ho_meetChallenge 1 = .ok (.getfield 12, 3) := by decide +kernel
theorem d_Ho_meetChallenge_4 : decode c_Ho_meetChallenge 4 = .ok (.invokevirtual 113, 3) := by decide +kernel
theorem d_Ho_meetChallenge_7 : decode c_Ho_meetChallenge 7 = .ok (.iconst 4, 1) := by decide +kernel
theorem d_Ho_meetChallenge_8 : decode c_Ho_meetChallenge 8 = .ok (.if_icmp .eq 5, 3) := by decide +kernel
theorem d_Ho_meetChallenge_11 : decode c_Ho_meetChallenge 11 = .ok (.iconst 0, 1) := by decide +kernel
theorem d_Ho_meetChallenge_12 : decode c_Ho_meetChallenge 12 = .ok (.ireturn, 1) := by decide +kernel
theorem d_Ho_meetChallenge_13 : decode c_Ho_meetChallenge 13 = .ok (.aload_n 0, 1) := by decide +kernel
theorem d_Ho_meetChallenge_14 : decode c_Ho_meetChallenge 14 = .ok (.iconst 1, 1) := by decide +kernel
theorem d_Ho_meetChallenge_15 : decode c_Ho_meetChallenge 15 = .ok (.putfield 54, 3) := by decide +kernel
theorem d_Ho_meetChallenge_18 : decode c_Ho_meetChallenge 18 = .ok (.aload_n 0, 1) := by decide +kernel
theorem d_Ho_meetChallenge_19 : decode c_Ho_meetChallenge 19 = .ok (.getfield 18, 3) := by decide +kernel
theorem d_Ho_meetChallenge_22 : decode c_Ho_meetChallenge 22 = .ok (.iconst 2, 1) := by decide +kernel
theorem d_Ho_meetChallenge_23 : decode c_Ho_meetChallenge 23 = .ok (.aload_n 0, 1) := by decide +kernel
theorem d_Ho_meetChallenge_24 : decode c_Ho_meetChallenge 24 = .ok (.getfield 12, 3) := by decide +kernel
theorem d_Ho_meetChallenge_27 : decode c_Ho_meetChallenge 27 = .ok (.invokevirtual 82, 3) := by decide +kernel
theorem d_Ho_meetChallenge_30 : decode c_Ho_meetChallenge 30 = .ok (.iconst 4, 1) := by decide +kernel
theorem d_Ho_meetChallenge_31 : decode c_Ho_meetChallenge 31 = .ok (.invokevirtual 103, 3) := by decide +kernel
theorem d_Ho_meetChallenge_34 : decode c_Ho_meetChallenge 34 = .ok (.aload_n 0, 1) := by decide +kernel
theorem d_Ho_meetChallenge_35 : decode c_Ho_meetChallenge 35 = .ok (.getfield 18, 3) := by decide +kernel
theorem d_Ho_meetChallenge_38 : decode c_Ho_meetChallenge 38 = .ok (.aload_n 0, 1) := by decide +kernel
theorem d_Ho_meetChallenge_39 : decode c_Ho_meetChallenge 39 = .ok (.getfield 12, 3) := by decide +kernel
theorem d_Ho_meetChallenge_42 : decode c_Ho_meetChallenge 42 = .ok (.invokevirtual 82, 3) := by decide +kernel
theorem d_Ho_meetChallenge_45 : decode c_Ho_meetChallenge 45 = .ok (.aload_n 0, 1) := by decide +kernel
theorem d_Ho_meetChallenge_46 : decode c_Ho_meetChallenge 46 = .ok (.getfield 32, 3) := by decide +kernel
theorem d_Ho_meetChallenge_49 : decode c_Ho_meetChallenge 49 = .ok (.aload_n 0, 1) := by decide +kernel
theorem d_Ho_meetChallenge_50 : decode c_Ho_meetChallenge 50 = .ok (.getfield 12, 3) := by decide +kernel
theorem d_Ho_meetChallenge_53 : decode c_Ho_meetChallenge 53 = .ok (.iconst 0, 1) := by decide +kernel
theorem d_Ho_meetChallenge_54 : decode c_Ho_meetChallenge 54 = .ok (.invokevirtual 116, 3) := by decide +kernel
theorem d_Ho_meetChallenge_57 : decode c_Ho_meetChallenge 57 = .ok (.invokestatic 120, 3) := by decide +kernel
theorem d_Ho_meetChallenge_60 : decode c_Ho_meetChallenge 60 = .ok (.invokevirtual 126, 3) := by decide +kernel
theorem d_Ho_meetChallenge_63 : decode c_Ho_meetChallenge 63 = .ok (.aload_n 0, 1) := by decide +kernel
theorem d_Ho_meetChallenge_64 : decode c_Ho_meetChallenge 64 = .ok (.getfield 18, 3) := by decide +kernel
theorem d_Ho_meetChallenge_67 : decode c_Ho_meetChallenge 67 = .ok (.invokevirtual 110, 3) := by decide +kernel
theorem d_Ho_meetChallenge_70 : decode c_Ho_meetChallenge 70 = .ok (.iconst 1, 1) := by decide +kernel
theorem d_Ho_meetChallenge_71 : decode c_Ho_meetChallenge 71 = .ok (.ireturn, 1) := by decide +kernel
theorem d_Ho_answerRandom_0 : decode c_Ho_answerRandom 0 = .ok (.aload_n 0, 1) := by decide +kernel
theorem d_Ho_answerRandom_1 : decode c_Ho_answerRandom 1 = .ok (.getfield 12, 3) := by decide +kernel
theorem d_Ho_answerRandom_4 : decode c_Ho_answerRandom 4 = .ok (.invokevirtual 113, 3) := by decide +kernel
theorem d_Ho_answerRandom_7 : decode c_Ho_answerRandom 7 = .ok (.iconst 5, 1) := by decide +kernel
theorem d_Ho_answerRandom_8 : decode c_Ho_answerRandom 8 = .ok (.if_icmp .ne 14, 3) := by decide +kernel
theorem d_Ho_answerRandom_11 : decode c_Ho_answerRandom 11 = .ok (.aload_n 0, 1) := by decide +kernel
theorem d_Ho_answerRandom_12 : decode c_Ho_answerRandom 12 = .ok (.getfield 12, 3) := by decide +kernel
theorem d_Ho_answerRandom_15 : decode c_Ho_answerRandom 15 = .ok (.invokevirtual 129, 3) := by decide +kernel
theorem d_Ho_answerRandom_18 : decode c_Ho_answerRandom 18 = .ok (.iconst 1, 1) := by decide +kernel
theorem d_Ho_answerRandom_19 : decode c_Ho_answerRandom 19 = .ok (.if_icmp .eq 5, 3) := by decide +kernel
theorem d_Ho_answerRandom_22 : decode c_Ho_answerRandom 22 = .ok (.iconst 0, 1) := by decide +kernel
theorem d_Ho_answerRandom_23 : decode c_Ho_answerRandom 23 = .ok (.ireturn, 1) := by decide +kernel
theorem d_Ho_answerRandom_24 : decode c_Ho_answerRandom 24 = .ok (.aload_n 0, 1) := by decide +kernel
theorem d_Ho_answerRandom_25 : decode c_Ho_answerRandom 25 = .ok (.iconst 0, 1) := by decide +kernel
theorem d_Ho_answerRandom_26 : decode c_Ho_answerRandom 26 = .ok (.putfield 54, 3) := by decide +kernel
theorem d_Ho_answerRandom_29 : decode c_Ho_answerRandom 29 = .ok (.aload_n 0, 1) := by decide +kernel
theorem d_Ho_answerRandom_30 : decode c_Ho_answerRandom 30 = .ok (.aload_n 0, 1) := by decide +kernel
theorem d_Ho_answerRandom_31 : decode c_Ho_answerRandom 31 = .ok (.getfield 12, 3) := by decide +kernel
theorem d_Ho_answerRandom_34 : decode c_Ho_answerRandom 34 = .ok (.iconst 1, 1) := by decide +kernel
theorem d_Ho_answerRandom_35 : decode c_Ho_answerRandom 35 = .ok (.invokevirtual 116, 3) := by decide +kernel
theorem d_Ho_answerRandom_38 : decode c_Ho_answerRandom 38 = .ok (.putfield 132, 3) := by decide +kernel
theorem d_Ho_answerRandom_41 : decode c_Ho_answerRandom 41 = .ok (.aload_n 0, 1) := by decide +kernel
theorem d_Ho_answerRandom_42 : decode c_Ho_answerRandom 42 = .ok (.iconst 1, 1) := by decide +kernel
theorem d_Ho_answerRandom_43 : decode c_Ho_answerRandom 43 = .ok (.putfield 51, 3) := by decide +kernel
theorem d_Ho_answerRandom_46 : decode c_Ho_answerRandom 46 = .ok (.aload_n 0, 1) := by decide +kernel
theorem d_Ho_answerRandom_47 : decode c_Ho_answerRandom 47 = .ok (.aload_n 0, 1) := by decide +kernel
theorem d_Ho_answerRandom_48 : decode c_Ho_answerRandom 48 = .ok (.getfield 32, 3) := by decide +kernel
theorem d_Ho_answerRandom_51 : decode c_Ho_answerRandom 51 = .ok (.aload_n 0, 1) := by decide +kernel
theorem d_Ho_answerRandom_52 : decode c_Ho_answerRandom 52 = .ok (.getfield 25, 3) := by decide +kernel
theorem d_Ho_answerRandom_55 : decode c_Ho_answerRandom 55 = .ok (.aload_n 0, 1) := by decide +kernel
theorem d_Ho_answerRandom_56 : decode c_Ho_answerRandom 56 = .ok (.getfield 135, 3) := by decide +kernel
theorem d_Ho_answerRandom_59 : decode c_Ho_answerRandom 59 = .ok (.invokestatic 138, 3) := by decide +kernel
theorem d_Ho_answerRandom_62 : decode c_Ho_answerRandom 62 = .ok (.putfield 141, 3) := by decide +kernel
theorem d_Ho_answerRandom_65 : decode c_Ho_answerRandom 65 = .ok (.aload_n 0, 1) := by decide +kernel
theorem d_Ho_answerRandom_66 : decode c_Ho_answerRandom 66 = .ok (.dup, 1) := by decide +kernel
theorem d_Ho_answerRandom_67 : decode c_Ho_answerRandom 67 = .ok (.getfield 135, 3) := by decide +kernel
theorem d_Ho_answerRandom_70 : decode c_Ho_answerRandom 70 = .ok (.iconst 1, 1) := by decide +kernel
theorem d_Ho_answerRandom_71 : decode c_Ho_answerRandom 71 = .ok (.iadd, 1) := by decide +kernel
theorem d_Ho_answerRandom_72 : decode c_Ho_answerRandom 72 = .ok (.putfield 135, 3) := by decide +kernel
theorem d_Ho_answerRandom_75 : decode c_Ho_answerRandom 75 = .ok (.aload_n 0, 1) := by decide +kernel
theorem d_Ho_answerRandom_76 : decode c_Ho_answerRandom 76 = .ok (.getfield 18, 3) := by decide +kernel
theorem d_Ho_answerRandom_79 : decode c_Ho_answerRandom 79 = .ok (.iconst 2, 1) := by decide +kernel
theorem d_Ho_answerRandom_80 : decode c_Ho_answerRandom 80 = .ok (.aload_n 0, 1) := by decide +kernel
theorem d_Ho_answerRandom_81 : decode c_Ho_answerRandom 81 = .ok (.getfield 12, 3) := by decide +kernel
theorem d_Ho_answerRandom_84 : decode c_Ho_answerRandom 84 = .ok (.invokevirtual 82, 3) := by decide +kernel
theorem d_Ho_answerRandom_87 : decode c_Ho_answerRandom 87 = .ok (.bipush 51, 2) := by decide +kernel
theorem d_Ho_answerRandom_89 : decode c_Ho_answerRandom 89 = .ok (.invokevirtual 103, 3) := by decide +kernel
theorem d_Ho_answerRandom_92 : decode c_Ho_answerRandom 92 = .ok (.aload_n 0, 1) := by decide +kernel
theorem d_Ho_answerRandom_93 : decode c_Ho_answerRandom 93 = .ok (.getfield 18, 3) := by decide +kernel
theorem d_Ho_answerRandom_96 : decode c_Ho_answerRandom 96 = .ok (.iconst 2, 1) := by decide +kernel
theorem d_Ho_answerRandom_97 : decode c_Ho_answerRandom 97 = .ok (.invokevirtual 106, 3) := by decide +kernel
theorem d_Ho_answerRandom_100 : decode c_Ho_answerRandom 100 = .ok (.aload_n 0, 1) := by decide +kernel
theorem d_Ho_answerRandom_101 : decode c_Ho_answerRandom 101 = .ok (.getfield 18, 3) := by decide +kernel
theorem d_Ho_answerRandom_104 : decode c_Ho_answerRandom 104 = .ok (.aload_n 0, 1) := by decide +kernel
theorem d_Ho_answerRandom_105 : decode c_Ho_answerRandom 105 = .ok (.getfield 141, 3) := by decide +kernel
theorem d_Ho_answerRandom_108 : decode c_Ho_answerRandom 108 = .ok (.invokevirtual 126, 3) := by decide +kernel
theorem d_Ho_answerRandom_111 : decode c_Ho_answerRandom 111 = .ok (.aload_n 0, 1) := by decide +kernel
theorem d_Ho_answerRandom_112 : decode c_Ho_answerRandom 112 = .ok (.getfield 18, 3) := by decide +kernel
theorem d_Ho_answerRandom_115 : decode c_Ho_answerRandom 115 = .ok (.aload_n 0, 1) := by decide +kernel
theorem d_Ho_answerRandom_116 : decode c_Ho_answerRandom 116 = .ok (.getfield 32, 3) := by decide +kernel
theorem d_Ho_answerRandom_119 : decode c_Ho_answerRandom 119 = .ok (.iconst 2, 1) := by decide +kernel
theorem d_Ho_answerRandom_120 : decode c_Ho_answerRandom 120 = .ok (.aload_n 0, 1) := by decide +kernel
theorem d_Ho_answerRandom_121 : decode c_Ho_answerRandom 121 = .ok (.getfield 132, 3) := by decide +kernel
theorem d_Ho_answerRandom_124 : decode c_Ho_answerRandom 124 = .ok (.aload_n 0, 1) := by decide +kernel
theorem d_Ho_answerRandom_125 : decode c_Ho_answerRandom 125 = .ok (.getfield 141, 3) := by decide +kernel
theorem d_Ho_answerRandom_128 : decode c_Ho_answerRandom 128 = .ok (.invokestatic 144, 3) := by decide +kernel
theorem d_Ho_answerRandom_131 : decode c_Ho_answerRandom 131 = .ok (.invokevirtual 126, 3) := by decide +kernel
theorem d_Ho_answerRandom_134 : decode c_Ho_answerRandom 134 = .ok (.aload_n 0, 1) := by decide +kernel
theorem d_Ho_answerRandom_135 : decode c_Ho_answerRandom 135 = .ok (.getfield 18, 3) := by decide +kernel
theorem d_Ho_answerRandom_138 : decode c_Ho_answerRandom 138 = .ok (.invokevirtual 110, 3) := by decide +kernel
theorem d_Ho_answerRandom_141 : decode c_Ho_answerRandom 141 = .ok (.iconst 1, 1) := by decide +kernel
theorem d_Ho_answerRandom_142 : decode c_Ho_answerRandom 142 = .ok (.ireturn, 1) := by decide +kernel
theorem d_Ho_answerProof_0 : decode c_Ho_answerProof 0 = .ok (.aload_n 0, 1) := by decide +kernel
theorem d_Ho_answerProof_1 : decode c_Ho_answerProof 1 = .ok (.getfield 12, 3) := by decide +kernel
theorem d_Ho_answerProof_4 : decode c_Ho_answerProof 4 = .ok (.invokevirtual 113, 3) := by decide +kernel
theorem d_Ho_answerProof_7 : decode c_Ho_answerProof 7 = .ok (.iconst 5, 1) := by decide +kernel
theorem d_Ho_answerProof_8 : decode c_Ho_answerProof 8 = .ok (.if_icmp .ne 48, 3) := by decide +kernel
theorem d_Ho_answerProof_11 : decode c_Ho_answerProof 11 = .ok (.aload_n 0, 1) := by decide +kernel
theorem d_Ho_answerProof_12 : decode c_Ho_answerProof 12 = .ok (.getfield 12, 3) := by decide +kernel
theorem d_Ho_answerProof_15 : decode c_Ho_answerProof 15 = .ok (.invokevirtual 129, 3) := by decide +kernel
theorem d_Ho_answerProof_18 : decode c_Ho_answerProof 18 = .ok (.iconst 3, 1) := by decide +kernel
theorem d_Ho_answerProof_19 : decode c_Ho_answerProof 19 = .ok (.if_icmp .ne 37, 3) := by decide +kernel
theorem d_Ho_answerProof_22 : decode c_Ho_answerProof 22 = .ok (.aload_n 0, 1) := by decide +kernel
theorem d_Ho_answerProof_23 : decode c_Ho_answerProof 23 = .ok (.getfield 51, 3) := by decide +kernel
theorem d_Ho_answerProof_26 : decode c_Ho_answerProof 26 = .ok (.ifCond .eq 30, 3) := by decide +kernel
theorem d_Ho_answerProof_29 : decode c_Ho_answerProof 29 = .ok (.aload_n 0, 1) := by decide +kernel
theorem d_Ho_answerProof_30 : decode c_Ho_answerProof 30 = .ok (.getfield 12, 3) := by decide +kernel
theorem d_Ho_answerProof_33 : decode c_Ho_answerProof 33 = .ok (.iconst 1, 1) := by decide +kernel
theorem d_Ho_answerProof_34 : decode c_Ho_answerProof 34 = .ok (.invokevirtual 116, 3) := by decide +kernel
theorem d_Ho_answerProof_37 : decode c_Ho_answerProof 37 = .ok (.aload_n 0, 1) := by decide +kernel
theorem d_Ho_answerProof_38 : decode c_Ho_answerProof 38 = .ok (.getfield 32, 3) := by decide +kernel
theorem d_Ho_answerProof_41 : decode c_Ho_answerProof 41 = .ok (.iconst 3, 1) := by decide +kernel
theorem d_Ho_answerProof_42 : decode c_Ho_answerProof 42 = .ok (.aload_n 0, 1) := by decide +kernel
theorem d_Ho_answerProof_43 : decode c_Ho_answerProof 43 = .ok (.getfield 141, 3) := by decide +kernel
theorem d_Ho_answerProof_46 : decode c_Ho_answerProof 46 = .ok (.aload_n 0, 1) := by decide +kernel
theorem d_Ho_answerProof_47 : decode c_Ho_answerProof 47 = .ok (.getfield 132, 3) := by decide +kernel
theorem d_Ho_answerProof_50 : decode c_Ho_answerProof 50 = .ok (.invokestatic 144, 3) := by decide +kernel
theorem d_Ho_answerProof_53 : decode c_Ho_answerProof 53 = .ok (.if_icmp .eq 5, 3) := by decide +kernel
theorem d_Ho_answerProof_56 : decode c_Ho_answerProof 56 = .ok (.iconst 0, 1) := by decide +kernel
theorem d_Ho_answerProof_57 : decode c_Ho_answerProof 57 = .ok (.ireturn, 1) := by decide +kernel
theorem d_Ho_answerProof_58 : decode c_Ho_answerProof 58 = .ok (.aload_n 0, 1) := by decide +kernel
theorem d_Ho_answerProof_59 : decode c_Ho_answerProof 59 = .ok (.iconst 1, 1) := by decide +kernel
theorem d_Ho_answerProof_60 : decode c_Ho_answerProof 60 = .ok (.putfield 54, 3) := by decide +kernel
theorem d_Ho_answerProof_63 : decode c_Ho_answerProof 63 = .ok (.aload_n 0, 1) := by decide +kernel
theorem d_Ho_answerProof_64 : decode c_Ho_answerProof 64 = .ok (.getfield 18, 3) := by decide +kernel
theorem d_Ho_answerProof_67 : decode c_Ho_answerProof 67 = .ok (.iconst 2, 1) := by decide +kernel
theorem d_Ho_answerProof_68 : decode c_Ho_answerProof 68 = .ok (.aload_n 0, 1) := by decide +kernel
theorem d_Ho_answerProof_69 : decode c_Ho_answerProof 69 = .ok (.getfield 12, 3) := by decide +kernel
theorem d_Ho_answerProof_72 : decode c_Ho_answerProof 72 = .ok (.invokevirtual 82, 3) := by decide +kernel
theorem d_Ho_answerProof_75 : decode c_Ho_answerProof 75 = .ok (.bipush 51, 2) := by decide +kernel
theorem d_Ho_answerProof_77 : decode c_Ho_answerProof 77 = .ok (.invokevirtual 103, 3) := by decide +kernel
theorem d_Ho_answerProof_80 : decode c_Ho_answerProof 80 = .ok (.aload_n 0, 1) := by decide +kernel
theorem d_Ho_answerProof_81 : decode c_Ho_answerProof 81 = .ok (.getfield 18, 3) := by decide +kernel
theorem d_Ho_answerProof_84 : decode c_Ho_answerProof 84 = .ok (.iconst 4, 1) := by decide +kernel
theorem d_Ho_answerProof_85 : decode c_Ho_answerProof 85 = .ok (.invokevirtual 106, 3) := by decide +kernel
theorem d_Ho_answerProof_88 : decode c_Ho_answerProof 88 = .ok (.aload_n 0, 1) := by decide +kernel
theorem d_Ho_answerProof_89 : decode c_Ho_answerProof 89 = .ok (.getfield 18, 3) := by decide +kernel
theorem d_Ho_answerProof_92 : decode c_Ho_answerProof 92 = .ok (.aload_n 0, 1) := by decide +kernel
theorem d_Ho_answerProof_93 : decode c_Ho_answerProof 93 = .ok (.getfield 32, 3) := by decide +kernel
theorem d_Ho_answerProof_96 : decode c_Ho_answerProof 96 = .ok (.iconst 4, 1) := by decide +kernel
theorem d_Ho_answerProof_97 : decode c_Ho_answerProof 97 = .ok (.aload_n 0, 1) := by decide +kernel
theorem d_Ho_answerProof_98 : decode c_Ho_answerProof 98 = .ok (.getfield 132, 3) := by decide +kernel
theorem d_Ho_answerProof_101 : decode c_Ho_answerProof 101 = .ok (.aload_n 0, 1) := by decide +kernel
theorem d_Ho_answerProof_102 : decode c_Ho_answerProof 102 = .ok (.getfield 141, 3) := by decide +kernel
theorem d_Ho_answerProof_105 : decode c_Ho_answerProof 105 = .ok (.invokestatic 144, 3) := by decide +kernel
theorem d_Ho_answerProof_108 : decode c_Ho_answerProof 108 = .ok (.invokevirtual 126, 3) := by decide +kernel
theorem d_Ho_answerProof_111 : decode c_Ho_answerProof 111 = .ok (.aload_n 0, 1) := by decide +kernel
theorem d_Ho_answerProof_112 : decode c_Ho_answerProof 112 = .ok (.getfield 18, 3) := by decide +kernel
theorem d_Ho_answerProof_115 : decode c_Ho_answerProof 115 = .ok (.invokevirtual 110, 3) := by decide +kernel
theorem d_Ho_answerProof_118 : decode c_Ho_answerProof 118 = .ok (.iconst 1, 1) := by decide +kernel
theorem d_Ho_answerProof_119 : decode c_Ho_answerProof 119 = .ok (.ireturn, 1) := by decide +kernel
theorem d_Ho_tell_0 : decode c_Ho_tell 0 = .ok (.iload_n 1, 1) := by decide +kernel
theorem d_Ho_tell_1 : decode c_Ho_tell 1 = .ok (.tableswitch 82 0 4 #[35, 40, 53, 72, 77], 35) := by decide +kernel
theorem d_Ho_tell_36 : decode c_Ho_tell 36 = .ok (.aload_n 0, 1) := by decide +kernel
theorem d_Ho_tell_37 : decode c_Ho_tell 37 = .ok (.getfield 57, 3) := by decide +kernel
theorem d_Ho_tell_40 : decode c_Ho_tell 40 = .ok (.ireturn, 1) := by decide +kernel
theorem d_Ho_tell_41 : decode c_Ho_tell 41 = .ok (.aload_n 0, 1) := by decide +kernel
theorem d_Ho_tell_42 : decode c_Ho_tell 42 = .ok (.getfield 54, 3) := by decide +kernel
theorem d_Ho_tell_45 : decode c_Ho_tell 45 = .ok (.ifCond .eq 7, 3) := by decide +kernel
theorem d_Ho_tell_48 : decode c_Ho_tell 48 = .ok (.iconst 1, 1) := by decide +kernel
theorem d_Ho_tell_49 : decode c_Ho_tell 49 = .ok (.goto 4, 3) := by decide +kernel
theorem d_Ho_tell_52 : decode c_Ho_tell 52 = .ok (.iconst 0, 1) := by decide +kernel
theorem d_Ho_tell_53 : decode c_Ho_tell 53 = .ok (.ireturn, 1) := by decide +kernel
theorem d_Ho_tell_54 : decode c_Ho_tell 54 = .ok (.aload_n 0, 1) := by decide +kernel
theorem d_Ho_tell_55 : decode c_Ho_tell 55 = .ok (.getfield 47, 3) := by decide +kernel
theorem d_Ho_tell_58 : decode c_Ho_tell 58 = .ok (.ifCond .eq 13, 3) := by decide +kernel
theorem d_Ho_tell_61 : decode c_Ho_tell 61 = .ok (.aload_n 0, 1) := by decide +kernel
theorem d_Ho_tell_62 : decode c_Ho_tell 62 = .ok (.getfield 18, 3) := by decide +kernel
theorem d_Ho_tell_65 : decode c_Ho_tell 65 = .ok (.invokevirtual 82, 3) := by decide +kernel
theorem d_Ho_tell_68 : decode c_Ho_tell 68 = .ok (.goto 4, 3) := by decide +kernel
theorem d_Ho_tell_71 : decode c_Ho_tell 71 = .ok (.iconst (-1), 1) := by decide +kernel
theorem d_Ho_tell_72 : decode c_Ho_tell 72 = .ok (.ireturn, 1) := by decide +kernel
theorem d_Ho_tell_73 : decode c_Ho_tell 73 = .ok (.aload_n 0, 1) := by decide +kernel
theorem d_Ho_tell_74 : decode c_Ho_tell 74 = .ok (.getfield 21, 3) := by decide +kernel
theorem d_Ho_tell_77 : decode c_Ho_tell 77 = .ok (.ireturn, 1) := by decide +kernel
theorem d_Ho_tell_78 : decode c_Ho_tell 78 = .ok (.aload_n 0, 1) := by decide +kernel
theorem d_Ho_tell_79 : decode c_Ho_tell 79 = .ok (.getfield 135, 3) := by decide +kernel
theorem d_Ho_tell_82 : decode c_Ho_tell 82 = .ok (.ireturn, 1) := by decide +kernel
theorem d_Ho_tell_83 : decode c_Ho_tell 83 = .ok (.bipush (-2), 2) := by decide +kernel
theorem d_Ho_tell_85 : decode c_Ho_tell 85 = .ok (.ireturn, 1) := by decide +kernel

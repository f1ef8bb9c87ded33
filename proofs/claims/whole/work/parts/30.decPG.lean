theorem d_PG_user_0 : decode c_PG_user 0 = .ok (.iload_n 1, 1) := by decide +kernel
theorem d_PG_user_1 : decode c_PG_user 1 = .ok (.ifCond .lt 19, 3) := by decide +kernel
theorem d_PG_user_4 : decode c_PG_user 4 = .ok (.iload_n 1, 1) := by decide +kernel
theorem d_PG_user_5 : decode c_PG_user 5 = .ok (.bipush 8, 2) := by decide +kernel
theorem d_PG_user_7 : decode c_PG_user 7 = .ok (.if_icmp .ge 13, 3) := by decide +kernel
theorem d_PG_user_10 : decode c_PG_user 10 = .ok (.iload_n 3, 1) := by decide +kernel
theorem d_PG_user_11 : decode c_PG_user 11 = .ok (.iconst 1, 1) := by decide +kernel
theorem d_PG_user_12 : decode c_PG_user 12 = .ok (.if_icmp .lt 8, 3) := by decide +kernel
theorem d_PG_user_15 : decode c_PG_user 15 = .ok (.iload_n 3, 1) := by decide +kernel
theorem d_PG_user_16 : decode c_PG_user 16 = .ok (.iconst 3, 1) := by decide +kernel
theorem d_PG_user_17 : decode c_PG_user 17 = .ok (.if_icmp .le 5, 3) := by decide +kernel
theorem d_PG_user_20 : decode c_PG_user 20 = .ok (.iconst 0, 1) := by decide +kernel
theorem d_PG_user_21 : decode c_PG_user 21 = .ok (.ireturn, 1) := by decide +kernel
theorem d_PG_user_22 : decode c_PG_user 22 = .ok (.aload_n 0, 1) := by decide +kernel
theorem d_PG_user_23 : decode c_PG_user 23 = .ok (.getfield 10, 3) := by decide +kernel
theorem d_PG_user_26 : decode c_PG_user 26 = .ok (.getfield 58, 3) := by decide +kernel
theorem d_PG_user_29 : decode c_PG_user 29 = .ok (.iload_n 1, 1) := by decide +kernel
theorem d_PG_user_30 : decode c_PG_user 30 = .ok (.iload_n 2, 1) := by decide +kernel
theorem d_PG_user_31 : decode c_PG_user 31 = .ok (.iastore, 1) := by decide +kernel
theorem d_PG_user_32 : decode c_PG_user 32 = .ok (.aload_n 0, 1) := by decide +kernel
theorem d_PG_user_33 : decode c_PG_user 33 = .ok (.getfield 10, 3) := by decide +kernel
theorem d_PG_user_36 : decode c_PG_user 36 = .ok (.getfield 62, 3) := by decide +kernel
theorem d_PG_user_39 : decode c_PG_user 39 = .ok (.iload_n 1, 1) := by decide +kernel
theorem d_PG_user_40 : decode c_PG_user 40 = .ok (.iload_n 3, 1) := by decide +kernel
theorem d_PG_user_41 : decode c_PG_user 41 = .ok (.iastore, 1) := by decide +kernel
theorem d_PG_user_42 : decode c_PG_user 42 = .ok (.iconst 1, 1) := by decide +kernel
theorem d_PG_user_43 : decode c_PG_user 43 = .ok (.ireturn, 1) := by decide +kernel
theorem d_PG_host_0 : decode c_PG_host 0 = .ok (.iload_n 1, 1) := by decide +kernel
theorem d_PG_host_1 : decode c_PG_host 1 = .ok (.invokestatic 65, 3) := by decide +kernel
theorem d_PG_host_4 : decode c_PG_host 4 = .ok (.ifCond .eq 25, 3) := by decide +kernel
theorem d_PG_host_7 : decode c_PG_host 7 = .ok (.iload_n 2, 1) := by decide +kernel
theorem d_PG_host_8 : decode c_PG_host 8 = .ok (.iconst (-1), 1) := by decide +kernel
theorem d_PG_host_9 : decode c_PG_host 9 = .ok (.if_icmp .lt 20, 3) := by decide +kernel
theorem d_PG_host_12 : decode c_PG_host 12 = .ok (.iload_n 2, 1) := by decide +kernel
theorem d_PG_host_13 : decode c_PG_host 13 = .ok (.bipush 8, 2) := by decide +kernel
theorem d_PG_host_15 : decode c_PG_host 15 = .ok (.if_icmp .ge 14, 3) := by decide +kernel
theorem d_PG_host_18 : decode c_PG_host 18 = .ok (.iload 4, 2) := by decide +kernel
theorem d_PG_host_20 : decode c_PG_host 20 = .ok (.ifCond .lt 9, 3) := by decide +kernel
theorem d_PG_host_23 : decode c_PG_host 23 = .ok (.iload 4, 2) := by decide +kernel
theorem d_PG_host_25 : decode c_PG_host 25 = .ok (.iconst 3, 1) := by decide +kernel
theorem d_PG_host_26 : decode c_PG_host 26 = .ok (.if_icmp .le 5, 3) := by decide +kernel
theorem d_PG_host_29 : decode c_PG_host 29 = .ok (.iconst 0, 1) := by decide +kernel
theorem d_PG_host_30 : decode c_PG_host 30 = .ok (.ireturn, 1) := by decide +kernel
theorem d_PG_host_31 : decode c_PG_host 31 = .ok (.aload_n 0, 1) := by decide +kernel
theorem d_PG_host_32 : decode c_PG_host 32 = .ok (.getfield 25, 3) := by decide +kernel
theorem d_PG_host_35 : decode c_PG_host 35 = .ok (.iload_n 1, 1) := by decide +kernel
theorem d_PG_host_36 : decode c_PG_host 36 = .ok (.aaload, 1) := by decide +kernel
theorem d_PG_host_37 : decode c_PG_host 37 = .ok (.iload_n 2, 1) := by decide +kernel
theorem d_PG_host_38 : decode c_PG_host 38 = .ok (.iload_n 3, 1) := by decide +kernel
theorem d_PG_host_39 : decode c_PG_host 39 = .ok (.iload 4, 2) := by decide +kernel
theorem d_PG_host_41 : decode c_PG_host 41 = .ok (.invokevirtual 69, 3) := by decide +kernel
theorem d_PG_host_44 : decode c_PG_host 44 = .ok (.iconst 1, 1) := by decide +kernel
theorem d_PG_host_45 : decode c_PG_host 45 = .ok (.ireturn, 1) := by decide +kernel
theorem d_PG_start_0 : decode c_PG_start 0 = .ok (.iload_n 1, 1) := by decide +kernel
theorem d_PG_start_1 : decode c_PG_start 1 = .ok (.invokestatic 65, 3) := by decide +kernel
theorem d_PG_start_4 : decode c_PG_start 4 = .ok (.ifCond .eq 16, 3) := by decide +kernel
theorem d_PG_start_7 : decode c_PG_start 7 = .ok (.aload_n 0, 1) := by decide +kernel
theorem d_PG_start_8 : decode c_PG_start 8 = .ok (.getfield 25, 3) := by decide +kernel
theorem d_PG_start_11 : decode c_PG_start 11 = .ok (.iload_n 1, 1) := by decide +kernel
theorem d_PG_start_12 : decode c_PG_start 12 = .ok (.aaload, 1) := by decide +kernel
theorem d_PG_start_13 : decode c_PG_start 13 = .ok (.getfield 73, 3) := by decide +kernel
theorem d_PG_start_16 : decode c_PG_start 16 = .ok (.iconst (-1), 1) := by decide +kernel
theorem d_PG_start_17 : decode c_PG_start 17 = .ok (.if_icmp .ne 5, 3) := by decide +kernel
theorem d_PG_start_20 : decode c_PG_start 20 = .ok (.iconst 0, 1) := by decide +kernel
theorem d_PG_start_21 : decode c_PG_start 21 = .ok (.ireturn, 1) := by decide +kernel
theorem d_PG_start_22 : decode c_PG_start 22 = .ok (.aload_n 0, 1) := by decide +kernel
theorem d_PG_start_23 : decode c_PG_start 23 = .ok (.getfield 25, 3) := by decide +kernel
theorem d_PG_start_26 : decode c_PG_start 26 = .ok (.iload_n 1, 1) := by decide +kernel
theorem d_PG_start_27 : decode c_PG_start 27 = .ok (.aaload, 1) := by decide +kernel
theorem d_PG_start_28 : decode c_PG_start 28 = .ok (.iload_n 2, 1) := by decide +kernel
theorem d_PG_start_29 : decode c_PG_start 29 = .ok (.ifCond .eq 7, 3) := by decide +kernel
theorem d_PG_start_32 : decode c_PG_start 32 = .ok (.iconst 1, 1) := by decide +kernel
theorem d_PG_start_33 : decode c_PG_start 33 = .ok (.goto 4, 3) := by decide +kernel
theorem d_PG_start_36 : decode c_PG_start 36 = .ok (.iconst 2, 1) := by decide +kernel
theorem d_PG_start_37 : decode c_PG_start 37 = .ok (.invokevirtual 77, 3) := by decide +kernel
theorem d_PG_start_40 : decode c_PG_start 40 = .ok (.iconst 1, 1) := by decide +kernel
theorem d_PG_start_41 : decode c_PG_start 41 = .ok (.ireturn, 1) := by decide +kernel
theorem d_PG_link_0 : decode c_PG_link 0 = .ok (.iload_n 1, 1) := by decide +kernel
theorem d_PG_link_1 : decode c_PG_link 1 = .ok (.invokestatic 65, 3) := by decide +kernel
theorem d_PG_link_4 : decode c_PG_link 4 = .ok (.ifCond .eq 19, 3) := by decide +kernel
theorem d_PG_link_7 : decode c_PG_link 7 = .ok (.aload_n 0, 1) := by decide +kernel
theorem d_PG_link_8 : decode c_PG_link 8 = .ok (.getfield 44, 3) := by decide +kernel
theorem d_PG_link_11 : decode c_PG_link 11 = .ok (.getfield 81, 3) := by decide +kernel
theorem d_PG_link_14 : decode c_PG_link 14 = .ok (.iload_n 1, 1) := by decide +kernel
theorem d_PG_link_15 : decode c_PG_link 15 = .ok (.aaload, 1) := by decide +kernel
theorem d_PG_link_16 : decode c_PG_link 16 = .ok (.getfield 85, 3) := by decide +kernel
theorem d_PG_link_19 : decode c_PG_link 19 = .ok (.iload_n 2, 1) := by decide +kernel
theorem d_PG_link_20 : decode c_PG_link 20 = .ok (.if_icmp .ne 5, 3) := by decide +kernel
theorem d_PG_link_23 : decode c_PG_link 23 = .ok (.iconst 0, 1) := by decide +kernel
theorem d_PG_link_24 : decode c_PG_link 24 = .ok (.ireturn, 1) := by decide +kernel
theorem d_PG_link_25 : decode c_PG_link 25 = .ok (.iload_n 2, 1) := by decide +kernel
theorem d_PG_link_26 : decode c_PG_link 26 = .ok (.ifCond .eq 22, 3) := by decide +kernel
theorem d_PG_link_29 : decode c_PG_link 29 = .ok (.aload_n 0, 1) := by decide +kernel
theorem d_PG_link_30 : decode c_PG_link 30 = .ok (.getfield 44, 3) := by decide +kernel
theorem d_PG_link_33 : decode c_PG_link 33 = .ok (.aload_n 0, 1) := by decide +kernel
theorem d_PG_link_34 : decode c_PG_link 34 = .ok (.getfield 44, 3) := by decide +kernel
theorem d_PG_link_37 : decode c_PG_link 37 = .ok (.getfield 81, 3) := by decide +kernel
theorem d_PG_link_40 : decode c_PG_link 40 = .ok (.iload_n 1, 1) := by decide +kernel
theorem d_PG_link_41 : decode c_PG_link 41 = .ok (.aaload, 1) := by decide +kernel
theorem d_PG_link_42 : decode c_PG_link 42 = .ok (.invokevirtual 91, 3) := by decide +kernel
theorem d_PG_link_45 : decode c_PG_link 45 = .ok (.goto 19, 3) := by decide +kernel
theorem d_PG_link_48 : decode c_PG_link 48 = .ok (.aload_n 0, 1) := by decide +kernel
theorem d_PG_link_49 : decode c_PG_link 49 = .ok (.getfield 44, 3) := by decide +kernel
theorem d_PG_link_52 : decode c_PG_link 52 = .ok (.aload_n 0, 1) := by decide +kernel
theorem d_PG_link_53 : decode c_PG_link 53 = .ok (.getfield 44, 3) := by decide +kernel
theorem d_PG_link_56 : decode c_PG_link 56 = .ok (.getfield 81, 3) := by decide +kernel
theorem d_PG_link_59 : decode c_PG_link 59 = .ok (.iload_n 1, 1) := by decide +kernel
theorem d_PG_link_60 : decode c_PG_link 60 = .ok (.aaload, 1) := by decide +kernel
theorem d_PG_link_61 : decode c_PG_link 61 = .ok (.invokevirtual 95, 3) := by decide +kernel
theorem d_PG_link_64 : decode c_PG_link 64 = .ok (.iconst 1, 1) := by decide +kernel
theorem d_PG_link_65 : decode c_PG_link 65 = .ok (.ireturn, 1) := by decide +kernel
theorem d_PG_power_0 : decode c_PG_power 0 = .ok (.iload_n 1, 1) := by decide +kernel
theorem d_PG_power_1 : decode c_PG_power 1 = .ok (.invokestatic 98, 3) := by decide +kernel
theorem d_PG_power_4 : decode c_PG_power 4 = .ok (.ifCond .eq 16, 3) := by decide +kernel
theorem d_PG_power_7 : decode c_PG_power 7 = .ok (.aload_n 0, 1) := by decide +kernel
theorem d_PG_power_8 : decode c_PG_power 8 = .ok (.getfield 34, 3) := by decide +kernel
theorem d_PG_power_11 : decode c_PG_power 11 = .ok (.iload_n 1, 1) := by decide +kernel
theorem d_PG_power_12 : decode c_PG_power 12 = .ok (.aaload, 1) := by decide +kernel
theorem d_PG_power_13 : decode c_PG_power 13 = .ok (.getfield 101, 3) := by decide +kernel
theorem d_PG_power_16 : decode c_PG_power 16 = .ok (.iload_n 2, 1) := by decide +kernel
theorem d_PG_power_17 : decode c_PG_power 17 = .ok (.if_icmp .ne 5, 3) := by decide +kernel
theorem d_PG_power_20 : decode c_PG_power 20 = .ok (.iconst 0, 1) := by decide +kernel
theorem d_PG_power_21 : decode c_PG_power 21 = .ok (.ireturn, 1) := by decide +kernel
theorem d_PG_power_22 : decode c_PG_power 22 = .ok (.aload_n 0, 1) := by decide +kernel
theorem d_PG_power_23 : decode c_PG_power 23 = .ok (.getfield 34, 3) := by decide +kernel
theorem d_PG_power_26 : decode c_PG_power 26 = .ok (.iload_n 1, 1) := by decide +kernel
theorem d_PG_power_27 : decode c_PG_power 27 = .ok (.aaload, 1) := by decide +kernel
theorem d_PG_power_28 : decode c_PG_power 28 = .ok (.iload_n 2, 1) := by decide +kernel
theorem d_PG_power_29 : decode c_PG_power 29 = .ok (.invokevirtual 104, 3) := by decide +kernel
theorem d_PG_power_32 : decode c_PG_power 32 = .ok (.iconst 1, 1) := by decide +kernel
theorem d_PG_power_33 : decode c_PG_power 33 = .ok (.ireturn, 1) := by decide +kernel
theorem d_PG_pass_0 : decode c_PG_pass 0 = .ok (.aload_n 0, 1) := by decide +kernel
theorem d_PG_pass_1 : decode c_PG_pass 1 = .ok (.getfield 19, 3) := by decide +kernel
theorem d_PG_pass_4 : decode c_PG_pass 4 = .ok (.iload_n 1, 1) := by decide +kernel
theorem d_PG_pass_5 : decode c_PG_pass 5 = .ok (.invokevirtual 108, 3) := by decide +kernel
theorem d_PG_pass_8 : decode c_PG_pass 8 = .ok (.ifCond .eq 12, 3) := by decide +kernel
theorem d_PG_pass_11 : decode c_PG_pass 11 = .ok (.iload_n 2, 1) := by decide +kernel
theorem d_PG_pass_12 : decode c_PG_pass 12 = .ok (.ifCond .lt 8, 3) := by decide +kernel
theorem d_PG_pass_15 : decode c_PG_pass 15 = .ok (.iload_n 2, 1) := by decide +kernel
theorem d_PG_pass_16 : decode c_PG_pass 16 = .ok (.iconst 2, 1) := by decide +kernel
theorem d_PG_pass_17 : decode c_PG_pass 17 = .ok (.if_icmp .le 5, 3) := by decide +kernel
theorem d_PG_pass_20 : decode c_PG_pass 20 = .ok (.iconst 0, 1) := by decide +kernel
theorem d_PG_pass_21 : decode c_PG_pass 21 = .ok (.ireturn, 1) := by decide +kernel
theorem d_PG_pass_22 : decode c_PG_pass 22 = .ok (.aload_n 0, 1) := by decide +kernel
theorem d_PG_pass_23 : decode c_PG_pass 23 = .ok (.getfield 19, 3) := by decide +kernel
theorem d_PG_pass_26 : decode c_PG_pass 26 = .ok (.getfield 111, 3) := by decide +kernel
theorem d_PG_pass_29 : decode c_PG_pass 29 = .ok (.iload_n 1, 1) := by decide +kernel
theorem d_PG_pass_30 : decode c_PG_pass 30 = .ok (.iaload, 1) := by decide +kernel
theorem d_PG_pass_31 : decode c_PG_pass 31 = .ok (.istore_n 3, 1) := by decide +kernel
theorem d_PG_pass_32 : decode c_PG_pass 32 = .ok (.aload_n 0, 1) := by decide +kernel
theorem d_PG_pass_33 : decode c_PG_pass 33 = .ok (.getfield 19, 3) := by decide +kernel
theorem d_PG_pass_36 : decode c_PG_pass 36 = .ok (.getfield 114, 3) := by decide +kernel
theorem d_PG_pass_39 : decode c_PG_pass 39 = .ok (.iload_n 1, 1) := by decide +kernel
theorem d_PG_pass_40 : decode c_PG_pass 40 = .ok (.iaload, 1) := by decide +kernel
theorem d_PG_pass_41 : decode c_PG_pass 41 = .ok (.istore 4, 2) := by decide +kernel
theorem d_PG_pass_43 : decode c_PG_pass 43 = .ok (.aload_n 0, 1) := by decide +kernel
theorem d_PG_pass_44 : decode c_PG_pass 44 = .ok (.getfield 55, 3) := by decide +kernel
theorem d_PG_pass_47 : decode c_PG_pass 47 = .ok (.aload_n 0, 1) := by decide +kernel
theorem d_PG_pass_48 : decode c_PG_pass 48 = .ok (.getfield 19, 3) := by decide +kernel
theorem d_PG_pass_51 : decode c_PG_pass 51 = .ok (.getfield 117, 3) := by decide +kernel
theorem d_PG_pass_54 : decode c_PG_pass 54 = .ok (.iload_n 1, 1) := by decide +kernel
theorem d_PG_pass_55 : decode c_PG_pass 55 = .ok (.aaload, 1) := by decide +kernel
theorem d_PG_pass_56 : decode c_PG_pass 56 = .ok (.invokevirtual 121, 3) := by decide +kernel
theorem d_PG_pass_59 : decode c_PG_pass 59 = .ok (.iload_n 2, 1) := by decide +kernel
theorem d_PG_pass_60 : decode c_PG_pass 60 = .ok (.iconst 2, 1) := by decide +kernel
theorem d_PG_pass_61 : decode c_PG_pass 61 = .ok (.if_icmp .ne 19, 3) := by decide +kernel
theorem d_PG_pass_64 : decode c_PG_pass 64 = .ok (.aload_n 0, 1) := by decide +kernel
theorem d_PG_pass_65 : decode c_PG_pass 65 = .ok (.getfield 19, 3) := by decide +kernel
theorem d_PG_pass_68 : decode c_PG_pass 68 = .ok (.iload_n 3, 1) := by decide +kernel
theorem d_PG_pass_69 : decode c_PG_pass 69 = .ok (.iload 4, 2) := by decide +kernel
theorem d_PG_pass_71 : decode c_PG_pass 71 = .ok (.aload_n 0, 1) := by decide +kernel
theorem d_PG_pass_72 : decode c_PG_pass 72 = .ok (.getfield 55, 3) := by decide +kernel
theorem d_PG_pass_75 : decode c_PG_pass 75 = .ok (.invokevirtual 125, 3) := by decide +kernel
theorem d_PG_pass_78 : decode c_PG_pass 78 = .ok (.iconst 1, 1) := by decide +kernel
theorem d_PG_pass_79 : decode c_PG_pass 79 = .ok (.ireturn, 1) := by decide +kernel
theorem d_PG_pass_80 : decode c_PG_pass 80 = .ok (.aload_n 0, 1) := by decide +kernel
theorem d_PG_pass_81 : decode c_PG_pass 81 = .ok (.getfield 19, 3) := by decide +kernel
theorem d_PG_pass_84 : decode c_PG_pass 84 = .ok (.iload_n 1, 1) := by decide +kernel
theorem d_PG_pass_85 : decode c_PG_pass 85 = .ok (.invokevirtual 129, 3) := by decide +kernel
theorem d_PG_pass_88 : decode c_PG_pass 88 = .ok (.iload_n 2, 1) := by decide +kernel
theorem d_PG_pass_89 : decode c_PG_pass 89 = .ok (.iconst 1, 1) := by decide +kernel
theorem d_PG_pass_90 : decode c_PG_pass 90 = .ok (.if_icmp .ne 5, 3) := by decide +kernel
theorem d_PG_pass_93 : decode c_PG_pass 93 = .ok (.iconst 1, 1) := by decide +kernel
theorem d_PG_pass_94 : decode c_PG_pass 94 = .ok (.ireturn, 1) := by decide +kernel
theorem d_PG_pass_95 : decode c_PG_pass 95 = .ok (.iload_n 3, 1) := by decide +kernel
theorem d_PG_pass_96 : decode c_PG_pass 96 = .ok (.tableswitch 86 0 2 #[28, 52, 69], 28) := by decide +kernel
theorem d_PG_pass_124 : decode c_PG_pass 124 = .ok (.aload_n 0, 1) := by decide +kernel
theorem d_PG_pass_125 : decode c_PG_pass 125 = .ok (.getfield 44, 3) := by decide +kernel
theorem d_PG_pass_128 : decode c_PG_pass 128 = .ok (.aload_n 0, 1) := by decide +kernel
theorem d_PG_pass_129 : decode c_PG_pass 129 = .ok (.getfield 44, 3) := by decide +kernel
theorem d_PG_pass_132 : decode c_PG_pass 132 = .ok (.getfield 81, 3) := by decide +kernel
theorem d_PG_pass_135 : decode c_PG_pass 135 = .ok (.iload 4, 2) := by decide +kernel
theorem d_PG_pass_137 : decode c_PG_pass 137 = .ok (.aaload, 1) := by decide +kernel
theorem d_PG_pass_138 : decode c_PG_pass 138 = .ok (.aload_n 0, 1) := by decide +kernel
theorem d_PG_pass_139 : decode c_PG_pass 139 = .ok (.getfield 55, 3) := by decide +kernel
theorem d_PG_pass_142 : decode c_PG_pass 142 = .ok (.invokevirtual 132, 3) := by decide +kernel
theorem d_PG_pass_145 : decode c_PG_pass 145 = .ok (.goto 50, 3) := by decide +kernel
theorem d_PG_pass_148 : decode c_PG_pass 148 = .ok (.aload_n 0, 1) := by decide +kernel
theorem d_PG_pass_149 : decode c_PG_pass 149 = .ok (.getfield 25, 3) := by decide +kernel
theorem d_PG_pass_152 : decode c_PG_pass 152 = .ok (.iload 4, 2) := by decide +kernel
theorem d_PG_pass_154 : decode c_PG_pass 154 = .ok (.aaload, 1) := by decide +kernel
theorem d_PG_pass_155 : decode c_PG_pass 155 = .ok (.aload_n 0, 1) := by decide +kernel
theorem d_PG_pass_156 : decode c_PG_pass 156 = .ok (.getfield 55, 3) := by decide +kernel
theorem d_PG_pass_159 : decode c_PG_pass 159 = .ok (.invokevirtual 136, 3) := by decide +kernel
theorem d_PG_pass_162 : decode c_PG_pass 162 = .ok (.goto 33, 3) := by decide +kernel
theorem d_PG_pass_165 : decode c_PG_pass 165 = .ok (.aload_n 0, 1) := by decide +kernel
theorem d_PG_pass_166 : decode c_PG_pass 166 = .ok (.getfield 34, 3) := by decide +kernel
theorem d_PG_pass_169 : decode c_PG_pass 169 = .ok (.iload 4, 2) := by decide +kernel
theorem d_PG_pass_171 : decode c_PG_pass 171 = .ok (.aaload, 1) := by decide +kernel
theorem d_PG_pass_172 : decode c_PG_pass 172 = .ok (.aload_n 0, 1) := by decide +kernel
theorem d_PG_pass_173 : decode c_PG_pass 173 = .ok (.getfield 55, 3) := by decide +kernel
theorem d_PG_pass_176 : decode c_PG_pass 176 = .ok (.invokevirtual 138, 3) := by decide +kernel
theorem d_PG_pass_179 : decode c_PG_pass 179 = .ok (.goto 16, 3) := by decide +kernel
theorem d_PG_pass_182 : decode c_PG_pass 182 = .ok (.aload_n 0, 1) := by decide +kernel
theorem d_PG_pass_183 : decode c_PG_pass 183 = .ok (.getfield 44, 3) := by decide +kernel
theorem d_PG_pass_186 : decode c_PG_pass 186 = .ok (.iload 4, 2) := by decide +kernel
theorem d_PG_pass_188 : decode c_PG_pass 188 = .ok (.aload_n 0, 1) := by decide +kernel
theorem d_PG_pass_189 : decode c_PG_pass 189 = .ok (.getfield 55, 3) := by decide +kernel
theorem d_PG_pass_192 : decode c_PG_pass 192 = .ok (.invokevirtual 141, 3) := by decide +kernel
theorem d_PG_pass_195 : decode c_PG_pass 195 = .ok (.iconst 1, 1) := by decide +kernel
theorem d_PG_pass_196 : decode c_PG_pass 196 = .ok (.ireturn, 1) := by decide +kernel
theorem d_PG_alter_0 : decode c_PG_alter 0 = .ok (.aload_n 0, 1) := by decide +kernel
theorem d_PG_alter_1 : decode c_PG_alter 1 = .ok (.getfield 19, 3) := by decide +kernel
theorem d_PG_alter_4 : decode c_PG_alter 4 = .ok (.iload_n 1, 1) := by decide +kernel
theorem d_PG_alter_5 : decode c_PG_alter 5 = .ok (.invokevirtual 108, 3) := by decide +kernel
theorem d_PG_alter_8 : decode c_PG_alter 8 = .ok (.ifCond .eq 23, 3) := by decide +kernel
theorem d_PG_alter_11 : decode c_PG_alter 11 = .ok (.iload_n 2, 1) := by decide +kernel
theorem d_PG_alter_12 : decode c_PG_alter 12 = .ok (.ifCond .lt 19, 3) := by decide +kernel
theorem d_PG_alter_15 : decode c_PG_alter 15 = .ok (.iload_n 2, 1) := by decide +kernel
theorem d_PG_alter_16 : decode c_PG_alter 16 = .ok (.aload_n 0, 1) := by decide +kernel
theorem d_PG_alter_17 : decode c_PG_alter 17 = .ok (.getfield 19, 3) := by decide +kernel
theorem d_PG_alter_20 : decode c_PG_alter 20 = .ok (.getfield 117, 3) := by decide +kernel
theorem d_PG_alter_23 : decode c_PG_alter 23 = .ok (.iload_n 1, 1) := by decide +kernel
theorem d_PG_alter_24 : decode c_PG_alter 24 = .ok (.aaload, 1) := by decide +kernel
theorem d_PG_alter_25 : decode c_PG_alter 25 = .ok (.getfield 145, 3) := by decide +kernel
theorem d_PG_alter_28 : decode c_PG_alter 28 = .ok (.if_icmp .lt 5, 3) := by decide +kernel
theorem d_PG_alter_31 : decode c_PG_alter 31 = .ok (.iconst 0, 1) := by decide +kernel
theorem d_PG_alter_32 : decode c_PG_alter 32 = .ok (.ireturn, 1) := by decide +kernel
theorem d_PG_alter_33 : decode c_PG_alter 33 = .ok (.aload_n 0, 1) := by decide +kernel
theorem d_PG_alter_34 : decode c_PG_alter 34 = .ok (.getfield 19, 3) := by decide +kernel
theorem d_PG_alter_37 : decode c_PG_alter 37 = .ok (.getfield 117, 3) := by decide +kernel
theorem d_PG_alter_40 : decode c_PG_alter 40 = .ok (.iload_n 1, 1) := by decide +kernel
theorem d_PG_alter_41 : decode c_PG_alter 41 = .ok (.aaload, 1) := by decide +kernel
theorem d_PG_alter_42 : decode c_PG_alter 42 = .ok (.astore 4, 2) := by decide +kernel
theorem d_PG_alter_44 : decode c_PG_alter 44 = .ok (.aload 4, 2) := by decide +kernel
theorem d_PG_alter_46 : decode c_PG_alter 46 = .ok (.iload_n 2, 1) := by decide +kernel
theorem d_PG_alter_47 : decode c_PG_alter 47 = .ok (.aload 4, 2) := by decide +kernel
theorem d_PG_alter_49 : decode c_PG_alter 49 = .ok (.iload_n 2, 1) := by decide +kernel
theorem d_PG_alter_50 : decode c_PG_alter 50 = .ok (.invokevirtual 148, 3) := by decide +kernel
theorem d_PG_alter_53 : decode c_PG_alter 53 = .ok (.iload_n 3, 1) := by decide +kernel
theorem d_PG_alter_54 : decode c_PG_alter 54 = .ok (.sipush 255, 3) := by decide +kernel
theorem d_PG_alter_57 : decode c_PG_alter 57 = .ok (.iand, 1) := by decide +kernel
theorem d_PG_alter_58 : decode c_PG_alter 58 = .ok (.ixor, 1) := by decide +kernel
theorem d_PG_alter_59 : decode c_PG_alter 59 = .ok (.invokevirtual 152, 3) := by decide +kernel
theorem d_PG_alter_62 : decode c_PG_alter 62 = .ok (.iconst 1, 1) := by decide +kernel
theorem d_PG_alter_63 : decode c_PG_alter 63 = .ok (.ireturn, 1) := by decide +kernel
theorem d_PG_draft_0 : decode c_PG_draft 0 = .ok (.iload_n 3, 1) := by decide +kernel
theorem d_PG_draft_1 : decode c_PG_draft 1 = .ok (.iconst 1, 1) := by decide +kernel
theorem d_PG_draft_2 : decode c_PG_draft 2 = .ok (.if_icmp .lt 23, 3) := by decide +kernel
theorem d_PG_draft_5 : decode c_PG_draft 5 = .ok (.iload_n 3, 1) := by decide +kernel
theorem d_PG_draft_6 : decode c_PG_draft 6 = .ok (.bipush 8, 2) := by decide +kernel
theorem d_PG_draft_8 : decode c_PG_draft 8 = .ok (.if_icmp .gt 17, 3) := by decide +kernel
theorem d_PG_draft_11 : decode c_PG_draft 11 = .ok (.aload_n 0, 1) := by decide +kernel
theorem d_PG_draft_12 : decode c_PG_draft 12 = .ok (.getfield 51, 3) := by decide +kernel
theorem d_PG_draft_15 : decode c_PG_draft 15 = .ok (.getfield 145, 3) := by decide +kernel
theorem d_PG_draft_18 : decode c_PG_draft 18 = .ok (.iload_n 3, 1) := by decide +kernel
theorem d_PG_draft_19 : decode c_PG_draft 19 = .ok (.iadd, 1) := by decide +kernel
theorem d_PG_draft_20 : decode c_PG_draft 20 = .ok (.bipush 48, 2) := by decide +kernel
theorem d_PG_draft_22 : decode c_PG_draft 22 = .ok (.if_icmp .le 5, 3) := by decide +kernel
theorem d_PG_draft_25 : decode c_PG_draft 25 = .ok (.iconst 0, 1) := by decide +kernel
theorem d_PG_draft_26 : decode c_PG_draft 26 = .ok (.ireturn, 1) := by decide +kernel
theorem d_PG_draft_27 : decode c_PG_draft 27 = .ok (.iconst 0, 1) := by decide +kernel
theorem d_PG_draft_28 : decode c_PG_draft 28 = .ok (.istore 4, 2) := by decide +kernel
theorem d_PG_draft_30 : decode c_PG_draft 30 = .ok (.iload 4, 2) := by decide +kernel
theorem d_PG_draft_32 : decode c_PG_draft 32 = .ok (.iload_n 3, 1) := by decide +kernel
theorem d_PG_draft_33 : decode c_PG_draft 33 = .ok (.if_icmp .ge 24, 3) := by decide +kernel
theorem d_PG_draft_36 : decode c_PG_draft 36 = .ok (.aload_n 0, 1) := by decide +kernel
theorem d_PG_draft_37 : decode c_PG_draft 37 = .ok (.getfield 51, 3) := by decide +kernel
theorem d_PG_draft_40 : decode c_PG_draft 40 = .ok (.lload_n 1, 1) := by decide +kernel
theorem d_PG_draft_41 : decode c_PG_draft 41 = .ok (.bipush 8, 2) := by decide +kernel
theorem d_PG_draft_43 : decode c_PG_draft 43 = .ok (.iload 4, 2) := by decide +kernel
theorem d_PG_draft_45 : decode c_PG_draft 45 = .ok (.imul, 1) := by decide +kernel
theorem d_PG_draft_46 : decode c_PG_draft 46 = .ok (.lushr, 1) := by decide +kernel
theorem d_PG_draft_47 : decode c_PG_draft 47 = .ok (.l2i, 1) := by decide +kernel
theorem d_PG_draft_48 : decode c_PG_draft 48 = .ok (.invokevirtual 156, 3) := by decide +kernel
theorem d_PG_draft_51 : decode c_PG_draft 51 = .ok (.iinc 4 1, 3) := by decide +kernel
theorem d_PG_draft_54 : decode c_PG_draft 54 = .ok (.goto (-24), 3) := by decide +kernel
theorem d_PG_draft_57 : decode c_PG_draft 57 = .ok (.iconst 1, 1) := by decide +kernel
theorem d_PG_draft_58 : decode c_PG_draft 58 = .ok (.ireturn, 1) := by decide +kernel
theorem d_PG_forge_0 : decode c_PG_forge 0 = .ok (.iload_n 1, 1) := by decide +kernel
theorem d_PG_forge_1 : decode c_PG_forge 1 = .ok (.iload_n 2, 1) := by decide +kernel
theorem d_PG_forge_2 : decode c_PG_forge 2 = .ok (.invokestatic 159, 3) := by decide +kernel
theorem d_PG_forge_5 : decode c_PG_forge 5 = .ok (.ifCond .eq 13, 3) := by decide +kernel
theorem d_PG_forge_8 : decode c_PG_forge 8 = .ok (.aload_n 0, 1) := by decide +kernel
theorem d_PG_forge_9 : decode c_PG_forge 9 = .ok (.getfield 51, 3) := by decide +kernel
theorem d_PG_forge_12 : decode c_PG_forge 12 = .ok (.getfield 145, 3) := by decide +kernel
theorem d_PG_forge_15 : decode c_PG_forge 15 = .ok (.ifCond .ne 5, 3) := by decide +kernel
theorem d_PG_forge_18 : decode c_PG_forge 18 = .ok (.iconst 0, 1) := by decide +kernel
theorem d_PG_forge_19 : decode c_PG_forge 19 = .ok (.ireturn, 1) := by decide +kernel
theorem d_PG_forge_20 : decode c_PG_forge 20 = .ok (.aload_n 0, 1) := by decide +kernel
theorem d_PG_forge_21 : decode c_PG_forge 21 = .ok (.getfield 19, 3) := by decide +kernel
theorem d_PG_forge_24 : decode c_PG_forge 24 = .ok (.iload_n 1, 1) := by decide +kernel
theorem d_PG_forge_25 : decode c_PG_forge 25 = .ok (.iload_n 2, 1) := by decide +kernel
theorem d_PG_forge_26 : decode c_PG_forge 26 = .ok (.aload_n 0, 1) := by decide +kernel
theorem d_PG_forge_27 : decode c_PG_forge 27 = .ok (.getfield 51, 3) := by decide +kernel
theorem d_PG_forge_30 : decode c_PG_forge 30 = .ok (.invokevirtual 125, 3) := by decide +kernel
theorem d_PG_forge_33 : decode c_PG_forge 33 = .ok (.aload_n 0, 1) := by decide +kernel
theorem d_PG_forge_34 : decode c_PG_forge 34 = .ok (.getfield 51, 3) := by decide +kernel
theorem d_PG_forge_37 : decode c_PG_forge 37 = .ok (.invokevirtual 163, 3) := by decide +kernel
theorem d_PG_forge_40 : decode c_PG_forge 40 = .ok (.iconst 1, 1) := by decide +kernel
theorem d_PG_forge_41 : decode c_PG_forge 41 = .ok (.ireturn, 1) := by decide +kernel
theorem d_PG_tick_0 : decode c_PG_tick 0 = .ok (.iconst 0, 1) := by decide +kernel
theorem d_PG_tick_1 : decode c_PG_tick 1 = .ok (.istore_n 1, 1) := by decide +kernel
theorem d_PG_tick_2 : decode c_PG_tick 2 = .ok (.iload_n 1, 1) := by decide +kernel
theorem d_PG_tick_3 : decode c_PG_tick 3 = .ok (.iconst 4, 1) := by decide +kernel
theorem d_PG_tick_4 : decode c_PG_tick 4 = .ok (.if_icmp .ge 25, 3) := by decide +kernel
theorem d_PG_tick_7 : decode c_PG_tick 7 = .ok (.aload_n 0, 1) := by decide +kernel
theorem d_PG_tick_8 : decode c_PG_tick 8 = .ok (.getfield 44, 3) := by decide +kernel
theorem d_PG_tick_11 : decode c_PG_tick 11 = .ok (.aload_n 0, 1) := by decide +kernel
theorem d_PG_tick_12 : decode c_PG_tick 12 = .ok (.getfield 44, 3) := by decide +kernel
theorem d_PG_tick_15 : decode c_PG_tick 15 = .ok (.getfield 81, 3) := by decide +kernel
theorem d_PG_tick_18 : decode c_PG_tick 18 = .ok (.iload_n 1, 1) := by decide +kernel
theorem d_PG_tick_19 : decode c_PG_tick 19 = .ok (.aaload, 1) := by decide +kernel
theorem d_PG_tick_20 : decode c_PG_tick 20 = .ok (.invokevirtual 166, 3) := by decide +kernel
theorem d_PG_tick_23 : decode c_PG_tick 23 = .ok (.iinc 1 1, 3) := by decide +kernel
theorem d_PG_tick_26 : decode c_PG_tick 26 = .ok (.goto (-24), 3) := by decide +kernel
theorem d_PG_tick_29 : decode c_PG_tick 29 = .ok (.aload_n 0, 1) := by decide +kernel
theorem d_PG_tick_30 : decode c_PG_tick 30 = .ok (.getfield 19, 3) := by decide +kernel
theorem d_PG_tick_33 : decode c_PG_tick 33 = .ok (.getfield 169, 3) := by decide +kernel
theorem d_PG_tick_36 : decode c_PG_tick 36 = .ok (.ireturn, 1) := by decide +kernel
theorem d_PG_data_0 : decode c_PG_data 0 = .ok (.iload_n 1, 1) := by decide +kernel
theorem d_PG_data_1 : decode c_PG_data 1 = .ok (.invokestatic 65, 3) := by decide +kernel
theorem d_PG_data_4 : decode c_PG_data 4 = .ok (.ifCond .eq 23, 3) := by decide +kernel
theorem d_PG_data_7 : decode c_PG_data 7 = .ok (.iload_n 2, 1) := by decide +kernel
theorem d_PG_data_8 : decode c_PG_data 8 = .ok (.ifCond .lt 19, 3) := by decide +kernel
theorem d_PG_data_11 : decode c_PG_data 11 = .ok (.iload_n 2, 1) := by decide +kernel
theorem d_PG_data_12 : decode c_PG_data 12 = .ok (.bipush 8, 2) := by decide +kernel
theorem d_PG_data_14 : decode c_PG_data 14 = .ok (.if_icmp .ge 13, 3) := by decide +kernel
theorem d_PG_data_17 : decode c_PG_data 17 = .ok (.iload_n 3, 1) := by decide +kernel
theorem d_PG_data_18 : decode c_PG_data 18 = .ok (.ifCond .lt 9, 3) := by decide +kernel
theorem d_PG_data_21 : decode c_PG_data 21 = .ok (.iload_n 3, 1) := by decide +kernel
theorem d_PG_data_22 : decode c_PG_data 22 = .ok (.bipush 8, 2) := by decide +kernel
theorem d_PG_data_24 : decode c_PG_data 24 = .ok (.if_icmp .le 5, 3) := by decide +kernel
theorem d_PG_data_27 : decode c_PG_data 27 = .ok (.iconst (-1), 1) := by decide +kernel
theorem d_PG_data_28 : decode c_PG_data 28 = .ok (.ireturn, 1) := by decide +kernel
theorem d_PG_data_29 : decode c_PG_data 29 = .ok (.aload_n 0, 1) := by decide +kernel
theorem d_PG_data_30 : decode c_PG_data 30 = .ok (.getfield 44, 3) := by decide +kernel
theorem d_PG_data_33 : decode c_PG_data 33 = .ok (.aload_n 0, 1) := by decide +kernel
theorem d_PG_data_34 : decode c_PG_data 34 = .ok (.getfield 44, 3) := by decide +kernel
theorem d_PG_data_37 : decode c_PG_data 37 = .ok (.getfield 81, 3) := by decide +kernel
theorem d_PG_data_40 : decode c_PG_data 40 = .ok (.iload_n 1, 1) := by decide +kernel
theorem d_PG_data_41 : decode c_PG_data 41 = .ok (.aaload, 1) := by decide +kernel
theorem d_PG_data_42 : decode c_PG_data 42 = .ok (.iload_n 2, 1) := by decide +kernel
theorem d_PG_data_43 : decode c_PG_data 43 = .ok (.iload_n 3, 1) := by decide +kernel
theorem d_PG_data_44 : decode c_PG_data 44 = .ok (.invokevirtual 172, 3) := by decide +kernel
theorem d_PG_data_47 : decode c_PG_data 47 = .ok (.ireturn, 1) := by decide +kernel
theorem d_PG_waiting_0 : decode c_PG_waiting 0 = .ok (.aload_n 0, 1) := by decide +kernel
theorem d_PG_waiting_1 : decode c_PG_waiting 1 = .ok (.getfield 19, 3) := by decide +kernel
theorem d_PG_waiting_4 : decode c_PG_waiting 4 = .ok (.getfield 169, 3) := by decide +kernel
theorem d_PG_waiting_7 : decode c_PG_waiting 7 = .ok (.ireturn, 1) := by decide +kernel
theorem d_PG_message_0 : decode c_PG_message 0 = .ok (.aload_n 0, 1) := by decide +kernel
theorem d_PG_message_1 : decode c_PG_message 1 = .ok (.getfield 19, 3) := by decide +kernel
theorem d_PG_message_4 : decode c_PG_message 4 = .ok (.iload_n 1, 1) := by decide +kernel
theorem d_PG_message_5 : decode c_PG_message 5 = .ok (.invokevirtual 108, 3) := by decide +kernel
theorem d_PG_message_8 : decode c_PG_message 8 = .ok (.ifCond .eq 7, 3) := by decide +kernel
theorem d_PG_message_11 : decode c_PG_message 11 = .ok (.iload_n 2, 1) := by decide +kernel
theorem d_PG_message_12 : decode c_PG_message 12 = .ok (.ifCond .ge 5, 3) := by decide +kernel
theorem d_PG_message_15 : decode c_PG_message 15 = .ok (.iconst (-1), 1) := by decide +kernel
theorem d_PG_message_16 : decode c_PG_message 16 = .ok (.ireturn, 1) := by decide +kernel
theorem d_PG_message_17 : decode c_PG_message 17 = .ok (.iload_n 2, 1) := by decide +kernel
theorem d_PG_message_18 : decode c_PG_message 18 = .ok (.tableswitch 59 0 2 #[26, 36, 46], 26) := by decide +kernel
theorem d_PG_message_44 : decode c_PG_message 44 = .ok (.aload_n 0, 1) := by decide +kernel
theorem d_PG_message_45 : decode c_PG_message 45 = .ok (.getfield 19, 3) := by decide +kernel
theorem d_PG_message_48 : decode c_PG_message 48 = .ok (.getfield 111, 3) := by decide +kernel
theorem d_PG_message_51 : decode c_PG_message 51 = .ok (.iload_n 1, 1) := by decide +kernel
theorem d_PG_message_52 : decode c_PG_message 52 = .ok (.iaload, 1) := by decide +kernel
theorem d_PG_message_53 : decode c_PG_message 53 = .ok (.ireturn, 1) := by decide +kernel
theorem d_PG_message_54 : decode c_PG_message 54 = .ok (.aload_n 0, 1) := by decide +kernel
theorem d_PG_message_55 : decode c_PG_message 55 = .ok (.getfield 19, 3) := by decide +kernel
theorem d_PG_message_58 : decode c_PG_message 58 = .ok (.getfield 114, 3) := by decide +kernel
theorem d_PG_message_61 : decode c_PG_message 61 = .ok (.iload_n 1, 1) := by decide +kernel
theorem d_PG_message_62 : decode c_PG_message 62 = .ok (.iaload, 1) := by decide +kernel
theorem d_PG_message_63 : decode c_PG_message 63 = .ok (.ireturn, 1) := by decide +kernel
theorem d_PG_message_64 : decode c_PG_message 64 = .ok (.aload_n 0, 1) := by decide +kernel
theorem d_PG_message_65 : decode c_PG_message 65 = .ok (.getfield 19, 3) := by decide +kernel
theorem d_PG_message_68 : decode c_PG_message 68 = .ok (.getfield 117, 3) := by decide +kernel
theorem d_PG_message_71 : decode c_PG_message 71 = .ok (.iload_n 1, 1) := by decide +kernel
theorem d_PG_message_72 : decode c_PG_message 72 = .ok (.aaload, 1) := by decide +kernel
theorem d_PG_message_73 : decode c_PG_message 73 = .ok (.getfield 145, 3) := by decide +kernel
theorem d_PG_message_76 : decode c_PG_message 76 = .ok (.ireturn, 1) := by decide +kernel
theorem d_PG_message_77 : decode c_PG_message 77 = .ok (.aload_n 0, 1) := by decide +kernel
theorem d_PG_message_78 : decode c_PG_message 78 = .ok (.getfield 19, 3) := by decide +kernel
theorem d_PG_message_81 : decode c_PG_message 81 = .ok (.getfield 117, 3) := by decide +kernel
theorem d_PG_message_84 : decode c_PG_message 84 = .ok (.iload_n 1, 1) := by decide +kernel
theorem d_PG_message_85 : decode c_PG_message 85 = .ok (.aaload, 1) := by decide +kernel
theorem d_PG_message_86 : decode c_PG_message 86 = .ok (.iload_n 2, 1) := by decide +kernel
theorem d_PG_message_87 : decode c_PG_message 87 = .ok (.iconst 3, 1) := by decide +kernel
theorem d_PG_message_88 : decode c_PG_message 88 = .ok (.isub, 1) := by decide +kernel
theorem d_PG_message_89 : decode c_PG_message 89 = .ok (.invokevirtual 148, 3) := by decide +kernel
theorem d_PG_message_92 : decode c_PG_message 92 = .ok (.ireturn, 1) := by decide +kernel
theorem d_PG_port_0 : decode c_PG_port 0 = .ok (.iload_n 1, 1) := by decide +kernel
theorem d_PG_port_1 : decode c_PG_port 1 = .ok (.invokestatic 65, 3) := by decide +kernel
theorem d_PG_port_4 : decode c_PG_port 4 = .ok (.ifCond .eq 19, 3) := by decide +kernel
theorem d_PG_port_7 : decode c_PG_port 7 = .ok (.aload_n 0, 1) := by decide +kernel
theorem d_PG_port_8 : decode c_PG_port 8 = .ok (.getfield 44, 3) := by decide +kernel
theorem d_PG_port_11 : decode c_PG_port 11 = .ok (.getfield 81, 3) := by decide +kernel
theorem d_PG_port_14 : decode c_PG_port 14 = .ok (.iload_n 1, 1) := by decide +kernel
theorem d_PG_port_15 : decode c_PG_port 15 = .ok (.aaload, 1) := by decide +kernel
theorem d_PG_port_16 : decode c_PG_port 16 = .ok (.iload_n 2, 1) := by decide +kernel
theorem d_PG_port_17 : decode c_PG_port 17 = .ok (.invokevirtual 176, 3) := by decide +kernel
theorem d_PG_port_20 : decode c_PG_port 20 = .ok (.goto 5, 3) := by decide +kernel
theorem d_PG_port_23 : decode c_PG_port 23 = .ok (.bipush (-2), 2) := by decide +kernel
theorem d_PG_port_25 : decode c_PG_port 25 = .ok (.ireturn, 1) := by decide +kernel
theorem d_PG_station_0 : decode c_PG_station 0 = .ok (.iload_n 1, 1) := by decide +kernel
theorem d_PG_station_1 : decode c_PG_station 1 = .ok (.invokestatic 65, 3) := by decide +kernel
theorem d_PG_station_4 : decode c_PG_station 4 = .ok (.ifCond .eq 16, 3) := by decide +kernel
theorem d_PG_station_7 : decode c_PG_station 7 = .ok (.aload_n 0, 1) := by decide +kernel
theorem d_PG_station_8 : decode c_PG_station 8 = .ok (.getfield 25, 3) := by decide +kernel
theorem d_PG_station_11 : decode c_PG_station 11 = .ok (.iload_n 1, 1) := by decide +kernel
theorem d_PG_station_12 : decode c_PG_station 12 = .ok (.aaload, 1) := by decide +kernel
theorem d_PG_station_13 : decode c_PG_station 13 = .ok (.iload_n 2, 1) := by decide +kernel
theorem d_PG_station_14 : decode c_PG_station 14 = .ok (.invokevirtual 179, 3) := by decide +kernel
theorem d_PG_station_17 : decode c_PG_station 17 = .ok (.goto 5, 3) := by decide +kernel
theorem d_PG_station_20 : decode c_PG_station 20 = .ok (.bipush (-2), 2) := by decide +kernel
theorem d_PG_station_22 : decode c_PG_station 22 = .ok (.ireturn, 1) := by decide +kernel
theorem d_PG_server_0 : decode c_PG_server 0 = .ok (.iload_n 1, 1) := by decide +kernel
theorem d_PG_server_1 : decode c_PG_server 1 = .ok (.invokestatic 98, 3) := by decide +kernel
theorem d_PG_server_4 : decode c_PG_server 4 = .ok (.ifCond .eq 16, 3) := by decide +kernel
theorem d_PG_server_7 : decode c_PG_server 7 = .ok (.aload_n 0, 1) := by decide +kernel
theorem d_PG_server_8 : decode c_PG_server 8 = .ok (.getfield 34, 3) := by decide +kernel
theorem d_PG_server_11 : decode c_PG_server 11 = .ok (.iload_n 1, 1) := by decide +kernel
theorem d_PG_server_12 : decode c_PG_server 12 = .ok (.aaload, 1) := by decide +kernel
theorem d_PG_server_13 : decode c_PG_server 13 = .ok (.iload_n 2, 1) := by decide +kernel
theorem d_PG_server_14 : decode c_PG_server 14 = .ok (.invokevirtual 180, 3) := by decide +kernel
theorem d_PG_server_17 : decode c_PG_server 17 = .ok (.goto 5, 3) := by decide +kernel
theorem d_PG_server_20 : decode c_PG_server 20 = .ok (.bipush (-2), 2) := by decide +kernel
theorem d_PG_server_22 : decode c_PG_server 22 = .ok (.ireturn, 1) := by decide +kernel
theorem d_PG_wrong_0 : decode c_PG_wrong 0 = .ok (.iconst 0, 1) := by decide +kernel
theorem d_PG_wrong_1 : decode c_PG_wrong 1 = .ok (.istore_n 2, 1) := by decide +kernel
theorem d_PG_wrong_2 : decode c_PG_wrong 2 = .ok (.iload_n 1, 1) := by decide +kernel
theorem d_PG_wrong_3 : decode c_PG_wrong 3 = .ok (.tableswitch 87 0 2 #[25, 33, 60], 25) := by decide +kernel
theorem d_PG_wrong_28 : decode c_PG_wrong 28 = .ok (.aload_n 0, 1) := by decide +kernel
theorem d_PG_wrong_29 : decode c_PG_wrong 29 = .ok (.getfield 44, 3) := by decide +kernel
theorem d_PG_wrong_32 : decode c_PG_wrong 32 = .ok (.getfield 181, 3) := by decide +kernel
theorem d_PG_wrong_35 : decode c_PG_wrong 35 = .ok (.ireturn, 1) := by decide +kernel
theorem d_PG_wrong_36 : decode c_PG_wrong 36 = .ok (.iconst 0, 1) := by decide +kernel
theorem d_PG_wrong_37 : decode c_PG_wrong 37 = .ok (.istore_n 3, 1) := by decide +kernel
theorem d_PG_wrong_38 : decode c_PG_wrong 38 = .ok (.iload_n 3, 1) := by decide +kernel
theorem d_PG_wrong_39 : decode c_PG_wrong 39 = .ok (.iconst 4, 1) := by decide +kernel
theorem d_PG_wrong_40 : decode c_PG_wrong 40 = .ok (.if_icmp .ge 21, 3) := by decide +kernel
theorem d_PG_wrong_43 : decode c_PG_wrong 43 = .ok (.iload_n 2, 1) := by decide +kernel
theorem d_PG_wrong_44 : decode c_PG_wrong 44 = .ok (.aload_n 0, 1) := by decide +kernel
theorem d_PG_wrong_45 : decode c_PG_wrong 45 = .ok (.getfield 25, 3) := by decide +kernel
theorem d_PG_wrong_48 : decode c_PG_wrong 48 = .ok (.iload_n 3, 1) := by decide +kernel
theorem d_PG_wrong_49 : decode c_PG_wrong 49 = .ok (.aaload, 1) := by decide +kernel
theorem d_PG_wrong_50 : decode c_PG_wrong 50 = .ok (.getfield 184, 3) := by decide +kernel
theorem d_PG_wrong_53 : decode c_PG_wrong 53 = .ok (.iadd, 1) := by decide +kernel
theorem d_PG_wrong_54 : decode c_PG_wrong 54 = .ok (.istore_n 2, 1) := by decide +kernel
theorem d_PG_wrong_55 : decode c_PG_wrong 55 = .ok (.iinc 3 1, 3) := by decide +kernel
theorem d_PG_wrong_58 : decode c_PG_wrong 58 = .ok (.goto (-20), 3) := by decide +kernel
theorem d_PG_wrong_61 : decode c_PG_wrong 61 = .ok (.iload_n 2, 1) := by decide +kernel
theorem d_PG_wrong_62 : decode c_PG_wrong 62 = .ok (.ireturn, 1) := by decide +kernel
theorem d_PG_wrong_63 : decode c_PG_wrong 63 = .ok (.iconst 0, 1) := by decide +kernel
theorem d_PG_wrong_64 : decode c_PG_wrong 64 = .ok (.istore_n 3, 1) := by decide +kernel
theorem d_PG_wrong_65 : decode c_PG_wrong 65 = .ok (.iload_n 3, 1) := by decide +kernel
theorem d_PG_wrong_66 : decode c_PG_wrong 66 = .ok (.iconst 2, 1) := by decide +kernel
theorem d_PG_wrong_67 : decode c_PG_wrong 67 = .ok (.if_icmp .ge 21, 3) := by decide +kernel
theorem d_PG_wrong_70 : decode c_PG_wrong 70 = .ok (.iload_n 2, 1) := by decide +kernel
theorem d_PG_wrong_71 : decode c_PG_wrong 71 = .ok (.aload_n 0, 1) := by decide +kernel
theorem d_PG_wrong_72 : decode c_PG_wrong 72 = .ok (.getfield 34, 3) := by decide +kernel
theorem d_PG_wrong_75 : decode c_PG_wrong 75 = .ok (.iload_n 3, 1) := by decide +kernel
theorem d_PG_wrong_76 : decode c_PG_wrong 76 = .ok (.aaload, 1) := by decide +kernel
theorem d_PG_wrong_77 : decode c_PG_wrong 77 = .ok (.getfield 185, 3) := by decide +kernel
theorem d_PG_wrong_80 : decode c_PG_wrong 80 = .ok (.iadd, 1) := by decide +kernel
theorem d_PG_wrong_81 : decode c_PG_wrong 81 = .ok (.istore_n 2, 1) := by decide +kernel
theorem d_PG_wrong_82 : decode c_PG_wrong 82 = .ok (.iinc 3 1, 3) := by decide +kernel
theorem d_PG_wrong_85 : decode c_PG_wrong 85 = .ok (.goto (-20), 3) := by decide +kernel
theorem d_PG_wrong_88 : decode c_PG_wrong 88 = .ok (.iload_n 2, 1) := by decide +kernel
theorem d_PG_wrong_89 : decode c_PG_wrong 89 = .ok (.ireturn, 1) := by decide +kernel
theorem d_PG_wrong_90 : decode c_PG_wrong 90 = .ok (.iconst (-1), 1) := by decide +kernel
theorem d_PG_wrong_91 : decode c_PG_wrong 91 = .ok (.ireturn, 1) := by decide +kernel
theorem d_PG_learned_0 : decode c_PG_learned 0 = .ok (.iload_n 1, 1) := by decide +kernel
theorem d_PG_learned_1 : decode c_PG_learned 1 = .ok (.ifCond .lt 21, 3) := by decide +kernel
theorem d_PG_learned_4 : decode c_PG_learned 4 = .ok (.iload_n 1, 1) := by decide +kernel
theorem d_PG_learned_5 : decode c_PG_learned 5 = .ok (.bipush 8, 2) := by decide +kernel
theorem d_PG_learned_7 : decode c_PG_learned 7 = .ok (.if_icmp .ge 15, 3) := by decide +kernel
theorem d_PG_learned_10 : decode c_PG_learned 10 = .ok (.aload_n 0, 1) := by decide +kernel
theorem d_PG_learned_11 : decode c_PG_learned 11 = .ok (.getfield 44, 3) := by decide +kernel
theorem d_PG_learned_14 : decode c_PG_learned 14 = .ok (.getfield 186, 3) := by decide +kernel
theorem d_PG_learned_17 : decode c_PG_learned 17 = .ok (.iload_n 1, 1) := by decide +kernel
theorem d_PG_learned_18 : decode c_PG_learned 18 = .ok (.iaload, 1) := by decide +kernel
theorem d_PG_learned_19 : decode c_PG_learned 19 = .ok (.goto 4, 3) := by decide +kernel
theorem d_PG_learned_22 : decode c_PG_learned 22 = .ok (.iconst (-1), 1) := by decide +kernel
theorem d_PG_learned_23 : decode c_PG_learned 23 = .ok (.ireturn, 1) := by decide +kernel
theorem d_PG_favourite_0 : decode c_PG_favourite 0 = .ok (.aload_n 0, 1) := by decide +kernel
theorem d_PG_favourite_1 : decode c_PG_favourite 1 = .ok (.getfield 44, 3) := by decide +kernel
theorem d_PG_favourite_4 : decode c_PG_favourite 4 = .ok (.getfield 189, 3) := by decide +kernel
theorem d_PG_favourite_7 : decode c_PG_favourite 7 = .ok (.ireturn, 1) := by decide +kernel
theorem d_PG_isPort_0 : decode c_PG_isPort 0 = .ok (.iload_n 0, 1) := by decide +kernel
theorem d_PG_isPort_1 : decode c_PG_isPort 1 = .ok (.ifCond .lt 12, 3) := by decide +kernel
theorem d_PG_isPort_4 : decode c_PG_isPort 4 = .ok (.iload_n 0, 1) := by decide +kernel
theorem d_PG_isPort_5 : decode c_PG_isPort 5 = .ok (.iconst 4, 1) := by decide +kernel
theorem d_PG_isPort_6 : decode c_PG_isPort 6 = .ok (.if_icmp .ge 7, 3) := by decide +kernel
theorem d_PG_isPort_9 : decode c_PG_isPort 9 = .ok (.iconst 1, 1) := by decide +kernel
theorem d_PG_isPort_10 : decode c_PG_isPort 10 = .ok (.goto 4, 3) := by decide +kernel
theorem d_PG_isPort_13 : decode c_PG_isPort 13 = .ok (.iconst 0, 1) := by decide +kernel
theorem d_PG_isPort_14 : decode c_PG_isPort 14 = .ok (.ireturn, 1) := by decide +kernel
theorem d_PG_isServer_0 : decode c_PG_isServer 0 = .ok (.iload_n 0, 1) := by decide +kernel
theorem d_PG_isServer_1 : decode c_PG_isServer 1 = .ok (.ifCond .lt 12, 3) := by decide +kernel
theorem d_PG_isServer_4 : decode c_PG_isServer 4 = .ok (.iload_n 0, 1) := by decide +kernel
theorem d_PG_isServer_5 : decode c_PG_isServer 5 = .ok (.iconst 2, 1) := by decide +kernel
theorem d_PG_isServer_6 : decode c_PG_isServer 6 = .ok (.if_icmp .ge 7, 3) := by decide +kernel
theorem d_PG_isServer_9 : decode c_PG_isServer 9 = .ok (.iconst 1, 1) := by decide +kernel
theorem d_PG_isServer_10 : decode c_PG_isServer 10 = .ok (.goto 4, 3) := by decide +kernel
theorem d_PG_isServer_13 : decode c_PG_isServer 13 = .ok (.iconst 0, 1) := by decide +kernel
theorem d_PG_isServer_14 : decode c_PG_isServer 14 = .ok (.ireturn, 1) := by decide +kernel
theorem d_PG_isPlace_0 : decode c_PG_isPlace 0 = .ok (.iload_n 0, 1) := by decide +kernel
theorem d_PG_isPlace_1 : decode c_PG_isPlace 1 = .ok (.ifCond .eq 8, 3) := by decide +kernel
theorem d_PG_isPlace_4 : decode c_PG_isPlace 4 = .ok (.iload_n 0, 1) := by decide +kernel
theorem d_PG_isPlace_5 : decode c_PG_isPlace 5 = .ok (.iconst 1, 1) := by decide +kernel
theorem d_PG_isPlace_6 : decode c_PG_isPlace 6 = .ok (.if_icmp .ne 8, 3) := by decide +kernel
theorem d_PG_isPlace_9 : decode c_PG_isPlace 9 = .ok (.iload_n 1, 1) := by decide +kernel
theorem d_PG_isPlace_10 : decode c_PG_isPlace 10 = .ok (.invokestatic 65, 3) := by decide +kernel
theorem d_PG_isPlace_13 : decode c_PG_isPlace 13 = .ok (.ireturn, 1) := by decide +kernel
theorem d_PG_isPlace_14 : decode c_PG_isPlace 14 = .ok (.iload_n 0, 1) := by decide +kernel
theorem d_PG_isPlace_15 : decode c_PG_isPlace 15 = .ok (.iconst 2, 1) := by decide +kernel
theorem d_PG_isPlace_16 : decode c_PG_isPlace 16 = .ok (.if_icmp .eq 8, 3) := by decide +kernel
theorem d_PG_isPlace_19 : decode c_PG_isPlace 19 = .ok (.iload_n 0, 1) := by decide +kernel
theorem d_PG_isPlace_20 : decode c_PG_isPlace 20 = .ok (.iconst 3, 1) := by decide +kernel
theorem d_PG_isPlace_21 : decode c_PG_isPlace 21 = .ok (.if_icmp .ne 14, 3) := by decide +kernel
theorem d_PG_isPlace_24 : decode c_PG_isPlace 24 = .ok (.iload_n 1, 1) := by decide +kernel
theorem d_PG_isPlace_25 : decode c_PG_isPlace 25 = .ok (.invokestatic 98, 3) := by decide +kernel
theorem d_PG_isPlace_28 : decode c_PG_isPlace 28 = .ok (.ifCond .eq 7, 3) := by decide +kernel
theorem d_PG_isPlace_31 : decode c_PG_isPlace 31 = .ok (.iconst 1, 1) := by decide +kernel
theorem d_PG_isPlace_32 : decode c_PG_isPlace 32 = .ok (.goto 4, 3) := by decide +kernel
theorem d_PG_isPlace_35 : decode c_PG_isPlace 35 = .ok (.iconst 0, 1) := by decide +kernel
theorem d_PG_isPlace_36 : decode c_PG_isPlace 36 = .ok (.ireturn, 1) := by decide +kernel

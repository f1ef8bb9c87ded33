theorem d_Da_code_0 : decode c_Da_code 0 = .ok (.aload_n 0, 1) := by decide +kernel
theorem d_Da_code_1 : decode c_Da_code 1 = .ok (.getfield 12, 3) := by decide +kernel
theorem d_Da_code_4 : decode c_Da_code 4 = .ok (.iconst 0, 1) := by decide +kernel
theorem d_Da_code_5 : decode c_Da_code 5 = .ok (.invokevirtual 25, 3) := by decide +kernel
theorem d_Da_code_8 : decode c_Da_code 8 = .ok (.ireturn, 1) := by decide +kernel
theorem d_Da_id_0 : decode c_Da_id 0 = .ok (.aload_n 0, 1) := by decide +kernel
theorem d_Da_id_1 : decode c_Da_id 1 = .ok (.getfield 12, 3) := by decide +kernel
theorem d_Da_id_4 : decode c_Da_id 4 = .ok (.iconst 1, 1) := by decide +kernel
theorem d_Da_id_5 : decode c_Da_id 5 = .ok (.invokevirtual 25, 3) := by decide +kernel
theorem d_Da_id_8 : decode c_Da_id 8 = .ok (.ireturn, 1) := by decide +kernel
theorem d_Da_read_0 : decode c_Da_read 0 = .ok (.aload_n 0, 1) := by decide +kernel
theorem d_Da_read_1 : decode c_Da_read 1 = .ok (.getfield 12, 3) := by decide +kernel
theorem d_Da_read_4 : decode c_Da_read 4 = .ok (.aload_n 1, 1) := by decide +kernel
theorem d_Da_read_5 : decode c_Da_read 5 = .ok (.invokevirtual 29, 3) := by decide +kernel
theorem d_Da_read_8 : decode c_Da_read 8 = .ok (.aload_n 0, 1) := by decide +kernel
theorem d_Da_read_9 : decode c_Da_read 9 = .ok (.getfield 21, 3) := by decide +kernel
theorem d_Da_read_12 : decode c_Da_read 12 = .ok (.invokevirtual 33, 3) := by decide +kernel
theorem d_Da_read_15 : decode c_Da_read 15 = .ok (.aload_n 0, 1) := by decide +kernel
theorem d_Da_read_16 : decode c_Da_read 16 = .ok (.iconst 0, 1) := by decide +kernel
theorem d_Da_read_17 : decode c_Da_read 17 = .ok (.putfield 36, 3) := by decide +kernel
theorem d_Da_read_20 : decode c_Da_read 20 = .ok (.aload_n 0, 1) := by decide +kernel
theorem d_Da_read_21 : decode c_Da_read 21 = .ok (.iconst (-1), 1) := by decide +kernel
theorem d_Da_read_22 : decode c_Da_read 22 = .ok (.putfield 40, 3) := by decide +kernel
theorem d_Da_read_25 : decode c_Da_read 25 = .ok (.aload_n 0, 1) := by decide +kernel
theorem d_Da_read_26 : decode c_Da_read 26 = .ok (.iconst (-1), 1) := by decide +kernel
theorem d_Da_read_27 : decode c_Da_read 27 = .ok (.putfield 44, 3) := by decide +kernel
theorem d_Da_read_30 : decode c_Da_read 30 = .ok (.aload_n 0, 1) := by decide +kernel
theorem d_Da_read_31 : decode c_Da_read 31 = .ok (.getfield 12, 3) := by decide +kernel
theorem d_Da_read_34 : decode c_Da_read 34 = .ok (.getfield 47, 3) := by decide +kernel
theorem d_Da_read_37 : decode c_Da_read 37 = .ok (.bipush 7, 2) := by decide +kernel
theorem d_Da_read_39 : decode c_Da_read 39 = .ok (.if_icmp .lt 28, 3) := by decide +kernel
theorem d_Da_read_42 : decode c_Da_read 42 = .ok (.aload_n 0, 1) := by decide +kernel
theorem d_Da_read_43 : decode c_Da_read 43 = .ok (.getfield 12, 3) := by decide +kernel
theorem d_Da_read_46 : decode c_Da_read 46 = .ok (.iconst 2, 1) := by decide +kernel
theorem d_Da_read_47 : decode c_Da_read 47 = .ok (.invokevirtual 25, 3) := by decide +kernel
theorem d_Da_read_50 : decode c_Da_read 50 = .ok (.aload_n 0, 1) := by decide +kernel
theorem d_Da_read_51 : decode c_Da_read 51 = .ok (.getfield 12, 3) := by decide +kernel
theorem d_Da_read_54 : decode c_Da_read 54 = .ok (.getfield 47, 3) := by decide +kernel
theorem d_Da_read_57 : decode c_Da_read 57 = .ok (.if_icmp .ne 10, 3) := by decide +kernel
theorem d_Da_read_60 : decode c_Da_read 60 = .ok (.aload_n 0, 1) := by decide +kernel
theorem d_Da_read_61 : decode c_Da_read 61 = .ok (.invokevirtual 50, 3) := by decide +kernel
theorem d_Da_read_64 : decode c_Da_read 64 = .ok (.ifCond .ne 5, 3) := by decide +kernel
theorem d_Da_read_67 : decode c_Da_read 67 = .ok (.iconst 0, 1) := by decide +kernel
theorem d_Da_read_68 : decode c_Da_read 68 = .ok (.ireturn, 1) := by decide +kernel
theorem d_Da_read_69 : decode c_Da_read 69 = .ok (.aload_n 0, 1) := by decide +kernel
theorem d_Da_read_70 : decode c_Da_read 70 = .ok (.aload_n 0, 1) := by decide +kernel
theorem d_Da_read_71 : decode c_Da_read 71 = .ok (.getfield 12, 3) := by decide +kernel
theorem d_Da_read_74 : decode c_Da_read 74 = .ok (.iconst 3, 1) := by decide +kernel
theorem d_Da_read_75 : decode c_Da_read 75 = .ok (.invokevirtual 54, 3) := by decide +kernel
theorem d_Da_read_78 : decode c_Da_read 78 = .ok (.putfield 57, 3) := by decide +kernel
theorem d_Da_read_81 : decode c_Da_read 81 = .ok (.aload_n 0, 1) := by decide +kernel
theorem d_Da_read_82 : decode c_Da_read 82 = .ok (.aload_n 0, 1) := by decide +kernel
theorem d_Da_read_83 : decode c_Da_read 83 = .ok (.getfield 12, 3) := by decide +kernel
theorem d_Da_read_86 : decode c_Da_read 86 = .ok (.aload_n 0, 1) := by decide +kernel
theorem d_Da_read_87 : decode c_Da_read 87 = .ok (.getfield 44, 3) := by decide +kernel
theorem d_Da_read_90 : decode c_Da_read 90 = .ok (.invokevirtual 54, 3) := by decide +kernel
theorem d_Da_read_93 : decode c_Da_read 93 = .ok (.putfield 60, 3) := by decide +kernel
theorem d_Da_read_96 : decode c_Da_read 96 = .ok (.aload_n 0, 1) := by decide +kernel
theorem d_Da_read_97 : decode c_Da_read 97 = .ok (.getfield 21, 3) := by decide +kernel
theorem d_Da_read_100 : decode c_Da_read 100 = .ok (.invokevirtual 63, 3) := by decide +kernel
theorem d_Da_read_103 : decode c_Da_read 103 = .ok (.ireturn, 1) := by decide +kernel
theorem d_Da_readAttributes_0 : decode c_Da_readAttributes 0 = .ok (.bipush 7, 2) := by decide +kernel
theorem d_Da_readAttributes_2 : decode c_Da_readAttributes 2 = .ok (.istore_n 1, 1) := by decide +kernel
theorem d_Da_readAttributes_3 : decode c_Da_readAttributes 3 = .ok (.iconst 0, 1) := by decide +kernel
theorem d_Da_readAttributes_4 : decode c_Da_readAttributes 4 = .ok (.istore_n 2, 1) := by decide +kernel
theorem d_Da_readAttributes_5 : decode c_Da_readAttributes 5 = .ok (.iload_n 2, 1) := by decide +kernel
theorem d_Da_readAttributes_6 : decode c_Da_readAttributes 6 = .ok (.bipush 48, 2) := by decide +kernel
theorem d_Da_readAttributes_8 : decode c_Da_readAttributes 8 = .ok (.if_icmp .ge 59, 3) := by decide +kernel
theorem d_Da_readAttributes_11 : decode c_Da_readAttributes 11 = .ok (.iload_n 1, 1) := by decide +kernel
theorem d_Da_readAttributes_12 : decode c_Da_readAttributes 12 = .ok (.aload_n 0, 1) := by decide +kernel
theorem d_Da_readAttributes_13 : decode c_Da_readAttributes 13 = .ok (.getfield 12, 3) := by decide +kernel
theorem d_Da_readAttributes_16 : decode c_Da_readAttributes 16 = .ok (.getfield 47, 3) := by decide +kernel
theorem d_Da_readAttributes_19 : decode c_Da_readAttributes 19 = .ok (.if_icmp .ge 48, 3) := by decide +kernel
theorem d_Da_readAttributes_22 : decode c_Da_readAttributes 22 = .ok (.aload_n 0, 1) := by decide +kernel
theorem d_Da_readAttributes_23 : decode c_Da_readAttributes 23 = .ok (.getfield 12, 3) := by decide +kernel
theorem d_Da_readAttributes_26 : decode c_Da_readAttributes 26 = .ok (.iload_n 1, 1) := by decide +kernel
theorem d_Da_readAttributes_27 : decode c_Da_readAttributes 27 = .ok (.iconst 1, 1) := by decide +kernel
theorem d_Da_readAttributes_28 : decode c_Da_readAttributes 28 = .ok (.iadd, 1) := by decide +kernel
theorem d_Da_readAttributes_29 : decode c_Da_readAttributes 29 = .ok (.invokevirtual 25, 3) := by decide +kernel
theorem d_Da_readAttributes_32 : decode c_Da_readAttributes 32 = .ok (.istore_n 3, 1) := by decide +kernel
theorem d_Da_readAttributes_33 : decode c_Da_readAttributes 33 = .ok (.iload_n 1, 1) := by decide +kernel
theorem d_Da_readAttributes_34 : decode c_Da_readAttributes 34 = .ok (.iload_n 3, 1) := by decide +kernel
theorem d_Da_readAttributes_35 : decode c_Da_readAttributes 35 = .ok (.iadd, 1) := by decide +kernel
theorem d_Da_readAttributes_36 : decode c_Da_readAttributes 36 = .ok (.aload_n 0, 1) := by decide +kernel
theorem d_Da_readAttributes_37 : decode c_Da_readAttributes 37 = .ok (.getfield 12, 3) := by decide +kernel
theorem d_Da_readAttributes_40 : decode c_Da_readAttributes 40 = .ok (.getfield 47, 3) := by decide +kernel
theorem d_Da_readAttributes_43 : decode c_Da_readAttributes 43 = .ok (.if_icmp .gt 12, 3) := by decide +kernel
theorem d_Da_readAttributes_46 : decode c_Da_readAttributes 46 = .ok (.aload_n 0, 1) := by decide +kernel
theorem d_Da_readAttributes_47 : decode c_Da_readAttributes 47 = .ok (.iload_n 1, 1) := by decide +kernel
theorem d_Da_readAttributes_48 : decode c_Da_readAttributes 48 = .ok (.iload_n 3, 1) := by decide +kernel
theorem d_Da_readAttributes_49 : decode c_Da_readAttributes 49 = .ok (.invokevirtual 66, 3) := by decide +kernel
theorem d_Da_readAttributes_52 : decode c_Da_readAttributes 52 = .ok (.ifCond .ne 5, 3) := by decide +kernel
theorem d_Da_readAttributes_55 : decode c_Da_readAttributes 55 = .ok (.iconst 0, 1) := by decide +kernel
theorem d_Da_readAttributes_56 : decode c_Da_readAttributes 56 = .ok (.ireturn, 1) := by decide +kernel
theorem d_Da_readAttributes_57 : decode c_Da_readAttributes 57 = .ok (.iload_n 1, 1) := by decide +kernel
theorem d_Da_readAttributes_58 : decode c_Da_readAttributes 58 = .ok (.iload_n 3, 1) := by decide +kernel
theorem d_Da_readAttributes_59 : decode c_Da_readAttributes 59 = .ok (.iadd, 1) := by decide +kernel
theorem d_Da_readAttributes_60 : decode c_Da_readAttributes 60 = .ok (.istore_n 1, 1) := by decide +kernel
theorem d_Da_readAttributes_61 : decode c_Da_readAttributes 61 = .ok (.iinc 2 1, 3) := by decide +kernel
theorem d_Da_readAttributes_64 : decode c_Da_readAttributes 64 = .ok (.goto (-59), 3) := by decide +kernel
theorem d_Da_readAttributes_67 : decode c_Da_readAttributes 67 = .ok (.aload_n 0, 1) := by decide +kernel
theorem d_Da_readAttributes_68 : decode c_Da_readAttributes 68 = .ok (.getfield 44, 3) := by decide +kernel
theorem d_Da_readAttributes_71 : decode c_Da_readAttributes 71 = .ok (.iconst (-1), 1) := by decide +kernel
theorem d_Da_readAttributes_72 : decode c_Da_readAttributes 72 = .ok (.if_icmp .eq 7, 3) := by decide +kernel
theorem d_Da_readAttributes_75 : decode c_Da_readAttributes 75 = .ok (.iconst 1, 1) := by decide +kernel
theorem d_Da_readAttributes_76 : decode c_Da_readAttributes 76 = .ok (.goto 4, 3) := by decide +kernel
theorem d_Da_readAttributes_79 : decode c_Da_readAttributes 79 = .ok (.iconst 0, 1) := by decide +kernel
theorem d_Da_readAttributes_80 : decode c_Da_readAttributes 80 = .ok (.ireturn, 1) := by decide +kernel
theorem d_Da_readAttribute_0 : decode c_Da_readAttribute 0 = .ok (.aload_n 0, 1) := by decide +kernel
theorem d_Da_readAttribute_1 : decode c_Da_readAttribute 1 = .ok (.getfield 12, 3) := by decide +kernel
theorem d_Da_readAttribute_4 : decode c_Da_readAttribute 4 = .ok (.iload_n 1, 1) := by decide +kernel
theorem d_Da_readAttribute_5 : decode c_Da_readAttribute 5 = .ok (.invokevirtual 25, 3) := by decide +kernel
theorem d_Da_readAttribute_8 : decode c_Da_readAttribute 8 = .ok (.lookupswitch 167 #[(1, 44), (24, 65), (79, 110), (80, 142)], 44) := by decide +kernel
theorem d_Da_readAttribute_52 : decode c_Da_readAttribute 52 = .ok (.iload_n 2, 1) := by decide +kernel
theorem d_Da_readAttribute_53 : decode c_Da_readAttribute 53 = .ok (.iconst 3, 1) := by decide +kernel
theorem d_Da_readAttribute_54 : decode c_Da_readAttribute 54 = .ok (.if_icmp .ne 10, 3) := by decide +kernel
theorem d_Da_readAttribute_57 : decode c_Da_readAttribute 57 = .ok (.aload_n 0, 1) := by decide +kernel
theorem d_Da_readAttribute_58 : decode c_Da_readAttribute 58 = .ok (.getfield 36, 3) := by decide +kernel
theorem d_Da_readAttribute_61 : decode c_Da_readAttribute 61 = .ok (.ifCond .eq 5, 3) := by decide +kernel
theorem d_Da_readAttribute_64 : decode c_Da_readAttribute 64 = .ok (.iconst 0, 1) := by decide +kernel
theorem d_Da_readAttribute_65 : decode c_Da_readAttribute 65 = .ok (.ireturn, 1) := by decide +kernel
theorem d_Da_readAttribute_66 : decode c_Da_readAttribute 66 = .ok (.aload_n 0, 1) := by decide +kernel
theorem d_Da_readAttribute_67 : decode c_Da_readAttribute 67 = .ok (.iconst 1, 1) := by decide +kernel
theorem d_Da_readAttribute_68 : decode c_Da_readAttribute 68 = .ok (.putfield 36, 3) := by decide +kernel
theorem d_Da_readAttribute_71 : decode c_Da_readAttribute 71 = .ok (.iconst 1, 1) := by decide +kernel
theorem d_Da_readAttribute_72 : decode c_Da_readAttribute 72 = .ok (.ireturn, 1) := by decide +kernel
theorem d_Da_readAttribute_73 : decode c_Da_readAttribute 73 = .ok (.iload_n 2, 1) := by decide +kernel
theorem d_Da_readAttribute_74 : decode c_Da_readAttribute 74 = .ok (.iconst 4, 1) := by decide +kernel
theorem d_Da_readAttribute_75 : decode c_Da_readAttribute 75 = .ok (.if_icmp .ne 11, 3) := by decide +kernel
theorem d_Da_readAttribute_78 : decode c_Da_readAttribute 78 = .ok (.aload_n 0, 1) := by decide +kernel
theorem d_Da_readAttribute_79 : decode c_Da_readAttribute 79 = .ok (.getfield 40, 3) := by decide +kernel
theorem d_Da_readAttribute_82 : decode c_Da_readAttribute 82 = .ok (.iconst (-1), 1) := by decide +kernel
theorem d_Da_readAttribute_83 : decode c_Da_readAttribute 83 = .ok (.if_icmp .eq 5, 3) := by decide +kernel
theorem d_Da_readAttribute_86 : decode c_Da_readAttribute 86 = .ok (.iconst 0, 1) := by decide +kernel
theorem d_Da_readAttribute_87 : decode c_Da_readAttribute 87 = .ok (.ireturn, 1) := by decide +kernel
theorem d_Da_readAttribute_88 : decode c_Da_readAttribute 88 = .ok (.aload_n 0, 1) := by decide +kernel
theorem d_Da_readAttribute_89 : decode c_Da_readAttribute 89 = .ok (.aload_n 0, 1) := by decide +kernel
theorem d_Da_readAttribute_90 : decode c_Da_readAttribute 90 = .ok (.getfield 12, 3) := by decide +kernel
theorem d_Da_readAttribute_93 : decode c_Da_readAttribute 93 = .ok (.iload_n 1, 1) := by decide +kernel
theorem d_Da_readAttribute_94 : decode c_Da_readAttribute 94 = .ok (.iconst 2, 1) := by decide +kernel
theorem d_Da_readAttribute_95 : decode c_Da_readAttribute 95 = .ok (.iadd, 1) := by decide +kernel
theorem d_Da_readAttribute_96 : decode c_Da_readAttribute 96 = .ok (.invokevirtual 25, 3) := by decide +kernel
theorem d_Da_readAttribute_99 : decode c_Da_readAttribute 99 = .ok (.bipush 8, 2) := by decide +kernel
theorem d_Da_readAttribute_101 : decode c_Da_readAttribute 101 = .ok (.ishl, 1) := by decide +kernel
theorem d_Da_readAttribute_102 : decode c_Da_readAttribute 102 = .ok (.aload_n 0, 1) := by decide +kernel
theorem d_Da_readAttribute_103 : decode c_Da_readAttribute 103 = .ok (.getfield 12, 3) := by decide +kernel
theorem d_Da_readAttribute_106 : decode c_Da_readAttribute 106 = .ok (.iload_n 1, 1) := by decide +kernel
theorem d_Da_readAttribute_107 : decode c_Da_readAttribute 107 = .ok (.iconst 3, 1) := by decide +kernel
theorem d_Da_readAttribute_108 : decode c_Da_readAttribute 108 = .ok (.iadd, 1) := by decide +kernel
theorem d_Da_readAttribute_109 : decode c_Da_readAttribute 109 = .ok (.invokevirtual 25, 3) := by decide +kernel
theorem d_Da_readAttribute_112 : decode c_Da_readAttribute 112 = .ok (.ior, 1) := by decide +kernel
theorem d_Da_readAttribute_113 : decode c_Da_readAttribute 113 = .ok (.putfield 40, 3) := by decide +kernel
theorem d_Da_readAttribute_116 : decode c_Da_readAttribute 116 = .ok (.iconst 1, 1) := by decide +kernel
theorem d_Da_readAttribute_117 : decode c_Da_readAttribute 117 = .ok (.ireturn, 1) := by decide +kernel
theorem d_Da_readAttribute_118 : decode c_Da_readAttribute 118 = .ok (.iload_n 2, 1) := by decide +kernel
theorem d_Da_readAttribute_119 : decode c_Da_readAttribute 119 = .ok (.iconst 3, 1) := by decide +kernel
theorem d_Da_readAttribute_120 : decode c_Da_readAttribute 120 = .ok (.if_icmp .lt 9, 3) := by decide +kernel
theorem d_Da_readAttribute_123 : decode c_Da_readAttribute 123 = .ok (.iload_n 2, 1) := by decide +kernel
theorem d_Da_readAttribute_124 : decode c_Da_readAttribute 124 = .ok (.bipush 10, 2) := by decide +kernel
theorem d_Da_readAttribute_126 : decode c_Da_readAttribute 126 = .ok (.if_icmp .le 5, 3) := by decide +kernel
theorem d_Da_readAttribute_129 : decode c_Da_readAttribute 129 = .ok (.iconst 0, 1) := by decide +kernel
theorem d_Da_readAttribute_130 : decode c_Da_readAttribute 130 = .ok (.ireturn, 1) := by decide +kernel
theorem d_Da_readAttribute_131 : decode c_Da_readAttribute 131 = .ok (.aload_n 0, 1) := by decide +kernel
theorem d_Da_readAttribute_132 : decode c_Da_readAttribute 132 = .ok (.getfield 21, 3) := by decide +kernel
theorem d_Da_readAttribute_135 : decode c_Da_readAttribute 135 = .ok (.aload_n 0, 1) := by decide +kernel
theorem d_Da_readAttribute_136 : decode c_Da_readAttribute 136 = .ok (.getfield 12, 3) := by decide +kernel
theorem d_Da_readAttribute_139 : decode c_Da_readAttribute 139 = .ok (.iload_n 1, 1) := by decide +kernel
theorem d_Da_readAttribute_140 : decode c_Da_readAttribute 140 = .ok (.iconst 2, 1) := by decide +kernel
theorem d_Da_readAttribute_141 : decode c_Da_readAttribute 141 = .ok (.iadd, 1) := by decide +kernel
theorem d_Da_readAttribute_142 : decode c_Da_readAttribute 142 = .ok (.iload_n 2, 1) := by decide +kernel
theorem d_Da_readAttribute_143 : decode c_Da_readAttribute 143 = .ok (.iconst 2, 1) := by decide +kernel
theorem d_Da_readAttribute_144 : decode c_Da_readAttribute 144 = .ok (.isub, 1) := by decide +kernel
theorem d_Da_readAttribute_145 : decode c_Da_readAttribute 145 = .ok (.invokevirtual 70, 3) := by decide +kernel
theorem d_Da_readAttribute_148 : decode c_Da_readAttribute 148 = .ok (.iconst 1, 1) := by decide +kernel
theorem d_Da_readAttribute_149 : decode c_Da_readAttribute 149 = .ok (.ireturn, 1) := by decide +kernel
theorem d_Da_readAttribute_150 : decode c_Da_readAttribute 150 = .ok (.iload_n 2, 1) := by decide +kernel
theorem d_Da_readAttribute_151 : decode c_Da_readAttribute 151 = .ok (.bipush 6, 2) := by decide +kernel
theorem d_Da_readAttribute_153 : decode c_Da_readAttribute 153 = .ok (.if_icmp .ne 11, 3) := by decide +kernel
theorem d_Da_readAttribute_156 : decode c_Da_readAttribute 156 = .ok (.aload_n 0, 1) := by decide +kernel
theorem d_Da_readAttribute_157 : decode c_Da_readAttribute 157 = .ok (.getfield 44, 3) := by decide +kernel
theorem d_Da_readAttribute_160 : decode c_Da_readAttribute 160 = .ok (.iconst (-1), 1) := by decide +kernel
theorem d_Da_readAttribute_161 : decode c_Da_readAttribute 161 = .ok (.if_icmp .eq 5, 3) := by decide +kernel
theorem d_Da_readAttribute_164 : decode c_Da_readAttribute 164 = .ok (.iconst 0, 1) := by decide +kernel
theorem d_Da_readAttribute_165 : decode c_Da_readAttribute 165 = .ok (.ireturn, 1) := by decide +kernel
theorem d_Da_readAttribute_166 : decode c_Da_readAttribute 166 = .ok (.aload_n 0, 1) := by decide +kernel
theorem d_Da_readAttribute_167 : decode c_Da_readAttribute 167 = .ok (.iload_n 1, 1) := by decide +kernel
theorem d_Da_readAttribute_168 : decode c_Da_readAttribute 168 = .ok (.iconst 2, 1) := by decide +kernel
theorem d_Da_readAttribute_169 : decode c_Da_readAttribute 169 = .ok (.iadd, 1) := by decide +kernel
theorem d_Da_readAttribute_170 : decode c_Da_readAttribute 170 = .ok (.putfield 44, 3) := by decide +kernel
theorem d_Da_readAttribute_173 : decode c_Da_readAttribute 173 = .ok (.iconst 1, 1) := by decide +kernel
theorem d_Da_readAttribute_174 : decode c_Da_readAttribute 174 = .ok (.ireturn, 1) := by decide +kernel
theorem d_Da_readAttribute_175 : decode c_Da_readAttribute 175 = .ok (.iconst 0, 1) := by decide +kernel
theorem d_Da_readAttribute_176 : decode c_Da_readAttribute 176 = .ok (.ireturn, 1) := by decide +kernel
theorem d_Da_write_0 : decode c_Da_write 0 = .ok (.aload_n 0, 1) := by decide +kernel
theorem d_Da_write_1 : decode c_Da_write 1 = .ok (.getfield 12, 3) := by decide +kernel
theorem d_Da_write_4 : decode c_Da_write 4 = .ok (.invokevirtual 74, 3) := by decide +kernel
theorem d_Da_write_7 : decode c_Da_write 7 = .ok (.aload_n 0, 1) := by decide +kernel
theorem d_Da_write_8 : decode c_Da_write 8 = .ok (.getfield 12, 3) := by decide +kernel
theorem d_Da_write_11 : decode c_Da_write 11 = .ok (.iload_n 1, 1) := by decide +kernel
theorem d_Da_write_12 : decode c_Da_write 12 = .ok (.invokevirtual 75, 3) := by decide +kernel
theorem d_Da_write_15 : decode c_Da_write 15 = .ok (.aload_n 0, 1) := by decide +kernel
theorem d_Da_write_16 : decode c_Da_write 16 = .ok (.getfield 12, 3) := by decide +kernel
theorem d_Da_write_19 : decode c_Da_write 19 = .ok (.iload_n 2, 1) := by decide +kernel
theorem d_Da_write_20 : decode c_Da_write 20 = .ok (.invokevirtual 75, 3) := by decide +kernel
theorem d_Da_write_23 : decode c_Da_write 23 = .ok (.aload_n 0, 1) := by decide +kernel
theorem d_Da_write_24 : decode c_Da_write 24 = .ok (.getfield 12, 3) := by decide +kernel
theorem d_Da_write_27 : decode c_Da_write 27 = .ok (.iconst 0, 1) := by decide +kernel
theorem d_Da_write_28 : decode c_Da_write 28 = .ok (.invokevirtual 75, 3) := by decide +kernel
theorem d_Da_write_31 : decode c_Da_write 31 = .ok (.aload_n 0, 1) := by decide +kernel
theorem d_Da_write_32 : decode c_Da_write 32 = .ok (.getfield 12, 3) := by decide +kernel
theorem d_Da_write_35 : decode c_Da_write 35 = .ok (.iload_n 3, 1) := by decide +kernel
theorem d_Da_write_36 : decode c_Da_write 36 = .ok (.invokevirtual 79, 3) := by decide +kernel
theorem d_Da_write_39 : decode c_Da_write 39 = .ok (.iload 4, 2) := by decide +kernel
theorem d_Da_write_41 : decode c_Da_write 41 = .ok (.iconst (-1), 1) := by decide +kernel
theorem d_Da_write_42 : decode c_Da_write 42 = .ok (.if_icmp .eq 28, 3) := by decide +kernel
theorem d_Da_write_45 : decode c_Da_write 45 = .ok (.aload_n 0, 1) := by decide +kernel
theorem d_Da_write_46 : decode c_Da_write 46 = .ok (.getfield 12, 3) := by decide +kernel
theorem d_Da_write_49 : decode c_Da_write 49 = .ok (.iconst 1, 1) := by decide +kernel
theorem d_Da_write_50 : decode c_Da_write 50 = .ok (.invokevirtual 75, 3) := by decide +kernel
theorem d_Da_write_53 : decode c_Da_write 53 = .ok (.aload_n 0, 1) := by decide +kernel
theorem d_Da_write_54 : decode c_Da_write 54 = .ok (.getfield 12, 3) := by decide +kernel
theorem d_Da_write_57 : decode c_Da_write 57 = .ok (.iconst 3, 1) := by decide +kernel
theorem d_Da_write_58 : decode c_Da_write 58 = .ok (.invokevirtual 75, 3) := by decide +kernel
theorem d_Da_write_61 : decode c_Da_write 61 = .ok (.aload_n 0, 1) := by decide +kernel
theorem d_Da_write_62 : decode c_Da_write 62 = .ok (.getfield 12, 3) := by decide +kernel
theorem d_Da_write_65 : decode c_Da_write 65 = .ok (.iload 4, 2) := by decide +kernel
theorem d_Da_write_67 : decode c_Da_write 67 = .ok (.invokevirtual 75, 3) := by decide +kernel
theorem d_Da_write_70 : decode c_Da_write 70 = .ok (.iload 5, 2) := by decide +kernel
theorem d_Da_write_72 : decode c_Da_write 72 = .ok (.iconst (-1), 1) := by decide +kernel
theorem d_Da_write_73 : decode c_Da_write 73 = .ok (.if_icmp .eq 41, 3) := by decide +kernel
theorem d_Da_write_76 : decode c_Da_write 76 = .ok (.aload_n 0, 1) := by decide +kernel
theorem d_Da_write_77 : decode c_Da_write 77 = .ok (.getfield 12, 3) := by decide +kernel
theorem d_Da_write_80 : decode c_Da_write 80 = .ok (.bipush 24, 2) := by decide +kernel
theorem d_Da_write_82 : decode c_Da_write 82 = .ok (.invokevirtual 75, 3) := by decide +kernel
theorem d_Da_write_85 : decode c_Da_write 85 = .ok (.aload_n 0, 1) := by decide +kernel
theorem d_Da_write_86 : decode c_Da_write 86 = .ok (.getfield 12, 3) := by decide +kernel
theorem d_Da_write_89 : decode c_Da_write 89 = .ok (.iconst 4, 1) := by decide +kernel
theorem d_Da_write_90 : decode c_Da_write 90 = .ok (.invokevirtual 75, 3) := by decide +kernel
theorem d_Da_write_93 : decode c_Da_write 93 = .ok (.aload_n 0, 1) := by decide +kernel
theorem d_Da_write_94 : decode c_Da_write 94 = .ok (.getfield 12, 3) := by decide +kernel
theorem d_Da_write_97 : decode c_Da_write 97 = .ok (.iload 5, 2) := by decide +kernel
theorem d_Da_write_99 : decode c_Da_write 99 = .ok (.bipush 8, 2) := by decide +kernel
theorem d_Da_write_101 : decode c_Da_write 101 = .ok (.iushr, 1) := by decide +kernel
theorem d_Da_write_102 : decode c_Da_write 102 = .ok (.invokevirtual 75, 3) := by decide +kernel
theorem d_Da_write_105 : decode c_Da_write 105 = .ok (.aload_n 0, 1) := by decide +kernel
theorem d_Da_write_106 : decode c_Da_write 106 = .ok (.getfield 12, 3) := by decide +kernel
theorem d_Da_write_109 : decode c_Da_write 109 = .ok (.iload 5, 2) := by decide +kernel
theorem d_Da_write_111 : decode c_Da_write 111 = .ok (.invokevirtual 75, 3) := by decide +kernel
theorem d_Da_write_114 : decode c_Da_write 114 = .ok (.aload_n 0, 1) := by decide +kernel
theorem d_Da_write_115 : decode c_Da_write 115 = .ok (.aload 6, 2) := by decide +kernel
theorem d_Da_write_117 : decode c_Da_write 117 = .ok (.invokevirtual 82, 3) := by decide +kernel
theorem d_Da_write_120 : decode c_Da_write 120 = .ok (.aload_n 0, 1) := by decide +kernel
theorem d_Da_write_121 : decode c_Da_write 121 = .ok (.getfield 12, 3) := by decide +kernel
theorem d_Da_write_124 : decode c_Da_write 124 = .ok (.bipush 80, 2) := by decide +kernel
theorem d_Da_write_126 : decode c_Da_write 126 = .ok (.invokevirtual 75, 3) := by decide +kernel
theorem d_Da_write_129 : decode c_Da_write 129 = .ok (.aload_n 0, 1) := by decide +kernel
theorem d_Da_write_130 : decode c_Da_write 130 = .ok (.getfield 12, 3) := by decide +kernel
theorem d_Da_write_133 : decode c_Da_write 133 = .ok (.bipush 6, 2) := by decide +kernel
theorem d_Da_write_135 : decode c_Da_write 135 = .ok (.invokevirtual 75, 3) := by decide +kernel
theorem d_Da_write_138 : decode c_Da_write 138 = .ok (.aload_n 0, 1) := by decide +kernel
theorem d_Da_write_139 : decode c_Da_write 139 = .ok (.aload_n 0, 1) := by decide +kernel
theorem d_Da_write_140 : decode c_Da_write 140 = .ok (.getfield 12, 3) := by decide +kernel
theorem d_Da_write_143 : decode c_Da_write 143 = .ok (.getfield 47, 3) := by decide +kernel
theorem d_Da_write_146 : decode c_Da_write 146 = .ok (.putfield 44, 3) := by decide +kernel
theorem d_Da_write_149 : decode c_Da_write 149 = .ok (.aload_n 0, 1) := by decide +kernel
theorem d_Da_write_150 : decode c_Da_write 150 = .ok (.getfield 12, 3) := by decide +kernel
theorem d_Da_write_153 : decode c_Da_write 153 = .ok (.iconst 0, 1) := by decide +kernel
theorem d_Da_write_154 : decode c_Da_write 154 = .ok (.invokevirtual 79, 3) := by decide +kernel
theorem d_Da_write_157 : decode c_Da_write 157 = .ok (.aload_n 0, 1) := by decide +kernel
theorem d_Da_write_158 : decode c_Da_write 158 = .ok (.getfield 12, 3) := by decide +kernel
theorem d_Da_write_161 : decode c_Da_write 161 = .ok (.iconst 2, 1) := by decide +kernel
theorem d_Da_write_162 : decode c_Da_write 162 = .ok (.aload_n 0, 1) := by decide +kernel
theorem d_Da_write_163 : decode c_Da_write 163 = .ok (.getfield 12, 3) := by decide +kernel
theorem d_Da_write_166 : decode c_Da_write 166 = .ok (.getfield 47, 3) := by decide +kernel
theorem d_Da_write_169 : decode c_Da_write 169 = .ok (.invokevirtual 86, 3) := by decide +kernel
theorem d_Da_write_172 : decode c_Da_write 172 = .ok (.return_, 1) := by decide +kernel
theorem d_Da_writePieces_0 : decode c_Da_writePieces 0 = .ok (.iconst 0, 1) := by decide +kernel
theorem d_Da_writePieces_1 : decode c_Da_writePieces 1 = .ok (.istore_n 2, 1) := by decide +kernel
theorem d_Da_writePieces_2 : decode c_Da_writePieces 2 = .ok (.iload_n 2, 1) := by decide +kernel
theorem d_Da_writePieces_3 : decode c_Da_writePieces 3 = .ok (.aload_n 1, 1) := by decide +kernel
theorem d_Da_writePieces_4 : decode c_Da_writePieces 4 = .ok (.getfield 90, 3) := by decide +kernel
theorem d_Da_writePieces_7 : decode c_Da_writePieces 7 = .ok (.if_icmp .ge 50, 3) := by decide +kernel
theorem d_Da_writePieces_10 : decode c_Da_writePieces 10 = .ok (.bipush 8, 2) := by decide +kernel
theorem d_Da_writePieces_12 : decode c_Da_writePieces 12 = .ok (.aload_n 1, 1) := by decide +kernel
theorem d_Da_writePieces_13 : decode c_Da_writePieces 13 = .ok (.getfield 90, 3) := by decide +kernel
theorem d_Da_writePieces_16 : decode c_Da_writePieces 16 = .ok (.iload_n 2, 1) := by decide +kernel
theorem d_Da_writePieces_17 : decode c_Da_writePieces 17 = .ok (.isub, 1) := by decide +kernel
theorem d_Da_writePieces_18 : decode c_Da_writePieces 18 = .ok (.invokestatic 91, 3) := by decide +kernel
theorem d_Da_writePieces_21 : decode c_Da_writePieces 21 = .ok (.istore_n 3, 1) := by decide +kernel
theorem d_Da_writePieces_22 : decode c_Da_writePieces 22 = .ok (.aload_n 0, 1) := by decide +kernel
theorem d_Da_writePieces_23 : decode c_Da_writePieces 23 = .ok (.getfield 12, 3) := by decide +kernel
theorem d_Da_writePieces_26 : decode c_Da_writePieces 26 = .ok (.bipush 79, 2) := by decide +kernel
theorem d_Da_writePieces_28 : decode c_Da_writePieces 28 = .ok (.invokevirtual 75, 3) := by decide +kernel
theorem d_Da_writePieces_31 : decode c_Da_writePieces 31 = .ok (.aload_n 0, 1) := by decide +kernel
theorem d_Da_writePieces_32 : decode c_Da_writePieces 32 = .ok (.getfield 12, 3) := by decide +kernel
theorem d_Da_writePieces_35 : decode c_Da_writePieces 35 = .ok (.iload_n 3, 1) := by decide +kernel
theorem d_Da_writePieces_36 : decode c_Da_writePieces 36 = .ok (.iconst 2, 1) := by decide +kernel
theorem d_Da_writePieces_37 : decode c_Da_writePieces 37 = .ok (.iadd, 1) := by decide +kernel
theorem d_Da_writePieces_38 : decode c_Da_writePieces 38 = .ok (.invokevirtual 75, 3) := by decide +kernel
theorem d_Da_writePieces_41 : decode c_Da_writePieces 41 = .ok (.aload_n 0, 1) := by decide +kernel
theorem d_Da_writePieces_42 : decode c_Da_writePieces 42 = .ok (.getfield 12, 3) := by decide +kernel
theorem d_Da_writePieces_45 : decode c_Da_writePieces 45 = .ok (.aload_n 1, 1) := by decide +kernel
theorem d_Da_writePieces_46 : decode c_Da_writePieces 46 = .ok (.iload_n 2, 1) := by decide +kernel
theorem d_Da_writePieces_47 : decode c_Da_writePieces 47 = .ok (.iload_n 3, 1) := by decide +kernel
theorem d_Da_writePieces_48 : decode c_Da_writePieces 48 = .ok (.invokevirtual 97, 3) := by decide +kernel
theorem d_Da_writePieces_51 : decode c_Da_writePieces 51 = .ok (.iinc 2 8, 3) := by decide +kernel
theorem d_Da_writePieces_54 : decode c_Da_writePieces 54 = .ok (.goto (-52), 3) := by decide +kernel
theorem d_Da_writePieces_57 : decode c_Da_writePieces 57 = .ok (.return_, 1) := by decide +kernel
theorem d_Da_sealRequest_0 : decode c_Da_sealRequest 0 = .ok (.aload_n 0, 1) := by decide +kernel
theorem d_Da_sealRequest_1 : decode c_Da_sealRequest 1 = .ok (.getfield 12, 3) := by decide +kernel
theorem d_Da_sealRequest_4 : decode c_Da_sealRequest 4 = .ok (.aload_n 0, 1) := by decide +kernel
theorem d_Da_sealRequest_5 : decode c_Da_sealRequest 5 = .ok (.getfield 44, 3) := by decide +kernel
theorem d_Da_sealRequest_8 : decode c_Da_sealRequest 8 = .ok (.iload_n 1, 1) := by decide +kernel
theorem d_Da_sealRequest_9 : decode c_Da_sealRequest 9 = .ok (.aload_n 0, 1) := by decide +kernel
theorem d_Da_sealRequest_10 : decode c_Da_sealRequest 10 = .ok (.getfield 12, 3) := by decide +kernel
theorem d_Da_sealRequest_13 : decode c_Da_sealRequest 13 = .ok (.invokestatic 98, 3) := by decide +kernel
theorem d_Da_sealRequest_16 : decode c_Da_sealRequest 16 = .ok (.invokevirtual 104, 3) := by decide +kernel
theorem d_Da_sealRequest_19 : decode c_Da_sealRequest 19 = .ok (.return_, 1) := by decide +kernel
theorem d_Da_sealAnswer_0 : decode c_Da_sealAnswer 0 = .ok (.aload_n 0, 1) := by decide +kernel
theorem d_Da_sealAnswer_1 : decode c_Da_sealAnswer 1 = .ok (.iload_n 1, 1) := by decide +kernel
theorem d_Da_sealAnswer_2 : decode c_Da_sealAnswer 2 = .ok (.invokevirtual 107, 3) := by decide +kernel
theorem d_Da_sealAnswer_5 : decode c_Da_sealAnswer 5 = .ok (.aload_n 0, 1) := by decide +kernel
theorem d_Da_sealAnswer_6 : decode c_Da_sealAnswer 6 = .ok (.getfield 12, 3) := by decide +kernel
theorem d_Da_sealAnswer_9 : decode c_Da_sealAnswer 9 = .ok (.iconst 3, 1) := by decide +kernel
theorem d_Da_sealAnswer_10 : decode c_Da_sealAnswer 10 = .ok (.aload_n 0, 1) := by decide +kernel
theorem d_Da_sealAnswer_11 : decode c_Da_sealAnswer 11 = .ok (.getfield 12, 3) := by decide +kernel
theorem d_Da_sealAnswer_14 : decode c_Da_sealAnswer 14 = .ok (.iload_n 1, 1) := by decide +kernel
theorem d_Da_sealAnswer_15 : decode c_Da_sealAnswer 15 = .ok (.invokestatic 110, 3) := by decide +kernel
theorem d_Da_sealAnswer_18 : decode c_Da_sealAnswer 18 = .ok (.invokevirtual 104, 3) := by decide +kernel
theorem d_Da_sealAnswer_21 : decode c_Da_sealAnswer 21 = .ok (.return_, 1) := by decide +kernel
theorem d_Da_isSealed_0 : decode c_Da_isSealed 0 = .ok (.aload_n 0, 1) := by decide +kernel
theorem d_Da_isSealed_1 : decode c_Da_isSealed 1 = .ok (.getfield 12, 3) := by decide +kernel
theorem d_Da_isSealed_4 : decode c_Da_isSealed 4 = .ok (.iconst 3, 1) := by decide +kernel
theorem d_Da_isSealed_5 : decode c_Da_isSealed 5 = .ok (.iload_n 2, 1) := by decide +kernel
theorem d_Da_isSealed_6 : decode c_Da_isSealed 6 = .ok (.invokevirtual 104, 3) := by decide +kernel
theorem d_Da_isSealed_9 : decode c_Da_isSealed 9 = .ok (.aload_n 0, 1) := by decide +kernel
theorem d_Da_isSealed_10 : decode c_Da_isSealed 10 = .ok (.getfield 12, 3) := by decide +kernel
theorem d_Da_isSealed_13 : decode c_Da_isSealed 13 = .ok (.aload_n 0, 1) := by decide +kernel
theorem d_Da_isSealed_14 : decode c_Da_isSealed 14 = .ok (.getfield 44, 3) := by decide +kernel
theorem d_Da_isSealed_17 : decode c_Da_isSealed 17 = .ok (.iconst 0, 1) := by decide +kernel
theorem d_Da_isSealed_18 : decode c_Da_isSealed 18 = .ok (.invokevirtual 104, 3) := by decide +kernel
theorem d_Da_isSealed_21 : decode c_Da_isSealed 21 = .ok (.iload_n 1, 1) := by decide +kernel
theorem d_Da_isSealed_22 : decode c_Da_isSealed 22 = .ok (.aload_n 0, 1) := by decide +kernel
theorem d_Da_isSealed_23 : decode c_Da_isSealed 23 = .ok (.getfield 12, 3) := by decide +kernel
theorem d_Da_isSealed_26 : decode c_Da_isSealed 26 = .ok (.invokestatic 98, 3) := by decide +kernel
theorem d_Da_isSealed_29 : decode c_Da_isSealed 29 = .ok (.aload_n 0, 1) := by decide +kernel
theorem d_Da_isSealed_30 : decode c_Da_isSealed 30 = .ok (.getfield 60, 3) := by decide +kernel
theorem d_Da_isSealed_33 : decode c_Da_isSealed 33 = .ok (.if_icmp .ne 7, 3) := by decide +kernel
theorem d_Da_isSealed_36 : decode c_Da_isSealed 36 = .ok (.iconst 1, 1) := by decide +kernel
theorem d_Da_isSealed_37 : decode c_Da_isSealed 37 = .ok (.goto 4, 3) := by decide +kernel
theorem d_Da_isSealed_40 : decode c_Da_isSealed 40 = .ok (.iconst 0, 1) := by decide +kernel
theorem d_Da_isSealed_41 : decode c_Da_isSealed 41 = .ok (.istore_n 3, 1) := by decide +kernel
theorem d_Da_isSealed_42 : decode c_Da_isSealed 42 = .ok (.aload_n 0, 1) := by decide +kernel
theorem d_Da_isSealed_43 : decode c_Da_isSealed 43 = .ok (.getfield 12, 3) := by decide +kernel
theorem d_Da_isSealed_46 : decode c_Da_isSealed 46 = .ok (.aload_n 0, 1) := by decide +kernel
theorem d_Da_isSealed_47 : decode c_Da_isSealed 47 = .ok (.getfield 44, 3) := by decide +kernel
theorem d_Da_isSealed_50 : decode c_Da_isSealed 50 = .ok (.aload_n 0, 1) := by decide +kernel
theorem d_Da_isSealed_51 : decode c_Da_isSealed 51 = .ok (.getfield 60, 3) := by decide +kernel
theorem d_Da_isSealed_54 : decode c_Da_isSealed 54 = .ok (.invokevirtual 104, 3) := by decide +kernel
theorem d_Da_isSealed_57 : decode c_Da_isSealed 57 = .ok (.iload_n 3, 1) := by decide +kernel
theorem d_Da_isSealed_58 : decode c_Da_isSealed 58 = .ok (.ireturn, 1) := by decide +kernel
theorem d_Da_isAnswerTo_0 : decode c_Da_isAnswerTo 0 = .ok (.aload_n 0, 1) := by decide +kernel
theorem d_Da_isAnswerTo_1 : decode c_Da_isAnswerTo 1 = .ok (.iload_n 1, 1) := by decide +kernel
theorem d_Da_isAnswerTo_2 : decode c_Da_isAnswerTo 2 = .ok (.iload_n 2, 1) := by decide +kernel
theorem d_Da_isAnswerTo_3 : decode c_Da_isAnswerTo 3 = .ok (.invokevirtual 114, 3) := by decide +kernel
theorem d_Da_isAnswerTo_6 : decode c_Da_isAnswerTo 6 = .ok (.ifCond .eq 22, 3) := by decide +kernel
theorem d_Da_isAnswerTo_9 : decode c_Da_isAnswerTo 9 = .ok (.aload_n 0, 1) := by decide +kernel
theorem d_Da_isAnswerTo_10 : decode c_Da_isAnswerTo 10 = .ok (.getfield 12, 3) := by decide +kernel
theorem d_Da_isAnswerTo_13 : decode c_Da_isAnswerTo 13 = .ok (.iload_n 1, 1) := by decide +kernel
theorem d_Da_isAnswerTo_14 : decode c_Da_isAnswerTo 14 = .ok (.invokestatic 110, 3) := by decide +kernel
theorem d_Da_isAnswerTo_17 : decode c_Da_isAnswerTo 17 = .ok (.aload_n 0, 1) := by decide +kernel
theorem d_Da_isAnswerTo_18 : decode c_Da_isAnswerTo 18 = .ok (.getfield 57, 3) := by decide +kernel
theorem d_Da_isAnswerTo_21 : decode c_Da_isAnswerTo 21 = .ok (.if_icmp .ne 7, 3) := by decide +kernel
theorem d_Da_isAnswerTo_24 : decode c_Da_isAnswerTo 24 = .ok (.iconst 1, 1) := by decide +kernel
theorem d_Da_isAnswerTo_25 : decode c_Da_isAnswerTo 25 = .ok (.goto 4, 3) := by decide +kernel
theorem d_Da_isAnswerTo_28 : decode c_Da_isAnswerTo 28 = .ok (.iconst 0, 1) := by decide +kernel
theorem d_Da_isAnswerTo_29 : decode c_Da_isAnswerTo 29 = .ok (.ireturn, 1) := by decide +kernel

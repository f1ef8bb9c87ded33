theorem d_Po_expectResponse_0 : decode c_Po_expectResponse 0 = .ok (.aload_n 0, 1) := by decide +kernel
theorem d_Po_expectResponse_1 : decode c_Po_expectResponse 1 = .ok (.iconst 1, 1) := by decide +kernel
theorem d_Po_expectResponse_2 : decode c_Po_expectResponse 2 = .ok (.putfield 41, 3) := by decide +kernel
theorem d_Po_expectResponse_5 : decode c_Po_expectResponse 5 = .ok (.aload_n 0, 1) := by decide +kernel
theorem d_Po_expectResponse_6 : decode c_Po_expectResponse 6 = .ok (.iconst 0, 1) := by decide +kernel
theorem d_Po_expectResponse_7 : decode c_Po_expectResponse 7 = .ok (.putfield 45, 3) := by decide +kernel
theorem d_Po_expectResponse_10 : decode c_Po_expectResponse 10 = .ok (.aload_n 0, 1) := by decide +kernel
theorem d_Po_expectResponse_11 : decode c_Po_expectResponse 11 = .ok (.iconst 0, 1) := by decide +kernel
theorem d_Po_expectResponse_12 : decode c_Po_expectResponse 12 = .ok (.putfield 48, 3) := by decide +kernel
theorem d_Po_expectResponse_15 : decode c_Po_expectResponse 15 = .ok (.return_, 1) := by decide +kernel
theorem d_Po_tell_0 : decode c_Po_tell 0 = .ok (.iload_n 1, 1) := by decide +kernel
theorem d_Po_tell_1 : decode c_Po_tell 1 = .ok (.tableswitch 150 0 11 #[63, 68, 81, 94, 99, 104, 120, 125, 130, 135, 140, 145], 63) := by decide +kernel
theorem d_Po_tell_64 : decode c_Po_tell 64 = .ok (.aload_n 0, 1) := by decide +kernel
theorem d_Po_tell_65 : decode c_Po_tell 65 = .ok (.getfield 28, 3) := by decide +kernel
theorem d_Po_tell_68 : decode c_Po_tell 68 = .ok (.ireturn, 1) := by decide +kernel
theorem d_Po_tell_69 : decode c_Po_tell 69 = .ok (.aload_n 0, 1) := by decide +kernel
theorem d_Po_tell_70 : decode c_Po_tell 70 = .ok (.getfield 51, 3) := by decide +kernel
theorem d_Po_tell_73 : decode c_Po_tell 73 = .ok (.ifCond .eq 7, 3) := by decide +kernel
theorem d_Po_tell_76 : decode c_Po_tell 76 = .ok (.iconst 1, 1) := by decide +kernel
theorem d_Po_tell_77 : decode c_Po_tell 77 = .ok (.goto 4, 3) := by decide +kernel
theorem d_Po_tell_80 : decode c_Po_tell 80 = .ok (.iconst 0, 1) := by decide +kernel
theorem d_Po_tell_81 : decode c_Po_tell 81 = .ok (.ireturn, 1) := by decide +kernel
theorem d_Po_tell_82 : decode c_Po_tell 82 = .ok (.aload_n 0, 1) := by decide +kernel
theorem d_Po_tell_83 : decode c_Po_tell 83 = .ok (.getfield 41, 3) := by decide +kernel
theorem d_Po_tell_86 : decode c_Po_tell 86 = .ok (.ifCond .eq 7, 3) := by decide +kernel
theorem d_Po_tell_89 : decode c_Po_tell 89 = .ok (.iconst 1, 1) := by decide +kernel
theorem d_Po_tell_90 : decode c_Po_tell 90 = .ok (.goto 4, 3) := by decide +kernel
theorem d_Po_tell_93 : decode c_Po_tell 93 = .ok (.iconst 0, 1) := by decide +kernel
theorem d_Po_tell_94 : decode c_Po_tell 94 = .ok (.ireturn, 1) := by decide +kernel
theorem d_Po_tell_95 : decode c_Po_tell 95 = .ok (.aload_n 0, 1) := by decide +kernel
theorem d_Po_tell_96 : decode c_Po_tell 96 = .ok (.getfield 45, 3) := by decide +kernel
theorem d_Po_tell_99 : decode c_Po_tell 99 = .ok (.ireturn, 1) := by decide +kernel
theorem d_Po_tell_100 : decode c_Po_tell 100 = .ok (.aload_n 0, 1) := by decide +kernel
theorem d_Po_tell_101 : decode c_Po_tell 101 = .ok (.getfield 48, 3) := by decide +kernel
theorem d_Po_tell_104 : decode c_Po_tell 104 = .ok (.ireturn, 1) := by decide +kernel
theorem d_Po_tell_105 : decode c_Po_tell 105 = .ok (.aload_n 0, 1) := by decide +kernel
theorem d_Po_tell_106 : decode c_Po_tell 106 = .ok (.getfield 54, 3) := by decide +kernel
theorem d_Po_tell_109 : decode c_Po_tell 109 = .ok (.ifCond .le 10, 3) := by decide +kernel
theorem d_Po_tell_112 : decode c_Po_tell 112 = .ok (.aload_n 0, 1) := by decide +kernel
theorem d_Po_tell_113 : decode c_Po_tell 113 = .ok (.getfield 57, 3) := by decide +kernel
theorem d_Po_tell_116 : decode c_Po_tell 116 = .ok (.goto 4, 3) := by decide +kernel
theorem d_Po_tell_119 : decode c_Po_tell 119 = .ok (.iconst (-1), 1) := by decide +kernel
theorem d_Po_tell_120 : decode c_Po_tell 120 = .ok (.ireturn, 1) := by decide +kernel
theorem d_Po_tell_121 : decode c_Po_tell 121 = .ok (.aload_n 0, 1) := by decide +kernel
theorem d_Po_tell_122 : decode c_Po_tell 122 = .ok (.getfield 54, 3) := by decide +kernel
theorem d_Po_tell_125 : decode c_Po_tell 125 = .ok (.ireturn, 1) := by decide +kernel
theorem d_Po_tell_126 : decode c_Po_tell 126 = .ok (.aload_n 0, 1) := by decide +kernel
theorem d_Po_tell_127 : decode c_Po_tell 127 = .ok (.getfield 32, 3) := by decide +kernel
theorem d_Po_tell_130 : decode c_Po_tell 130 = .ok (.ireturn, 1) := by decide +kernel
theorem d_Po_tell_131 : decode c_Po_tell 131 = .ok (.aload_n 0, 1) := by decide +kernel
theorem d_Po_tell_132 : decode c_Po_tell 132 = .ok (.getfield 35, 3) := by decide +kernel
theorem d_Po_tell_135 : decode c_Po_tell 135 = .ok (.ireturn, 1) := by decide +kernel
theorem d_Po_tell_136 : decode c_Po_tell 136 = .ok (.aload_n 0, 1) := by decide +kernel
theorem d_Po_tell_137 : decode c_Po_tell 137 = .ok (.getfield 60, 3) := by decide +kernel
theorem d_Po_tell_140 : decode c_Po_tell 140 = .ok (.ireturn, 1) := by decide +kernel
theorem d_Po_tell_141 : decode c_Po_tell 141 = .ok (.aload_n 0, 1) := by decide +kernel
theorem d_Po_tell_142 : decode c_Po_tell 142 = .ok (.getfield 63, 3) := by decide +kernel
theorem d_Po_tell_145 : decode c_Po_tell 145 = .ok (.ireturn, 1) := by decide +kernel
theorem d_Po_tell_146 : decode c_Po_tell 146 = .ok (.aload_n 0, 1) := by decide +kernel
theorem d_Po_tell_147 : decode c_Po_tell 147 = .ok (.getfield 66, 3) := by decide +kernel
theorem d_Po_tell_150 : decode c_Po_tell 150 = .ok (.ireturn, 1) := by decide +kernel
theorem d_Po_tell_151 : decode c_Po_tell 151 = .ok (.bipush (-2), 2) := by decide +kernel
theorem d_Po_tell_153 : decode c_Po_tell 153 = .ok (.ireturn, 1) := by decide +kernel

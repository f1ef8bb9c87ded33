def R_Ar : String := "java/util/Arrays"
abbrev c_Ar_fill : ByteArray := prog_17_method_103_code
def y_Ar_fill : MethodName := ⟨R_Ar, "fill", "([II)V"⟩
theorem d_Ar_fill_0 : decode c_Ar_fill 0 = .ok (.iconst 0, 1) := by decide +kernel
theorem d_Ar_fill_1 : decode c_Ar_fill 1 = .ok (.istore_n 2, 1) := by decide +kernel
theorem d_Ar_fill_2 : decode c_Ar_fill 2 = .ok (.aload_n 0, 1) := by decide +kernel
theorem d_Ar_fill_3 : decode c_Ar_fill 3 = .ok (.arraylength, 1) := by decide +kernel
theorem d_Ar_fill_4 : decode c_Ar_fill 4 = .ok (.istore_n 3, 1) := by decide +kernel
theorem d_Ar_fill_5 : decode c_Ar_fill 5 = .ok (.iload_n 2, 1) := by decide +kernel
theorem d_Ar_fill_6 : decode c_Ar_fill 6 = .ok (.iload_n 3, 1) := by decide +kernel
theorem d_Ar_fill_7 : decode c_Ar_fill 7 = .ok (.if_icmp .ge 13, 3) := by decide +kernel
theorem d_Ar_fill_10 : decode c_Ar_fill 10 = .ok (.aload_n 0, 1) := by decide +kernel
theorem d_Ar_fill_11 : decode c_Ar_fill 11 = .ok (.iload_n 2, 1) := by decide +kernel
theorem d_Ar_fill_12 : decode c_Ar_fill 12 = .ok (.iload_n 1, 1) := by decide +kernel
theorem d_Ar_fill_13 : decode c_Ar_fill 13 = .ok (.iastore, 1) := by decide +kernel
theorem d_Ar_fill_14 : decode c_Ar_fill 14 = .ok (.iinc 2 1, 3) := by decide +kernel
theorem d_Ar_fill_17 : decode c_Ar_fill 17 = .ok (.goto (-12), 3) := by decide +kernel
theorem d_Ar_fill_20 : decode c_Ar_fill 20 = .ok (.return_, 1) := by decide +kernel
theorem d_Ro_init_0 : decode c_Ro_init 0 = .ok (.aload_n 0, 1) := by decide +kernel
theorem d_Ro_init_1 : decode c_Ro_init 1 = .ok (.invokespecial 3, 3) := by decide +kernel
theorem d_Ro_init_4 : decode c_Ro_init 4 = .ok (.aload_n 0, 1) := by decide +kernel
theorem d_Ro_init_5 : decode c_Ro_init 5 = .ok (.bipush 48, 2) := by decide +kernel
theorem d_Ro_init_7 : decode c_Ro_init 7 = .ok (.newarray .int, 2) := by decide +kernel
theorem d_Ro_init_9 : decode c_Ro_init 9 = .ok (.putfield 9, 3) := by decide +kernel
theorem d_Ro_init_12 : decode c_Ro_init 12 = .ok (.return_, 1) := by decide +kernel
theorem d_Pa_init_0 : decode c_Pa_init 0 = .ok (.aload_n 0, 1) := by decide +kernel
theorem d_Pa_init_1 : decode c_Pa_init 1 = .ok (.invokespecial 3, 3) := by decide +kernel
theorem d_Pa_init_4 : decode c_Pa_init 4 = .ok (.return_, 1) := by decide +kernel
theorem d_Da_init_0 : decode c_Da_init 0 = .ok (.aload_n 0, 1) := by decide +kernel
theorem d_Da_init_1 : decode c_Da_init 1 = .ok (.invokespecial 3, 3) := by decide +kernel
theorem d_Da_init_4 : decode c_Da_init 4 = .ok (.aload_n 0, 1) := by decide +kernel
theorem d_Da_init_5 : decode c_Da_init 5 = .ok (.new 9, 3) := by decide +kernel
theorem d_Da_init_8 : decode c_Da_init 8 = .ok (.dup, 1) := by decide +kernel
theorem d_Da_init_9 : decode c_Da_init 9 = .ok (.invokespecial 11, 3) := by decide +kernel
theorem d_Da_init_12 : decode c_Da_init 12 = .ok (.putfield 12, 3) := by decide +kernel
theorem d_Da_init_15 : decode c_Da_init 15 = .ok (.aload_n 0, 1) := by decide +kernel
theorem d_Da_init_16 : decode c_Da_init 16 = .ok (.new 18, 3) := by decide +kernel
theorem d_Da_init_19 : decode c_Da_init 19 = .ok (.dup, 1) := by decide +kernel
theorem d_Da_init_20 : decode c_Da_init 20 = .ok (.invokespecial 20, 3) := by decide +kernel
theorem d_Da_init_23 : decode c_Da_init 23 = .ok (.putfield 21, 3) := by decide +kernel
theorem d_Da_init_26 : decode c_Da_init 26 = .ok (.return_, 1) := by decide +kernel
theorem d_Us_init_0 : decode c_Us_init 0 = .ok (.aload_n 0, 1) := by decide +kernel
theorem d_Us_init_1 : decode c_Us_init 1 = .ok (.invokespecial 3, 3) := by decide +kernel
theorem d_Us_init_4 : decode c_Us_init 4 = .ok (.aload_n 0, 1) := by decide +kernel
theorem d_Us_init_5 : decode c_Us_init 5 = .ok (.bipush 8, 2) := by decide +kernel
theorem d_Us_init_7 : decode c_Us_init 7 = .ok (.newarray .int, 2) := by decide +kernel
theorem d_Us_init_9 : decode c_Us_init 9 = .ok (.putfield 9, 3) := by decide +kernel
theorem d_Us_init_12 : decode c_Us_init 12 = .ok (.aload_n 0, 1) := by decide +kernel
theorem d_Us_init_13 : decode c_Us_init 13 = .ok (.bipush 8, 2) := by decide +kernel
theorem d_Us_init_15 : decode c_Us_init 15 = .ok (.newarray .int, 2) := by decide +kernel
theorem d_Us_init_17 : decode c_Us_init 17 = .ok (.putfield 15, 3) := by decide +kernel
theorem d_Us_init_20 : decode c_Us_init 20 = .ok (.return_, 1) := by decide +kernel
theorem d_Ma_init_0 : decode c_Ma_init 0 = .ok (.aload_n 0, 1) := by decide +kernel
theorem d_Ma_init_1 : decode c_Ma_init 1 = .ok (.invokespecial 3, 3) := by decide +kernel
theorem d_Ma_init_4 : decode c_Ma_init 4 = .ok (.aload_n 0, 1) := by decide +kernel
theorem d_Ma_init_5 : decode c_Ma_init 5 = .ok (.bipush 40, 2) := by decide +kernel
theorem d_Ma_init_7 : decode c_Ma_init 7 = .ok (.newarray .int, 2) := by decide +kernel
theorem d_Ma_init_9 : decode c_Ma_init 9 = .ok (.putfield 9, 3) := by decide +kernel
theorem d_Ma_init_12 : decode c_Ma_init 12 = .ok (.aload_n 0, 1) := by decide +kernel
theorem d_Ma_init_13 : decode c_Ma_init 13 = .ok (.bipush 40, 2) := by decide +kernel
theorem d_Ma_init_15 : decode c_Ma_init 15 = .ok (.newarray .int, 2) := by decide +kernel
theorem d_Ma_init_17 : decode c_Ma_init 17 = .ok (.putfield 15, 3) := by decide +kernel
theorem d_Ma_init_20 : decode c_Ma_init 20 = .ok (.aload_n 0, 1) := by decide +kernel
theorem d_Ma_init_21 : decode c_Ma_init 21 = .ok (.bipush 40, 2) := by decide +kernel
theorem d_Ma_init_23 : decode c_Ma_init 23 = .ok (.anewarray 18, 3) := by decide +kernel
theorem d_Ma_init_26 : decode c_Ma_init 26 = .ok (.putfield 20, 3) := by decide +kernel
theorem d_Ma_init_29 : decode c_Ma_init 29 = .ok (.aload_n 0, 1) := by decide +kernel
theorem d_Ma_init_30 : decode c_Ma_init 30 = .ok (.new 18, 3) := by decide +kernel
theorem d_Ma_init_33 : decode c_Ma_init 33 = .ok (.dup, 1) := by decide +kernel
theorem d_Ma_init_34 : decode c_Ma_init 34 = .ok (.invokespecial 24, 3) := by decide +kernel
theorem d_Ma_init_37 : decode c_Ma_init 37 = .ok (.putfield 25, 3) := by decide +kernel
theorem d_Ma_init_40 : decode c_Ma_init 40 = .ok (.iconst 0, 1) := by decide +kernel
theorem d_Ma_init_41 : decode c_Ma_init 41 = .ok (.istore_n 1, 1) := by decide +kernel
theorem d_Ma_init_42 : decode c_Ma_init 42 = .ok (.iload_n 1, 1) := by decide +kernel
theorem d_Ma_init_43 : decode c_Ma_init 43 = .ok (.bipush 40, 2) := by decide +kernel
theorem d_Ma_init_45 : decode c_Ma_init 45 = .ok (.if_icmp .ge 22, 3) := by decide +kernel
theorem d_Ma_init_48 : decode c_Ma_init 48 = .ok (.aload_n 0, 1) := by decide +kernel
theorem d_Ma_init_49 : decode c_Ma_init 49 = .ok (.getfield 20, 3) := by decide +kernel
theorem d_Ma_init_52 : decode c_Ma_init 52 = .ok (.iload_n 1, 1) := by decide +kernel
theorem d_Ma_init_53 : decode c_Ma_init 53 = .ok (.new 18, 3) := by decide +kernel
theorem d_Ma_init_56 : decode c_Ma_init 56 = .ok (.dup, 1) := by decide +kernel
theorem d_Ma_init_57 : decode c_Ma_init 57 = .ok (.invokespecial 24, 3) := by decide +kernel
theorem d_Ma_init_60 : decode c_Ma_init 60 = .ok (.aastore, 1) := by decide +kernel
theorem d_Ma_init_61 : decode c_Ma_init 61 = .ok (.iinc 1 1, 3) := by decide +kernel
theorem d_Ma_init_64 : decode c_Ma_init 64 = .ok (.goto (-22), 3) := by decide +kernel
theorem d_Ma_init_67 : decode c_Ma_init 67 = .ok (.return_, 1) := by decide +kernel
theorem d_Ho_init_0 : decode c_Ho_init 0 = .ok (.aload_n 0, 1) := by decide +kernel
theorem d_Ho_init_1 : decode c_Ho_init 1 = .ok (.invokespecial 3, 3) := by decide +kernel
theorem d_Ho_init_4 : decode c_Ho_init 4 = .ok (.aload_n 0, 1) := by decide +kernel
theorem d_Ho_init_5 : decode c_Ho_init 5 = .ok (.new 9, 3) := by decide +kernel
theorem d_Ho_init_8 : decode c_Ho_init 8 = .ok (.dup, 1) := by decide +kernel
theorem d_Ho_init_9 : decode c_Ho_init 9 = .ok (.invokespecial 11, 3) := by decide +kernel
theorem d_Ho_init_12 : decode c_Ho_init 12 = .ok (.putfield 12, 3) := by decide +kernel
theorem d_Ho_init_15 : decode c_Ho_init 15 = .ok (.aload_n 0, 1) := by decide +kernel
theorem d_Ho_init_16 : decode c_Ho_init 16 = .ok (.new 9, 3) := by decide +kernel
theorem d_Ho_init_19 : decode c_Ho_init 19 = .ok (.dup, 1) := by decide +kernel
theorem d_Ho_init_20 : decode c_Ho_init 20 = .ok (.invokespecial 11, 3) := by decide +kernel
theorem d_Ho_init_23 : decode c_Ho_init 23 = .ok (.putfield 18, 3) := by decide +kernel
theorem d_Ho_init_26 : decode c_Ho_init 26 = .ok (.aload_n 0, 1) := by decide +kernel
theorem d_Ho_init_27 : decode c_Ho_init 27 = .ok (.iconst (-1), 1) := by decide +kernel
theorem d_Ho_init_28 : decode c_Ho_init 28 = .ok (.putfield 21, 3) := by decide +kernel
theorem d_Ho_init_31 : decode c_Ho_init 31 = .ok (.aload_n 0, 1) := by decide +kernel
theorem d_Ho_init_32 : decode c_Ho_init 32 = .ok (.iload_n 1, 1) := by decide +kernel
theorem d_Ho_init_33 : decode c_Ho_init 33 = .ok (.putfield 25, 3) := by decide +kernel
theorem d_Ho_init_36 : decode c_Ho_init 36 = .ok (.aload_n 0, 1) := by decide +kernel
theorem d_Ho_init_37 : decode c_Ho_init 37 = .ok (.aload_n 2, 1) := by decide +kernel
theorem d_Ho_init_38 : decode c_Ho_init 38 = .ok (.putfield 28, 3) := by decide +kernel
theorem d_Ho_init_41 : decode c_Ho_init 41 = .ok (.return_, 1) := by decide +kernel
theorem d_Se_init_0 : decode c_Se_init 0 = .ok (.aload_n 0, 1) := by decide +kernel
theorem d_Se_init_1 : decode c_Se_init 1 = .ok (.invokespecial 1, 3) := by decide +kernel
theorem d_Se_init_4 : decode c_Se_init 4 = .ok (.return_, 1) := by decide +kernel
theorem d_Sv_init_0 : decode c_Sv_init 0 = .ok (.aload_n 0, 1) := by decide +kernel
theorem d_Sv_init_1 : decode c_Sv_init 1 = .ok (.invokespecial 3, 3) := by decide +kernel
theorem d_Sv_init_4 : decode c_Sv_init 4 = .ok (.aload_n 0, 1) := by decide +kernel
theorem d_Sv_init_5 : decode c_Sv_init 5 = .ok (.iconst 4, 1) := by decide +kernel
theorem d_Sv_init_6 : decode c_Sv_init 6 = .ok (.anewarray 11, 3) := by decide +kernel
theorem d_Sv_init_9 : decode c_Sv_init 9 = .ok (.putfield 13, 3) := by decide +kernel
theorem d_Sv_init_12 : decode c_Sv_init 12 = .ok (.aload_n 0, 1) := by decide +kernel
theorem d_Sv_init_13 : decode c_Sv_init 13 = .ok (.iconst 4, 1) := by decide +kernel
theorem d_Sv_init_14 : decode c_Sv_init 14 = .ok (.newarray .int, 2) := by decide +kernel
theorem d_Sv_init_16 : decode c_Sv_init 16 = .ok (.putfield 17, 3) := by decide +kernel
theorem d_Sv_init_19 : decode c_Sv_init 19 = .ok (.aload_n 0, 1) := by decide +kernel
theorem d_Sv_init_20 : decode c_Sv_init 20 = .ok (.iconst 4, 1) := by decide +kernel
theorem d_Sv_init_21 : decode c_Sv_init 21 = .ok (.newarray .int, 2) := by decide +kernel
theorem d_Sv_init_23 : decode c_Sv_init 23 = .ok (.putfield 21, 3) := by decide +kernel
theorem d_Sv_init_26 : decode c_Sv_init 26 = .ok (.aload_n 0, 1) := by decide +kernel
theorem d_Sv_init_27 : decode c_Sv_init 27 = .ok (.iconst 4, 1) := by decide +kernel
theorem d_Sv_init_28 : decode c_Sv_init 28 = .ok (.anewarray 24, 3) := by decide +kernel
theorem d_Sv_init_31 : decode c_Sv_init 31 = .ok (.putfield 26, 3) := by decide +kernel
theorem d_Sv_init_34 : decode c_Sv_init 34 = .ok (.aload_n 0, 1) := by decide +kernel
theorem d_Sv_init_35 : decode c_Sv_init 35 = .ok (.new 30, 3) := by decide +kernel
theorem d_Sv_init_38 : decode c_Sv_init 38 = .ok (.dup, 1) := by decide +kernel
theorem d_Sv_init_39 : decode c_Sv_init 39 = .ok (.invokespecial 32, 3) := by decide +kernel
theorem d_Sv_init_42 : decode c_Sv_init 42 = .ok (.putfield 33, 3) := by decide +kernel
theorem d_Sv_init_45 : decode c_Sv_init 45 = .ok (.aload_n 0, 1) := by decide +kernel
theorem d_Sv_init_46 : decode c_Sv_init 46 = .ok (.new 30, 3) := by decide +kernel
theorem d_Sv_init_49 : decode c_Sv_init 49 = .ok (.dup, 1) := by decide +kernel
theorem d_Sv_init_50 : decode c_Sv_init 50 = .ok (.invokespecial 32, 3) := by decide +kernel
theorem d_Sv_init_53 : decode c_Sv_init 53 = .ok (.putfield 37, 3) := by decide +kernel
theorem d_Sv_init_56 : decode c_Sv_init 56 = .ok (.aload_n 0, 1) := by decide +kernel
theorem d_Sv_init_57 : decode c_Sv_init 57 = .ok (.new 40, 3) := by decide +kernel
theorem d_Sv_init_60 : decode c_Sv_init 60 = .ok (.dup, 1) := by decide +kernel
theorem d_Sv_init_61 : decode c_Sv_init 61 = .ok (.invokespecial 42, 3) := by decide +kernel
theorem d_Sv_init_64 : decode c_Sv_init 64 = .ok (.putfield 43, 3) := by decide +kernel
theorem d_Sv_init_67 : decode c_Sv_init 67 = .ok (.aload_n 0, 1) := by decide +kernel
theorem d_Sv_init_68 : decode c_Sv_init 68 = .ok (.iconst 1, 1) := by decide +kernel
theorem d_Sv_init_69 : decode c_Sv_init 69 = .ok (.putfield 47, 3) := by decide +kernel
theorem d_Sv_init_72 : decode c_Sv_init 72 = .ok (.aload_n 0, 1) := by decide +kernel
theorem d_Sv_init_73 : decode c_Sv_init 73 = .ok (.iload_n 1, 1) := by decide +kernel
theorem d_Sv_init_74 : decode c_Sv_init 74 = .ok (.putfield 51, 3) := by decide +kernel
theorem d_Sv_init_77 : decode c_Sv_init 77 = .ok (.aload_n 0, 1) := by decide +kernel
theorem d_Sv_init_78 : decode c_Sv_init 78 = .ok (.iload_n 2, 1) := by decide +kernel
theorem d_Sv_init_79 : decode c_Sv_init 79 = .ok (.putfield 55, 3) := by decide +kernel
theorem d_Sv_init_82 : decode c_Sv_init 82 = .ok (.aload_n 0, 1) := by decide +kernel
theorem d_Sv_init_83 : decode c_Sv_init 83 = .ok (.aload_n 3, 1) := by decide +kernel
theorem d_Sv_init_84 : decode c_Sv_init 84 = .ok (.putfield 58, 3) := by decide +kernel
theorem d_Sv_init_87 : decode c_Sv_init 87 = .ok (.aload_n 0, 1) := by decide +kernel
theorem d_Sv_init_88 : decode c_Sv_init 88 = .ok (.aload 4, 2) := by decide +kernel
theorem d_Sv_init_90 : decode c_Sv_init 90 = .ok (.putfield 62, 3) := by decide +kernel
theorem d_Sv_init_93 : decode c_Sv_init 93 = .ok (.iconst 0, 1) := by decide +kernel
theorem d_Sv_init_94 : decode c_Sv_init 94 = .ok (.istore 5, 2) := by decide +kernel
theorem d_Sv_init_96 : decode c_Sv_init 96 = .ok (.iload 5, 2) := by decide +kernel
theorem d_Sv_init_98 : decode c_Sv_init 98 = .ok (.iconst 4, 1) := by decide +kernel
theorem d_Sv_init_99 : decode c_Sv_init 99 = .ok (.if_icmp .ge 23, 3) := by decide +kernel
theorem d_Sv_init_102 : decode c_Sv_init 102 = .ok (.aload_n 0, 1) := by decide +kernel
theorem d_Sv_init_103 : decode c_Sv_init 103 = .ok (.getfield 13, 3) := by decide +kernel
theorem d_Sv_init_106 : decode c_Sv_init 106 = .ok (.iload 5, 2) := by decide +kernel
theorem d_Sv_init_108 : decode c_Sv_init 108 = .ok (.new 11, 3) := by decide +kernel
theorem d_Sv_init_111 : decode c_Sv_init 111 = .ok (.dup, 1) := by decide +kernel
theorem d_Sv_init_112 : decode c_Sv_init 112 = .ok (.invokespecial 66, 3) := by decide +kernel
theorem d_Sv_init_115 : decode c_Sv_init 115 = .ok (.aastore, 1) := by decide +kernel
theorem d_Sv_init_116 : decode c_Sv_init 116 = .ok (.iinc 5 1, 3) := by decide +kernel
theorem d_Sv_init_119 : decode c_Sv_init 119 = .ok (.goto (-23), 3) := by decide +kernel
theorem d_Sv_init_122 : decode c_Sv_init 122 = .ok (.iconst 0, 1) := by decide +kernel
theorem d_Sv_init_123 : decode c_Sv_init 123 = .ok (.istore 5, 2) := by decide +kernel
theorem d_Sv_init_125 : decode c_Sv_init 125 = .ok (.iload 5, 2) := by decide +kernel
theorem d_Sv_init_127 : decode c_Sv_init 127 = .ok (.iconst 4, 1) := by decide +kernel
theorem d_Sv_init_128 : decode c_Sv_init 128 = .ok (.if_icmp .ge 23, 3) := by decide +kernel
theorem d_Sv_init_131 : decode c_Sv_init 131 = .ok (.aload_n 0, 1) := by decide +kernel
theorem d_Sv_init_132 : decode c_Sv_init 132 = .ok (.getfield 26, 3) := by decide +kernel
theorem d_Sv_init_135 : decode c_Sv_init 135 = .ok (.iload 5, 2) := by decide +kernel
theorem d_Sv_init_137 : decode c_Sv_init 137 = .ok (.new 24, 3) := by decide +kernel
theorem d_Sv_init_140 : decode c_Sv_init 140 = .ok (.dup, 1) := by decide +kernel
theorem d_Sv_init_141 : decode c_Sv_init 141 = .ok (.invokespecial 67, 3) := by decide +kernel
theorem d_Sv_init_144 : decode c_Sv_init 144 = .ok (.aastore, 1) := by decide +kernel
theorem d_Sv_init_145 : decode c_Sv_init 145 = .ok (.iinc 5 1, 3) := by decide +kernel
theorem d_Sv_init_148 : decode c_Sv_init 148 = .ok (.goto (-23), 3) := by decide +kernel
theorem d_Sv_init_151 : decode c_Sv_init 151 = .ok (.return_, 1) := by decide +kernel
theorem d_Po_init_0 : decode c_Po_init 0 = .ok (.aload_n 0, 1) := by decide +kernel
theorem d_Po_init_1 : decode c_Po_init 1 = .ok (.invokespecial 3, 3) := by decide +kernel
theorem d_Po_init_4 : decode c_Po_init 4 = .ok (.aload_n 0, 1) := by decide +kernel
theorem d_Po_init_5 : decode c_Po_init 5 = .ok (.new 9, 3) := by decide +kernel
theorem d_Po_init_8 : decode c_Po_init 8 = .ok (.dup, 1) := by decide +kernel
theorem d_Po_init_9 : decode c_Po_init 9 = .ok (.invokespecial 11, 3) := by decide +kernel
theorem d_Po_init_12 : decode c_Po_init 12 = .ok (.putfield 12, 3) := by decide +kernel
theorem d_Po_init_15 : decode c_Po_init 15 = .ok (.aload_n 0, 1) := by decide +kernel
theorem d_Po_init_16 : decode c_Po_init 16 = .ok (.new 9, 3) := by decide +kernel
theorem d_Po_init_19 : decode c_Po_init 19 = .ok (.dup, 1) := by decide +kernel
theorem d_Po_init_20 : decode c_Po_init 20 = .ok (.invokespecial 11, 3) := by decide +kernel
theorem d_Po_init_23 : decode c_Po_init 23 = .ok (.putfield 18, 3) := by decide +kernel
theorem d_Po_init_26 : decode c_Po_init 26 = .ok (.aload_n 0, 1) := by decide +kernel
theorem d_Po_init_27 : decode c_Po_init 27 = .ok (.new 21, 3) := by decide +kernel
theorem d_Po_init_30 : decode c_Po_init 30 = .ok (.dup, 1) := by decide +kernel
theorem d_Po_init_31 : decode c_Po_init 31 = .ok (.invokespecial 23, 3) := by decide +kernel
theorem d_Po_init_34 : decode c_Po_init 34 = .ok (.putfield 24, 3) := by decide +kernel
theorem d_Po_init_37 : decode c_Po_init 37 = .ok (.aload_n 0, 1) := by decide +kernel
theorem d_Po_init_38 : decode c_Po_init 38 = .ok (.iconst 0, 1) := by decide +kernel
theorem d_Po_init_39 : decode c_Po_init 39 = .ok (.putfield 28, 3) := by decide +kernel
theorem d_Po_init_42 : decode c_Po_init 42 = .ok (.aload_n 0, 1) := by decide +kernel
theorem d_Po_init_43 : decode c_Po_init 43 = .ok (.iconst (-1), 1) := by decide +kernel
theorem d_Po_init_44 : decode c_Po_init 44 = .ok (.putfield 32, 3) := by decide +kernel
theorem d_Po_init_47 : decode c_Po_init 47 = .ok (.aload_n 0, 1) := by decide +kernel
theorem d_Po_init_48 : decode c_Po_init 48 = .ok (.iconst (-1), 1) := by decide +kernel
theorem d_Po_init_49 : decode c_Po_init 49 = .ok (.putfield 35, 3) := by decide +kernel
theorem d_Po_init_52 : decode c_Po_init 52 = .ok (.aload_n 0, 1) := by decide +kernel
theorem d_Po_init_53 : decode c_Po_init 53 = .ok (.iload_n 1, 1) := by decide +kernel
theorem d_Po_init_54 : decode c_Po_init 54 = .ok (.putfield 38, 3) := by decide +kernel
theorem d_Po_init_57 : decode c_Po_init 57 = .ok (.return_, 1) := by decide +kernel
theorem d_Sw_init_0 : decode c_Sw_init 0 = .ok (.aload_n 0, 1) := by decide +kernel
theorem d_Sw_init_1 : decode c_Sw_init 1 = .ok (.invokespecial 3, 3) := by decide +kernel
theorem d_Sw_init_4 : decode c_Sw_init 4 = .ok (.aload_n 0, 1) := by decide +kernel
theorem d_Sw_init_5 : decode c_Sw_init 5 = .ok (.iconst 4, 1) := by decide +kernel
theorem d_Sw_init_6 : decode c_Sw_init 6 = .ok (.anewarray 9, 3) := by decide +kernel
theorem d_Sw_init_9 : decode c_Sw_init 9 = .ok (.putfield 11, 3) := by decide +kernel
theorem d_Sw_init_12 : decode c_Sw_init 12 = .ok (.aload_n 0, 1) := by decide +kernel
theorem d_Sw_init_13 : decode c_Sw_init 13 = .ok (.bipush 8, 2) := by decide +kernel
theorem d_Sw_init_15 : decode c_Sw_init 15 = .ok (.newarray .int, 2) := by decide +kernel
theorem d_Sw_init_17 : decode c_Sw_init 17 = .ok (.putfield 17, 3) := by decide +kernel
theorem d_Sw_init_20 : decode c_Sw_init 20 = .ok (.aload_n 0, 1) := by decide +kernel
theorem d_Sw_init_21 : decode c_Sw_init 21 = .ok (.new 21, 3) := by decide +kernel
theorem d_Sw_init_24 : decode c_Sw_init 24 = .ok (.dup, 1) := by decide +kernel
theorem d_Sw_init_25 : decode c_Sw_init 25 = .ok (.invokespecial 23, 3) := by decide +kernel
theorem d_Sw_init_28 : decode c_Sw_init 28 = .ok (.putfield 24, 3) := by decide +kernel
theorem d_Sw_init_31 : decode c_Sw_init 31 = .ok (.aload_n 0, 1) := by decide +kernel
theorem d_Sw_init_32 : decode c_Sw_init 32 = .ok (.new 28, 3) := by decide +kernel
theorem d_Sw_init_35 : decode c_Sw_init 35 = .ok (.dup, 1) := by decide +kernel
theorem d_Sw_init_36 : decode c_Sw_init 36 = .ok (.invokespecial 30, 3) := by decide +kernel
theorem d_Sw_init_39 : decode c_Sw_init 39 = .ok (.putfield 31, 3) := by decide +kernel
theorem d_Sw_init_42 : decode c_Sw_init 42 = .ok (.aload_n 0, 1) := by decide +kernel
theorem d_Sw_init_43 : decode c_Sw_init 43 = .ok (.new 28, 3) := by decide +kernel
theorem d_Sw_init_46 : decode c_Sw_init 46 = .ok (.dup, 1) := by decide +kernel
theorem d_Sw_init_47 : decode c_Sw_init 47 = .ok (.invokespecial 30, 3) := by decide +kernel
theorem d_Sw_init_50 : decode c_Sw_init 50 = .ok (.putfield 35, 3) := by decide +kernel
theorem d_Sw_init_53 : decode c_Sw_init 53 = .ok (.aload_n 0, 1) := by decide +kernel
theorem d_Sw_init_54 : decode c_Sw_init 54 = .ok (.iload_n 1, 1) := by decide +kernel
theorem d_Sw_init_55 : decode c_Sw_init 55 = .ok (.putfield 38, 3) := by decide +kernel
theorem d_Sw_init_58 : decode c_Sw_init 58 = .ok (.aload_n 0, 1) := by decide +kernel
theorem d_Sw_init_59 : decode c_Sw_init 59 = .ok (.aload_n 2, 1) := by decide +kernel
theorem d_Sw_init_60 : decode c_Sw_init 60 = .ok (.putfield 42, 3) := by decide +kernel
theorem d_Sw_init_63 : decode c_Sw_init 63 = .ok (.iconst 0, 1) := by decide +kernel
theorem d_Sw_init_64 : decode c_Sw_init 64 = .ok (.istore_n 3, 1) := by decide +kernel
theorem d_Sw_init_65 : decode c_Sw_init 65 = .ok (.iload_n 3, 1) := by decide +kernel
theorem d_Sw_init_66 : decode c_Sw_init 66 = .ok (.iconst 4, 1) := by decide +kernel
theorem d_Sw_init_67 : decode c_Sw_init 67 = .ok (.if_icmp .ge 23, 3) := by decide +kernel
theorem d_Sw_init_70 : decode c_Sw_init 70 = .ok (.aload_n 0, 1) := by decide +kernel
theorem d_Sw_init_71 : decode c_Sw_init 71 = .ok (.getfield 11, 3) := by decide +kernel
theorem d_Sw_init_74 : decode c_Sw_init 74 = .ok (.iload_n 3, 1) := by decide +kernel
theorem d_Sw_init_75 : decode c_Sw_init 75 = .ok (.new 9, 3) := by decide +kernel
theorem d_Sw_init_78 : decode c_Sw_init 78 = .ok (.dup, 1) := by decide +kernel
theorem d_Sw_init_79 : decode c_Sw_init 79 = .ok (.iload_n 3, 1) := by decide +kernel
theorem d_Sw_init_80 : decode c_Sw_init 80 = .ok (.invokespecial 46, 3) := by decide +kernel
theorem d_Sw_init_83 : decode c_Sw_init 83 = .ok (.aastore, 1) := by decide +kernel
theorem d_Sw_init_84 : decode c_Sw_init 84 = .ok (.iinc 3 1, 3) := by decide +kernel
theorem d_Sw_init_87 : decode c_Sw_init 87 = .ok (.goto (-22), 3) := by decide +kernel
theorem d_Sw_init_90 : decode c_Sw_init 90 = .ok (.aload_n 0, 1) := by decide +kernel
theorem d_Sw_init_91 : decode c_Sw_init 91 = .ok (.getfield 17, 3) := by decide +kernel
theorem d_Sw_init_94 : decode c_Sw_init 94 = .ok (.iconst (-1), 1) := by decide +kernel
theorem d_Sw_init_95 : decode c_Sw_init 95 = .ok (.invokestatic 49, 3) := by decide +kernel
theorem d_Sw_init_98 : decode c_Sw_init 98 = .ok (.return_, 1) := by decide +kernel
theorem d_PG_init_0 : decode c_PG_init 0 = .ok (.aload_n 0, 1) := by decide +kernel
theorem d_PG_init_1 : decode c_PG_init 1 = .ok (.invokespecial 1, 3) := by decide +kernel
theorem d_PG_init_4 : decode c_PG_init 4 = .ok (.aload_n 0, 1) := by decide +kernel
theorem d_PG_init_5 : decode c_PG_init 5 = .ok (.new 7, 3) := by decide +kernel
theorem d_PG_init_8 : decode c_PG_init 8 = .ok (.dup, 1) := by decide +kernel
theorem d_PG_init_9 : decode c_PG_init 9 = .ok (.invokespecial 9, 3) := by decide +kernel
theorem d_PG_init_12 : decode c_PG_init 12 = .ok (.putfield 10, 3) := by decide +kernel
theorem d_PG_init_15 : decode c_PG_init 15 = .ok (.aload_n 0, 1) := by decide +kernel
theorem d_PG_init_16 : decode c_PG_init 16 = .ok (.new 16, 3) := by decide +kernel
theorem d_PG_init_19 : decode c_PG_init 19 = .ok (.dup, 1) := by decide +kernel
theorem d_PG_init_20 : decode c_PG_init 20 = .ok (.invokespecial 18, 3) := by decide +kernel
theorem d_PG_init_23 : decode c_PG_init 23 = .ok (.putfield 19, 3) := by decide +kernel
theorem d_PG_init_26 : decode c_PG_init 26 = .ok (.aload_n 0, 1) := by decide +kernel
theorem d_PG_init_27 : decode c_PG_init 27 = .ok (.iconst 4, 1) := by decide +kernel
theorem d_PG_init_28 : decode c_PG_init 28 = .ok (.anewarray 23, 3) := by decide +kernel
theorem d_PG_init_31 : decode c_PG_init 31 = .ok (.putfield 25, 3) := by decide +kernel
theorem d_PG_init_34 : decode c_PG_init 34 = .ok (.iconst 0, 1) := by decide +kernel
theorem d_PG_init_35 : decode c_PG_init 35 = .ok (.istore_n 2, 1) := by decide +kernel
theorem d_PG_init_36 : decode c_PG_init 36 = .ok (.iload_n 2, 1) := by decide +kernel
theorem d_PG_init_37 : decode c_PG_init 37 = .ok (.iconst 4, 1) := by decide +kernel
theorem d_PG_init_38 : decode c_PG_init 38 = .ok (.if_icmp .ge 27, 3) := by decide +kernel
theorem d_PG_init_41 : decode c_PG_init 41 = .ok (.aload_n 0, 1) := by decide +kernel
theorem d_PG_init_42 : decode c_PG_init 42 = .ok (.getfield 25, 3) := by decide +kernel
theorem d_PG_init_45 : decode c_PG_init 45 = .ok (.iload_n 2, 1) := by decide +kernel
theorem d_PG_init_46 : decode c_PG_init 46 = .ok (.new 23, 3) := by decide +kernel
theorem d_PG_init_49 : decode c_PG_init 49 = .ok (.dup, 1) := by decide +kernel
theorem d_PG_init_50 : decode c_PG_init 50 = .ok (.iload_n 2, 1) := by decide +kernel
theorem d_PG_init_51 : decode c_PG_init 51 = .ok (.aload_n 0, 1) := by decide +kernel
theorem d_PG_init_52 : decode c_PG_init 52 = .ok (.getfield 19, 3) := by decide +kernel
theorem d_PG_init_55 : decode c_PG_init 55 = .ok (.invokespecial 29, 3) := by decide +kernel
theorem d_PG_init_58 : decode c_PG_init 58 = .ok (.aastore, 1) := by decide +kernel
theorem d_PG_init_59 : decode c_PG_init 59 = .ok (.iinc 2 1, 3) := by decide +kernel
theorem d_PG_init_62 : decode c_PG_init 62 = .ok (.goto (-26), 3) := by decide +kernel
theorem d_PG_init_65 : decode c_PG_init 65 = .ok (.aload_n 0, 1) := by decide +kernel
theorem d_PG_init_66 : decode c_PG_init 66 = .ok (.iconst 2, 1) := by decide +kernel
theorem d_PG_init_67 : decode c_PG_init 67 = .ok (.anewarray 32, 3) := by decide +kernel
theorem d_PG_init_70 : decode c_PG_init 70 = .ok (.putfield 34, 3) := by decide +kernel
theorem d_PG_init_73 : decode c_PG_init 73 = .ok (.iconst 0, 1) := by decide +kernel
theorem d_PG_init_74 : decode c_PG_init 74 = .ok (.istore_n 2, 1) := by decide +kernel
theorem d_PG_init_75 : decode c_PG_init 75 = .ok (.iload_n 2, 1) := by decide +kernel
theorem d_PG_init_76 : decode c_PG_init 76 = .ok (.iconst 2, 1) := by decide +kernel
theorem d_PG_init_77 : decode c_PG_init 77 = .ok (.if_icmp .ge 32, 3) := by decide +kernel
theorem d_PG_init_80 : decode c_PG_init 80 = .ok (.aload_n 0, 1) := by decide +kernel
theorem d_PG_init_81 : decode c_PG_init 81 = .ok (.getfield 34, 3) := by decide +kernel
theorem d_PG_init_84 : decode c_PG_init 84 = .ok (.iload_n 2, 1) := by decide +kernel
theorem d_PG_init_85 : decode c_PG_init 85 = .ok (.new 32, 3) := by decide +kernel
theorem d_PG_init_88 : decode c_PG_init 88 = .ok (.dup, 1) := by decide +kernel
theorem d_PG_init_89 : decode c_PG_init 89 = .ok (.iload_n 2, 1) := by decide +kernel
theorem d_PG_init_90 : decode c_PG_init 90 = .ok (.iload_n 1, 1) := by decide +kernel
theorem d_PG_init_91 : decode c_PG_init 91 = .ok (.aload_n 0, 1) := by decide +kernel
theorem d_PG_init_92 : decode c_PG_init 92 = .ok (.getfield 10, 3) := by decide +kernel
theorem d_PG_init_95 : decode c_PG_init 95 = .ok (.aload_n 0, 1) := by decide +kernel
theorem d_PG_init_96 : decode c_PG_init 96 = .ok (.getfield 19, 3) := by decide +kernel
theorem d_PG_init_99 : decode c_PG_init 99 = .ok (.invokespecial 38, 3) := by decide +kernel
theorem d_PG_init_102 : decode c_PG_init 102 = .ok (.aastore, 1) := by decide +kernel
theorem d_PG_init_103 : decode c_PG_init 103 = .ok (.iinc 2 1, 3) := by decide +kernel
theorem d_PG_init_106 : decode c_PG_init 106 = .ok (.goto (-31), 3) := by decide +kernel
theorem d_PG_init_109 : decode c_PG_init 109 = .ok (.aload_n 0, 1) := by decide +kernel
theorem d_PG_init_110 : decode c_PG_init 110 = .ok (.new 41, 3) := by decide +kernel
theorem d_PG_init_113 : decode c_PG_init 113 = .ok (.dup, 1) := by decide +kernel
theorem d_PG_init_114 : decode c_PG_init 114 = .ok (.iload_n 1, 1) := by decide +kernel
theorem d_PG_init_115 : decode c_PG_init 115 = .ok (.aload_n 0, 1) := by decide +kernel
theorem d_PG_init_116 : decode c_PG_init 116 = .ok (.getfield 19, 3) := by decide +kernel
theorem d_PG_init_119 : decode c_PG_init 119 = .ok (.invokespecial 43, 3) := by decide +kernel
theorem d_PG_init_122 : decode c_PG_init 122 = .ok (.putfield 44, 3) := by decide +kernel
theorem d_PG_init_125 : decode c_PG_init 125 = .ok (.aload_n 0, 1) := by decide +kernel
theorem d_PG_init_126 : decode c_PG_init 126 = .ok (.new 48, 3) := by decide +kernel
theorem d_PG_init_129 : decode c_PG_init 129 = .ok (.dup, 1) := by decide +kernel
theorem d_PG_init_130 : decode c_PG_init 130 = .ok (.invokespecial 50, 3) := by decide +kernel
theorem d_PG_init_133 : decode c_PG_init 133 = .ok (.putfield 51, 3) := by decide +kernel
theorem d_PG_init_136 : decode c_PG_init 136 = .ok (.aload_n 0, 1) := by decide +kernel
theorem d_PG_init_137 : decode c_PG_init 137 = .ok (.new 48, 3) := by decide +kernel
theorem d_PG_init_140 : decode c_PG_init 140 = .ok (.dup, 1) := by decide +kernel
theorem d_PG_init_141 : decode c_PG_init 141 = .ok (.invokespecial 50, 3) := by decide +kernel
theorem d_PG_init_144 : decode c_PG_init 144 = .ok (.putfield 55, 3) := by decide +kernel
theorem d_PG_init_147 : decode c_PG_init 147 = .ok (.return_, 1) := by decide +kernel
theorem d_Mo_init_0 : decode c_Mo_init 0 = .ok (.aload_n 0, 1) := by decide +kernel
theorem d_Mo_init_1 : decode c_Mo_init 1 = .ok (.invokespecial 1, 3) := by decide +kernel
theorem d_Mo_init_4 : decode c_Mo_init 4 = .ok (.aload_n 0, 1) := by decide +kernel
theorem d_Mo_init_5 : decode c_Mo_init 5 = .ok (.bipush 8, 2) := by decide +kernel
theorem d_Mo_init_7 : decode c_Mo_init 7 = .ok (.newarray .boolean, 2) := by decide +kernel
theorem d_Mo_init_9 : decode c_Mo_init 9 = .ok (.putfield 7, 3) := by decide +kernel
theorem d_Mo_init_12 : decode c_Mo_init 12 = .ok (.aload_n 0, 1) := by decide +kernel
theorem d_Mo_init_13 : decode c_Mo_init 13 = .ok (.bipush 8, 2) := by decide +kernel
theorem d_Mo_init_15 : decode c_Mo_init 15 = .ok (.newarray .int, 2) := by decide +kernel
theorem d_Mo_init_17 : decode c_Mo_init 17 = .ok (.putfield 13, 3) := by decide +kernel
theorem d_Mo_init_20 : decode c_Mo_init 20 = .ok (.aload_n 0, 1) := by decide +kernel
theorem d_Mo_init_21 : decode c_Mo_init 21 = .ok (.bipush 8, 2) := by decide +kernel
theorem d_Mo_init_23 : decode c_Mo_init 23 = .ok (.newarray .int, 2) := by decide +kernel
theorem d_Mo_init_25 : decode c_Mo_init 25 = .ok (.putfield 17, 3) := by decide +kernel
theorem d_Mo_init_28 : decode c_Mo_init 28 = .ok (.aload_n 0, 1) := by decide +kernel
theorem d_Mo_init_29 : decode c_Mo_init 29 = .ok (.bipush 40, 2) := by decide +kernel
theorem d_Mo_init_31 : decode c_Mo_init 31 = .ok (.newarray .int, 2) := by decide +kernel
theorem d_Mo_init_33 : decode c_Mo_init 33 = .ok (.putfield 20, 3) := by decide +kernel
theorem d_Mo_init_36 : decode c_Mo_init 36 = .ok (.aload_n 0, 1) := by decide +kernel
theorem d_Mo_init_37 : decode c_Mo_init 37 = .ok (.bipush 40, 2) := by decide +kernel
theorem d_Mo_init_39 : decode c_Mo_init 39 = .ok (.newarray .int, 2) := by decide +kernel
theorem d_Mo_init_41 : decode c_Mo_init 41 = .ok (.putfield 23, 3) := by decide +kernel
theorem d_Mo_init_44 : decode c_Mo_init 44 = .ok (.aload_n 0, 1) := by decide +kernel
theorem d_Mo_init_45 : decode c_Mo_init 45 = .ok (.bipush 40, 2) := by decide +kernel
theorem d_Mo_init_47 : decode c_Mo_init 47 = .ok (.newarray .int, 2) := by decide +kernel
theorem d_Mo_init_49 : decode c_Mo_init 49 = .ok (.putfield 26, 3) := by decide +kernel
theorem d_Mo_init_52 : decode c_Mo_init 52 = .ok (.aload_n 0, 1) := by decide +kernel
theorem d_Mo_init_53 : decode c_Mo_init 53 = .ok (.sipush 1920, 3) := by decide +kernel
theorem d_Mo_init_56 : decode c_Mo_init 56 = .ok (.newarray .int, 2) := by decide +kernel
theorem d_Mo_init_58 : decode c_Mo_init 58 = .ok (.putfield 29, 3) := by decide +kernel
theorem d_Mo_init_61 : decode c_Mo_init 61 = .ok (.aload_n 0, 1) := by decide +kernel
theorem d_Mo_init_62 : decode c_Mo_init 62 = .ok (.bipush 48, 2) := by decide +kernel
theorem d_Mo_init_64 : decode c_Mo_init 64 = .ok (.newarray .int, 2) := by decide +kernel
theorem d_Mo_init_66 : decode c_Mo_init 66 = .ok (.putfield 32, 3) := by decide +kernel
theorem d_Mo_init_69 : decode c_Mo_init 69 = .ok (.aload_n 0, 1) := by decide +kernel
theorem d_Mo_init_70 : decode c_Mo_init 70 = .ok (.bipush 48, 2) := by decide +kernel
theorem d_Mo_init_72 : decode c_Mo_init 72 = .ok (.newarray .int, 2) := by decide +kernel
theorem d_Mo_init_74 : decode c_Mo_init 74 = .ok (.putfield 35, 3) := by decide +kernel
theorem d_Mo_init_77 : decode c_Mo_init 77 = .ok (.aload_n 0, 1) := by decide +kernel
theorem d_Mo_init_78 : decode c_Mo_init 78 = .ok (.bipush 48, 2) := by decide +kernel
theorem d_Mo_init_80 : decode c_Mo_init 80 = .ok (.newarray .int, 2) := by decide +kernel
theorem d_Mo_init_82 : decode c_Mo_init 82 = .ok (.putfield 38, 3) := by decide +kernel
theorem d_Mo_init_85 : decode c_Mo_init 85 = .ok (.aload_n 0, 1) := by decide +kernel
theorem d_Mo_init_86 : decode c_Mo_init 86 = .ok (.iconst 4, 1) := by decide +kernel
theorem d_Mo_init_87 : decode c_Mo_init 87 = .ok (.newarray .int, 2) := by decide +kernel
theorem d_Mo_init_89 : decode c_Mo_init 89 = .ok (.dup, 1) := by decide +kernel
theorem d_Mo_init_90 : decode c_Mo_init 90 = .ok (.iconst 0, 1) := by decide +kernel
theorem d_Mo_init_91 : decode c_Mo_init 91 = .ok (.iconst (-1), 1) := by decide +kernel
theorem d_Mo_init_92 : decode c_Mo_init 92 = .ok (.iastore, 1) := by decide +kernel
theorem d_Mo_init_93 : decode c_Mo_init 93 = .ok (.dup, 1) := by decide +kernel
theorem d_Mo_init_94 : decode c_Mo_init 94 = .ok (.iconst 1, 1) := by decide +kernel
theorem d_Mo_init_95 : decode c_Mo_init 95 = .ok (.iconst (-1), 1) := by decide +kernel
theorem d_Mo_init_96 : decode c_Mo_init 96 = .ok (.iastore, 1) := by decide +kernel
theorem d_Mo_init_97 : decode c_Mo_init 97 = .ok (.dup, 1) := by decide +kernel
theorem d_Mo_init_98 : decode c_Mo_init 98 = .ok (.iconst 2, 1) := by decide +kernel
theorem d_Mo_init_99 : decode c_Mo_init 99 = .ok (.iconst (-1), 1) := by decide +kernel
theorem d_Mo_init_100 : decode c_Mo_init 100 = .ok (.iastore, 1) := by decide +kernel
theorem d_Mo_init_101 : decode c_Mo_init 101 = .ok (.dup, 1) := by decide +kernel
theorem d_Mo_init_102 : decode c_Mo_init 102 = .ok (.iconst 3, 1) := by decide +kernel
theorem d_Mo_init_103 : decode c_Mo_init 103 = .ok (.iconst (-1), 1) := by decide +kernel
theorem d_Mo_init_104 : decode c_Mo_init 104 = .ok (.iastore, 1) := by decide +kernel
theorem d_Mo_init_105 : decode c_Mo_init 105 = .ok (.putfield 41, 3) := by decide +kernel
theorem d_Mo_init_108 : decode c_Mo_init 108 = .ok (.aload_n 0, 1) := by decide +kernel
theorem d_Mo_init_109 : decode c_Mo_init 109 = .ok (.iconst 4, 1) := by decide +kernel
theorem d_Mo_init_110 : decode c_Mo_init 110 = .ok (.newarray .int, 2) := by decide +kernel
theorem d_Mo_init_112 : decode c_Mo_init 112 = .ok (.putfield 44, 3) := by decide +kernel
theorem d_Mo_init_115 : decode c_Mo_init 115 = .ok (.aload_n 0, 1) := by decide +kernel
theorem d_Mo_init_116 : decode c_Mo_init 116 = .ok (.iconst 4, 1) := by decide +kernel
theorem d_Mo_init_117 : decode c_Mo_init 117 = .ok (.newarray .int, 2) := by decide +kernel
theorem d_Mo_init_119 : decode c_Mo_init 119 = .ok (.putfield 47, 3) := by decide +kernel
theorem d_Mo_init_122 : decode c_Mo_init 122 = .ok (.aload_n 0, 1) := by decide +kernel
theorem d_Mo_init_123 : decode c_Mo_init 123 = .ok (.iconst 4, 1) := by decide +kernel
theorem d_Mo_init_124 : decode c_Mo_init 124 = .ok (.newarray .int, 2) := by decide +kernel
theorem d_Mo_init_126 : decode c_Mo_init 126 = .ok (.putfield 50, 3) := by decide +kernel
theorem d_Mo_init_129 : decode c_Mo_init 129 = .ok (.aload_n 0, 1) := by decide +kernel
theorem d_Mo_init_130 : decode c_Mo_init 130 = .ok (.bipush 80, 2) := by decide +kernel
theorem d_Mo_init_132 : decode c_Mo_init 132 = .ok (.newarray .int, 2) := by decide +kernel
theorem d_Mo_init_134 : decode c_Mo_init 134 = .ok (.putfield 53, 3) := by decide +kernel
theorem d_Mo_init_137 : decode c_Mo_init 137 = .ok (.aload_n 0, 1) := by decide +kernel
theorem d_Mo_init_138 : decode c_Mo_init 138 = .ok (.iconst 4, 1) := by decide +kernel
theorem d_Mo_init_139 : decode c_Mo_init 139 = .ok (.newarray .boolean, 2) := by decide +kernel
theorem d_Mo_init_141 : decode c_Mo_init 141 = .ok (.putfield 56, 3) := by decide +kernel
theorem d_Mo_init_144 : decode c_Mo_init 144 = .ok (.aload_n 0, 1) := by decide +kernel
theorem d_Mo_init_145 : decode c_Mo_init 145 = .ok (.iconst 4, 1) := by decide +kernel
theorem d_Mo_init_146 : decode c_Mo_init 146 = .ok (.newarray .int, 2) := by decide +kernel
theorem d_Mo_init_148 : decode c_Mo_init 148 = .ok (.putfield 59, 3) := by decide +kernel
theorem d_Mo_init_151 : decode c_Mo_init 151 = .ok (.aload_n 0, 1) := by decide +kernel
theorem d_Mo_init_152 : decode c_Mo_init 152 = .ok (.iconst 4, 1) := by decide +kernel
theorem d_Mo_init_153 : decode c_Mo_init 153 = .ok (.newarray .boolean, 2) := by decide +kernel
theorem d_Mo_init_155 : decode c_Mo_init 155 = .ok (.putfield 62, 3) := by decide +kernel
theorem d_Mo_init_158 : decode c_Mo_init 158 = .ok (.aload_n 0, 1) := by decide +kernel
theorem d_Mo_init_159 : decode c_Mo_init 159 = .ok (.iconst 4, 1) := by decide +kernel
theorem d_Mo_init_160 : decode c_Mo_init 160 = .ok (.newarray .int, 2) := by decide +kernel
theorem d_Mo_init_162 : decode c_Mo_init 162 = .ok (.putfield 65, 3) := by decide +kernel
theorem d_Mo_init_165 : decode c_Mo_init 165 = .ok (.aload_n 0, 1) := by decide +kernel
theorem d_Mo_init_166 : decode c_Mo_init 166 = .ok (.iconst 4, 1) := by decide +kernel
theorem d_Mo_init_167 : decode c_Mo_init 167 = .ok (.newarray .int, 2) := by decide +kernel
theorem d_Mo_init_169 : decode c_Mo_init 169 = .ok (.putfield 68, 3) := by decide +kernel
theorem d_Mo_init_172 : decode c_Mo_init 172 = .ok (.aload_n 0, 1) := by decide +kernel
theorem d_Mo_init_173 : decode c_Mo_init 173 = .ok (.iconst 4, 1) := by decide +kernel
theorem d_Mo_init_174 : decode c_Mo_init 174 = .ok (.newarray .int, 2) := by decide +kernel
theorem d_Mo_init_176 : decode c_Mo_init 176 = .ok (.putfield 71, 3) := by decide +kernel
theorem d_Mo_init_179 : decode c_Mo_init 179 = .ok (.aload_n 0, 1) := by decide +kernel
theorem d_Mo_init_180 : decode c_Mo_init 180 = .ok (.iconst 2, 1) := by decide +kernel
theorem d_Mo_init_181 : decode c_Mo_init 181 = .ok (.newarray .boolean, 2) := by decide +kernel
theorem d_Mo_init_183 : decode c_Mo_init 183 = .ok (.putfield 74, 3) := by decide +kernel
theorem d_Mo_init_186 : decode c_Mo_init 186 = .ok (.aload_n 0, 1) := by decide +kernel
theorem d_Mo_init_187 : decode c_Mo_init 187 = .ok (.iconst 2, 1) := by decide +kernel
theorem d_Mo_init_188 : decode c_Mo_init 188 = .ok (.newarray .int, 2) := by decide +kernel
theorem d_Mo_init_190 : decode c_Mo_init 190 = .ok (.putfield 77, 3) := by decide +kernel
theorem d_Mo_init_193 : decode c_Mo_init 193 = .ok (.aload_n 0, 1) := by decide +kernel
theorem d_Mo_init_194 : decode c_Mo_init 194 = .ok (.iconst 2, 1) := by decide +kernel
theorem d_Mo_init_195 : decode c_Mo_init 195 = .ok (.newarray .int, 2) := by decide +kernel
theorem d_Mo_init_197 : decode c_Mo_init 197 = .ok (.putfield 80, 3) := by decide +kernel
theorem d_Mo_init_200 : decode c_Mo_init 200 = .ok (.aload_n 0, 1) := by decide +kernel
theorem d_Mo_init_201 : decode c_Mo_init 201 = .ok (.iconst 2, 1) := by decide +kernel
theorem d_Mo_init_202 : decode c_Mo_init 202 = .ok (.newarray .int, 2) := by decide +kernel
theorem d_Mo_init_204 : decode c_Mo_init 204 = .ok (.putfield 83, 3) := by decide +kernel
theorem d_Mo_init_207 : decode c_Mo_init 207 = .ok (.aload_n 0, 1) := by decide +kernel
theorem d_Mo_init_208 : decode c_Mo_init 208 = .ok (.bipush 8, 2) := by decide +kernel
theorem d_Mo_init_210 : decode c_Mo_init 210 = .ok (.newarray .int, 2) := by decide +kernel
theorem d_Mo_init_212 : decode c_Mo_init 212 = .ok (.putfield 86, 3) := by decide +kernel
theorem d_Mo_init_215 : decode c_Mo_init 215 = .ok (.aload_n 0, 1) := by decide +kernel
theorem d_Mo_init_216 : decode c_Mo_init 216 = .ok (.bipush 8, 2) := by decide +kernel
theorem d_Mo_init_218 : decode c_Mo_init 218 = .ok (.newarray .int, 2) := by decide +kernel
theorem d_Mo_init_220 : decode c_Mo_init 220 = .ok (.putfield 89, 3) := by decide +kernel
theorem d_Mo_init_223 : decode c_Mo_init 223 = .ok (.aload_n 0, 1) := by decide +kernel
theorem d_Mo_init_224 : decode c_Mo_init 224 = .ok (.bipush 8, 2) := by decide +kernel
theorem d_Mo_init_226 : decode c_Mo_init 226 = .ok (.newarray .int, 2) := by decide +kernel
theorem d_Mo_init_228 : decode c_Mo_init 228 = .ok (.putfield 92, 3) := by decide +kernel
theorem d_Mo_init_231 : decode c_Mo_init 231 = .ok (.aload_n 0, 1) := by decide +kernel
theorem d_Mo_init_232 : decode c_Mo_init 232 = .ok (.bipush 8, 2) := by decide +kernel
theorem d_Mo_init_234 : decode c_Mo_init 234 = .ok (.newarray .int, 2) := by decide +kernel
theorem d_Mo_init_236 : decode c_Mo_init 236 = .ok (.putfield 95, 3) := by decide +kernel
theorem d_Mo_init_239 : decode c_Mo_init 239 = .ok (.aload_n 0, 1) := by decide +kernel
theorem d_Mo_init_240 : decode c_Mo_init 240 = .ok (.bipush 8, 2) := by decide +kernel
theorem d_Mo_init_242 : decode c_Mo_init 242 = .ok (.newarray .int, 2) := by decide +kernel
theorem d_Mo_init_244 : decode c_Mo_init 244 = .ok (.putfield 98, 3) := by decide +kernel
theorem d_Mo_init_247 : decode c_Mo_init 247 = .ok (.aload_n 0, 1) := by decide +kernel
theorem d_Mo_init_248 : decode c_Mo_init 248 = .ok (.bipush 8, 2) := by decide +kernel
theorem d_Mo_init_250 : decode c_Mo_init 250 = .ok (.newarray .int, 2) := by decide +kernel
theorem d_Mo_init_252 : decode c_Mo_init 252 = .ok (.putfield 101, 3) := by decide +kernel
theorem d_Mo_init_255 : decode c_Mo_init 255 = .ok (.aload_n 0, 1) := by decide +kernel
theorem d_Mo_init_256 : decode c_Mo_init 256 = .ok (.bipush 8, 2) := by decide +kernel
theorem d_Mo_init_258 : decode c_Mo_init 258 = .ok (.newarray .boolean, 2) := by decide +kernel
theorem d_Mo_init_260 : decode c_Mo_init 260 = .ok (.putfield 104, 3) := by decide +kernel
theorem d_Mo_init_263 : decode c_Mo_init 263 = .ok (.aload_n 0, 1) := by decide +kernel
theorem d_Mo_init_264 : decode c_Mo_init 264 = .ok (.bipush 8, 2) := by decide +kernel
theorem d_Mo_init_266 : decode c_Mo_init 266 = .ok (.newarray .int, 2) := by decide +kernel
theorem d_Mo_init_268 : decode c_Mo_init 268 = .ok (.putfield 107, 3) := by decide +kernel
theorem d_Mo_init_271 : decode c_Mo_init 271 = .ok (.aload_n 0, 1) := by decide +kernel
theorem d_Mo_init_272 : decode c_Mo_init 272 = .ok (.iconst 2, 1) := by decide +kernel
theorem d_Mo_init_273 : decode c_Mo_init 273 = .ok (.newarray .int, 2) := by decide +kernel
theorem d_Mo_init_275 : decode c_Mo_init 275 = .ok (.putfield 110, 3) := by decide +kernel
theorem d_Mo_init_278 : decode c_Mo_init 278 = .ok (.aload_n 0, 1) := by decide +kernel
theorem d_Mo_init_279 : decode c_Mo_init 279 = .ok (.bipush 8, 2) := by decide +kernel
theorem d_Mo_init_281 : decode c_Mo_init 281 = .ok (.newarray .int, 2) := by decide +kernel
theorem d_Mo_init_283 : decode c_Mo_init 283 = .ok (.putfield 113, 3) := by decide +kernel
theorem d_Mo_init_286 : decode c_Mo_init 286 = .ok (.aload_n 0, 1) := by decide +kernel
theorem d_Mo_init_287 : decode c_Mo_init 287 = .ok (.bipush 8, 2) := by decide +kernel
theorem d_Mo_init_289 : decode c_Mo_init 289 = .ok (.newarray .int, 2) := by decide +kernel
theorem d_Mo_init_291 : decode c_Mo_init 291 = .ok (.putfield 116, 3) := by decide +kernel
theorem d_Mo_init_294 : decode c_Mo_init 294 = .ok (.aload_n 0, 1) := by decide +kernel
theorem d_Mo_init_295 : decode c_Mo_init 295 = .ok (.bipush 8, 2) := by decide +kernel
theorem d_Mo_init_297 : decode c_Mo_init 297 = .ok (.newarray .int, 2) := by decide +kernel
theorem d_Mo_init_299 : decode c_Mo_init 299 = .ok (.putfield 119, 3) := by decide +kernel
theorem d_Mo_init_302 : decode c_Mo_init 302 = .ok (.aload_n 0, 1) := by decide +kernel
theorem d_Mo_init_303 : decode c_Mo_init 303 = .ok (.bipush 8, 2) := by decide +kernel
theorem d_Mo_init_305 : decode c_Mo_init 305 = .ok (.newarray .int, 2) := by decide +kernel
theorem d_Mo_init_307 : decode c_Mo_init 307 = .ok (.putfield 122, 3) := by decide +kernel
theorem d_Mo_init_310 : decode c_Mo_init 310 = .ok (.aload_n 0, 1) := by decide +kernel
theorem d_Mo_init_311 : decode c_Mo_init 311 = .ok (.bipush 8, 2) := by decide +kernel
theorem d_Mo_init_313 : decode c_Mo_init 313 = .ok (.newarray .int, 2) := by decide +kernel
theorem d_Mo_init_315 : decode c_Mo_init 315 = .ok (.putfield 125, 3) := by decide +kernel
theorem d_Mo_init_318 : decode c_Mo_init 318 = .ok (.aload_n 0, 1) := by decide +kernel
theorem d_Mo_init_319 : decode c_Mo_init 319 = .ok (.sipush 160, 3) := by decide +kernel
theorem d_Mo_init_322 : decode c_Mo_init 322 = .ok (.newarray .int, 2) := by decide +kernel
theorem d_Mo_init_324 : decode c_Mo_init 324 = .ok (.putfield 128, 3) := by decide +kernel
theorem d_Mo_init_327 : decode c_Mo_init 327 = .ok (.aload_n 0, 1) := by decide +kernel
theorem d_Mo_init_328 : decode c_Mo_init 328 = .ok (.iconst 4, 1) := by decide +kernel
theorem d_Mo_init_329 : decode c_Mo_init 329 = .ok (.newarray .boolean, 2) := by decide +kernel
theorem d_Mo_init_331 : decode c_Mo_init 331 = .ok (.putfield 131, 3) := by decide +kernel
theorem d_Mo_init_334 : decode c_Mo_init 334 = .ok (.aload_n 0, 1) := by decide +kernel
theorem d_Mo_init_335 : decode c_Mo_init 335 = .ok (.iconst 4, 1) := by decide +kernel
theorem d_Mo_init_336 : decode c_Mo_init 336 = .ok (.newarray .int, 2) := by decide +kernel
theorem d_Mo_init_338 : decode c_Mo_init 338 = .ok (.putfield 134, 3) := by decide +kernel
theorem d_Mo_init_341 : decode c_Mo_init 341 = .ok (.aload_n 0, 1) := by decide +kernel
theorem d_Mo_init_342 : decode c_Mo_init 342 = .ok (.iconst 4, 1) := by decide +kernel
theorem d_Mo_init_343 : decode c_Mo_init 343 = .ok (.newarray .boolean, 2) := by decide +kernel
theorem d_Mo_init_345 : decode c_Mo_init 345 = .ok (.putfield 137, 3) := by decide +kernel
theorem d_Mo_init_348 : decode c_Mo_init 348 = .ok (.aload_n 0, 1) := by decide +kernel
theorem d_Mo_init_349 : decode c_Mo_init 349 = .ok (.iconst 4, 1) := by decide +kernel
theorem d_Mo_init_350 : decode c_Mo_init 350 = .ok (.newarray .int, 2) := by decide +kernel
theorem d_Mo_init_352 : decode c_Mo_init 352 = .ok (.putfield 140, 3) := by decide +kernel
theorem d_Mo_init_355 : decode c_Mo_init 355 = .ok (.aload_n 0, 1) := by decide +kernel
theorem d_Mo_init_356 : decode c_Mo_init 356 = .ok (.iconst 4, 1) := by decide +kernel
theorem d_Mo_init_357 : decode c_Mo_init 357 = .ok (.newarray .int, 2) := by decide +kernel
theorem d_Mo_init_359 : decode c_Mo_init 359 = .ok (.putfield 143, 3) := by decide +kernel
theorem d_Mo_init_362 : decode c_Mo_init 362 = .ok (.aload_n 0, 1) := by decide +kernel
theorem d_Mo_init_363 : decode c_Mo_init 363 = .ok (.bipush 80, 2) := by decide +kernel
theorem d_Mo_init_365 : decode c_Mo_init 365 = .ok (.newarray .int, 2) := by decide +kernel
theorem d_Mo_init_367 : decode c_Mo_init 367 = .ok (.putfield 146, 3) := by decide +kernel
theorem d_Mo_init_370 : decode c_Mo_init 370 = .ok (.aload_n 0, 1) := by decide +kernel
theorem d_Mo_init_371 : decode c_Mo_init 371 = .ok (.iconst 4, 1) := by decide +kernel
theorem d_Mo_init_372 : decode c_Mo_init 372 = .ok (.newarray .boolean, 2) := by decide +kernel
theorem d_Mo_init_374 : decode c_Mo_init 374 = .ok (.putfield 149, 3) := by decide +kernel
theorem d_Mo_init_377 : decode c_Mo_init 377 = .ok (.aload_n 0, 1) := by decide +kernel
theorem d_Mo_init_378 : decode c_Mo_init 378 = .ok (.iconst 4, 1) := by decide +kernel
theorem d_Mo_init_379 : decode c_Mo_init 379 = .ok (.newarray .int, 2) := by decide +kernel
theorem d_Mo_init_381 : decode c_Mo_init 381 = .ok (.putfield 152, 3) := by decide +kernel
theorem d_Mo_init_384 : decode c_Mo_init 384 = .ok (.aload_n 0, 1) := by decide +kernel
theorem d_Mo_init_385 : decode c_Mo_init 385 = .ok (.iconst 4, 1) := by decide +kernel
theorem d_Mo_init_386 : decode c_Mo_init 386 = .ok (.newarray .int, 2) := by decide +kernel
theorem d_Mo_init_388 : decode c_Mo_init 388 = .ok (.putfield 155, 3) := by decide +kernel
theorem d_Mo_init_391 : decode c_Mo_init 391 = .ok (.aload_n 0, 1) := by decide +kernel
theorem d_Mo_init_392 : decode c_Mo_init 392 = .ok (.iconst 4, 1) := by decide +kernel
theorem d_Mo_init_393 : decode c_Mo_init 393 = .ok (.newarray .int, 2) := by decide +kernel
theorem d_Mo_init_395 : decode c_Mo_init 395 = .ok (.dup, 1) := by decide +kernel
theorem d_Mo_init_396 : decode c_Mo_init 396 = .ok (.iconst 0, 1) := by decide +kernel
theorem d_Mo_init_397 : decode c_Mo_init 397 = .ok (.iconst (-1), 1) := by decide +kernel
theorem d_Mo_init_398 : decode c_Mo_init 398 = .ok (.iastore, 1) := by decide +kernel
theorem d_Mo_init_399 : decode c_Mo_init 399 = .ok (.dup, 1) := by decide +kernel
theorem d_Mo_init_400 : decode c_Mo_init 400 = .ok (.iconst 1, 1) := by decide +kernel
theorem d_Mo_init_401 : decode c_Mo_init 401 = .ok (.iconst (-1), 1) := by decide +kernel
theorem d_Mo_init_402 : decode c_Mo_init 402 = .ok (.iastore, 1) := by decide +kernel
theorem d_Mo_init_403 : decode c_Mo_init 403 = .ok (.dup, 1) := by decide +kernel
theorem d_Mo_init_404 : decode c_Mo_init 404 = .ok (.iconst 2, 1) := by decide +kernel
theorem d_Mo_init_405 : decode c_Mo_init 405 = .ok (.iconst (-1), 1) := by decide +kernel
theorem d_Mo_init_406 : decode c_Mo_init 406 = .ok (.iastore, 1) := by decide +kernel
theorem d_Mo_init_407 : decode c_Mo_init 407 = .ok (.dup, 1) := by decide +kernel
theorem d_Mo_init_408 : decode c_Mo_init 408 = .ok (.iconst 3, 1) := by decide +kernel
theorem d_Mo_init_409 : decode c_Mo_init 409 = .ok (.iconst (-1), 1) := by decide +kernel
theorem d_Mo_init_410 : decode c_Mo_init 410 = .ok (.iastore, 1) := by decide +kernel
theorem d_Mo_init_411 : decode c_Mo_init 411 = .ok (.putfield 158, 3) := by decide +kernel
theorem d_Mo_init_414 : decode c_Mo_init 414 = .ok (.aload_n 0, 1) := by decide +kernel
theorem d_Mo_init_415 : decode c_Mo_init 415 = .ok (.iconst 4, 1) := by decide +kernel
theorem d_Mo_init_416 : decode c_Mo_init 416 = .ok (.newarray .int, 2) := by decide +kernel
theorem d_Mo_init_418 : decode c_Mo_init 418 = .ok (.dup, 1) := by decide +kernel
theorem d_Mo_init_419 : decode c_Mo_init 419 = .ok (.iconst 0, 1) := by decide +kernel
theorem d_Mo_init_420 : decode c_Mo_init 420 = .ok (.iconst (-1), 1) := by decide +kernel
theorem d_Mo_init_421 : decode c_Mo_init 421 = .ok (.iastore, 1) := by decide +kernel
theorem d_Mo_init_422 : decode c_Mo_init 422 = .ok (.dup, 1) := by decide +kernel
theorem d_Mo_init_423 : decode c_Mo_init 423 = .ok (.iconst 1, 1) := by decide +kernel
theorem d_Mo_init_424 : decode c_Mo_init 424 = .ok (.iconst (-1), 1) := by decide +kernel
theorem d_Mo_init_425 : decode c_Mo_init 425 = .ok (.iastore, 1) := by decide +kernel
theorem d_Mo_init_426 : decode c_Mo_init 426 = .ok (.dup, 1) := by decide +kernel
theorem d_Mo_init_427 : decode c_Mo_init 427 = .ok (.iconst 2, 1) := by decide +kernel
theorem d_Mo_init_428 : decode c_Mo_init 428 = .ok (.iconst (-1), 1) := by decide +kernel
theorem d_Mo_init_429 : decode c_Mo_init 429 = .ok (.iastore, 1) := by decide +kernel
theorem d_Mo_init_430 : decode c_Mo_init 430 = .ok (.dup, 1) := by decide +kernel
theorem d_Mo_init_431 : decode c_Mo_init 431 = .ok (.iconst 3, 1) := by decide +kernel
theorem d_Mo_init_432 : decode c_Mo_init 432 = .ok (.iconst (-1), 1) := by decide +kernel
theorem d_Mo_init_433 : decode c_Mo_init 433 = .ok (.iastore, 1) := by decide +kernel
theorem d_Mo_init_434 : decode c_Mo_init 434 = .ok (.putfield 161, 3) := by decide +kernel
theorem d_Mo_init_437 : decode c_Mo_init 437 = .ok (.aload_n 0, 1) := by decide +kernel
theorem d_Mo_init_438 : decode c_Mo_init 438 = .ok (.iconst 4, 1) := by decide +kernel
theorem d_Mo_init_439 : decode c_Mo_init 439 = .ok (.newarray .int, 2) := by decide +kernel
theorem d_Mo_init_441 : decode c_Mo_init 441 = .ok (.putfield 164, 3) := by decide +kernel
theorem d_Mo_init_444 : decode c_Mo_init 444 = .ok (.aload_n 0, 1) := by decide +kernel
theorem d_Mo_init_445 : decode c_Mo_init 445 = .ok (.iconst 4, 1) := by decide +kernel
theorem d_Mo_init_446 : decode c_Mo_init 446 = .ok (.newarray .int, 2) := by decide +kernel
theorem d_Mo_init_448 : decode c_Mo_init 448 = .ok (.putfield 167, 3) := by decide +kernel
theorem d_Mo_init_451 : decode c_Mo_init 451 = .ok (.aload_n 0, 1) := by decide +kernel
theorem d_Mo_init_452 : decode c_Mo_init 452 = .ok (.iconst 4, 1) := by decide +kernel
theorem d_Mo_init_453 : decode c_Mo_init 453 = .ok (.newarray .int, 2) := by decide +kernel
theorem d_Mo_init_455 : decode c_Mo_init 455 = .ok (.dup, 1) := by decide +kernel
theorem d_Mo_init_456 : decode c_Mo_init 456 = .ok (.iconst 0, 1) := by decide +kernel
theorem d_Mo_init_457 : decode c_Mo_init 457 = .ok (.iconst (-1), 1) := by decide +kernel
theorem d_Mo_init_458 : decode c_Mo_init 458 = .ok (.iastore, 1) := by decide +kernel
theorem d_Mo_init_459 : decode c_Mo_init 459 = .ok (.dup, 1) := by decide +kernel
theorem d_Mo_init_460 : decode c_Mo_init 460 = .ok (.iconst 1, 1) := by decide +kernel
theorem d_Mo_init_461 : decode c_Mo_init 461 = .ok (.iconst (-1), 1) := by decide +kernel
theorem d_Mo_init_462 : decode c_Mo_init 462 = .ok (.iastore, 1) := by decide +kernel
theorem d_Mo_init_463 : decode c_Mo_init 463 = .ok (.dup, 1) := by decide +kernel
theorem d_Mo_init_464 : decode c_Mo_init 464 = .ok (.iconst 2, 1) := by decide +kernel
theorem d_Mo_init_465 : decode c_Mo_init 465 = .ok (.iconst (-1), 1) := by decide +kernel
theorem d_Mo_init_466 : decode c_Mo_init 466 = .ok (.iastore, 1) := by decide +kernel
theorem d_Mo_init_467 : decode c_Mo_init 467 = .ok (.dup, 1) := by decide +kernel
theorem d_Mo_init_468 : decode c_Mo_init 468 = .ok (.iconst 3, 1) := by decide +kernel
theorem d_Mo_init_469 : decode c_Mo_init 469 = .ok (.iconst (-1), 1) := by decide +kernel
theorem d_Mo_init_470 : decode c_Mo_init 470 = .ok (.iastore, 1) := by decide +kernel
theorem d_Mo_init_471 : decode c_Mo_init 471 = .ok (.putfield 170, 3) := by decide +kernel
theorem d_Mo_init_474 : decode c_Mo_init 474 = .ok (.aload_n 0, 1) := by decide +kernel
theorem d_Mo_init_475 : decode c_Mo_init 475 = .ok (.iconst 4, 1) := by decide +kernel
theorem d_Mo_init_476 : decode c_Mo_init 476 = .ok (.newarray .int, 2) := by decide +kernel
theorem d_Mo_init_478 : decode c_Mo_init 478 = .ok (.putfield 173, 3) := by decide +kernel
theorem d_Mo_init_481 : decode c_Mo_init 481 = .ok (.aload_n 0, 1) := by decide +kernel
theorem d_Mo_init_482 : decode c_Mo_init 482 = .ok (.iconst 4, 1) := by decide +kernel
theorem d_Mo_init_483 : decode c_Mo_init 483 = .ok (.newarray .boolean, 2) := by decide +kernel
theorem d_Mo_init_485 : decode c_Mo_init 485 = .ok (.putfield 176, 3) := by decide +kernel
theorem d_Mo_init_488 : decode c_Mo_init 488 = .ok (.aload_n 0, 1) := by decide +kernel
theorem d_Mo_init_489 : decode c_Mo_init 489 = .ok (.iconst 4, 1) := by decide +kernel
theorem d_Mo_init_490 : decode c_Mo_init 490 = .ok (.newarray .int, 2) := by decide +kernel
theorem d_Mo_init_492 : decode c_Mo_init 492 = .ok (.putfield 179, 3) := by decide +kernel
theorem d_Mo_init_495 : decode c_Mo_init 495 = .ok (.aload_n 0, 1) := by decide +kernel
theorem d_Mo_init_496 : decode c_Mo_init 496 = .ok (.iconst 4, 1) := by decide +kernel
theorem d_Mo_init_497 : decode c_Mo_init 497 = .ok (.newarray .int, 2) := by decide +kernel
theorem d_Mo_init_499 : decode c_Mo_init 499 = .ok (.putfield 182, 3) := by decide +kernel
theorem d_Mo_init_502 : decode c_Mo_init 502 = .ok (.aload_n 0, 1) := by decide +kernel
theorem d_Mo_init_503 : decode c_Mo_init 503 = .ok (.bipush 80, 2) := by decide +kernel
theorem d_Mo_init_505 : decode c_Mo_init 505 = .ok (.newarray .int, 2) := by decide +kernel
theorem d_Mo_init_507 : decode c_Mo_init 507 = .ok (.putfield 185, 3) := by decide +kernel
theorem d_Mo_init_510 : decode c_Mo_init 510 = .ok (.aload_n 0, 1) := by decide +kernel
theorem d_Mo_init_511 : decode c_Mo_init 511 = .ok (.iconst 3, 1) := by decide +kernel
theorem d_Mo_init_512 : decode c_Mo_init 512 = .ok (.newarray .int, 2) := by decide +kernel
theorem d_Mo_init_514 : decode c_Mo_init 514 = .ok (.putfield 188, 3) := by decide +kernel
theorem d_Mo_init_517 : decode c_Mo_init 517 = .ok (.aload_n 0, 1) := by decide +kernel
theorem d_Mo_init_518 : decode c_Mo_init 518 = .ok (.bipush 8, 2) := by decide +kernel
theorem d_Mo_init_520 : decode c_Mo_init 520 = .ok (.newarray .int, 2) := by decide +kernel
theorem d_Mo_init_522 : decode c_Mo_init 522 = .ok (.dup, 1) := by decide +kernel
theorem d_Mo_init_523 : decode c_Mo_init 523 = .ok (.iconst 0, 1) := by decide +kernel
theorem d_Mo_init_524 : decode c_Mo_init 524 = .ok (.iconst (-1), 1) := by decide +kernel
theorem d_Mo_init_525 : decode c_Mo_init 525 = .ok (.iastore, 1) := by decide +kernel
theorem d_Mo_init_526 : decode c_Mo_init 526 = .ok (.dup, 1) := by decide +kernel
theorem d_Mo_init_527 : decode c_Mo_init 527 = .ok (.iconst 1, 1) := by decide +kernel
theorem d_Mo_init_528 : decode c_Mo_init 528 = .ok (.iconst (-1), 1) := by decide +kernel
theorem d_Mo_init_529 : decode c_Mo_init 529 = .ok (.iastore, 1) := by decide +kernel
theorem d_Mo_init_530 : decode c_Mo_init 530 = .ok (.dup, 1) := by decide +kernel
theorem d_Mo_init_531 : decode c_Mo_init 531 = .ok (.iconst 2, 1) := by decide +kernel
theorem d_Mo_init_532 : decode c_Mo_init 532 = .ok (.iconst (-1), 1) := by decide +kernel
theorem d_Mo_init_533 : decode c_Mo_init 533 = .ok (.iastore, 1) := by decide +kernel
theorem d_Mo_init_534 : decode c_Mo_init 534 = .ok (.dup, 1) := by decide +kernel
theorem d_Mo_init_535 : decode c_Mo_init 535 = .ok (.iconst 3, 1) := by decide +kernel
theorem d_Mo_init_536 : decode c_Mo_init 536 = .ok (.iconst (-1), 1) := by decide +kernel
theorem d_Mo_init_537 : decode c_Mo_init 537 = .ok (.iastore, 1) := by decide +kernel
theorem d_Mo_init_538 : decode c_Mo_init 538 = .ok (.dup, 1) := by decide +kernel
theorem d_Mo_init_539 : decode c_Mo_init 539 = .ok (.iconst 4, 1) := by decide +kernel
theorem d_Mo_init_540 : decode c_Mo_init 540 = .ok (.iconst (-1), 1) := by decide +kernel
theorem d_Mo_init_541 : decode c_Mo_init 541 = .ok (.iastore, 1) := by decide +kernel
theorem d_Mo_init_542 : decode c_Mo_init 542 = .ok (.dup, 1) := by decide +kernel
theorem d_Mo_init_543 : decode c_Mo_init 543 = .ok (.iconst 5, 1) := by decide +kernel
theorem d_Mo_init_544 : decode c_Mo_init 544 = .ok (.iconst (-1), 1) := by decide +kernel
theorem d_Mo_init_545 : decode c_Mo_init 545 = .ok (.iastore, 1) := by decide +kernel
theorem d_Mo_init_546 : decode c_Mo_init 546 = .ok (.dup, 1) := by decide +kernel
theorem d_Mo_init_547 : decode c_Mo_init 547 = .ok (.bipush 6, 2) := by decide +kernel
theorem d_Mo_init_549 : decode c_Mo_init 549 = .ok (.iconst (-1), 1) := by decide +kernel
theorem d_Mo_init_550 : decode c_Mo_init 550 = .ok (.iastore, 1) := by decide +kernel
theorem d_Mo_init_551 : decode c_Mo_init 551 = .ok (.dup, 1) := by decide +kernel
theorem d_Mo_init_552 : decode c_Mo_init 552 = .ok (.bipush 7, 2) := by decide +kernel
theorem d_Mo_init_554 : decode c_Mo_init 554 = .ok (.iconst (-1), 1) := by decide +kernel
theorem d_Mo_init_555 : decode c_Mo_init 555 = .ok (.iastore, 1) := by decide +kernel
theorem d_Mo_init_556 : decode c_Mo_init 556 = .ok (.putfield 191, 3) := by decide +kernel
theorem d_Mo_init_559 : decode c_Mo_init 559 = .ok (.aload_n 0, 1) := by decide +kernel
theorem d_Mo_init_560 : decode c_Mo_init 560 = .ok (.iload_n 1, 1) := by decide +kernel
theorem d_Mo_init_561 : decode c_Mo_init 561 = .ok (.putfield 194, 3) := by decide +kernel
theorem d_Mo_init_564 : decode c_Mo_init 564 = .ok (.return_, 1) := by decide +kernel
theorem wm_145 : Cond.methodLink "PortGuard$Row" 3 objectInit ∈ pj_W := pj_mem 145 (by decide +kernel) rfl
theorem wm_113 : Cond.instanceMethod objectInit ∈ pj_W := pj_mem 113 (by decide +kernel) rfl
theorem wm_114 : Cond.code objectInit ⟨#[0xb1]⟩ 1 none ∈ pj_W := pj_mem 114 (by decide +kernel) rfl
theorem wm_132 : Cond.arrayClass .int ∈ pj_W := pj_mem 132 (by decide +kernel) rfl
theorem wm_143 : Cond.instanceMethod y_Ro_init ∈ pj_W := pj_mem 143 (by decide +kernel) rfl
theorem wm_144 : Cond.code y_Ro_init c_Ro_init 1 none ∈ pj_W := pj_mem 144 (by decide +kernel) rfl
theorem wm_261 : Cond.methodLink "PortGuard$Datagram" 3 objectInit ∈ pj_W := pj_mem 261 (by decide +kernel) rfl
theorem wm_262 : Cond.classLink "PortGuard$Datagram" 9 "PortGuard$Row" ∈ pj_W := pj_mem 262 (by decide +kernel) rfl
theorem wm_141 : Cond.instantiable "PortGuard$Row" 2 ∈ pj_W := pj_mem 141 (by decide +kernel) rfl
theorem wm_264 : Cond.classLink "PortGuard$Datagram" 18 "PortGuard$Packet" ∈ pj_W := pj_mem 264 (by decide +kernel) rfl
theorem wm_190 : Cond.instantiable "PortGuard$Packet" 2 ∈ pj_W := pj_mem 190 (by decide +kernel) rfl
theorem wm_192 : Cond.instanceMethod y_Pa_init ∈ pj_W := pj_mem 192 (by decide +kernel) rfl
theorem wm_193 : Cond.code y_Pa_init c_Pa_init 1 none ∈ pj_W := pj_mem 193 (by decide +kernel) rfl
theorem wm_120 : Cond.methodLink "PortGuard$Users" 3 objectInit ∈ pj_W := pj_mem 120 (by decide +kernel) rfl
theorem wm_121 : Cond.fieldLink "PortGuard$Users" 9 "PortGuard$Users" "keys" "[I" ∈ pj_W := pj_mem 121 (by decide +kernel) rfl
theorem wm_138 : Cond.methodLink "PortGuard$Mailbox" 3 objectInit ∈ pj_W := pj_mem 138 (by decide +kernel) rfl
theorem wm_139 : Cond.classLink "PortGuard$Mailbox" 18 "PortGuard$Row" ∈ pj_W := pj_mem 139 (by decide +kernel) rfl
theorem wm_188 : Cond.methodLink "PortGuard$Host" 3 objectInit ∈ pj_W := pj_mem 188 (by decide +kernel) rfl
theorem wm_189 : Cond.classLink "PortGuard$Host" 9 "PortGuard$Packet" ∈ pj_W := pj_mem 189 (by decide +kernel) rfl
theorem wm_302 : Cond.methodLink "PortGuard$Session" 1 objectInit ∈ pj_W := pj_mem 302 (by decide +kernel) rfl
theorem wm_252 : Cond.methodLink "PortGuard$Server" 3 objectInit ∈ pj_W := pj_mem 252 (by decide +kernel) rfl
theorem wm_253 : Cond.classLink "PortGuard$Server" 11 "PortGuard$Session" ∈ pj_W := pj_mem 253 (by decide +kernel) rfl
theorem wm_255 : Cond.classLink "PortGuard$Server" 24 "PortGuard$Row" ∈ pj_W := pj_mem 255 (by decide +kernel) rfl
theorem wm_256 : Cond.classLink "PortGuard$Server" 30 "PortGuard$Datagram" ∈ pj_W := pj_mem 256 (by decide +kernel) rfl
theorem wm_257 : Cond.instantiable "PortGuard$Datagram" 7 ∈ pj_W := pj_mem 257 (by decide +kernel) rfl
theorem wm_259 : Cond.instanceMethod y_Da_init ∈ pj_W := pj_mem 259 (by decide +kernel) rfl
theorem wm_260 : Cond.code y_Da_init c_Da_init 1 none ∈ pj_W := pj_mem 260 (by decide +kernel) rfl
theorem wm_296 : Cond.classLink "PortGuard$Server" 40 "PortGuard$Packet" ∈ pj_W := pj_mem 296 (by decide +kernel) rfl
theorem wm_298 : Cond.instantiable "PortGuard$Session" 8 ∈ pj_W := pj_mem 298 (by decide +kernel) rfl
theorem wm_99 : Cond.initialized "PortGuard$Session" ∈ pj_W := pj_mem 99 (by decide +kernel) rfl
theorem wm_300 : Cond.instanceMethod y_Se_init ∈ pj_W := pj_mem 300 (by decide +kernel) rfl
theorem wm_301 : Cond.code y_Se_init c_Se_init 1 none ∈ pj_W := pj_mem 301 (by decide +kernel) rfl
theorem wm_408 : Cond.methodLink "PortGuard$Port" 3 objectInit ∈ pj_W := pj_mem 408 (by decide +kernel) rfl
theorem wm_409 : Cond.classLink "PortGuard$Port" 9 "PortGuard$Packet" ∈ pj_W := pj_mem 409 (by decide +kernel) rfl
theorem wm_415 : Cond.fieldLink "PortGuard$Port" 12 "PortGuard$Port" "last" "LPortGuard$Packet;" ∈ pj_W := pj_mem 415 (by decide +kernel) rfl
theorem wm_417 : Cond.fieldLink "PortGuard$Port" 18 "PortGuard$Port" "asked" "LPortGuard$Packet;" ∈ pj_W := pj_mem 417 (by decide +kernel) rfl
theorem wm_411 : Cond.classLink "PortGuard$Port" 21 "PortGuard$Row" ∈ pj_W := pj_mem 411 (by decide +kernel) rfl
theorem wm_419 : Cond.fieldLink "PortGuard$Port" 24 "PortGuard$Port" "query" "LPortGuard$Row;" ∈ pj_W := pj_mem 419 (by decide +kernel) rfl
theorem wm_413 : Cond.fieldLink "PortGuard$Port" 38 "PortGuard$Port" "number" "I" ∈ pj_W := pj_mem 413 (by decide +kernel) rfl
theorem wm_397 : Cond.methodLink "PortGuard$Switch" 3 objectInit ∈ pj_W := pj_mem 397 (by decide +kernel) rfl
theorem wm_398 : Cond.classLink "PortGuard$Switch" 9 "PortGuard$Port" ∈ pj_W := pj_mem 398 (by decide +kernel) rfl
theorem wm_400 : Cond.classLink "PortGuard$Switch" 21 "PortGuard$Packet" ∈ pj_W := pj_mem 400 (by decide +kernel) rfl
theorem wm_402 : Cond.classLink "PortGuard$Switch" 28 "PortGuard$Datagram" ∈ pj_W := pj_mem 402 (by decide +kernel) rfl
theorem wm_404 : Cond.instantiable "PortGuard$Port" 18 ∈ pj_W := pj_mem 404 (by decide +kernel) rfl
theorem wm_405 : Cond.methodLink "PortGuard$Switch" 46 y_Po_init ∈ pj_W := pj_mem 405 (by decide +kernel) rfl
theorem wm_406 : Cond.instanceMethod y_Po_init ∈ pj_W := pj_mem 406 (by decide +kernel) rfl
theorem wm_407 : Cond.code y_Po_init c_Po_init 2 none ∈ pj_W := pj_mem 407 (by decide +kernel) rfl
theorem wm_485 : Cond.methodLink "PortGuard$Switch" 49 y_Ar_fill ∈ pj_W := pj_mem 485 (by decide +kernel) rfl
theorem wm_486 : Cond.static y_Ar_fill ∈ pj_W := pj_mem 486 (by decide +kernel) rfl
theorem wm_102 : Cond.initialized "java/util/Arrays" ∈ pj_W := pj_mem 102 (by decide +kernel) rfl
theorem wm_487 : Cond.code y_Ar_fill c_Ar_fill 4 none ∈ pj_W := pj_mem 487 (by decide +kernel) rfl
theorem wm_112 : Cond.methodLink "PortGuard" 1 objectInit ∈ pj_W := pj_mem 112 (by decide +kernel) rfl
theorem wm_115 : Cond.classLink "PortGuard" 7 "PortGuard$Users" ∈ pj_W := pj_mem 115 (by decide +kernel) rfl
theorem wm_116 : Cond.instantiable "PortGuard$Users" 2 ∈ pj_W := pj_mem 116 (by decide +kernel) rfl
theorem wm_118 : Cond.instanceMethod y_Us_init ∈ pj_W := pj_mem 118 (by decide +kernel) rfl
theorem wm_119 : Cond.code y_Us_init c_Us_init 1 none ∈ pj_W := pj_mem 119 (by decide +kernel) rfl
theorem wm_133 : Cond.classLink "PortGuard" 16 "PortGuard$Mailbox" ∈ pj_W := pj_mem 133 (by decide +kernel) rfl
theorem wm_134 : Cond.instantiable "PortGuard$Mailbox" 5 ∈ pj_W := pj_mem 134 (by decide +kernel) rfl
theorem wm_135 : Cond.methodLink "PortGuard" 18 y_Ma_init ∈ pj_W := pj_mem 135 (by decide +kernel) rfl
theorem wm_136 : Cond.instanceMethod y_Ma_init ∈ pj_W := pj_mem 136 (by decide +kernel) rfl
theorem wm_137 : Cond.code y_Ma_init c_Ma_init 2 none ∈ pj_W := pj_mem 137 (by decide +kernel) rfl
theorem wm_182 : Cond.classLink "PortGuard" 23 "PortGuard$Host" ∈ pj_W := pj_mem 182 (by decide +kernel) rfl
theorem wm_184 : Cond.instantiable "PortGuard$Host" 15 ∈ pj_W := pj_mem 184 (by decide +kernel) rfl
theorem wm_185 : Cond.methodLink "PortGuard" 29 y_Ho_init ∈ pj_W := pj_mem 185 (by decide +kernel) rfl
theorem wm_186 : Cond.instanceMethod y_Ho_init ∈ pj_W := pj_mem 186 (by decide +kernel) rfl
theorem wm_187 : Cond.code y_Ho_init c_Ho_init 3 none ∈ pj_W := pj_mem 187 (by decide +kernel) rfl
theorem wm_246 : Cond.classLink "PortGuard" 32 "PortGuard$Server" ∈ pj_W := pj_mem 246 (by decide +kernel) rfl
theorem wm_248 : Cond.instantiable "PortGuard$Server" 20 ∈ pj_W := pj_mem 248 (by decide +kernel) rfl
theorem wm_249 : Cond.methodLink "PortGuard" 38 y_Sv_init ∈ pj_W := pj_mem 249 (by decide +kernel) rfl
theorem wm_250 : Cond.instanceMethod y_Sv_init ∈ pj_W := pj_mem 250 (by decide +kernel) rfl
theorem wm_251 : Cond.code y_Sv_init c_Sv_init 6 none ∈ pj_W := pj_mem 251 (by decide +kernel) rfl
theorem wm_392 : Cond.classLink "PortGuard" 41 "PortGuard$Switch" ∈ pj_W := pj_mem 392 (by decide +kernel) rfl
theorem wm_393 : Cond.instantiable "PortGuard$Switch" 10 ∈ pj_W := pj_mem 393 (by decide +kernel) rfl
theorem wm_394 : Cond.methodLink "PortGuard" 43 y_Sw_init ∈ pj_W := pj_mem 394 (by decide +kernel) rfl
theorem wm_395 : Cond.instanceMethod y_Sw_init ∈ pj_W := pj_mem 395 (by decide +kernel) rfl
theorem wm_396 : Cond.code y_Sw_init c_Sw_init 4 none ∈ pj_W := pj_mem 396 (by decide +kernel) rfl
theorem wm_523 : Cond.classLink "PortGuard" 48 "PortGuard$Row" ∈ pj_W := pj_mem 523 (by decide +kernel) rfl
theorem wm_1123 : Cond.methodLink "PortGuardModel" 1 objectInit ∈ pj_W := pj_mem 1123 (by decide +kernel) rfl
theorem wm_1341 : Cond.arrayClass .boolean ∈ pj_W := pj_mem 1341 (by decide +kernel) rfl

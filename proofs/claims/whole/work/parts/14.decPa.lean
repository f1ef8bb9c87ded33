theorem d_Pa_isRight_0 : decode c_Pa_isRight 0 = .ok (.aload_n 0, 1) := by decide +kernel
theorem d_Pa_isRight_1 : decode c_Pa_isRight 1 = .ok (.getfield 9, 3) := by decide +kernel
theorem d_Pa_isRight_4 : decode c_Pa_isRight 4 = .ok (.iconst 3, 1) := by decide +kernel
theorem d_Pa_isRight_5 : decode c_Pa_isRight 5 = .ok (.if_icmp .lt 24, 3) := by decide +kernel
theorem d_Pa_isRight_8 : decode c_Pa_isRight 8 = .ok (.aload_n 0, 1) := by decide +kernel
theorem d_Pa_isRight_9 : decode c_Pa_isRight 9 = .ok (.getfield 9, 3) := by decide +kernel
theorem d_Pa_isRight_12 : decode c_Pa_isRight 12 = .ok (.bipush 20, 2) := by decide +kernel
theorem d_Pa_isRight_14 : decode c_Pa_isRight 14 = .ok (.if_icmp .gt 15, 3) := by decide +kernel
theorem d_Pa_isRight_17 : decode c_Pa_isRight 17 = .ok (.aload_n 0, 1) := by decide +kernel
theorem d_Pa_isRight_18 : decode c_Pa_isRight 18 = .ok (.iconst 2, 1) := by decide +kernel
theorem d_Pa_isRight_19 : decode c_Pa_isRight 19 = .ok (.invokevirtual 15, 3) := by decide +kernel
theorem d_Pa_isRight_22 : decode c_Pa_isRight 22 = .ok (.aload_n 0, 1) := by decide +kernel
theorem d_Pa_isRight_23 : decode c_Pa_isRight 23 = .ok (.getfield 9, 3) := by decide +kernel
theorem d_Pa_isRight_26 : decode c_Pa_isRight 26 = .ok (.if_icmp .eq 5, 3) := by decide +kernel
theorem d_Pa_isRight_29 : decode c_Pa_isRight 29 = .ok (.iconst 0, 1) := by decide +kernel
theorem d_Pa_isRight_30 : decode c_Pa_isRight 30 = .ok (.ireturn, 1) := by decide +kernel
theorem d_Pa_isRight_31 : decode c_Pa_isRight 31 = .ok (.aload_n 0, 1) := by decide +kernel
theorem d_Pa_isRight_32 : decode c_Pa_isRight 32 = .ok (.invokevirtual 19, 3) := by decide +kernel
theorem d_Pa_isRight_35 : decode c_Pa_isRight 35 = .ok (.iconst 1, 1) := by decide +kernel
theorem d_Pa_isRight_36 : decode c_Pa_isRight 36 = .ok (.if_icmp .eq 11, 3) := by decide +kernel
theorem d_Pa_isRight_39 : decode c_Pa_isRight 39 = .ok (.aload_n 0, 1) := by decide +kernel
theorem d_Pa_isRight_40 : decode c_Pa_isRight 40 = .ok (.invokevirtual 19, 3) := by decide +kernel
theorem d_Pa_isRight_43 : decode c_Pa_isRight 43 = .ok (.iconst 2, 1) := by decide +kernel
theorem d_Pa_isRight_44 : decode c_Pa_isRight 44 = .ok (.if_icmp .ne 17, 3) := by decide +kernel
theorem d_Pa_isRight_47 : decode c_Pa_isRight 47 = .ok (.aload_n 0, 1) := by decide +kernel
theorem d_Pa_isRight_48 : decode c_Pa_isRight 48 = .ok (.getfield 9, 3) := by decide +kernel
theorem d_Pa_isRight_51 : decode c_Pa_isRight 51 = .ok (.iconst 3, 1) := by decide +kernel
theorem d_Pa_isRight_52 : decode c_Pa_isRight 52 = .ok (.if_icmp .le 7, 3) := by decide +kernel
theorem d_Pa_isRight_55 : decode c_Pa_isRight 55 = .ok (.iconst 1, 1) := by decide +kernel
theorem d_Pa_isRight_56 : decode c_Pa_isRight 56 = .ok (.goto 4, 3) := by decide +kernel
theorem d_Pa_isRight_59 : decode c_Pa_isRight 59 = .ok (.iconst 0, 1) := by decide +kernel
theorem d_Pa_isRight_60 : decode c_Pa_isRight 60 = .ok (.ireturn, 1) := by decide +kernel
theorem d_Pa_isRight_61 : decode c_Pa_isRight 61 = .ok (.aload_n 0, 1) := by decide +kernel
theorem d_Pa_isRight_62 : decode c_Pa_isRight 62 = .ok (.invokevirtual 19, 3) := by decide +kernel
theorem d_Pa_isRight_65 : decode c_Pa_isRight 65 = .ok (.iconst 3, 1) := by decide +kernel
theorem d_Pa_isRight_66 : decode c_Pa_isRight 66 = .ok (.if_icmp .eq 11, 3) := by decide +kernel
theorem d_Pa_isRight_69 : decode c_Pa_isRight 69 = .ok (.aload_n 0, 1) := by decide +kernel
theorem d_Pa_isRight_70 : decode c_Pa_isRight 70 = .ok (.invokevirtual 19, 3) := by decide +kernel
theorem d_Pa_isRight_73 : decode c_Pa_isRight 73 = .ok (.iconst 4, 1) := by decide +kernel
theorem d_Pa_isRight_74 : decode c_Pa_isRight 74 = .ok (.if_icmp .ne 15, 3) := by decide +kernel
theorem d_Pa_isRight_77 : decode c_Pa_isRight 77 = .ok (.aload_n 0, 1) := by decide +kernel
theorem d_Pa_isRight_78 : decode c_Pa_isRight 78 = .ok (.getfield 9, 3) := by decide +kernel
theorem d_Pa_isRight_81 : decode c_Pa_isRight 81 = .ok (.iconst 3, 1) := by decide +kernel
theorem d_Pa_isRight_82 : decode c_Pa_isRight 82 = .ok (.if_icmp .ne 7, 3) := by decide +kernel
theorem d_Pa_isRight_85 : decode c_Pa_isRight 85 = .ok (.iconst 1, 1) := by decide +kernel
theorem d_Pa_isRight_86 : decode c_Pa_isRight 86 = .ok (.goto 4, 3) := by decide +kernel
theorem d_Pa_isRight_89 : decode c_Pa_isRight 89 = .ok (.iconst 0, 1) := by decide +kernel
theorem d_Pa_isRight_90 : decode c_Pa_isRight 90 = .ok (.ireturn, 1) := by decide +kernel
theorem d_Pa_code_0 : decode c_Pa_code 0 = .ok (.aload_n 0, 1) := by decide +kernel
theorem d_Pa_code_1 : decode c_Pa_code 1 = .ok (.iconst 0, 1) := by decide +kernel
theorem d_Pa_code_2 : decode c_Pa_code 2 = .ok (.invokevirtual 15, 3) := by decide +kernel
theorem d_Pa_code_5 : decode c_Pa_code 5 = .ok (.ireturn, 1) := by decide +kernel
theorem d_Pa_id_0 : decode c_Pa_id 0 = .ok (.aload_n 0, 1) := by decide +kernel
theorem d_Pa_id_1 : decode c_Pa_id 1 = .ok (.iconst 1, 1) := by decide +kernel
theorem d_Pa_id_2 : decode c_Pa_id 2 = .ok (.invokevirtual 15, 3) := by decide +kernel
theorem d_Pa_id_5 : decode c_Pa_id 5 = .ok (.ireturn, 1) := by decide +kernel
theorem d_Pa_type_0 : decode c_Pa_type 0 = .ok (.aload_n 0, 1) := by decide +kernel
theorem d_Pa_type_1 : decode c_Pa_type 1 = .ok (.iconst 3, 1) := by decide +kernel
theorem d_Pa_type_2 : decode c_Pa_type 2 = .ok (.invokevirtual 15, 3) := by decide +kernel
theorem d_Pa_type_5 : decode c_Pa_type 5 = .ok (.ireturn, 1) := by decide +kernel
theorem d_Pa_dataSize_0 : decode c_Pa_dataSize 0 = .ok (.aload_n 0, 1) := by decide +kernel
theorem d_Pa_dataSize_1 : decode c_Pa_dataSize 1 = .ok (.getfield 9, 3) := by decide +kernel
theorem d_Pa_dataSize_4 : decode c_Pa_dataSize 4 = .ok (.iconst 3, 1) := by decide +kernel
theorem d_Pa_dataSize_5 : decode c_Pa_dataSize 5 = .ok (.isub, 1) := by decide +kernel
theorem d_Pa_dataSize_6 : decode c_Pa_dataSize 6 = .ok (.iconst 1, 1) := by decide +kernel
theorem d_Pa_dataSize_7 : decode c_Pa_dataSize 7 = .ok (.isub, 1) := by decide +kernel
theorem d_Pa_dataSize_8 : decode c_Pa_dataSize 8 = .ok (.ireturn, 1) := by decide +kernel
theorem d_Pa_firstData_0 : decode c_Pa_firstData 0 = .ok (.aload_n 0, 1) := by decide +kernel
theorem d_Pa_firstData_1 : decode c_Pa_firstData 1 = .ok (.iconst 4, 1) := by decide +kernel
theorem d_Pa_firstData_2 : decode c_Pa_firstData 2 = .ok (.invokevirtual 15, 3) := by decide +kernel
theorem d_Pa_firstData_5 : decode c_Pa_firstData 5 = .ok (.ireturn, 1) := by decide +kernel
theorem d_Pa_dataIntAt_0 : decode c_Pa_dataIntAt 0 = .ok (.aload_n 0, 1) := by decide +kernel
theorem d_Pa_dataIntAt_1 : decode c_Pa_dataIntAt 1 = .ok (.iconst 4, 1) := by decide +kernel
theorem d_Pa_dataIntAt_2 : decode c_Pa_dataIntAt 2 = .ok (.iload_n 1, 1) := by decide +kernel
theorem d_Pa_dataIntAt_3 : decode c_Pa_dataIntAt 3 = .ok (.iadd, 1) := by decide +kernel
theorem d_Pa_dataIntAt_4 : decode c_Pa_dataIntAt 4 = .ok (.invokevirtual 23, 3) := by decide +kernel
theorem d_Pa_dataIntAt_7 : decode c_Pa_dataIntAt 7 = .ok (.ireturn, 1) := by decide +kernel
theorem d_Pa_make_0 : decode c_Pa_make 0 = .ok (.aload_n 0, 1) := by decide +kernel
theorem d_Pa_make_1 : decode c_Pa_make 1 = .ok (.invokevirtual 26, 3) := by decide +kernel
theorem d_Pa_make_4 : decode c_Pa_make 4 = .ok (.aload_n 0, 1) := by decide +kernel
theorem d_Pa_make_5 : decode c_Pa_make 5 = .ok (.iload_n 1, 1) := by decide +kernel
theorem d_Pa_make_6 : decode c_Pa_make 6 = .ok (.invokevirtual 29, 3) := by decide +kernel
theorem d_Pa_make_9 : decode c_Pa_make 9 = .ok (.aload_n 0, 1) := by decide +kernel
theorem d_Pa_make_10 : decode c_Pa_make 10 = .ok (.iload_n 2, 1) := by decide +kernel
theorem d_Pa_make_11 : decode c_Pa_make 11 = .ok (.invokevirtual 29, 3) := by decide +kernel
theorem d_Pa_make_14 : decode c_Pa_make 14 = .ok (.aload_n 0, 1) := by decide +kernel
theorem d_Pa_make_15 : decode c_Pa_make 15 = .ok (.iconst 3, 1) := by decide +kernel
theorem d_Pa_make_16 : decode c_Pa_make 16 = .ok (.invokevirtual 29, 3) := by decide +kernel
theorem d_Pa_make_19 : decode c_Pa_make 19 = .ok (.return_, 1) := by decide +kernel
theorem d_Pa_open_0 : decode c_Pa_open 0 = .ok (.aload_n 0, 1) := by decide +kernel
theorem d_Pa_open_1 : decode c_Pa_open 1 = .ok (.invokevirtual 26, 3) := by decide +kernel
theorem d_Pa_open_4 : decode c_Pa_open 4 = .ok (.aload_n 0, 1) := by decide +kernel
theorem d_Pa_open_5 : decode c_Pa_open 5 = .ok (.iload_n 1, 1) := by decide +kernel
theorem d_Pa_open_6 : decode c_Pa_open 6 = .ok (.invokevirtual 29, 3) := by decide +kernel
theorem d_Pa_open_9 : decode c_Pa_open 9 = .ok (.aload_n 0, 1) := by decide +kernel
theorem d_Pa_open_10 : decode c_Pa_open 10 = .ok (.iload_n 2, 1) := by decide +kernel
theorem d_Pa_open_11 : decode c_Pa_open 11 = .ok (.invokevirtual 29, 3) := by decide +kernel
theorem d_Pa_open_14 : decode c_Pa_open 14 = .ok (.aload_n 0, 1) := by decide +kernel
theorem d_Pa_open_15 : decode c_Pa_open 15 = .ok (.iconst 0, 1) := by decide +kernel
theorem d_Pa_open_16 : decode c_Pa_open 16 = .ok (.invokevirtual 29, 3) := by decide +kernel
theorem d_Pa_open_19 : decode c_Pa_open 19 = .ok (.aload_n 0, 1) := by decide +kernel
theorem d_Pa_open_20 : decode c_Pa_open 20 = .ok (.iload_n 3, 1) := by decide +kernel
theorem d_Pa_open_21 : decode c_Pa_open 21 = .ok (.invokevirtual 29, 3) := by decide +kernel
theorem d_Pa_open_24 : decode c_Pa_open 24 = .ok (.return_, 1) := by decide +kernel
theorem d_Pa_setLength_0 : decode c_Pa_setLength 0 = .ok (.aload_n 0, 1) := by decide +kernel
theorem d_Pa_setLength_1 : decode c_Pa_setLength 1 = .ok (.iconst 2, 1) := by decide +kernel
theorem d_Pa_setLength_2 : decode c_Pa_setLength 2 = .ok (.aload_n 0, 1) := by decide +kernel
theorem d_Pa_setLength_3 : decode c_Pa_setLength 3 = .ok (.getfield 9, 3) := by decide +kernel
theorem d_Pa_setLength_6 : decode c_Pa_setLength 6 = .ok (.invokevirtual 33, 3) := by decide +kernel
theorem d_Pa_setLength_9 : decode c_Pa_setLength 9 = .ok (.return_, 1) := by decide +kernel
theorem d_Pa_readFrame_0 : decode c_Pa_readFrame 0 = .ok (.aload_n 0, 1) := by decide +kernel
theorem d_Pa_readFrame_1 : decode c_Pa_readFrame 1 = .ok (.invokevirtual 26, 3) := by decide +kernel
theorem d_Pa_readFrame_4 : decode c_Pa_readFrame 4 = .ok (.aload_n 1, 1) := by decide +kernel
theorem d_Pa_readFrame_5 : decode c_Pa_readFrame 5 = .ok (.getfield 37, 3) := by decide +kernel
theorem d_Pa_readFrame_8 : decode c_Pa_readFrame 8 = .ok (.iconst 1, 1) := by decide +kernel
theorem d_Pa_readFrame_9 : decode c_Pa_readFrame 9 = .ok (.if_icmp .ne 27, 3) := by decide +kernel
theorem d_Pa_readFrame_12 : decode c_Pa_readFrame 12 = .ok (.aload_n 1, 1) := by decide +kernel
theorem d_Pa_readFrame_13 : decode c_Pa_readFrame 13 = .ok (.iconst 0, 1) := by decide +kernel
theorem d_Pa_readFrame_14 : decode c_Pa_readFrame 14 = .ok (.invokevirtual 38, 3) := by decide +kernel
theorem d_Pa_readFrame_17 : decode c_Pa_readFrame 17 = .ok (.iconst 1, 1) := by decide +kernel
theorem d_Pa_readFrame_18 : decode c_Pa_readFrame 18 = .ok (.if_icmp .eq 12, 3) := by decide +kernel
theorem d_Pa_readFrame_21 : decode c_Pa_readFrame 21 = .ok (.aload_n 1, 1) := by decide +kernel
theorem d_Pa_readFrame_22 : decode c_Pa_readFrame 22 = .ok (.iconst 0, 1) := by decide +kernel
theorem d_Pa_readFrame_23 : decode c_Pa_readFrame 23 = .ok (.invokevirtual 38, 3) := by decide +kernel
theorem d_Pa_readFrame_26 : decode c_Pa_readFrame 26 = .ok (.iconst 2, 1) := by decide +kernel
theorem d_Pa_readFrame_27 : decode c_Pa_readFrame 27 = .ok (.if_icmp .ne 9, 3) := by decide +kernel
theorem d_Pa_readFrame_30 : decode c_Pa_readFrame 30 = .ok (.aload_n 1, 1) := by decide +kernel
theorem d_Pa_readFrame_31 : decode c_Pa_readFrame 31 = .ok (.iconst 0, 1) := by decide +kernel
theorem d_Pa_readFrame_32 : decode c_Pa_readFrame 32 = .ok (.invokevirtual 38, 3) := by decide +kernel
theorem d_Pa_readFrame_35 : decode c_Pa_readFrame 35 = .ok (.ireturn, 1) := by decide +kernel
theorem d_Pa_readFrame_36 : decode c_Pa_readFrame 36 = .ok (.aload_n 1, 1) := by decide +kernel
theorem d_Pa_readFrame_37 : decode c_Pa_readFrame 37 = .ok (.iconst 0, 1) := by decide +kernel
theorem d_Pa_readFrame_38 : decode c_Pa_readFrame 38 = .ok (.invokevirtual 38, 3) := by decide +kernel
theorem d_Pa_readFrame_41 : decode c_Pa_readFrame 41 = .ok (.ifCond .eq 5, 3) := by decide +kernel
theorem d_Pa_readFrame_44 : decode c_Pa_readFrame 44 = .ok (.iconst (-1), 1) := by decide +kernel
theorem d_Pa_readFrame_45 : decode c_Pa_readFrame 45 = .ok (.ireturn, 1) := by decide +kernel
theorem d_Pa_readFrame_46 : decode c_Pa_readFrame 46 = .ok (.aload_n 0, 1) := by decide +kernel
theorem d_Pa_readFrame_47 : decode c_Pa_readFrame 47 = .ok (.aload_n 1, 1) := by decide +kernel
theorem d_Pa_readFrame_48 : decode c_Pa_readFrame 48 = .ok (.iconst 1, 1) := by decide +kernel
theorem d_Pa_readFrame_49 : decode c_Pa_readFrame 49 = .ok (.aload_n 1, 1) := by decide +kernel
theorem d_Pa_readFrame_50 : decode c_Pa_readFrame 50 = .ok (.getfield 37, 3) := by decide +kernel
theorem d_Pa_readFrame_53 : decode c_Pa_readFrame 53 = .ok (.iconst 1, 1) := by decide +kernel
theorem d_Pa_readFrame_54 : decode c_Pa_readFrame 54 = .ok (.isub, 1) := by decide +kernel
theorem d_Pa_readFrame_55 : decode c_Pa_readFrame 55 = .ok (.invokevirtual 39, 3) := by decide +kernel
theorem d_Pa_readFrame_58 : decode c_Pa_readFrame 58 = .ok (.aload_n 0, 1) := by decide +kernel
theorem d_Pa_readFrame_59 : decode c_Pa_readFrame 59 = .ok (.invokevirtual 43, 3) := by decide +kernel
theorem d_Pa_readFrame_62 : decode c_Pa_readFrame 62 = .ok (.ifCond .eq 7, 3) := by decide +kernel
theorem d_Pa_readFrame_65 : decode c_Pa_readFrame 65 = .ok (.iconst 0, 1) := by decide +kernel
theorem d_Pa_readFrame_66 : decode c_Pa_readFrame 66 = .ok (.goto 4, 3) := by decide +kernel
theorem d_Pa_readFrame_69 : decode c_Pa_readFrame 69 = .ok (.iconst (-1), 1) := by decide +kernel
theorem d_Pa_readFrame_70 : decode c_Pa_readFrame 70 = .ok (.ireturn, 1) := by decide +kernel

theorem d_Mo_begun_0 : decode c_Mo_begun 0 = .ok (.aload_n 0, 1) := by decide +kernel
theorem d_Mo_begun_1 : decode c_Mo_begun 1 = .ok (.ldc 198, 2) := by decide +kernel
theorem d_Mo_begun_3 : decode c_Mo_begun 3 = .ok (.putfield 199, 3) := by decide +kernel
theorem d_Mo_begun_6 : decode c_Mo_begun 6 = .ok (.return_, 1) := by decide +kernel
theorem d_Mo_add_0 : decode c_Mo_add 0 = .ok (.aload_n 0, 1) := by decide +kernel
theorem d_Mo_add_1 : decode c_Mo_add 1 = .ok (.aload_n 0, 1) := by decide +kernel
theorem d_Mo_add_2 : decode c_Mo_add 2 = .ok (.getfield 199, 3) := by decide +kernel
theorem d_Mo_add_5 : decode c_Mo_add 5 = .ok (.iload_n 1, 1) := by decide +kernel
theorem d_Mo_add_6 : decode c_Mo_add 6 = .ok (.ixor, 1) := by decide +kernel
theorem d_Mo_add_7 : decode c_Mo_add 7 = .ok (.ldc 202, 2) := by decide +kernel
theorem d_Mo_add_9 : decode c_Mo_add 9 = .ok (.imul, 1) := by decide +kernel
theorem d_Mo_add_10 : decode c_Mo_add 10 = .ok (.putfield 199, 3) := by decide +kernel
theorem d_Mo_add_13 : decode c_Mo_add 13 = .ok (.return_, 1) := by decide +kernel
theorem d_Mo_addInt_0 : decode c_Mo_addInt 0 = .ok (.bipush 24, 2) := by decide +kernel
theorem d_Mo_addInt_2 : decode c_Mo_addInt 2 = .ok (.istore_n 2, 1) := by decide +kernel
theorem d_Mo_addInt_3 : decode c_Mo_addInt 3 = .ok (.iload_n 2, 1) := by decide +kernel
theorem d_Mo_addInt_4 : decode c_Mo_addInt 4 = .ok (.ifCond .lt 20, 3) := by decide +kernel
theorem d_Mo_addInt_7 : decode c_Mo_addInt 7 = .ok (.aload_n 0, 1) := by decide +kernel
theorem d_Mo_addInt_8 : decode c_Mo_addInt 8 = .ok (.iload_n 1, 1) := by decide +kernel
theorem d_Mo_addInt_9 : decode c_Mo_addInt 9 = .ok (.iload_n 2, 1) := by decide +kernel
theorem d_Mo_addInt_10 : decode c_Mo_addInt 10 = .ok (.ishr, 1) := by decide +kernel
theorem d_Mo_addInt_11 : decode c_Mo_addInt 11 = .ok (.sipush 255, 3) := by decide +kernel
theorem d_Mo_addInt_14 : decode c_Mo_addInt 14 = .ok (.iand, 1) := by decide +kernel
theorem d_Mo_addInt_15 : decode c_Mo_addInt 15 = .ok (.invokevirtual 203, 3) := by decide +kernel
theorem d_Mo_addInt_18 : decode c_Mo_addInt 18 = .ok (.iinc 2 (-8), 3) := by decide +kernel
theorem d_Mo_addInt_21 : decode c_Mo_addInt 21 = .ok (.goto (-18), 3) := by decide +kernel
theorem d_Mo_addInt_24 : decode c_Mo_addInt 24 = .ok (.return_, 1) := by decide +kernel
theorem d_Mo_sum_0 : decode c_Mo_sum 0 = .ok (.aload_n 0, 1) := by decide +kernel
theorem d_Mo_sum_1 : decode c_Mo_sum 1 = .ok (.getfield 199, 3) := by decide +kernel
theorem d_Mo_sum_4 : decode c_Mo_sum 4 = .ok (.aload_n 0, 1) := by decide +kernel
theorem d_Mo_sum_5 : decode c_Mo_sum 5 = .ok (.getfield 199, 3) := by decide +kernel
theorem d_Mo_sum_8 : decode c_Mo_sum 8 = .ok (.bipush 15, 2) := by decide +kernel
theorem d_Mo_sum_10 : decode c_Mo_sum 10 = .ok (.iushr, 1) := by decide +kernel
theorem d_Mo_sum_11 : decode c_Mo_sum 11 = .ok (.ixor, 1) := by decide +kernel
theorem d_Mo_sum_12 : decode c_Mo_sum 12 = .ok (.ireturn, 1) := by decide +kernel
theorem d_Mo_mixed_0 : decode c_Mo_mixed 0 = .ok (.aload_n 0, 1) := by decide +kernel
theorem d_Mo_mixed_1 : decode c_Mo_mixed 1 = .ok (.invokevirtual 207, 3) := by decide +kernel
theorem d_Mo_mixed_4 : decode c_Mo_mixed 4 = .ok (.aload_n 0, 1) := by decide +kernel
theorem d_Mo_mixed_5 : decode c_Mo_mixed 5 = .ok (.iload_n 1, 1) := by decide +kernel
theorem d_Mo_mixed_6 : decode c_Mo_mixed 6 = .ok (.invokevirtual 210, 3) := by decide +kernel
theorem d_Mo_mixed_9 : decode c_Mo_mixed 9 = .ok (.aload_n 0, 1) := by decide +kernel
theorem d_Mo_mixed_10 : decode c_Mo_mixed 10 = .ok (.iload_n 2, 1) := by decide +kernel
theorem d_Mo_mixed_11 : decode c_Mo_mixed 11 = .ok (.invokevirtual 203, 3) := by decide +kernel
theorem d_Mo_mixed_14 : decode c_Mo_mixed 14 = .ok (.aload_n 0, 1) := by decide +kernel
theorem d_Mo_mixed_15 : decode c_Mo_mixed 15 = .ok (.iload_n 3, 1) := by decide +kernel
theorem d_Mo_mixed_16 : decode c_Mo_mixed 16 = .ok (.invokevirtual 210, 3) := by decide +kernel
theorem d_Mo_mixed_19 : decode c_Mo_mixed 19 = .ok (.aload_n 0, 1) := by decide +kernel
theorem d_Mo_mixed_20 : decode c_Mo_mixed 20 = .ok (.invokevirtual 213, 3) := by decide +kernel
theorem d_Mo_mixed_23 : decode c_Mo_mixed 23 = .ok (.ireturn, 1) := by decide +kernel
theorem d_Mo_proved_0 : decode c_Mo_proved 0 = .ok (.aload_n 0, 1) := by decide +kernel
theorem d_Mo_proved_1 : decode c_Mo_proved 1 = .ok (.invokevirtual 207, 3) := by decide +kernel
theorem d_Mo_proved_4 : decode c_Mo_proved 4 = .ok (.aload_n 0, 1) := by decide +kernel
theorem d_Mo_proved_5 : decode c_Mo_proved 5 = .ok (.iload_n 1, 1) := by decide +kernel
theorem d_Mo_proved_6 : decode c_Mo_proved 6 = .ok (.invokevirtual 203, 3) := by decide +kernel
theorem d_Mo_proved_9 : decode c_Mo_proved 9 = .ok (.aload_n 0, 1) := by decide +kernel
theorem d_Mo_proved_10 : decode c_Mo_proved 10 = .ok (.iload_n 2, 1) := by decide +kernel
theorem d_Mo_proved_11 : decode c_Mo_proved 11 = .ok (.invokevirtual 210, 3) := by decide +kernel
theorem d_Mo_proved_14 : decode c_Mo_proved 14 = .ok (.aload_n 0, 1) := by decide +kernel
theorem d_Mo_proved_15 : decode c_Mo_proved 15 = .ok (.iload_n 3, 1) := by decide +kernel
theorem d_Mo_proved_16 : decode c_Mo_proved 16 = .ok (.invokevirtual 210, 3) := by decide +kernel
theorem d_Mo_proved_19 : decode c_Mo_proved 19 = .ok (.aload_n 0, 1) := by decide +kernel
theorem d_Mo_proved_20 : decode c_Mo_proved 20 = .ok (.invokevirtual 213, 3) := by decide +kernel
theorem d_Mo_proved_23 : decode c_Mo_proved 23 = .ok (.ireturn, 1) := by decide +kernel
theorem d_Mo_outer_0 : decode c_Mo_outer 0 = .ok (.aload_n 0, 1) := by decide +kernel
theorem d_Mo_outer_1 : decode c_Mo_outer 1 = .ok (.invokevirtual 207, 3) := by decide +kernel
theorem d_Mo_outer_4 : decode c_Mo_outer 4 = .ok (.aload_n 0, 1) := by decide +kernel
theorem d_Mo_outer_5 : decode c_Mo_outer 5 = .ok (.iload_n 1, 1) := by decide +kernel
theorem d_Mo_outer_6 : decode c_Mo_outer 6 = .ok (.invokevirtual 210, 3) := by decide +kernel
theorem d_Mo_outer_9 : decode c_Mo_outer 9 = .ok (.aload_n 0, 1) := by decide +kernel
theorem d_Mo_outer_10 : decode c_Mo_outer 10 = .ok (.bipush 92, 2) := by decide +kernel
theorem d_Mo_outer_12 : decode c_Mo_outer 12 = .ok (.invokevirtual 203, 3) := by decide +kernel
theorem d_Mo_outer_15 : decode c_Mo_outer 15 = .ok (.aload_n 0, 1) := by decide +kernel
theorem d_Mo_outer_16 : decode c_Mo_outer 16 = .ok (.iload_n 2, 1) := by decide +kernel
theorem d_Mo_outer_17 : decode c_Mo_outer 17 = .ok (.invokevirtual 210, 3) := by decide +kernel
theorem d_Mo_outer_20 : decode c_Mo_outer 20 = .ok (.aload_n 0, 1) := by decide +kernel
theorem d_Mo_outer_21 : decode c_Mo_outer 21 = .ok (.invokevirtual 213, 3) := by decide +kernel
theorem d_Mo_outer_24 : decode c_Mo_outer 24 = .ok (.ireturn, 1) := by decide +kernel
theorem d_Mo_mac_0 : decode c_Mo_mac 0 = .ok (.aload_n 0, 1) := by decide +kernel
theorem d_Mo_mac_1 : decode c_Mo_mac 1 = .ok (.invokevirtual 207, 3) := by decide +kernel
theorem d_Mo_mac_4 : decode c_Mo_mac 4 = .ok (.aload_n 0, 1) := by decide +kernel
theorem d_Mo_mac_5 : decode c_Mo_mac 5 = .ok (.iload_n 1, 1) := by decide +kernel
theorem d_Mo_mac_6 : decode c_Mo_mac 6 = .ok (.invokevirtual 210, 3) := by decide +kernel
theorem d_Mo_mac_9 : decode c_Mo_mac 9 = .ok (.aload_n 0, 1) := by decide +kernel
theorem d_Mo_mac_10 : decode c_Mo_mac 10 = .ok (.bipush 54, 2) := by decide +kernel
theorem d_Mo_mac_12 : decode c_Mo_mac 12 = .ok (.invokevirtual 203, 3) := by decide +kernel
theorem d_Mo_mac_15 : decode c_Mo_mac 15 = .ok (.aload_n 0, 1) := by decide +kernel
theorem d_Mo_mac_16 : decode c_Mo_mac 16 = .ok (.iload_n 2, 1) := by decide +kernel
theorem d_Mo_mac_17 : decode c_Mo_mac 17 = .ok (.invokevirtual 203, 3) := by decide +kernel
theorem d_Mo_mac_20 : decode c_Mo_mac 20 = .ok (.aload_n 0, 1) := by decide +kernel
theorem d_Mo_mac_21 : decode c_Mo_mac 21 = .ok (.iload_n 3, 1) := by decide +kernel
theorem d_Mo_mac_22 : decode c_Mo_mac 22 = .ok (.invokevirtual 210, 3) := by decide +kernel
theorem d_Mo_mac_25 : decode c_Mo_mac 25 = .ok (.aload_n 0, 1) := by decide +kernel
theorem d_Mo_mac_26 : decode c_Mo_mac 26 = .ok (.iload 4, 2) := by decide +kernel
theorem d_Mo_mac_28 : decode c_Mo_mac 28 = .ok (.invokevirtual 210, 3) := by decide +kernel
theorem d_Mo_mac_31 : decode c_Mo_mac 31 = .ok (.aload_n 0, 1) := by decide +kernel
theorem d_Mo_mac_32 : decode c_Mo_mac 32 = .ok (.iload_n 1, 1) := by decide +kernel
theorem d_Mo_mac_33 : decode c_Mo_mac 33 = .ok (.aload_n 0, 1) := by decide +kernel
theorem d_Mo_mac_34 : decode c_Mo_mac 34 = .ok (.invokevirtual 213, 3) := by decide +kernel
theorem d_Mo_mac_37 : decode c_Mo_mac 37 = .ok (.invokevirtual 217, 3) := by decide +kernel
theorem d_Mo_mac_40 : decode c_Mo_mac 40 = .ok (.ireturn, 1) := by decide +kernel
theorem d_Mo_byteWith_0 : decode c_Mo_byteWith 0 = .ok (.iload_n 1, 1) := by decide +kernel
theorem d_Mo_byteWith_1 : decode c_Mo_byteWith 1 = .ok (.iconst 3, 1) := by decide +kernel
theorem d_Mo_byteWith_2 : decode c_Mo_byteWith 2 = .ok (.if_icmp .lt 25, 3) := by decide +kernel
theorem d_Mo_byteWith_5 : decode c_Mo_byteWith 5 = .ok (.iload_n 1, 1) := by decide +kernel
theorem d_Mo_byteWith_6 : decode c_Mo_byteWith 6 = .ok (.bipush 7, 2) := by decide +kernel
theorem d_Mo_byteWith_8 : decode c_Mo_byteWith 8 = .ok (.if_icmp .ge 19, 3) := by decide +kernel
theorem d_Mo_byteWith_11 : decode c_Mo_byteWith 11 = .ok (.iload_n 2, 1) := by decide +kernel
theorem d_Mo_byteWith_12 : decode c_Mo_byteWith 12 = .ok (.bipush 8, 2) := by decide +kernel
theorem d_Mo_byteWith_14 : decode c_Mo_byteWith 14 = .ok (.bipush 6, 2) := by decide +kernel
theorem d_Mo_byteWith_16 : decode c_Mo_byteWith 16 = .ok (.iload_n 1, 1) := by decide +kernel
theorem d_Mo_byteWith_17 : decode c_Mo_byteWith 17 = .ok (.isub, 1) := by decide +kernel
theorem d_Mo_byteWith_18 : decode c_Mo_byteWith 18 = .ok (.imul, 1) := by decide +kernel
theorem d_Mo_byteWith_19 : decode c_Mo_byteWith 19 = .ok (.ishr, 1) := by decide +kernel
theorem d_Mo_byteWith_20 : decode c_Mo_byteWith 20 = .ok (.sipush 255, 3) := by decide +kernel
theorem d_Mo_byteWith_23 : decode c_Mo_byteWith 23 = .ok (.iand, 1) := by decide +kernel
theorem d_Mo_byteWith_24 : decode c_Mo_byteWith 24 = .ok (.goto 9, 3) := by decide +kernel
theorem d_Mo_byteWith_27 : decode c_Mo_byteWith 27 = .ok (.aload_n 0, 1) := by decide +kernel
theorem d_Mo_byteWith_28 : decode c_Mo_byteWith 28 = .ok (.getfield 35, 3) := by decide +kernel
theorem d_Mo_byteWith_31 : decode c_Mo_byteWith 31 = .ok (.iload_n 1, 1) := by decide +kernel
theorem d_Mo_byteWith_32 : decode c_Mo_byteWith 32 = .ok (.iaload, 1) := by decide +kernel
theorem d_Mo_byteWith_33 : decode c_Mo_byteWith 33 = .ok (.ireturn, 1) := by decide +kernel
theorem d_Mo_sealWith_0 : decode c_Mo_sealWith 0 = .ok (.aload_n 0, 1) := by decide +kernel
theorem d_Mo_sealWith_1 : decode c_Mo_sealWith 1 = .ok (.invokevirtual 207, 3) := by decide +kernel
theorem d_Mo_sealWith_4 : decode c_Mo_sealWith 4 = .ok (.aload_n 0, 1) := by decide +kernel
theorem d_Mo_sealWith_5 : decode c_Mo_sealWith 5 = .ok (.aload_n 0, 1) := by decide +kernel
theorem d_Mo_sealWith_6 : decode c_Mo_sealWith 6 = .ok (.getfield 194, 3) := by decide +kernel
theorem d_Mo_sealWith_9 : decode c_Mo_sealWith 9 = .ok (.invokevirtual 210, 3) := by decide +kernel
theorem d_Mo_sealWith_12 : decode c_Mo_sealWith 12 = .ok (.aload_n 0, 1) := by decide +kernel
theorem d_Mo_sealWith_13 : decode c_Mo_sealWith 13 = .ok (.bipush 54, 2) := by decide +kernel
theorem d_Mo_sealWith_15 : decode c_Mo_sealWith 15 = .ok (.invokevirtual 203, 3) := by decide +kernel
theorem d_Mo_sealWith_18 : decode c_Mo_sealWith 18 = .ok (.iconst 0, 1) := by decide +kernel
theorem d_Mo_sealWith_19 : decode c_Mo_sealWith 19 = .ok (.istore_n 2, 1) := by decide +kernel
theorem d_Mo_sealWith_20 : decode c_Mo_sealWith 20 = .ok (.iload_n 2, 1) := by decide +kernel
theorem d_Mo_sealWith_21 : decode c_Mo_sealWith 21 = .ok (.aload_n 0, 1) := by decide +kernel
theorem d_Mo_sealWith_22 : decode c_Mo_sealWith 22 = .ok (.getfield 221, 3) := by decide +kernel
theorem d_Mo_sealWith_25 : decode c_Mo_sealWith 25 = .ok (.if_icmp .ge 41, 3) := by decide +kernel
theorem d_Mo_sealWith_28 : decode c_Mo_sealWith 28 = .ok (.aload_n 0, 1) := by decide +kernel
theorem d_Mo_sealWith_29 : decode c_Mo_sealWith 29 = .ok (.iload_n 2, 1) := by decide +kernel
theorem d_Mo_sealWith_30 : decode c_Mo_sealWith 30 = .ok (.aload_n 0, 1) := by decide +kernel
theorem d_Mo_sealWith_31 : decode c_Mo_sealWith 31 = .ok (.getfield 224, 3) := by decide +kernel
theorem d_Mo_sealWith_34 : decode c_Mo_sealWith 34 = .ok (.if_icmp .lt 17, 3) := by decide +kernel
theorem d_Mo_sealWith_37 : decode c_Mo_sealWith 37 = .ok (.iload_n 2, 1) := by decide +kernel
theorem d_Mo_sealWith_38 : decode c_Mo_sealWith 38 = .ok (.aload_n 0, 1) := by decide +kernel
theorem d_Mo_sealWith_39 : decode c_Mo_sealWith 39 = .ok (.getfield 224, 3) := by decide +kernel
theorem d_Mo_sealWith_42 : decode c_Mo_sealWith 42 = .ok (.iconst 4, 1) := by decide +kernel
theorem d_Mo_sealWith_43 : decode c_Mo_sealWith 43 = .ok (.iadd, 1) := by decide +kernel
theorem d_Mo_sealWith_44 : decode c_Mo_sealWith 44 = .ok (.if_icmp .ge 7, 3) := by decide +kernel
theorem d_Mo_sealWith_47 : decode c_Mo_sealWith 47 = .ok (.iconst 0, 1) := by decide +kernel
theorem d_Mo_sealWith_48 : decode c_Mo_sealWith 48 = .ok (.goto 9, 3) := by decide +kernel
theorem d_Mo_sealWith_51 : decode c_Mo_sealWith 51 = .ok (.aload_n 0, 1) := by decide +kernel
theorem d_Mo_sealWith_52 : decode c_Mo_sealWith 52 = .ok (.iload_n 2, 1) := by decide +kernel
theorem d_Mo_sealWith_53 : decode c_Mo_sealWith 53 = .ok (.iload_n 1, 1) := by decide +kernel
theorem d_Mo_sealWith_54 : decode c_Mo_sealWith 54 = .ok (.invokevirtual 227, 3) := by decide +kernel
theorem d_Mo_sealWith_57 : decode c_Mo_sealWith 57 = .ok (.invokevirtual 203, 3) := by decide +kernel
theorem d_Mo_sealWith_60 : decode c_Mo_sealWith 60 = .ok (.iinc 2 1, 3) := by decide +kernel
theorem d_Mo_sealWith_63 : decode c_Mo_sealWith 63 = .ok (.goto (-43), 3) := by decide +kernel
theorem d_Mo_sealWith_66 : decode c_Mo_sealWith 66 = .ok (.aload_n 0, 1) := by decide +kernel
theorem d_Mo_sealWith_67 : decode c_Mo_sealWith 67 = .ok (.aload_n 0, 1) := by decide +kernel
theorem d_Mo_sealWith_68 : decode c_Mo_sealWith 68 = .ok (.getfield 194, 3) := by decide +kernel
theorem d_Mo_sealWith_71 : decode c_Mo_sealWith 71 = .ok (.aload_n 0, 1) := by decide +kernel
theorem d_Mo_sealWith_72 : decode c_Mo_sealWith 72 = .ok (.invokevirtual 213, 3) := by decide +kernel
theorem d_Mo_sealWith_75 : decode c_Mo_sealWith 75 = .ok (.invokevirtual 217, 3) := by decide +kernel
theorem d_Mo_sealWith_78 : decode c_Mo_sealWith 78 = .ok (.ireturn, 1) := by decide +kernel
theorem d_Mo_authWith_0 : decode c_Mo_authWith 0 = .ok (.aload_n 0, 1) := by decide +kernel
theorem d_Mo_authWith_1 : decode c_Mo_authWith 1 = .ok (.invokevirtual 207, 3) := by decide +kernel
theorem d_Mo_authWith_4 : decode c_Mo_authWith 4 = .ok (.iconst 0, 1) := by decide +kernel
theorem d_Mo_authWith_5 : decode c_Mo_authWith 5 = .ok (.istore_n 2, 1) := by decide +kernel
theorem d_Mo_authWith_6 : decode c_Mo_authWith 6 = .ok (.iload_n 2, 1) := by decide +kernel
theorem d_Mo_authWith_7 : decode c_Mo_authWith 7 = .ok (.aload_n 0, 1) := by decide +kernel
theorem d_Mo_authWith_8 : decode c_Mo_authWith 8 = .ok (.getfield 221, 3) := by decide +kernel
theorem d_Mo_authWith_11 : decode c_Mo_authWith 11 = .ok (.if_icmp .ge 19, 3) := by decide +kernel
theorem d_Mo_authWith_14 : decode c_Mo_authWith 14 = .ok (.aload_n 0, 1) := by decide +kernel
theorem d_Mo_authWith_15 : decode c_Mo_authWith 15 = .ok (.aload_n 0, 1) := by decide +kernel
theorem d_Mo_authWith_16 : decode c_Mo_authWith 16 = .ok (.iload_n 2, 1) := by decide +kernel
theorem d_Mo_authWith_17 : decode c_Mo_authWith 17 = .ok (.iload_n 1, 1) := by decide +kernel
theorem d_Mo_authWith_18 : decode c_Mo_authWith 18 = .ok (.invokevirtual 227, 3) := by decide +kernel
theorem d_Mo_authWith_21 : decode c_Mo_authWith 21 = .ok (.invokevirtual 203, 3) := by decide +kernel
theorem d_Mo_authWith_24 : decode c_Mo_authWith 24 = .ok (.iinc 2 1, 3) := by decide +kernel
theorem d_Mo_authWith_27 : decode c_Mo_authWith 27 = .ok (.goto (-21), 3) := by decide +kernel
theorem d_Mo_authWith_30 : decode c_Mo_authWith 30 = .ok (.aload_n 0, 1) := by decide +kernel
theorem d_Mo_authWith_31 : decode c_Mo_authWith 31 = .ok (.aload_n 0, 1) := by decide +kernel
theorem d_Mo_authWith_32 : decode c_Mo_authWith 32 = .ok (.getfield 194, 3) := by decide +kernel
theorem d_Mo_authWith_35 : decode c_Mo_authWith 35 = .ok (.invokevirtual 210, 3) := by decide +kernel
theorem d_Mo_authWith_38 : decode c_Mo_authWith 38 = .ok (.aload_n 0, 1) := by decide +kernel
theorem d_Mo_authWith_39 : decode c_Mo_authWith 39 = .ok (.invokevirtual 213, 3) := by decide +kernel
theorem d_Mo_authWith_42 : decode c_Mo_authWith 42 = .ok (.ireturn, 1) := by decide +kernel
theorem d_Mo_authOf_0 : decode c_Mo_authOf 0 = .ok (.aload_n 0, 1) := by decide +kernel
theorem d_Mo_authOf_1 : decode c_Mo_authOf 1 = .ok (.invokevirtual 207, 3) := by decide +kernel
theorem d_Mo_authOf_4 : decode c_Mo_authOf 4 = .ok (.aload_n 0, 1) := by decide +kernel
theorem d_Mo_authOf_5 : decode c_Mo_authOf 5 = .ok (.aload_n 0, 1) := by decide +kernel
theorem d_Mo_authOf_6 : decode c_Mo_authOf 6 = .ok (.getfield 194, 3) := by decide +kernel
theorem d_Mo_authOf_9 : decode c_Mo_authOf 9 = .ok (.invokevirtual 210, 3) := by decide +kernel
theorem d_Mo_authOf_12 : decode c_Mo_authOf 12 = .ok (.aload_n 0, 1) := by decide +kernel
theorem d_Mo_authOf_13 : decode c_Mo_authOf 13 = .ok (.iload_n 1, 1) := by decide +kernel
theorem d_Mo_authOf_14 : decode c_Mo_authOf 14 = .ok (.invokevirtual 210, 3) := by decide +kernel
theorem d_Mo_authOf_17 : decode c_Mo_authOf 17 = .ok (.aload_n 0, 1) := by decide +kernel
theorem d_Mo_authOf_18 : decode c_Mo_authOf 18 = .ok (.invokevirtual 213, 3) := by decide +kernel
theorem d_Mo_authOf_21 : decode c_Mo_authOf 21 = .ok (.ireturn, 1) := by decide +kernel
theorem d_Mo_intAt_0 : decode c_Mo_intAt 0 = .ok (.aload_n 0, 1) := by decide +kernel
theorem d_Mo_intAt_1 : decode c_Mo_intAt 1 = .ok (.getfield 35, 3) := by decide +kernel
theorem d_Mo_intAt_4 : decode c_Mo_intAt 4 = .ok (.iload_n 1, 1) := by decide +kernel
theorem d_Mo_intAt_5 : decode c_Mo_intAt 5 = .ok (.iaload, 1) := by decide +kernel
theorem d_Mo_intAt_6 : decode c_Mo_intAt 6 = .ok (.bipush 24, 2) := by decide +kernel
theorem d_Mo_intAt_8 : decode c_Mo_intAt 8 = .ok (.ishl, 1) := by decide +kernel
theorem d_Mo_intAt_9 : decode c_Mo_intAt 9 = .ok (.aload_n 0, 1) := by decide +kernel
theorem d_Mo_intAt_10 : decode c_Mo_intAt 10 = .ok (.getfield 35, 3) := by decide +kernel
theorem d_Mo_intAt_13 : decode c_Mo_intAt 13 = .ok (.iload_n 1, 1) := by decide +kernel
theorem d_Mo_intAt_14 : decode c_Mo_intAt 14 = .ok (.iconst 1, 1) := by decide +kernel
theorem d_Mo_intAt_15 : decode c_Mo_intAt 15 = .ok (.iadd, 1) := by decide +kernel
theorem d_Mo_intAt_16 : decode c_Mo_intAt 16 = .ok (.iaload, 1) := by decide +kernel
theorem d_Mo_intAt_17 : decode c_Mo_intAt 17 = .ok (.bipush 16, 2) := by decide +kernel
theorem d_Mo_intAt_19 : decode c_Mo_intAt 19 = .ok (.ishl, 1) := by decide +kernel
theorem d_Mo_intAt_20 : decode c_Mo_intAt 20 = .ok (.ior, 1) := by decide +kernel
theorem d_Mo_intAt_21 : decode c_Mo_intAt 21 = .ok (.aload_n 0, 1) := by decide +kernel
theorem d_Mo_intAt_22 : decode c_Mo_intAt 22 = .ok (.getfield 35, 3) := by decide +kernel
theorem d_Mo_intAt_25 : decode c_Mo_intAt 25 = .ok (.iload_n 1, 1) := by decide +kernel
theorem d_Mo_intAt_26 : decode c_Mo_intAt 26 = .ok (.iconst 2, 1) := by decide +kernel
theorem d_Mo_intAt_27 : decode c_Mo_intAt 27 = .ok (.iadd, 1) := by decide +kernel
theorem d_Mo_intAt_28 : decode c_Mo_intAt 28 = .ok (.iaload, 1) := by decide +kernel
theorem d_Mo_intAt_29 : decode c_Mo_intAt 29 = .ok (.bipush 8, 2) := by decide +kernel
theorem d_Mo_intAt_31 : decode c_Mo_intAt 31 = .ok (.ishl, 1) := by decide +kernel
theorem d_Mo_intAt_32 : decode c_Mo_intAt 32 = .ok (.ior, 1) := by decide +kernel
theorem d_Mo_intAt_33 : decode c_Mo_intAt 33 = .ok (.aload_n 0, 1) := by decide +kernel
theorem d_Mo_intAt_34 : decode c_Mo_intAt 34 = .ok (.getfield 35, 3) := by decide +kernel
theorem d_Mo_intAt_37 : decode c_Mo_intAt 37 = .ok (.iload_n 1, 1) := by decide +kernel
theorem d_Mo_intAt_38 : decode c_Mo_intAt 38 = .ok (.iconst 3, 1) := by decide +kernel
theorem d_Mo_intAt_39 : decode c_Mo_intAt 39 = .ok (.iadd, 1) := by decide +kernel
theorem d_Mo_intAt_40 : decode c_Mo_intAt 40 = .ok (.iaload, 1) := by decide +kernel
theorem d_Mo_intAt_41 : decode c_Mo_intAt 41 = .ok (.ior, 1) := by decide +kernel
theorem d_Mo_intAt_42 : decode c_Mo_intAt 42 = .ok (.ireturn, 1) := by decide +kernel
theorem d_Mo_packetInt_0 : decode c_Mo_packetInt 0 = .ok (.aload_n 0, 1) := by decide +kernel
theorem d_Mo_packetInt_1 : decode c_Mo_packetInt 1 = .ok (.getfield 38, 3) := by decide +kernel
theorem d_Mo_packetInt_4 : decode c_Mo_packetInt 4 = .ok (.iload_n 1, 1) := by decide +kernel
theorem d_Mo_packetInt_5 : decode c_Mo_packetInt 5 = .ok (.iaload, 1) := by decide +kernel
theorem d_Mo_packetInt_6 : decode c_Mo_packetInt 6 = .ok (.bipush 24, 2) := by decide +kernel
theorem d_Mo_packetInt_8 : decode c_Mo_packetInt 8 = .ok (.ishl, 1) := by decide +kernel
theorem d_Mo_packetInt_9 : decode c_Mo_packetInt 9 = .ok (.aload_n 0, 1) := by decide +kernel
theorem d_Mo_packetInt_10 : decode c_Mo_packetInt 10 = .ok (.getfield 38, 3) := by decide +kernel
theorem d_Mo_packetInt_13 : decode c_Mo_packetInt 13 = .ok (.iload_n 1, 1) := by decide +kernel
theorem d_Mo_packetInt_14 : decode c_Mo_packetInt 14 = .ok (.iconst 1, 1) := by decide +kernel
theorem d_Mo_packetInt_15 : decode c_Mo_packetInt 15 = .ok (.iadd, 1) := by decide +kernel
theorem d_Mo_packetInt_16 : decode c_Mo_packetInt 16 = .ok (.iaload, 1) := by decide +kernel
theorem d_Mo_packetInt_17 : decode c_Mo_packetInt 17 = .ok (.bipush 16, 2) := by decide +kernel
theorem d_Mo_packetInt_19 : decode c_Mo_packetInt 19 = .ok (.ishl, 1) := by decide +kernel
theorem d_Mo_packetInt_20 : decode c_Mo_packetInt 20 = .ok (.ior, 1) := by decide +kernel
theorem d_Mo_packetInt_21 : decode c_Mo_packetInt 21 = .ok (.aload_n 0, 1) := by decide +kernel
theorem d_Mo_packetInt_22 : decode c_Mo_packetInt 22 = .ok (.getfield 38, 3) := by decide +kernel
theorem d_Mo_packetInt_25 : decode c_Mo_packetInt 25 = .ok (.iload_n 1, 1) := by decide +kernel
theorem d_Mo_packetInt_26 : decode c_Mo_packetInt 26 = .ok (.iconst 2, 1) := by decide +kernel
theorem d_Mo_packetInt_27 : decode c_Mo_packetInt 27 = .ok (.iadd, 1) := by decide +kernel
theorem d_Mo_packetInt_28 : decode c_Mo_packetInt 28 = .ok (.iaload, 1) := by decide +kernel
theorem d_Mo_packetInt_29 : decode c_Mo_packetInt 29 = .ok (.bipush 8, 2) := by decide +kernel
theorem d_Mo_packetInt_31 : decode c_Mo_packetInt 31 = .ok (.ishl, 1) := by decide +kernel
theorem d_Mo_packetInt_32 : decode c_Mo_packetInt 32 = .ok (.ior, 1) := by decide +kernel
theorem d_Mo_packetInt_33 : decode c_Mo_packetInt 33 = .ok (.aload_n 0, 1) := by decide +kernel
theorem d_Mo_packetInt_34 : decode c_Mo_packetInt 34 = .ok (.getfield 38, 3) := by decide +kernel
theorem d_Mo_packetInt_37 : decode c_Mo_packetInt 37 = .ok (.iload_n 1, 1) := by decide +kernel
theorem d_Mo_packetInt_38 : decode c_Mo_packetInt 38 = .ok (.iconst 3, 1) := by decide +kernel
theorem d_Mo_packetInt_39 : decode c_Mo_packetInt 39 = .ok (.iadd, 1) := by decide +kernel
theorem d_Mo_packetInt_40 : decode c_Mo_packetInt 40 = .ok (.iaload, 1) := by decide +kernel
theorem d_Mo_packetInt_41 : decode c_Mo_packetInt 41 = .ok (.ior, 1) := by decide +kernel
theorem d_Mo_packetInt_42 : decode c_Mo_packetInt 42 = .ok (.ireturn, 1) := by decide +kernel
theorem d_Mo_toRow_0 : decode c_Mo_toRow 0 = .ok (.aload_n 0, 1) := by decide +kernel
theorem d_Mo_toRow_1 : decode c_Mo_toRow 1 = .ok (.getfield 35, 3) := by decide +kernel
theorem d_Mo_toRow_4 : decode c_Mo_toRow 4 = .ok (.aload_n 0, 1) := by decide +kernel
theorem d_Mo_toRow_5 : decode c_Mo_toRow 5 = .ok (.getfield 221, 3) := by decide +kernel
theorem d_Mo_toRow_8 : decode c_Mo_toRow 8 = .ok (.iload_n 1, 1) := by decide +kernel
theorem d_Mo_toRow_9 : decode c_Mo_toRow 9 = .ok (.sipush 255, 3) := by decide +kernel
theorem d_Mo_toRow_12 : decode c_Mo_toRow 12 = .ok (.iand, 1) := by decide +kernel
theorem d_Mo_toRow_13 : decode c_Mo_toRow 13 = .ok (.iastore, 1) := by decide +kernel
theorem d_Mo_toRow_14 : decode c_Mo_toRow 14 = .ok (.aload_n 0, 1) := by decide +kernel
theorem d_Mo_toRow_15 : decode c_Mo_toRow 15 = .ok (.dup, 1) := by decide +kernel
theorem d_Mo_toRow_16 : decode c_Mo_toRow 16 = .ok (.getfield 221, 3) := by decide +kernel
theorem d_Mo_toRow_19 : decode c_Mo_toRow 19 = .ok (.iconst 1, 1) := by decide +kernel
theorem d_Mo_toRow_20 : decode c_Mo_toRow 20 = .ok (.iadd, 1) := by decide +kernel
theorem d_Mo_toRow_21 : decode c_Mo_toRow 21 = .ok (.putfield 221, 3) := by decide +kernel
theorem d_Mo_toRow_24 : decode c_Mo_toRow 24 = .ok (.return_, 1) := by decide +kernel
theorem d_Mo_intoRow_0 : decode c_Mo_intoRow 0 = .ok (.iconst 0, 1) := by decide +kernel
theorem d_Mo_intoRow_1 : decode c_Mo_intoRow 1 = .ok (.istore_n 3, 1) := by decide +kernel
theorem d_Mo_intoRow_2 : decode c_Mo_intoRow 2 = .ok (.iload_n 3, 1) := by decide +kernel
theorem d_Mo_intoRow_3 : decode c_Mo_intoRow 3 = .ok (.iconst 4, 1) := by decide +kernel
theorem d_Mo_intoRow_4 : decode c_Mo_intoRow 4 = .ok (.if_icmp .ge 30, 3) := by decide +kernel
theorem d_Mo_intoRow_7 : decode c_Mo_intoRow 7 = .ok (.aload_n 0, 1) := by decide +kernel
theorem d_Mo_intoRow_8 : decode c_Mo_intoRow 8 = .ok (.getfield 35, 3) := by decide +kernel
theorem d_Mo_intoRow_11 : decode c_Mo_intoRow 11 = .ok (.iload_n 1, 1) := by decide +kernel
theorem d_Mo_intoRow_12 : decode c_Mo_intoRow 12 = .ok (.iload_n 3, 1) := by decide +kernel
theorem d_Mo_intoRow_13 : decode c_Mo_intoRow 13 = .ok (.iadd, 1) := by decide +kernel
theorem d_Mo_intoRow_14 : decode c_Mo_intoRow 14 = .ok (.iload_n 2, 1) := by decide +kernel
theorem d_Mo_intoRow_15 : decode c_Mo_intoRow 15 = .ok (.bipush 24, 2) := by decide +kernel
theorem d_Mo_intoRow_17 : decode c_Mo_intoRow 17 = .ok (.bipush 8, 2) := by decide +kernel
theorem d_Mo_intoRow_19 : decode c_Mo_intoRow 19 = .ok (.iload_n 3, 1) := by decide +kernel
theorem d_Mo_intoRow_20 : decode c_Mo_intoRow 20 = .ok (.imul, 1) := by decide +kernel
theorem d_Mo_intoRow_21 : decode c_Mo_intoRow 21 = .ok (.isub, 1) := by decide +kernel
theorem d_Mo_intoRow_22 : decode c_Mo_intoRow 22 = .ok (.ishr, 1) := by decide +kernel
theorem d_Mo_intoRow_23 : decode c_Mo_intoRow 23 = .ok (.sipush 255, 3) := by decide +kernel
theorem d_Mo_intoRow_26 : decode c_Mo_intoRow 26 = .ok (.iand, 1) := by decide +kernel
theorem d_Mo_intoRow_27 : decode c_Mo_intoRow 27 = .ok (.iastore, 1) := by decide +kernel
theorem d_Mo_intoRow_28 : decode c_Mo_intoRow 28 = .ok (.iinc 3 1, 3) := by decide +kernel
theorem d_Mo_intoRow_31 : decode c_Mo_intoRow 31 = .ok (.goto (-29), 3) := by decide +kernel
theorem d_Mo_intoRow_34 : decode c_Mo_intoRow 34 = .ok (.return_, 1) := by decide +kernel
theorem d_Mo_send_0 : decode c_Mo_send 0 = .ok (.aload_n 0, 1) := by decide +kernel
theorem d_Mo_send_1 : decode c_Mo_send 1 = .ok (.getfield 230, 3) := by decide +kernel
theorem d_Mo_send_4 : decode c_Mo_send 4 = .ok (.bipush 40, 2) := by decide +kernel
theorem d_Mo_send_6 : decode c_Mo_send 6 = .ok (.if_icmp .ne 4, 3) := by decide +kernel
theorem d_Mo_send_9 : decode c_Mo_send 9 = .ok (.return_, 1) := by decide +kernel
theorem d_Mo_send_10 : decode c_Mo_send 10 = .ok (.aload_n 0, 1) := by decide +kernel
theorem d_Mo_send_11 : decode c_Mo_send 11 = .ok (.getfield 20, 3) := by decide +kernel
theorem d_Mo_send_14 : decode c_Mo_send 14 = .ok (.aload_n 0, 1) := by decide +kernel
theorem d_Mo_send_15 : decode c_Mo_send 15 = .ok (.getfield 230, 3) := by decide +kernel
theorem d_Mo_send_18 : decode c_Mo_send 18 = .ok (.iload_n 1, 1) := by decide +kernel
theorem d_Mo_send_19 : decode c_Mo_send 19 = .ok (.iastore, 1) := by decide +kernel
theorem d_Mo_send_20 : decode c_Mo_send 20 = .ok (.aload_n 0, 1) := by decide +kernel
theorem d_Mo_send_21 : decode c_Mo_send 21 = .ok (.getfield 23, 3) := by decide +kernel
theorem d_Mo_send_24 : decode c_Mo_send 24 = .ok (.aload_n 0, 1) := by decide +kernel
theorem d_Mo_send_25 : decode c_Mo_send 25 = .ok (.getfield 230, 3) := by decide +kernel
theorem d_Mo_send_28 : decode c_Mo_send 28 = .ok (.iload_n 2, 1) := by decide +kernel
theorem d_Mo_send_29 : decode c_Mo_send 29 = .ok (.iastore, 1) := by decide +kernel
theorem d_Mo_send_30 : decode c_Mo_send 30 = .ok (.aload_n 0, 1) := by decide +kernel
theorem d_Mo_send_31 : decode c_Mo_send 31 = .ok (.getfield 26, 3) := by decide +kernel
theorem d_Mo_send_34 : decode c_Mo_send 34 = .ok (.aload_n 0, 1) := by decide +kernel
theorem d_Mo_send_35 : decode c_Mo_send 35 = .ok (.getfield 230, 3) := by decide +kernel
theorem d_Mo_send_38 : decode c_Mo_send 38 = .ok (.aload_n 0, 1) := by decide +kernel
theorem d_Mo_send_39 : decode c_Mo_send 39 = .ok (.getfield 221, 3) := by decide +kernel
theorem d_Mo_send_42 : decode c_Mo_send 42 = .ok (.iastore, 1) := by decide +kernel
theorem d_Mo_send_43 : decode c_Mo_send 43 = .ok (.iconst 0, 1) := by decide +kernel
theorem d_Mo_send_44 : decode c_Mo_send 44 = .ok (.istore_n 3, 1) := by decide +kernel
theorem d_Mo_send_45 : decode c_Mo_send 45 = .ok (.iload_n 3, 1) := by decide +kernel
theorem d_Mo_send_46 : decode c_Mo_send 46 = .ok (.aload_n 0, 1) := by decide +kernel
theorem d_Mo_send_47 : decode c_Mo_send 47 = .ok (.getfield 221, 3) := by decide +kernel
theorem d_Mo_send_50 : decode c_Mo_send 50 = .ok (.if_icmp .ge 29, 3) := by decide +kernel
theorem d_Mo_send_53 : decode c_Mo_send 53 = .ok (.aload_n 0, 1) := by decide +kernel
theorem d_Mo_send_54 : decode c_Mo_send 54 = .ok (.getfield 29, 3) := by decide +kernel
theorem d_Mo_send_57 : decode c_Mo_send 57 = .ok (.bipush 48, 2) := by decide +kernel
theorem d_Mo_send_59 : decode c_Mo_send 59 = .ok (.aload_n 0, 1) := by decide +kernel
theorem d_Mo_send_60 : decode c_Mo_send 60 = .ok (.getfield 230, 3) := by decide +kernel
theorem d_Mo_send_63 : decode c_Mo_send 63 = .ok (.imul, 1) := by decide +kernel
theorem d_Mo_send_64 : decode c_Mo_send 64 = .ok (.iload_n 3, 1) := by decide +kernel
theorem d_Mo_send_65 : decode c_Mo_send 65 = .ok (.iadd, 1) := by decide +kernel
theorem d_Mo_send_66 : decode c_Mo_send 66 = .ok (.aload_n 0, 1) := by decide +kernel
theorem d_Mo_send_67 : decode c_Mo_send 67 = .ok (.getfield 35, 3) := by decide +kernel
theorem d_Mo_send_70 : decode c_Mo_send 70 = .ok (.iload_n 3, 1) := by decide +kernel
theorem d_Mo_send_71 : decode c_Mo_send 71 = .ok (.iaload, 1) := by decide +kernel
theorem d_Mo_send_72 : decode c_Mo_send 72 = .ok (.iastore, 1) := by decide +kernel
theorem d_Mo_send_73 : decode c_Mo_send 73 = .ok (.iinc 3 1, 3) := by decide +kernel
theorem d_Mo_send_76 : decode c_Mo_send 76 = .ok (.goto (-31), 3) := by decide +kernel
theorem d_Mo_send_79 : decode c_Mo_send 79 = .ok (.aload_n 0, 1) := by decide +kernel
theorem d_Mo_send_80 : decode c_Mo_send 80 = .ok (.dup, 1) := by decide +kernel
theorem d_Mo_send_81 : decode c_Mo_send 81 = .ok (.getfield 230, 3) := by decide +kernel
theorem d_Mo_send_84 : decode c_Mo_send 84 = .ok (.iconst 1, 1) := by decide +kernel
theorem d_Mo_send_85 : decode c_Mo_send 85 = .ok (.iadd, 1) := by decide +kernel
theorem d_Mo_send_86 : decode c_Mo_send 86 = .ok (.putfield 230, 3) := by decide +kernel
theorem d_Mo_send_89 : decode c_Mo_send 89 = .ok (.return_, 1) := by decide +kernel
theorem d_Mo_packet_0 : decode c_Mo_packet 0 = .ok (.aload_n 0, 1) := by decide +kernel
theorem d_Mo_packet_1 : decode c_Mo_packet 1 = .ok (.getfield 38, 3) := by decide +kernel
theorem d_Mo_packet_4 : decode c_Mo_packet 4 = .ok (.iconst 0, 1) := by decide +kernel
theorem d_Mo_packet_5 : decode c_Mo_packet 5 = .ok (.iload_n 1, 1) := by decide +kernel
theorem d_Mo_packet_6 : decode c_Mo_packet 6 = .ok (.iastore, 1) := by decide +kernel
theorem d_Mo_packet_7 : decode c_Mo_packet 7 = .ok (.aload_n 0, 1) := by decide +kernel
theorem d_Mo_packet_8 : decode c_Mo_packet 8 = .ok (.getfield 38, 3) := by decide +kernel
theorem d_Mo_packet_11 : decode c_Mo_packet 11 = .ok (.iconst 1, 1) := by decide +kernel
theorem d_Mo_packet_12 : decode c_Mo_packet 12 = .ok (.iload_n 2, 1) := by decide +kernel
theorem d_Mo_packet_13 : decode c_Mo_packet 13 = .ok (.sipush 255, 3) := by decide +kernel
theorem d_Mo_packet_16 : decode c_Mo_packet 16 = .ok (.iand, 1) := by decide +kernel
theorem d_Mo_packet_17 : decode c_Mo_packet 17 = .ok (.iastore, 1) := by decide +kernel
theorem d_Mo_packet_18 : decode c_Mo_packet 18 = .ok (.aload_n 0, 1) := by decide +kernel
theorem d_Mo_packet_19 : decode c_Mo_packet 19 = .ok (.getfield 38, 3) := by decide +kernel
theorem d_Mo_packet_22 : decode c_Mo_packet 22 = .ok (.iconst 3, 1) := by decide +kernel
theorem d_Mo_packet_23 : decode c_Mo_packet 23 = .ok (.iload_n 3, 1) := by decide +kernel
theorem d_Mo_packet_24 : decode c_Mo_packet 24 = .ok (.iastore, 1) := by decide +kernel
theorem d_Mo_packet_25 : decode c_Mo_packet 25 = .ok (.aload_n 0, 1) := by decide +kernel
theorem d_Mo_packet_26 : decode c_Mo_packet 26 = .ok (.iload_n 1, 1) := by decide +kernel
theorem d_Mo_packet_27 : decode c_Mo_packet 27 = .ok (.iconst 3, 1) := by decide +kernel
theorem d_Mo_packet_28 : decode c_Mo_packet 28 = .ok (.if_icmp .ge 7, 3) := by decide +kernel
theorem d_Mo_packet_31 : decode c_Mo_packet 31 = .ok (.iconst 4, 1) := by decide +kernel
theorem d_Mo_packet_32 : decode c_Mo_packet 32 = .ok (.goto 4, 3) := by decide +kernel
theorem d_Mo_packet_35 : decode c_Mo_packet 35 = .ok (.iconst 3, 1) := by decide +kernel
theorem d_Mo_packet_36 : decode c_Mo_packet 36 = .ok (.putfield 233, 3) := by decide +kernel
theorem d_Mo_packet_39 : decode c_Mo_packet 39 = .ok (.aload_n 0, 1) := by decide +kernel
theorem d_Mo_packet_40 : decode c_Mo_packet 40 = .ok (.getfield 38, 3) := by decide +kernel
theorem d_Mo_packet_43 : decode c_Mo_packet 43 = .ok (.iconst 2, 1) := by decide +kernel
theorem d_Mo_packet_44 : decode c_Mo_packet 44 = .ok (.aload_n 0, 1) := by decide +kernel
theorem d_Mo_packet_45 : decode c_Mo_packet 45 = .ok (.getfield 233, 3) := by decide +kernel
theorem d_Mo_packet_48 : decode c_Mo_packet 48 = .ok (.iastore, 1) := by decide +kernel
theorem d_Mo_packet_49 : decode c_Mo_packet 49 = .ok (.return_, 1) := by decide +kernel
theorem d_Mo_addData_0 : decode c_Mo_addData 0 = .ok (.aload_n 0, 1) := by decide +kernel
theorem d_Mo_addData_1 : decode c_Mo_addData 1 = .ok (.getfield 38, 3) := by decide +kernel
theorem d_Mo_addData_4 : decode c_Mo_addData 4 = .ok (.aload_n 0, 1) := by decide +kernel
theorem d_Mo_addData_5 : decode c_Mo_addData 5 = .ok (.getfield 233, 3) := by decide +kernel
theorem d_Mo_addData_8 : decode c_Mo_addData 8 = .ok (.iload_n 1, 1) := by decide +kernel
theorem d_Mo_addData_9 : decode c_Mo_addData 9 = .ok (.sipush 255, 3) := by decide +kernel
theorem d_Mo_addData_12 : decode c_Mo_addData 12 = .ok (.iand, 1) := by decide +kernel
theorem d_Mo_addData_13 : decode c_Mo_addData 13 = .ok (.iastore, 1) := by decide +kernel
theorem d_Mo_addData_14 : decode c_Mo_addData 14 = .ok (.aload_n 0, 1) := by decide +kernel
theorem d_Mo_addData_15 : decode c_Mo_addData 15 = .ok (.dup, 1) := by decide +kernel
theorem d_Mo_addData_16 : decode c_Mo_addData 16 = .ok (.getfield 233, 3) := by decide +kernel
theorem d_Mo_addData_19 : decode c_Mo_addData 19 = .ok (.iconst 1, 1) := by decide +kernel
theorem d_Mo_addData_20 : decode c_Mo_addData 20 = .ok (.iadd, 1) := by decide +kernel
theorem d_Mo_addData_21 : decode c_Mo_addData 21 = .ok (.putfield 233, 3) := by decide +kernel
theorem d_Mo_addData_24 : decode c_Mo_addData 24 = .ok (.aload_n 0, 1) := by decide +kernel
theorem d_Mo_addData_25 : decode c_Mo_addData 25 = .ok (.getfield 38, 3) := by decide +kernel
theorem d_Mo_addData_28 : decode c_Mo_addData 28 = .ok (.iconst 2, 1) := by decide +kernel
theorem d_Mo_addData_29 : decode c_Mo_addData 29 = .ok (.aload_n 0, 1) := by decide +kernel
theorem d_Mo_addData_30 : decode c_Mo_addData 30 = .ok (.getfield 233, 3) := by decide +kernel
theorem d_Mo_addData_33 : decode c_Mo_addData 33 = .ok (.iastore, 1) := by decide +kernel
theorem d_Mo_addData_34 : decode c_Mo_addData 34 = .ok (.return_, 1) := by decide +kernel
theorem d_Mo_addDataInt_0 : decode c_Mo_addDataInt 0 = .ok (.bipush 24, 2) := by decide +kernel
theorem d_Mo_addDataInt_2 : decode c_Mo_addDataInt 2 = .ok (.istore_n 2, 1) := by decide +kernel
theorem d_Mo_addDataInt_3 : decode c_Mo_addDataInt 3 = .ok (.iload_n 2, 1) := by decide +kernel
theorem d_Mo_addDataInt_4 : decode c_Mo_addDataInt 4 = .ok (.ifCond .lt 16, 3) := by decide +kernel
theorem d_Mo_addDataInt_7 : decode c_Mo_addDataInt 7 = .ok (.aload_n 0, 1) := by decide +kernel
theorem d_Mo_addDataInt_8 : decode c_Mo_addDataInt 8 = .ok (.iload_n 1, 1) := by decide +kernel
theorem d_Mo_addDataInt_9 : decode c_Mo_addDataInt 9 = .ok (.iload_n 2, 1) := by decide +kernel
theorem d_Mo_addDataInt_10 : decode c_Mo_addDataInt 10 = .ok (.ishr, 1) := by decide +kernel
theorem d_Mo_addDataInt_11 : decode c_Mo_addDataInt 11 = .ok (.invokevirtual 236, 3) := by decide +kernel
theorem d_Mo_addDataInt_14 : decode c_Mo_addDataInt 14 = .ok (.iinc 2 (-8), 3) := by decide +kernel
theorem d_Mo_addDataInt_17 : decode c_Mo_addDataInt 17 = .ok (.goto (-14), 3) := by decide +kernel
theorem d_Mo_addDataInt_20 : decode c_Mo_addDataInt 20 = .ok (.return_, 1) := by decide +kernel
theorem d_Mo_sendFrame_0 : decode c_Mo_sendFrame 0 = .ok (.aload_n 0, 1) := by decide +kernel
theorem d_Mo_sendFrame_1 : decode c_Mo_sendFrame 1 = .ok (.iconst 0, 1) := by decide +kernel
theorem d_Mo_sendFrame_2 : decode c_Mo_sendFrame 2 = .ok (.putfield 221, 3) := by decide +kernel
theorem d_Mo_sendFrame_5 : decode c_Mo_sendFrame 5 = .ok (.aload_n 0, 1) := by decide +kernel
theorem d_Mo_sendFrame_6 : decode c_Mo_sendFrame 6 = .ok (.iconst 0, 1) := by decide +kernel
theorem d_Mo_sendFrame_7 : decode c_Mo_sendFrame 7 = .ok (.invokevirtual 239, 3) := by decide +kernel
theorem d_Mo_sendFrame_10 : decode c_Mo_sendFrame 10 = .ok (.iconst 0, 1) := by decide +kernel
theorem d_Mo_sendFrame_11 : decode c_Mo_sendFrame 11 = .ok (.istore_n 3, 1) := by decide +kernel
theorem d_Mo_sendFrame_12 : decode c_Mo_sendFrame 12 = .ok (.iload_n 3, 1) := by decide +kernel
theorem d_Mo_sendFrame_13 : decode c_Mo_sendFrame 13 = .ok (.aload_n 0, 1) := by decide +kernel
theorem d_Mo_sendFrame_14 : decode c_Mo_sendFrame 14 = .ok (.getfield 233, 3) := by decide +kernel
theorem d_Mo_sendFrame_17 : decode c_Mo_sendFrame 17 = .ok (.if_icmp .ge 19, 3) := by decide +kernel
theorem d_Mo_sendFrame_20 : decode c_Mo_sendFrame 20 = .ok (.aload_n 0, 1) := by decide +kernel
theorem d_Mo_sendFrame_21 : decode c_Mo_sendFrame 21 = .ok (.aload_n 0, 1) := by decide +kernel
theorem d_Mo_sendFrame_22 : decode c_Mo_sendFrame 22 = .ok (.getfield 38, 3) := by decide +kernel
theorem d_Mo_sendFrame_25 : decode c_Mo_sendFrame 25 = .ok (.iload_n 3, 1) := by decide +kernel
theorem d_Mo_sendFrame_26 : decode c_Mo_sendFrame 26 = .ok (.iaload, 1) := by decide +kernel
theorem d_Mo_sendFrame_27 : decode c_Mo_sendFrame 27 = .ok (.invokevirtual 239, 3) := by decide +kernel
theorem d_Mo_sendFrame_30 : decode c_Mo_sendFrame 30 = .ok (.iinc 3 1, 3) := by decide +kernel
theorem d_Mo_sendFrame_33 : decode c_Mo_sendFrame 33 = .ok (.goto (-21), 3) := by decide +kernel
theorem d_Mo_sendFrame_36 : decode c_Mo_sendFrame 36 = .ok (.aload_n 0, 1) := by decide +kernel
theorem d_Mo_sendFrame_37 : decode c_Mo_sendFrame 37 = .ok (.iload_n 1, 1) := by decide +kernel
theorem d_Mo_sendFrame_38 : decode c_Mo_sendFrame 38 = .ok (.iload_n 2, 1) := by decide +kernel
theorem d_Mo_sendFrame_39 : decode c_Mo_sendFrame 39 = .ok (.invokevirtual 242, 3) := by decide +kernel
theorem d_Mo_sendFrame_42 : decode c_Mo_sendFrame 42 = .ok (.return_, 1) := by decide +kernel
theorem d_Mo_rightPacket_0 : decode c_Mo_rightPacket 0 = .ok (.aload_n 0, 1) := by decide +kernel
theorem d_Mo_rightPacket_1 : decode c_Mo_rightPacket 1 = .ok (.getfield 233, 3) := by decide +kernel
theorem d_Mo_rightPacket_4 : decode c_Mo_rightPacket 4 = .ok (.iconst 3, 1) := by decide +kernel
theorem d_Mo_rightPacket_5 : decode c_Mo_rightPacket 5 = .ok (.if_icmp .lt 25, 3) := by decide +kernel
theorem d_Mo_rightPacket_8 : decode c_Mo_rightPacket 8 = .ok (.aload_n 0, 1) := by decide +kernel
theorem d_Mo_rightPacket_9 : decode c_Mo_rightPacket 9 = .ok (.getfield 233, 3) := by decide +kernel
theorem d_Mo_rightPacket_12 : decode c_Mo_rightPacket 12 = .ok (.bipush 20, 2) := by decide +kernel
theorem d_Mo_rightPacket_14 : decode c_Mo_rightPacket 14 = .ok (.if_icmp .gt 16, 3) := by decide +kernel
theorem d_Mo_rightPacket_17 : decode c_Mo_rightPacket 17 = .ok (.aload_n 0, 1) := by decide +kernel
theorem d_Mo_rightPacket_18 : decode c_Mo_rightPacket 18 = .ok (.getfield 38, 3) := by decide +kernel
theorem d_Mo_rightPacket_21 : decode c_Mo_rightPacket 21 = .ok (.iconst 2, 1) := by decide +kernel
theorem d_Mo_rightPacket_22 : decode c_Mo_rightPacket 22 = .ok (.iaload, 1) := by decide +kernel
theorem d_Mo_rightPacket_23 : decode c_Mo_rightPacket 23 = .ok (.aload_n 0, 1) := by decide +kernel
theorem d_Mo_rightPacket_24 : decode c_Mo_rightPacket 24 = .ok (.getfield 233, 3) := by decide +kernel
theorem d_Mo_rightPacket_27 : decode c_Mo_rightPacket 27 = .ok (.if_icmp .eq 5, 3) := by decide +kernel
theorem d_Mo_rightPacket_30 : decode c_Mo_rightPacket 30 = .ok (.iconst 0, 1) := by decide +kernel
theorem d_Mo_rightPacket_31 : decode c_Mo_rightPacket 31 = .ok (.ireturn, 1) := by decide +kernel
theorem d_Mo_rightPacket_32 : decode c_Mo_rightPacket 32 = .ok (.aload_n 0, 1) := by decide +kernel
theorem d_Mo_rightPacket_33 : decode c_Mo_rightPacket 33 = .ok (.getfield 38, 3) := by decide +kernel
theorem d_Mo_rightPacket_36 : decode c_Mo_rightPacket 36 = .ok (.iconst 0, 1) := by decide +kernel
theorem d_Mo_rightPacket_37 : decode c_Mo_rightPacket 37 = .ok (.iaload, 1) := by decide +kernel
theorem d_Mo_rightPacket_38 : decode c_Mo_rightPacket 38 = .ok (.iconst 1, 1) := by decide +kernel
theorem d_Mo_rightPacket_39 : decode c_Mo_rightPacket 39 = .ok (.if_icmp .eq 13, 3) := by decide +kernel
theorem d_Mo_rightPacket_42 : decode c_Mo_rightPacket 42 = .ok (.aload_n 0, 1) := by decide +kernel
theorem d_Mo_rightPacket_43 : decode c_Mo_rightPacket 43 = .ok (.getfield 38, 3) := by decide +kernel
theorem d_Mo_rightPacket_46 : decode c_Mo_rightPacket 46 = .ok (.iconst 0, 1) := by decide +kernel
theorem d_Mo_rightPacket_47 : decode c_Mo_rightPacket 47 = .ok (.iaload, 1) := by decide +kernel
theorem d_Mo_rightPacket_48 : decode c_Mo_rightPacket 48 = .ok (.iconst 2, 1) := by decide +kernel
theorem d_Mo_rightPacket_49 : decode c_Mo_rightPacket 49 = .ok (.if_icmp .ne 11, 3) := by decide +kernel
theorem d_Mo_rightPacket_52 : decode c_Mo_rightPacket 52 = .ok (.aload_n 0, 1) := by decide +kernel
theorem d_Mo_rightPacket_53 : decode c_Mo_rightPacket 53 = .ok (.getfield 233, 3) := by decide +kernel
theorem d_Mo_rightPacket_56 : decode c_Mo_rightPacket 56 = .ok (.iconst 3, 1) := by decide +kernel
theorem d_Mo_rightPacket_57 : decode c_Mo_rightPacket 57 = .ok (.if_icmp .gt 31, 3) := by decide +kernel
theorem d_Mo_rightPacket_60 : decode c_Mo_rightPacket 60 = .ok (.aload_n 0, 1) := by decide +kernel
theorem d_Mo_rightPacket_61 : decode c_Mo_rightPacket 61 = .ok (.getfield 38, 3) := by decide +kernel
theorem d_Mo_rightPacket_64 : decode c_Mo_rightPacket 64 = .ok (.iconst 0, 1) := by decide +kernel
theorem d_Mo_rightPacket_65 : decode c_Mo_rightPacket 65 = .ok (.iaload, 1) := by decide +kernel
theorem d_Mo_rightPacket_66 : decode c_Mo_rightPacket 66 = .ok (.iconst 3, 1) := by decide +kernel
theorem d_Mo_rightPacket_67 : decode c_Mo_rightPacket 67 = .ok (.if_icmp .eq 13, 3) := by decide +kernel
theorem d_Mo_rightPacket_70 : decode c_Mo_rightPacket 70 = .ok (.aload_n 0, 1) := by decide +kernel
theorem d_Mo_rightPacket_71 : decode c_Mo_rightPacket 71 = .ok (.getfield 38, 3) := by decide +kernel
theorem d_Mo_rightPacket_74 : decode c_Mo_rightPacket 74 = .ok (.iconst 0, 1) := by decide +kernel
theorem d_Mo_rightPacket_75 : decode c_Mo_rightPacket 75 = .ok (.iaload, 1) := by decide +kernel
theorem d_Mo_rightPacket_76 : decode c_Mo_rightPacket 76 = .ok (.iconst 4, 1) := by decide +kernel
theorem d_Mo_rightPacket_77 : decode c_Mo_rightPacket 77 = .ok (.if_icmp .ne 15, 3) := by decide +kernel
theorem d_Mo_rightPacket_80 : decode c_Mo_rightPacket 80 = .ok (.aload_n 0, 1) := by decide +kernel
theorem d_Mo_rightPacket_81 : decode c_Mo_rightPacket 81 = .ok (.getfield 233, 3) := by decide +kernel
theorem d_Mo_rightPacket_84 : decode c_Mo_rightPacket 84 = .ok (.iconst 3, 1) := by decide +kernel
theorem d_Mo_rightPacket_85 : decode c_Mo_rightPacket 85 = .ok (.if_icmp .ne 7, 3) := by decide +kernel
theorem d_Mo_rightPacket_88 : decode c_Mo_rightPacket 88 = .ok (.iconst 1, 1) := by decide +kernel
theorem d_Mo_rightPacket_89 : decode c_Mo_rightPacket 89 = .ok (.goto 4, 3) := by decide +kernel
theorem d_Mo_rightPacket_92 : decode c_Mo_rightPacket 92 = .ok (.iconst 0, 1) := by decide +kernel
theorem d_Mo_rightPacket_93 : decode c_Mo_rightPacket 93 = .ok (.ireturn, 1) := by decide +kernel
theorem d_Mo_frame_0 : decode c_Mo_frame 0 = .ok (.aload_n 0, 1) := by decide +kernel
theorem d_Mo_frame_1 : decode c_Mo_frame 1 = .ok (.getfield 221, 3) := by decide +kernel
theorem d_Mo_frame_4 : decode c_Mo_frame 4 = .ok (.iconst 1, 1) := by decide +kernel
theorem d_Mo_frame_5 : decode c_Mo_frame 5 = .ok (.if_icmp .ne 30, 3) := by decide +kernel
theorem d_Mo_frame_8 : decode c_Mo_frame 8 = .ok (.aload_n 0, 1) := by decide +kernel
theorem d_Mo_frame_9 : decode c_Mo_frame 9 = .ok (.getfield 35, 3) := by decide +kernel
theorem d_Mo_frame_12 : decode c_Mo_frame 12 = .ok (.iconst 0, 1) := by decide +kernel
theorem d_Mo_frame_13 : decode c_Mo_frame 13 = .ok (.iaload, 1) := by decide +kernel
theorem d_Mo_frame_14 : decode c_Mo_frame 14 = .ok (.iconst 1, 1) := by decide +kernel
theorem d_Mo_frame_15 : decode c_Mo_frame 15 = .ok (.if_icmp .eq 13, 3) := by decide +kernel
theorem d_Mo_frame_18 : decode c_Mo_frame 18 = .ok (.aload_n 0, 1) := by decide +kernel
theorem d_Mo_frame_19 : decode c_Mo_frame 19 = .ok (.getfield 35, 3) := by decide +kernel
theorem d_Mo_frame_22 : decode c_Mo_frame 22 = .ok (.iconst 0, 1) := by decide +kernel
theorem d_Mo_frame_23 : decode c_Mo_frame 23 = .ok (.iaload, 1) := by decide +kernel
theorem d_Mo_frame_24 : decode c_Mo_frame 24 = .ok (.iconst 2, 1) := by decide +kernel
theorem d_Mo_frame_25 : decode c_Mo_frame 25 = .ok (.if_icmp .ne 10, 3) := by decide +kernel
theorem d_Mo_frame_28 : decode c_Mo_frame 28 = .ok (.aload_n 0, 1) := by decide +kernel
theorem d_Mo_frame_29 : decode c_Mo_frame 29 = .ok (.getfield 35, 3) := by decide +kernel
theorem d_Mo_frame_32 : decode c_Mo_frame 32 = .ok (.iconst 0, 1) := by decide +kernel
theorem d_Mo_frame_33 : decode c_Mo_frame 33 = .ok (.iaload, 1) := by decide +kernel
theorem d_Mo_frame_34 : decode c_Mo_frame 34 = .ok (.ireturn, 1) := by decide +kernel
theorem d_Mo_frame_35 : decode c_Mo_frame 35 = .ok (.aload_n 0, 1) := by decide +kernel
theorem d_Mo_frame_36 : decode c_Mo_frame 36 = .ok (.iconst 0, 1) := by decide +kernel
theorem d_Mo_frame_37 : decode c_Mo_frame 37 = .ok (.putfield 233, 3) := by decide +kernel
theorem d_Mo_frame_40 : decode c_Mo_frame 40 = .ok (.iconst 1, 1) := by decide +kernel
theorem d_Mo_frame_41 : decode c_Mo_frame 41 = .ok (.istore_n 1, 1) := by decide +kernel
theorem d_Mo_frame_42 : decode c_Mo_frame 42 = .ok (.iload_n 1, 1) := by decide +kernel
theorem d_Mo_frame_43 : decode c_Mo_frame 43 = .ok (.aload_n 0, 1) := by decide +kernel
theorem d_Mo_frame_44 : decode c_Mo_frame 44 = .ok (.getfield 221, 3) := by decide +kernel
theorem d_Mo_frame_47 : decode c_Mo_frame 47 = .ok (.if_icmp .ge 34, 3) := by decide +kernel
theorem d_Mo_frame_50 : decode c_Mo_frame 50 = .ok (.aload_n 0, 1) := by decide +kernel
theorem d_Mo_frame_51 : decode c_Mo_frame 51 = .ok (.getfield 38, 3) := by decide +kernel
theorem d_Mo_frame_54 : decode c_Mo_frame 54 = .ok (.aload_n 0, 1) := by decide +kernel
theorem d_Mo_frame_55 : decode c_Mo_frame 55 = .ok (.getfield 233, 3) := by decide +kernel
theorem d_Mo_frame_58 : decode c_Mo_frame 58 = .ok (.aload_n 0, 1) := by decide +kernel
theorem d_Mo_frame_59 : decode c_Mo_frame 59 = .ok (.getfield 35, 3) := by decide +kernel
theorem d_Mo_frame_62 : decode c_Mo_frame 62 = .ok (.iload_n 1, 1) := by decide +kernel
theorem d_Mo_frame_63 : decode c_Mo_frame 63 = .ok (.iaload, 1) := by decide +kernel
theorem d_Mo_frame_64 : decode c_Mo_frame 64 = .ok (.iastore, 1) := by decide +kernel
theorem d_Mo_frame_65 : decode c_Mo_frame 65 = .ok (.aload_n 0, 1) := by decide +kernel
theorem d_Mo_frame_66 : decode c_Mo_frame 66 = .ok (.dup, 1) := by decide +kernel
theorem d_Mo_frame_67 : decode c_Mo_frame 67 = .ok (.getfield 233, 3) := by decide +kernel
theorem d_Mo_frame_70 : decode c_Mo_frame 70 = .ok (.iconst 1, 1) := by decide +kernel
theorem d_Mo_frame_71 : decode c_Mo_frame 71 = .ok (.iadd, 1) := by decide +kernel
theorem d_Mo_frame_72 : decode c_Mo_frame 72 = .ok (.putfield 233, 3) := by decide +kernel
theorem d_Mo_frame_75 : decode c_Mo_frame 75 = .ok (.iinc 1 1, 3) := by decide +kernel
theorem d_Mo_frame_78 : decode c_Mo_frame 78 = .ok (.goto (-36), 3) := by decide +kernel
theorem d_Mo_frame_81 : decode c_Mo_frame 81 = .ok (.aload_n 0, 1) := by decide +kernel
theorem d_Mo_frame_82 : decode c_Mo_frame 82 = .ok (.getfield 221, 3) := by decide +kernel
theorem d_Mo_frame_85 : decode c_Mo_frame 85 = .ok (.ifCond .le 23, 3) := by decide +kernel
theorem d_Mo_frame_88 : decode c_Mo_frame 88 = .ok (.aload_n 0, 1) := by decide +kernel
theorem d_Mo_frame_89 : decode c_Mo_frame 89 = .ok (.getfield 35, 3) := by decide +kernel
theorem d_Mo_frame_92 : decode c_Mo_frame 92 = .ok (.iconst 0, 1) := by decide +kernel
theorem d_Mo_frame_93 : decode c_Mo_frame 93 = .ok (.iaload, 1) := by decide +kernel
theorem d_Mo_frame_94 : decode c_Mo_frame 94 = .ok (.ifCond .ne 14, 3) := by decide +kernel
theorem d_Mo_frame_97 : decode c_Mo_frame 97 = .ok (.aload_n 0, 1) := by decide +kernel
theorem d_Mo_frame_98 : decode c_Mo_frame 98 = .ok (.invokevirtual 246, 3) := by decide +kernel
theorem d_Mo_frame_101 : decode c_Mo_frame 101 = .ok (.ifCond .eq 7, 3) := by decide +kernel
theorem d_Mo_frame_104 : decode c_Mo_frame 104 = .ok (.iconst 0, 1) := by decide +kernel
theorem d_Mo_frame_105 : decode c_Mo_frame 105 = .ok (.goto 4, 3) := by decide +kernel
theorem d_Mo_frame_108 : decode c_Mo_frame 108 = .ok (.iconst (-1), 1) := by decide +kernel
theorem d_Mo_frame_109 : decode c_Mo_frame 109 = .ok (.ireturn, 1) := by decide +kernel
theorem d_Mo_rightGram_0 : decode c_Mo_rightGram 0 = .ok (.aload_n 0, 1) := by decide +kernel
theorem d_Mo_rightGram_1 : decode c_Mo_rightGram 1 = .ok (.iconst (-1), 1) := by decide +kernel
theorem d_Mo_rightGram_2 : decode c_Mo_rightGram 2 = .ok (.putfield 250, 3) := by decide +kernel
theorem d_Mo_rightGram_5 : decode c_Mo_rightGram 5 = .ok (.aload_n 0, 1) := by decide +kernel
theorem d_Mo_rightGram_6 : decode c_Mo_rightGram 6 = .ok (.iconst (-1), 1) := by decide +kernel
theorem d_Mo_rightGram_7 : decode c_Mo_rightGram 7 = .ok (.putfield 253, 3) := by decide +kernel
theorem d_Mo_rightGram_10 : decode c_Mo_rightGram 10 = .ok (.aload_n 0, 1) := by decide +kernel
theorem d_Mo_rightGram_11 : decode c_Mo_rightGram 11 = .ok (.iconst (-1), 1) := by decide +kernel
theorem d_Mo_rightGram_12 : decode c_Mo_rightGram 12 = .ok (.putfield 224, 3) := by decide +kernel
theorem d_Mo_rightGram_15 : decode c_Mo_rightGram 15 = .ok (.aload_n 0, 1) := by decide +kernel
theorem d_Mo_rightGram_16 : decode c_Mo_rightGram 16 = .ok (.iconst 0, 1) := by decide +kernel
theorem d_Mo_rightGram_17 : decode c_Mo_rightGram 17 = .ok (.putfield 233, 3) := by decide +kernel
theorem d_Mo_rightGram_20 : decode c_Mo_rightGram 20 = .ok (.aload_n 0, 1) := by decide +kernel
theorem d_Mo_rightGram_21 : decode c_Mo_rightGram 21 = .ok (.getfield 221, 3) := by decide +kernel
theorem d_Mo_rightGram_24 : decode c_Mo_rightGram 24 = .ok (.bipush 7, 2) := by decide +kernel
theorem d_Mo_rightGram_26 : decode c_Mo_rightGram 26 = .ok (.if_icmp .lt 16, 3) := by decide +kernel
theorem d_Mo_rightGram_29 : decode c_Mo_rightGram 29 = .ok (.aload_n 0, 1) := by decide +kernel
theorem d_Mo_rightGram_30 : decode c_Mo_rightGram 30 = .ok (.getfield 35, 3) := by decide +kernel
theorem d_Mo_rightGram_33 : decode c_Mo_rightGram 33 = .ok (.iconst 2, 1) := by decide +kernel
theorem d_Mo_rightGram_34 : decode c_Mo_rightGram 34 = .ok (.iaload, 1) := by decide +kernel
theorem d_Mo_rightGram_35 : decode c_Mo_rightGram 35 = .ok (.aload_n 0, 1) := by decide +kernel
theorem d_Mo_rightGram_36 : decode c_Mo_rightGram 36 = .ok (.getfield 221, 3) := by decide +kernel
theorem d_Mo_rightGram_39 : decode c_Mo_rightGram 39 = .ok (.if_icmp .eq 5, 3) := by decide +kernel
theorem d_Mo_rightGram_42 : decode c_Mo_rightGram 42 = .ok (.iconst 0, 1) := by decide +kernel
theorem d_Mo_rightGram_43 : decode c_Mo_rightGram 43 = .ok (.ireturn, 1) := by decide +kernel
theorem d_Mo_rightGram_44 : decode c_Mo_rightGram 44 = .ok (.bipush 7, 2) := by decide +kernel
theorem d_Mo_rightGram_46 : decode c_Mo_rightGram 46 = .ok (.istore_n 1, 1) := by decide +kernel
theorem d_Mo_rightGram_47 : decode c_Mo_rightGram 47 = .ok (.iload_n 1, 1) := by decide +kernel
theorem d_Mo_rightGram_48 : decode c_Mo_rightGram 48 = .ok (.aload_n 0, 1) := by decide +kernel
theorem d_Mo_rightGram_49 : decode c_Mo_rightGram 49 = .ok (.getfield 221, 3) := by decide +kernel
theorem d_Mo_rightGram_52 : decode c_Mo_rightGram 52 = .ok (.if_icmp .ge 59, 3) := by decide +kernel
theorem d_Mo_rightGram_55 : decode c_Mo_rightGram 55 = .ok (.iload_n 1, 1) := by decide +kernel
theorem d_Mo_rightGram_56 : decode c_Mo_rightGram 56 = .ok (.iconst 1, 1) := by decide +kernel
theorem d_Mo_rightGram_57 : decode c_Mo_rightGram 57 = .ok (.iadd, 1) := by decide +kernel
theorem d_Mo_rightGram_58 : decode c_Mo_rightGram 58 = .ok (.aload_n 0, 1) := by decide +kernel
theorem d_Mo_rightGram_59 : decode c_Mo_rightGram 59 = .ok (.getfield 221, 3) := by decide +kernel
theorem d_Mo_rightGram_62 : decode c_Mo_rightGram 62 = .ok (.if_icmp .ge 14, 3) := by decide +kernel
theorem d_Mo_rightGram_65 : decode c_Mo_rightGram 65 = .ok (.aload_n 0, 1) := by decide +kernel
theorem d_Mo_rightGram_66 : decode c_Mo_rightGram 66 = .ok (.getfield 35, 3) := by decide +kernel
theorem d_Mo_rightGram_69 : decode c_Mo_rightGram 69 = .ok (.iload_n 1, 1) := by decide +kernel
theorem d_Mo_rightGram_70 : decode c_Mo_rightGram 70 = .ok (.iconst 1, 1) := by decide +kernel
theorem d_Mo_rightGram_71 : decode c_Mo_rightGram 71 = .ok (.iadd, 1) := by decide +kernel
theorem d_Mo_rightGram_72 : decode c_Mo_rightGram 72 = .ok (.iaload, 1) := by decide +kernel
theorem d_Mo_rightGram_73 : decode c_Mo_rightGram 73 = .ok (.goto 4, 3) := by decide +kernel
theorem d_Mo_rightGram_76 : decode c_Mo_rightGram 76 = .ok (.iconst 0, 1) := by decide +kernel
theorem d_Mo_rightGram_77 : decode c_Mo_rightGram 77 = .ok (.istore_n 2, 1) := by decide +kernel
theorem d_Mo_rightGram_78 : decode c_Mo_rightGram 78 = .ok (.iload_n 2, 1) := by decide +kernel
theorem d_Mo_rightGram_79 : decode c_Mo_rightGram 79 = .ok (.iconst 3, 1) := by decide +kernel
theorem d_Mo_rightGram_80 : decode c_Mo_rightGram 80 = .ok (.if_icmp .lt 22, 3) := by decide +kernel
theorem d_Mo_rightGram_83 : decode c_Mo_rightGram 83 = .ok (.iload_n 1, 1) := by decide +kernel
theorem d_Mo_rightGram_84 : decode c_Mo_rightGram 84 = .ok (.iload_n 2, 1) := by decide +kernel
theorem d_Mo_rightGram_85 : decode c_Mo_rightGram 85 = .ok (.iadd, 1) := by decide +kernel
theorem d_Mo_rightGram_86 : decode c_Mo_rightGram 86 = .ok (.aload_n 0, 1) := by decide +kernel
theorem d_Mo_rightGram_87 : decode c_Mo_rightGram 87 = .ok (.getfield 221, 3) := by decide +kernel
theorem d_Mo_rightGram_90 : decode c_Mo_rightGram 90 = .ok (.if_icmp .gt 12, 3) := by decide +kernel
theorem d_Mo_rightGram_93 : decode c_Mo_rightGram 93 = .ok (.aload_n 0, 1) := by decide +kernel
theorem d_Mo_rightGram_94 : decode c_Mo_rightGram 94 = .ok (.iload_n 1, 1) := by decide +kernel
theorem d_Mo_rightGram_95 : decode c_Mo_rightGram 95 = .ok (.iload_n 2, 1) := by decide +kernel
theorem d_Mo_rightGram_96 : decode c_Mo_rightGram 96 = .ok (.invokevirtual 256, 3) := by decide +kernel
theorem d_Mo_rightGram_99 : decode c_Mo_rightGram 99 = .ok (.ifCond .ne 5, 3) := by decide +kernel
theorem d_Mo_rightGram_102 : decode c_Mo_rightGram 102 = .ok (.iconst 0, 1) := by decide +kernel
theorem d_Mo_rightGram_103 : decode c_Mo_rightGram 103 = .ok (.ireturn, 1) := by decide +kernel
theorem d_Mo_rightGram_104 : decode c_Mo_rightGram 104 = .ok (.iload_n 1, 1) := by decide +kernel
theorem d_Mo_rightGram_105 : decode c_Mo_rightGram 105 = .ok (.iload_n 2, 1) := by decide +kernel
theorem d_Mo_rightGram_106 : decode c_Mo_rightGram 106 = .ok (.iadd, 1) := by decide +kernel
theorem d_Mo_rightGram_107 : decode c_Mo_rightGram 107 = .ok (.istore_n 1, 1) := by decide +kernel
theorem d_Mo_rightGram_108 : decode c_Mo_rightGram 108 = .ok (.goto (-61), 3) := by decide +kernel
theorem d_Mo_rightGram_111 : decode c_Mo_rightGram 111 = .ok (.aload_n 0, 1) := by decide +kernel
theorem d_Mo_rightGram_112 : decode c_Mo_rightGram 112 = .ok (.getfield 224, 3) := by decide +kernel
theorem d_Mo_rightGram_115 : decode c_Mo_rightGram 115 = .ok (.ifCond .lt 14, 3) := by decide +kernel
theorem d_Mo_rightGram_118 : decode c_Mo_rightGram 118 = .ok (.aload_n 0, 1) := by decide +kernel
theorem d_Mo_rightGram_119 : decode c_Mo_rightGram 119 = .ok (.invokevirtual 246, 3) := by decide +kernel
theorem d_Mo_rightGram_122 : decode c_Mo_rightGram 122 = .ok (.ifCond .eq 7, 3) := by decide +kernel
theorem d_Mo_rightGram_125 : decode c_Mo_rightGram 125 = .ok (.iconst 1, 1) := by decide +kernel
theorem d_Mo_rightGram_126 : decode c_Mo_rightGram 126 = .ok (.goto 4, 3) := by decide +kernel
theorem d_Mo_rightGram_129 : decode c_Mo_rightGram 129 = .ok (.iconst 0, 1) := by decide +kernel
theorem d_Mo_rightGram_130 : decode c_Mo_rightGram 130 = .ok (.ireturn, 1) := by decide +kernel
theorem d_Mo_attribute_0 : decode c_Mo_attribute 0 = .ok (.aload_n 0, 1) := by decide +kernel
theorem d_Mo_attribute_1 : decode c_Mo_attribute 1 = .ok (.getfield 35, 3) := by decide +kernel
theorem d_Mo_attribute_4 : decode c_Mo_attribute 4 = .ok (.iload_n 1, 1) := by decide +kernel
theorem d_Mo_attribute_5 : decode c_Mo_attribute 5 = .ok (.iaload, 1) := by decide +kernel
theorem d_Mo_attribute_6 : decode c_Mo_attribute 6 = .ok (.istore_n 3, 1) := by decide +kernel
theorem d_Mo_attribute_7 : decode c_Mo_attribute 7 = .ok (.iload_n 3, 1) := by decide +kernel
theorem d_Mo_attribute_8 : decode c_Mo_attribute 8 = .ok (.iconst 1, 1) := by decide +kernel
theorem d_Mo_attribute_9 : decode c_Mo_attribute 9 = .ok (.if_icmp .ne 29, 3) := by decide +kernel
theorem d_Mo_attribute_12 : decode c_Mo_attribute 12 = .ok (.iload_n 2, 1) := by decide +kernel
theorem d_Mo_attribute_13 : decode c_Mo_attribute 13 = .ok (.iconst 3, 1) := by decide +kernel
theorem d_Mo_attribute_14 : decode c_Mo_attribute 14 = .ok (.if_icmp .ne 24, 3) := by decide +kernel
theorem d_Mo_attribute_17 : decode c_Mo_attribute 17 = .ok (.aload_n 0, 1) := by decide +kernel
theorem d_Mo_attribute_18 : decode c_Mo_attribute 18 = .ok (.getfield 250, 3) := by decide +kernel
theorem d_Mo_attribute_21 : decode c_Mo_attribute 21 = .ok (.ifCond .ge 17, 3) := by decide +kernel
theorem d_Mo_attribute_24 : decode c_Mo_attribute 24 = .ok (.aload_n 0, 1) := by decide +kernel
theorem d_Mo_attribute_25 : decode c_Mo_attribute 25 = .ok (.aload_n 0, 1) := by decide +kernel
theorem d_Mo_attribute_26 : decode c_Mo_attribute 26 = .ok (.getfield 35, 3) := by decide +kernel
theorem d_Mo_attribute_29 : decode c_Mo_attribute 29 = .ok (.iload_n 1, 1) := by decide +kernel
theorem d_Mo_attribute_30 : decode c_Mo_attribute 30 = .ok (.iconst 2, 1) := by decide +kernel
theorem d_Mo_attribute_31 : decode c_Mo_attribute 31 = .ok (.iadd, 1) := by decide +kernel
theorem d_Mo_attribute_32 : decode c_Mo_attribute 32 = .ok (.iaload, 1) := by decide +kernel
theorem d_Mo_attribute_33 : decode c_Mo_attribute 33 = .ok (.putfield 250, 3) := by decide +kernel
theorem d_Mo_attribute_36 : decode c_Mo_attribute 36 = .ok (.iconst 1, 1) := by decide +kernel
theorem d_Mo_attribute_37 : decode c_Mo_attribute 37 = .ok (.ireturn, 1) := by decide +kernel
theorem d_Mo_attribute_38 : decode c_Mo_attribute 38 = .ok (.iload_n 3, 1) := by decide +kernel
theorem d_Mo_attribute_39 : decode c_Mo_attribute 39 = .ok (.bipush 24, 2) := by decide +kernel
theorem d_Mo_attribute_41 : decode c_Mo_attribute 41 = .ok (.if_icmp .ne 41, 3) := by decide +kernel
theorem d_Mo_attribute_44 : decode c_Mo_attribute 44 = .ok (.iload_n 2, 1) := by decide +kernel
theorem d_Mo_attribute_45 : decode c_Mo_attribute 45 = .ok (.iconst 4, 1) := by decide +kernel
theorem d_Mo_attribute_46 : decode c_Mo_attribute 46 = .ok (.if_icmp .ne 36, 3) := by decide +kernel
theorem d_Mo_attribute_49 : decode c_Mo_attribute 49 = .ok (.aload_n 0, 1) := by decide +kernel
theorem d_Mo_attribute_50 : decode c_Mo_attribute 50 = .ok (.getfield 253, 3) := by decide +kernel
theorem d_Mo_attribute_53 : decode c_Mo_attribute 53 = .ok (.ifCond .ge 29, 3) := by decide +kernel
theorem d_Mo_attribute_56 : decode c_Mo_attribute 56 = .ok (.aload_n 0, 1) := by decide +kernel
theorem d_Mo_attribute_57 : decode c_Mo_attribute 57 = .ok (.aload_n 0, 1) := by decide +kernel
theorem d_Mo_attribute_58 : decode c_Mo_attribute 58 = .ok (.getfield 35, 3) := by decide +kernel
theorem d_Mo_attribute_61 : decode c_Mo_attribute 61 = .ok (.iload_n 1, 1) := by decide +kernel
theorem d_Mo_attribute_62 : decode c_Mo_attribute 62 = .ok (.iconst 2, 1) := by decide +kernel
theorem d_Mo_attribute_63 : decode c_Mo_attribute 63 = .ok (.iadd, 1) := by decide +kernel
theorem d_Mo_attribute_64 : decode c_Mo_attribute 64 = .ok (.iaload, 1) := by decide +kernel
theorem d_Mo_attribute_65 : decode c_Mo_attribute 65 = .ok (.bipush 8, 2) := by decide +kernel
theorem d_Mo_attribute_67 : decode c_Mo_attribute 67 = .ok (.ishl, 1) := by decide +kernel
theorem d_Mo_attribute_68 : decode c_Mo_attribute 68 = .ok (.aload_n 0, 1) := by decide +kernel
theorem d_Mo_attribute_69 : decode c_Mo_attribute 69 = .ok (.getfield 35, 3) := by decide +kernel
theorem d_Mo_attribute_72 : decode c_Mo_attribute 72 = .ok (.iload_n 1, 1) := by decide +kernel
theorem d_Mo_attribute_73 : decode c_Mo_attribute 73 = .ok (.iconst 3, 1) := by decide +kernel
theorem d_Mo_attribute_74 : decode c_Mo_attribute 74 = .ok (.iadd, 1) := by decide +kernel
theorem d_Mo_attribute_75 : decode c_Mo_attribute 75 = .ok (.iaload, 1) := by decide +kernel
theorem d_Mo_attribute_76 : decode c_Mo_attribute 76 = .ok (.ior, 1) := by decide +kernel
theorem d_Mo_attribute_77 : decode c_Mo_attribute 77 = .ok (.putfield 253, 3) := by decide +kernel
theorem d_Mo_attribute_80 : decode c_Mo_attribute 80 = .ok (.iconst 1, 1) := by decide +kernel
theorem d_Mo_attribute_81 : decode c_Mo_attribute 81 = .ok (.ireturn, 1) := by decide +kernel
theorem d_Mo_attribute_82 : decode c_Mo_attribute 82 = .ok (.iload_n 3, 1) := by decide +kernel
theorem d_Mo_attribute_83 : decode c_Mo_attribute 83 = .ok (.bipush 80, 2) := by decide +kernel
theorem d_Mo_attribute_85 : decode c_Mo_attribute 85 = .ok (.if_icmp .ne 25, 3) := by decide +kernel
theorem d_Mo_attribute_88 : decode c_Mo_attribute 88 = .ok (.iload_n 2, 1) := by decide +kernel
theorem d_Mo_attribute_89 : decode c_Mo_attribute 89 = .ok (.bipush 6, 2) := by decide +kernel
theorem d_Mo_attribute_91 : decode c_Mo_attribute 91 = .ok (.if_icmp .ne 19, 3) := by decide +kernel
theorem d_Mo_attribute_94 : decode c_Mo_attribute 94 = .ok (.aload_n 0, 1) := by decide +kernel
theorem d_Mo_attribute_95 : decode c_Mo_attribute 95 = .ok (.getfield 224, 3) := by decide +kernel
theorem d_Mo_attribute_98 : decode c_Mo_attribute 98 = .ok (.ifCond .ge 12, 3) := by decide +kernel
theorem d_Mo_attribute_101 : decode c_Mo_attribute 101 = .ok (.aload_n 0, 1) := by decide +kernel
theorem d_Mo_attribute_102 : decode c_Mo_attribute 102 = .ok (.iload_n 1, 1) := by decide +kernel
theorem d_Mo_attribute_103 : decode c_Mo_attribute 103 = .ok (.iconst 2, 1) := by decide +kernel
theorem d_Mo_attribute_104 : decode c_Mo_attribute 104 = .ok (.iadd, 1) := by decide +kernel
theorem d_Mo_attribute_105 : decode c_Mo_attribute 105 = .ok (.putfield 224, 3) := by decide +kernel
theorem d_Mo_attribute_108 : decode c_Mo_attribute 108 = .ok (.iconst 1, 1) := by decide +kernel
theorem d_Mo_attribute_109 : decode c_Mo_attribute 109 = .ok (.ireturn, 1) := by decide +kernel
theorem d_Mo_attribute_110 : decode c_Mo_attribute 110 = .ok (.iload_n 3, 1) := by decide +kernel
theorem d_Mo_attribute_111 : decode c_Mo_attribute 111 = .ok (.bipush 79, 2) := by decide +kernel
theorem d_Mo_attribute_113 : decode c_Mo_attribute 113 = .ok (.if_icmp .ne 9, 3) := by decide +kernel
theorem d_Mo_attribute_116 : decode c_Mo_attribute 116 = .ok (.iload_n 2, 1) := by decide +kernel
theorem d_Mo_attribute_117 : decode c_Mo_attribute 117 = .ok (.bipush 10, 2) := by decide +kernel
theorem d_Mo_attribute_119 : decode c_Mo_attribute 119 = .ok (.if_icmp .le 5, 3) := by decide +kernel
theorem d_Mo_attribute_122 : decode c_Mo_attribute 122 = .ok (.iconst 0, 1) := by decide +kernel
theorem d_Mo_attribute_123 : decode c_Mo_attribute 123 = .ok (.ireturn, 1) := by decide +kernel
theorem d_Mo_attribute_124 : decode c_Mo_attribute 124 = .ok (.iload_n 1, 1) := by decide +kernel
theorem d_Mo_attribute_125 : decode c_Mo_attribute 125 = .ok (.iconst 2, 1) := by decide +kernel
theorem d_Mo_attribute_126 : decode c_Mo_attribute 126 = .ok (.iadd, 1) := by decide +kernel
theorem d_Mo_attribute_127 : decode c_Mo_attribute 127 = .ok (.istore 4, 2) := by decide +kernel
theorem d_Mo_attribute_129 : decode c_Mo_attribute 129 = .ok (.iload 4, 2) := by decide +kernel
theorem d_Mo_attribute_131 : decode c_Mo_attribute 131 = .ok (.iload_n 1, 1) := by decide +kernel
theorem d_Mo_attribute_132 : decode c_Mo_attribute 132 = .ok (.iload_n 2, 1) := by decide +kernel
theorem d_Mo_attribute_133 : decode c_Mo_attribute 133 = .ok (.iadd, 1) := by decide +kernel
theorem d_Mo_attribute_134 : decode c_Mo_attribute 134 = .ok (.if_icmp .ge 35, 3) := by decide +kernel
theorem d_Mo_attribute_137 : decode c_Mo_attribute 137 = .ok (.aload_n 0, 1) := by decide +kernel
theorem d_Mo_attribute_138 : decode c_Mo_attribute 138 = .ok (.getfield 38, 3) := by decide +kernel
theorem d_Mo_attribute_141 : decode c_Mo_attribute 141 = .ok (.aload_n 0, 1) := by decide +kernel
theorem d_Mo_attribute_142 : decode c_Mo_attribute 142 = .ok (.getfield 233, 3) := by decide +kernel
theorem d_Mo_attribute_145 : decode c_Mo_attribute 145 = .ok (.aload_n 0, 1) := by decide +kernel
theorem d_Mo_attribute_146 : decode c_Mo_attribute 146 = .ok (.getfield 35, 3) := by decide +kernel
theorem d_Mo_attribute_149 : decode c_Mo_attribute 149 = .ok (.iload 4, 2) := by decide +kernel
theorem d_Mo_attribute_151 : decode c_Mo_attribute 151 = .ok (.iaload, 1) := by decide +kernel
theorem d_Mo_attribute_152 : decode c_Mo_attribute 152 = .ok (.iastore, 1) := by decide +kernel
theorem d_Mo_attribute_153 : decode c_Mo_attribute 153 = .ok (.aload_n 0, 1) := by decide +kernel
theorem d_Mo_attribute_154 : decode c_Mo_attribute 154 = .ok (.dup, 1) := by decide +kernel
theorem d_Mo_attribute_155 : decode c_Mo_attribute 155 = .ok (.getfield 233, 3) := by decide +kernel
theorem d_Mo_attribute_158 : decode c_Mo_attribute 158 = .ok (.iconst 1, 1) := by decide +kernel
theorem d_Mo_attribute_159 : decode c_Mo_attribute 159 = .ok (.iadd, 1) := by decide +kernel
theorem d_Mo_attribute_160 : decode c_Mo_attribute 160 = .ok (.putfield 233, 3) := by decide +kernel
theorem d_Mo_attribute_163 : decode c_Mo_attribute 163 = .ok (.iinc 4 1, 3) := by decide +kernel
theorem d_Mo_attribute_166 : decode c_Mo_attribute 166 = .ok (.goto (-37), 3) := by decide +kernel
theorem d_Mo_attribute_169 : decode c_Mo_attribute 169 = .ok (.iconst 1, 1) := by decide +kernel
theorem d_Mo_attribute_170 : decode c_Mo_attribute 170 = .ok (.ireturn, 1) := by decide +kernel
theorem d_Mo_gram_0 : decode c_Mo_gram 0 = .ok (.aload_n 0, 1) := by decide +kernel
theorem d_Mo_gram_1 : decode c_Mo_gram 1 = .ok (.iconst 0, 1) := by decide +kernel
theorem d_Mo_gram_2 : decode c_Mo_gram 2 = .ok (.putfield 221, 3) := by decide +kernel
theorem d_Mo_gram_5 : decode c_Mo_gram 5 = .ok (.aload_n 0, 1) := by decide +kernel
theorem d_Mo_gram_6 : decode c_Mo_gram 6 = .ok (.iload_n 1, 1) := by decide +kernel
theorem d_Mo_gram_7 : decode c_Mo_gram 7 = .ok (.invokevirtual 239, 3) := by decide +kernel
theorem d_Mo_gram_10 : decode c_Mo_gram 10 = .ok (.aload_n 0, 1) := by decide +kernel
theorem d_Mo_gram_11 : decode c_Mo_gram 11 = .ok (.iload_n 2, 1) := by decide +kernel
theorem d_Mo_gram_12 : decode c_Mo_gram 12 = .ok (.invokevirtual 239, 3) := by decide +kernel
theorem d_Mo_gram_15 : decode c_Mo_gram 15 = .ok (.aload_n 0, 1) := by decide +kernel
theorem d_Mo_gram_16 : decode c_Mo_gram 16 = .ok (.iconst 0, 1) := by decide +kernel
theorem d_Mo_gram_17 : decode c_Mo_gram 17 = .ok (.invokevirtual 239, 3) := by decide +kernel
theorem d_Mo_gram_20 : decode c_Mo_gram 20 = .ok (.bipush 24, 2) := by decide +kernel
theorem d_Mo_gram_22 : decode c_Mo_gram 22 = .ok (.istore 6, 2) := by decide +kernel
theorem d_Mo_gram_24 : decode c_Mo_gram 24 = .ok (.iload 6, 2) := by decide +kernel
theorem d_Mo_gram_26 : decode c_Mo_gram 26 = .ok (.ifCond .lt 17, 3) := by decide +kernel
theorem d_Mo_gram_29 : decode c_Mo_gram 29 = .ok (.aload_n 0, 1) := by decide +kernel
theorem d_Mo_gram_30 : decode c_Mo_gram 30 = .ok (.iload_n 3, 1) := by decide +kernel
theorem d_Mo_gram_31 : decode c_Mo_gram 31 = .ok (.iload 6, 2) := by decide +kernel
theorem d_Mo_gram_33 : decode c_Mo_gram 33 = .ok (.ishr, 1) := by decide +kernel
theorem d_Mo_gram_34 : decode c_Mo_gram 34 = .ok (.invokevirtual 239, 3) := by decide +kernel
theorem d_Mo_gram_37 : decode c_Mo_gram 37 = .ok (.iinc 6 (-8), 3) := by decide +kernel
theorem d_Mo_gram_40 : decode c_Mo_gram 40 = .ok (.goto (-16), 3) := by decide +kernel
theorem d_Mo_gram_43 : decode c_Mo_gram 43 = .ok (.iload 4, 2) := by decide +kernel
theorem d_Mo_gram_45 : decode c_Mo_gram 45 = .ok (.ifCond .lt 19, 3) := by decide +kernel
theorem d_Mo_gram_48 : decode c_Mo_gram 48 = .ok (.aload_n 0, 1) := by decide +kernel
theorem d_Mo_gram_49 : decode c_Mo_gram 49 = .ok (.iconst 1, 1) := by decide +kernel
theorem d_Mo_gram_50 : decode c_Mo_gram 50 = .ok (.invokevirtual 239, 3) := by decide +kernel
theorem d_Mo_gram_53 : decode c_Mo_gram 53 = .ok (.aload_n 0, 1) := by decide +kernel
theorem d_Mo_gram_54 : decode c_Mo_gram 54 = .ok (.iconst 3, 1) := by decide +kernel
theorem d_Mo_gram_55 : decode c_Mo_gram 55 = .ok (.invokevirtual 239, 3) := by decide +kernel
theorem d_Mo_gram_58 : decode c_Mo_gram 58 = .ok (.aload_n 0, 1) := by decide +kernel
theorem d_Mo_gram_59 : decode c_Mo_gram 59 = .ok (.iload 4, 2) := by decide +kernel
theorem d_Mo_gram_61 : decode c_Mo_gram 61 = .ok (.invokevirtual 239, 3) := by decide +kernel
theorem d_Mo_gram_64 : decode c_Mo_gram 64 = .ok (.iload 5, 2) := by decide +kernel
theorem d_Mo_gram_66 : decode c_Mo_gram 66 = .ok (.ifCond .lt 29, 3) := by decide +kernel
theorem d_Mo_gram_69 : decode c_Mo_gram 69 = .ok (.aload_n 0, 1) := by decide +kernel
theorem d_Mo_gram_70 : decode c_Mo_gram 70 = .ok (.bipush 24, 2) := by decide +kernel
theorem d_Mo_gram_72 : decode c_Mo_gram 72 = .ok (.invokevirtual 239, 3) := by decide +kernel
theorem d_Mo_gram_75 : decode c_Mo_gram 75 = .ok (.aload_n 0, 1) := by decide +kernel
theorem d_Mo_gram_76 : decode c_Mo_gram 76 = .ok (.iconst 4, 1) := by decide +kernel
theorem d_Mo_gram_77 : decode c_Mo_gram 77 = .ok (.invokevirtual 239, 3) := by decide +kernel
theorem d_Mo_gram_80 : decode c_Mo_gram 80 = .ok (.aload_n 0, 1) := by decide +kernel
theorem d_Mo_gram_81 : decode c_Mo_gram 81 = .ok (.iload 5, 2) := by decide +kernel
theorem d_Mo_gram_83 : decode c_Mo_gram 83 = .ok (.bipush 8, 2) := by decide +kernel
theorem d_Mo_gram_85 : decode c_Mo_gram 85 = .ok (.ishr, 1) := by decide +kernel
theorem d_Mo_gram_86 : decode c_Mo_gram 86 = .ok (.invokevirtual 239, 3) := by decide +kernel
theorem d_Mo_gram_89 : decode c_Mo_gram 89 = .ok (.aload_n 0, 1) := by decide +kernel
theorem d_Mo_gram_90 : decode c_Mo_gram 90 = .ok (.iload 5, 2) := by decide +kernel
theorem d_Mo_gram_92 : decode c_Mo_gram 92 = .ok (.invokevirtual 239, 3) := by decide +kernel
theorem d_Mo_gram_95 : decode c_Mo_gram 95 = .ok (.iconst 0, 1) := by decide +kernel
theorem d_Mo_gram_96 : decode c_Mo_gram 96 = .ok (.istore 6, 2) := by decide +kernel
theorem d_Mo_gram_98 : decode c_Mo_gram 98 = .ok (.iload 6, 2) := by decide +kernel
theorem d_Mo_gram_100 : decode c_Mo_gram 100 = .ok (.aload_n 0, 1) := by decide +kernel
theorem d_Mo_gram_101 : decode c_Mo_gram 101 = .ok (.getfield 233, 3) := by decide +kernel
theorem d_Mo_gram_104 : decode c_Mo_gram 104 = .ok (.if_icmp .ge 64, 3) := by decide +kernel
theorem d_Mo_gram_107 : decode c_Mo_gram 107 = .ok (.iload 6, 2) := by decide +kernel
theorem d_Mo_gram_109 : decode c_Mo_gram 109 = .ok (.bipush 8, 2) := by decide +kernel
theorem d_Mo_gram_111 : decode c_Mo_gram 111 = .ok (.irem, 1) := by decide +kernel
theorem d_Mo_gram_112 : decode c_Mo_gram 112 = .ok (.ifCond .ne 39, 3) := by decide +kernel
theorem d_Mo_gram_115 : decode c_Mo_gram 115 = .ok (.aload_n 0, 1) := by decide +kernel
theorem d_Mo_gram_116 : decode c_Mo_gram 116 = .ok (.bipush 79, 2) := by decide +kernel
theorem d_Mo_gram_118 : decode c_Mo_gram 118 = .ok (.invokevirtual 239, 3) := by decide +kernel
theorem d_Mo_gram_121 : decode c_Mo_gram 121 = .ok (.aload_n 0, 1) := by decide +kernel
theorem d_Mo_gram_122 : decode c_Mo_gram 122 = .ok (.iconst 2, 1) := by decide +kernel
theorem d_Mo_gram_123 : decode c_Mo_gram 123 = .ok (.aload_n 0, 1) := by decide +kernel
theorem d_Mo_gram_124 : decode c_Mo_gram 124 = .ok (.getfield 233, 3) := by decide +kernel
theorem d_Mo_gram_127 : decode c_Mo_gram 127 = .ok (.iload 6, 2) := by decide +kernel
theorem d_Mo_gram_129 : decode c_Mo_gram 129 = .ok (.isub, 1) := by decide +kernel
theorem d_Mo_gram_130 : decode c_Mo_gram 130 = .ok (.bipush 8, 2) := by decide +kernel
theorem d_Mo_gram_132 : decode c_Mo_gram 132 = .ok (.if_icmp .ge 13, 3) := by decide +kernel
theorem d_Mo_gram_135 : decode c_Mo_gram 135 = .ok (.aload_n 0, 1) := by decide +kernel
theorem d_Mo_gram_136 : decode c_Mo_gram 136 = .ok (.getfield 233, 3) := by decide +kernel
theorem d_Mo_gram_139 : decode c_Mo_gram 139 = .ok (.iload 6, 2) := by decide +kernel
theorem d_Mo_gram_141 : decode c_Mo_gram 141 = .ok (.isub, 1) := by decide +kernel
theorem d_Mo_gram_142 : decode c_Mo_gram 142 = .ok (.goto 5, 3) := by decide +kernel
theorem d_Mo_gram_145 : decode c_Mo_gram 145 = .ok (.bipush 8, 2) := by decide +kernel
theorem d_Mo_gram_147 : decode c_Mo_gram 147 = .ok (.iadd, 1) := by decide +kernel
theorem d_Mo_gram_148 : decode c_Mo_gram 148 = .ok (.invokevirtual 239, 3) := by decide +kernel
theorem d_Mo_gram_151 : decode c_Mo_gram 151 = .ok (.aload_n 0, 1) := by decide +kernel
theorem d_Mo_gram_152 : decode c_Mo_gram 152 = .ok (.aload_n 0, 1) := by decide +kernel
theorem d_Mo_gram_153 : decode c_Mo_gram 153 = .ok (.getfield 38, 3) := by decide +kernel
theorem d_Mo_gram_156 : decode c_Mo_gram 156 = .ok (.iload 6, 2) := by decide +kernel
theorem d_Mo_gram_158 : decode c_Mo_gram 158 = .ok (.iaload, 1) := by decide +kernel
theorem d_Mo_gram_159 : decode c_Mo_gram 159 = .ok (.invokevirtual 239, 3) := by decide +kernel
theorem d_Mo_gram_162 : decode c_Mo_gram 162 = .ok (.iinc 6 1, 3) := by decide +kernel
theorem d_Mo_gram_165 : decode c_Mo_gram 165 = .ok (.goto (-67), 3) := by decide +kernel
theorem d_Mo_gram_168 : decode c_Mo_gram 168 = .ok (.aload_n 0, 1) := by decide +kernel
theorem d_Mo_gram_169 : decode c_Mo_gram 169 = .ok (.bipush 80, 2) := by decide +kernel
theorem d_Mo_gram_171 : decode c_Mo_gram 171 = .ok (.invokevirtual 239, 3) := by decide +kernel
theorem d_Mo_gram_174 : decode c_Mo_gram 174 = .ok (.aload_n 0, 1) := by decide +kernel
theorem d_Mo_gram_175 : decode c_Mo_gram 175 = .ok (.bipush 6, 2) := by decide +kernel
theorem d_Mo_gram_177 : decode c_Mo_gram 177 = .ok (.invokevirtual 239, 3) := by decide +kernel
theorem d_Mo_gram_180 : decode c_Mo_gram 180 = .ok (.aload_n 0, 1) := by decide +kernel
theorem d_Mo_gram_181 : decode c_Mo_gram 181 = .ok (.aload_n 0, 1) := by decide +kernel
theorem d_Mo_gram_182 : decode c_Mo_gram 182 = .ok (.getfield 221, 3) := by decide +kernel
theorem d_Mo_gram_185 : decode c_Mo_gram 185 = .ok (.putfield 224, 3) := by decide +kernel
theorem d_Mo_gram_188 : decode c_Mo_gram 188 = .ok (.iconst 0, 1) := by decide +kernel
theorem d_Mo_gram_189 : decode c_Mo_gram 189 = .ok (.istore 6, 2) := by decide +kernel
theorem d_Mo_gram_191 : decode c_Mo_gram 191 = .ok (.iload 6, 2) := by decide +kernel
theorem d_Mo_gram_193 : decode c_Mo_gram 193 = .ok (.iconst 4, 1) := by decide +kernel
theorem d_Mo_gram_194 : decode c_Mo_gram 194 = .ok (.if_icmp .ge 14, 3) := by decide +kernel
theorem d_Mo_gram_197 : decode c_Mo_gram 197 = .ok (.aload_n 0, 1) := by decide +kernel
theorem d_Mo_gram_198 : decode c_Mo_gram 198 = .ok (.iconst 0, 1) := by decide +kernel
theorem d_Mo_gram_199 : decode c_Mo_gram 199 = .ok (.invokevirtual 239, 3) := by decide +kernel
theorem d_Mo_gram_202 : decode c_Mo_gram 202 = .ok (.iinc 6 1, 3) := by decide +kernel
theorem d_Mo_gram_205 : decode c_Mo_gram 205 = .ok (.goto (-14), 3) := by decide +kernel
theorem d_Mo_gram_208 : decode c_Mo_gram 208 = .ok (.aload_n 0, 1) := by decide +kernel
theorem d_Mo_gram_209 : decode c_Mo_gram 209 = .ok (.getfield 35, 3) := by decide +kernel
theorem d_Mo_gram_212 : decode c_Mo_gram 212 = .ok (.iconst 2, 1) := by decide +kernel
theorem d_Mo_gram_213 : decode c_Mo_gram 213 = .ok (.aload_n 0, 1) := by decide +kernel
theorem d_Mo_gram_214 : decode c_Mo_gram 214 = .ok (.getfield 221, 3) := by decide +kernel
theorem d_Mo_gram_217 : decode c_Mo_gram 217 = .ok (.iastore, 1) := by decide +kernel
theorem d_Mo_gram_218 : decode c_Mo_gram 218 = .ok (.aload_n 0, 1) := by decide +kernel
theorem d_Mo_gram_219 : decode c_Mo_gram 219 = .ok (.aload_n 0, 1) := by decide +kernel
theorem d_Mo_gram_220 : decode c_Mo_gram 220 = .ok (.getfield 224, 3) := by decide +kernel
theorem d_Mo_gram_223 : decode c_Mo_gram 223 = .ok (.aload_n 0, 1) := by decide +kernel
theorem d_Mo_gram_224 : decode c_Mo_gram 224 = .ok (.iload_n 3, 1) := by decide +kernel
theorem d_Mo_gram_225 : decode c_Mo_gram 225 = .ok (.invokevirtual 260, 3) := by decide +kernel
theorem d_Mo_gram_228 : decode c_Mo_gram 228 = .ok (.invokevirtual 264, 3) := by decide +kernel
theorem d_Mo_gram_231 : decode c_Mo_gram 231 = .ok (.return_, 1) := by decide +kernel
theorem d_Mo_user_0 : decode c_Mo_user 0 = .ok (.iload_n 1, 1) := by decide +kernel
theorem d_Mo_user_1 : decode c_Mo_user 1 = .ok (.ifCond .lt 19, 3) := by decide +kernel
theorem d_Mo_user_4 : decode c_Mo_user 4 = .ok (.iload_n 1, 1) := by decide +kernel
theorem d_Mo_user_5 : decode c_Mo_user 5 = .ok (.bipush 7, 2) := by decide +kernel
theorem d_Mo_user_7 : decode c_Mo_user 7 = .ok (.if_icmp .gt 13, 3) := by decide +kernel
theorem d_Mo_user_10 : decode c_Mo_user 10 = .ok (.iload_n 3, 1) := by decide +kernel
theorem d_Mo_user_11 : decode c_Mo_user 11 = .ok (.iconst 1, 1) := by decide +kernel
theorem d_Mo_user_12 : decode c_Mo_user 12 = .ok (.if_icmp .lt 8, 3) := by decide +kernel
theorem d_Mo_user_15 : decode c_Mo_user 15 = .ok (.iload_n 3, 1) := by decide +kernel
theorem d_Mo_user_16 : decode c_Mo_user 16 = .ok (.iconst 3, 1) := by decide +kernel
theorem d_Mo_user_17 : decode c_Mo_user 17 = .ok (.if_icmp .le 5, 3) := by decide +kernel
theorem d_Mo_user_20 : decode c_Mo_user 20 = .ok (.iconst 0, 1) := by decide +kernel
theorem d_Mo_user_21 : decode c_Mo_user 21 = .ok (.ireturn, 1) := by decide +kernel
theorem d_Mo_user_22 : decode c_Mo_user 22 = .ok (.aload_n 0, 1) := by decide +kernel
theorem d_Mo_user_23 : decode c_Mo_user 23 = .ok (.getfield 7, 3) := by decide +kernel
theorem d_Mo_user_26 : decode c_Mo_user 26 = .ok (.iload_n 1, 1) := by decide +kernel
theorem d_Mo_user_27 : decode c_Mo_user 27 = .ok (.iconst 1, 1) := by decide +kernel
theorem d_Mo_user_28 : decode c_Mo_user 28 = .ok (.bastore, 1) := by decide +kernel
theorem d_Mo_user_29 : decode c_Mo_user 29 = .ok (.aload_n 0, 1) := by decide +kernel
theorem d_Mo_user_30 : decode c_Mo_user 30 = .ok (.getfield 13, 3) := by decide +kernel
theorem d_Mo_user_33 : decode c_Mo_user 33 = .ok (.iload_n 1, 1) := by decide +kernel
theorem d_Mo_user_34 : decode c_Mo_user 34 = .ok (.iload_n 2, 1) := by decide +kernel
theorem d_Mo_user_35 : decode c_Mo_user 35 = .ok (.iastore, 1) := by decide +kernel
theorem d_Mo_user_36 : decode c_Mo_user 36 = .ok (.aload_n 0, 1) := by decide +kernel
theorem d_Mo_user_37 : decode c_Mo_user 37 = .ok (.getfield 17, 3) := by decide +kernel
theorem d_Mo_user_40 : decode c_Mo_user 40 = .ok (.iload_n 1, 1) := by decide +kernel
theorem d_Mo_user_41 : decode c_Mo_user 41 = .ok (.iload_n 3, 1) := by decide +kernel
theorem d_Mo_user_42 : decode c_Mo_user 42 = .ok (.iastore, 1) := by decide +kernel
theorem d_Mo_user_43 : decode c_Mo_user 43 = .ok (.iconst 1, 1) := by decide +kernel
theorem d_Mo_user_44 : decode c_Mo_user 44 = .ok (.ireturn, 1) := by decide +kernel
theorem d_Mo_fresh_0 : decode c_Mo_fresh 0 = .ok (.aload_n 0, 1) := by decide +kernel
theorem d_Mo_fresh_1 : decode c_Mo_fresh 1 = .ok (.getfield 50, 3) := by decide +kernel
theorem d_Mo_fresh_4 : decode c_Mo_fresh 4 = .ok (.iload_n 1, 1) := by decide +kernel
theorem d_Mo_fresh_5 : decode c_Mo_fresh 5 = .ok (.iconst 0, 1) := by decide +kernel
theorem d_Mo_fresh_6 : decode c_Mo_fresh 6 = .ok (.iastore, 1) := by decide +kernel
theorem d_Mo_fresh_7 : decode c_Mo_fresh 7 = .ok (.aload_n 0, 1) := by decide +kernel
theorem d_Mo_fresh_8 : decode c_Mo_fresh 8 = .ok (.getfield 62, 3) := by decide +kernel
theorem d_Mo_fresh_11 : decode c_Mo_fresh 11 = .ok (.iload_n 1, 1) := by decide +kernel
theorem d_Mo_fresh_12 : decode c_Mo_fresh 12 = .ok (.iconst 0, 1) := by decide +kernel
theorem d_Mo_fresh_13 : decode c_Mo_fresh 13 = .ok (.bastore, 1) := by decide +kernel
theorem d_Mo_fresh_14 : decode c_Mo_fresh 14 = .ok (.aload_n 0, 1) := by decide +kernel
theorem d_Mo_fresh_15 : decode c_Mo_fresh 15 = .ok (.getfield 56, 3) := by decide +kernel
theorem d_Mo_fresh_18 : decode c_Mo_fresh 18 = .ok (.iload_n 1, 1) := by decide +kernel
theorem d_Mo_fresh_19 : decode c_Mo_fresh 19 = .ok (.iconst 0, 1) := by decide +kernel
theorem d_Mo_fresh_20 : decode c_Mo_fresh 20 = .ok (.bastore, 1) := by decide +kernel
theorem d_Mo_fresh_21 : decode c_Mo_fresh 21 = .ok (.aload_n 0, 1) := by decide +kernel
theorem d_Mo_fresh_22 : decode c_Mo_fresh 22 = .ok (.getfield 59, 3) := by decide +kernel
theorem d_Mo_fresh_25 : decode c_Mo_fresh 25 = .ok (.iload_n 1, 1) := by decide +kernel
theorem d_Mo_fresh_26 : decode c_Mo_fresh 26 = .ok (.iconst 0, 1) := by decide +kernel
theorem d_Mo_fresh_27 : decode c_Mo_fresh 27 = .ok (.iastore, 1) := by decide +kernel
theorem d_Mo_fresh_28 : decode c_Mo_fresh 28 = .ok (.return_, 1) := by decide +kernel
theorem d_Mo_host_0 : decode c_Mo_host 0 = .ok (.iload_n 1, 1) := by decide +kernel
theorem d_Mo_host_1 : decode c_Mo_host 1 = .ok (.ifCond .lt 30, 3) := by decide +kernel
theorem d_Mo_host_4 : decode c_Mo_host 4 = .ok (.iload_n 1, 1) := by decide +kernel
theorem d_Mo_host_5 : decode c_Mo_host 5 = .ok (.iconst 3, 1) := by decide +kernel
theorem d_Mo_host_6 : decode c_Mo_host 6 = .ok (.if_icmp .gt 25, 3) := by decide +kernel
theorem d_Mo_host_9 : decode c_Mo_host 9 = .ok (.iload_n 2, 1) := by decide +kernel
theorem d_Mo_host_10 : decode c_Mo_host 10 = .ok (.iconst (-1), 1) := by decide +kernel
theorem d_Mo_host_11 : decode c_Mo_host 11 = .ok (.if_icmp .lt 20, 3) := by decide +kernel
theorem d_Mo_host_14 : decode c_Mo_host 14 = .ok (.iload_n 2, 1) := by decide +kernel
theorem d_Mo_host_15 : decode c_Mo_host 15 = .ok (.bipush 7, 2) := by decide +kernel
theorem d_Mo_host_17 : decode c_Mo_host 17 = .ok (.if_icmp .gt 14, 3) := by decide +kernel
theorem d_Mo_host_20 : decode c_Mo_host 20 = .ok (.iload 4, 2) := by decide +kernel
theorem d_Mo_host_22 : decode c_Mo_host 22 = .ok (.ifCond .lt 9, 3) := by decide +kernel
theorem d_Mo_host_25 : decode c_Mo_host 25 = .ok (.iload 4, 2) := by decide +kernel
theorem d_Mo_host_27 : decode c_Mo_host 27 = .ok (.iconst 3, 1) := by decide +kernel
theorem d_Mo_host_28 : decode c_Mo_host 28 = .ok (.if_icmp .le 5, 3) := by decide +kernel
theorem d_Mo_host_31 : decode c_Mo_host 31 = .ok (.iconst 0, 1) := by decide +kernel
theorem d_Mo_host_32 : decode c_Mo_host 32 = .ok (.ireturn, 1) := by decide +kernel
theorem d_Mo_host_33 : decode c_Mo_host 33 = .ok (.aload_n 0, 1) := by decide +kernel
theorem d_Mo_host_34 : decode c_Mo_host 34 = .ok (.getfield 41, 3) := by decide +kernel
theorem d_Mo_host_37 : decode c_Mo_host 37 = .ok (.iload_n 1, 1) := by decide +kernel
theorem d_Mo_host_38 : decode c_Mo_host 38 = .ok (.iload_n 2, 1) := by decide +kernel
theorem d_Mo_host_39 : decode c_Mo_host 39 = .ok (.iastore, 1) := by decide +kernel
theorem d_Mo_host_40 : decode c_Mo_host 40 = .ok (.aload_n 0, 1) := by decide +kernel
theorem d_Mo_host_41 : decode c_Mo_host 41 = .ok (.getfield 44, 3) := by decide +kernel
theorem d_Mo_host_44 : decode c_Mo_host 44 = .ok (.iload_n 1, 1) := by decide +kernel
theorem d_Mo_host_45 : decode c_Mo_host 45 = .ok (.iload_n 3, 1) := by decide +kernel
theorem d_Mo_host_46 : decode c_Mo_host 46 = .ok (.iastore, 1) := by decide +kernel
theorem d_Mo_host_47 : decode c_Mo_host 47 = .ok (.aload_n 0, 1) := by decide +kernel
theorem d_Mo_host_48 : decode c_Mo_host 48 = .ok (.getfield 47, 3) := by decide +kernel
theorem d_Mo_host_51 : decode c_Mo_host 51 = .ok (.iload_n 1, 1) := by decide +kernel
theorem d_Mo_host_52 : decode c_Mo_host 52 = .ok (.iload 4, 2) := by decide +kernel
theorem d_Mo_host_54 : decode c_Mo_host 54 = .ok (.iastore, 1) := by decide +kernel
theorem d_Mo_host_55 : decode c_Mo_host 55 = .ok (.aload_n 0, 1) := by decide +kernel
theorem d_Mo_host_56 : decode c_Mo_host 56 = .ok (.iload_n 1, 1) := by decide +kernel
theorem d_Mo_host_57 : decode c_Mo_host 57 = .ok (.invokevirtual 267, 3) := by decide +kernel
theorem d_Mo_host_60 : decode c_Mo_host 60 = .ok (.iconst 1, 1) := by decide +kernel
theorem d_Mo_host_61 : decode c_Mo_host 61 = .ok (.ireturn, 1) := by decide +kernel
theorem d_Mo_start_0 : decode c_Mo_start 0 = .ok (.iload_n 1, 1) := by decide +kernel
theorem d_Mo_start_1 : decode c_Mo_start 1 = .ok (.ifCond .lt 17, 3) := by decide +kernel
theorem d_Mo_start_4 : decode c_Mo_start 4 = .ok (.iload_n 1, 1) := by decide +kernel
theorem d_Mo_start_5 : decode c_Mo_start 5 = .ok (.iconst 3, 1) := by decide +kernel
theorem d_Mo_start_6 : decode c_Mo_start 6 = .ok (.if_icmp .gt 12, 3) := by decide +kernel
theorem d_Mo_start_9 : decode c_Mo_start 9 = .ok (.aload_n 0, 1) := by decide +kernel
theorem d_Mo_start_10 : decode c_Mo_start 10 = .ok (.getfield 41, 3) := by decide +kernel
theorem d_Mo_start_13 : decode c_Mo_start 13 = .ok (.iload_n 1, 1) := by decide +kernel
theorem d_Mo_start_14 : decode c_Mo_start 14 = .ok (.iaload, 1) := by decide +kernel
theorem d_Mo_start_15 : decode c_Mo_start 15 = .ok (.ifCond .ge 5, 3) := by decide +kernel
theorem d_Mo_start_18 : decode c_Mo_start 18 = .ok (.iconst 0, 1) := by decide +kernel
theorem d_Mo_start_19 : decode c_Mo_start 19 = .ok (.ireturn, 1) := by decide +kernel
theorem d_Mo_start_20 : decode c_Mo_start 20 = .ok (.aload_n 0, 1) := by decide +kernel
theorem d_Mo_start_21 : decode c_Mo_start 21 = .ok (.iload_n 1, 1) := by decide +kernel
theorem d_Mo_start_22 : decode c_Mo_start 22 = .ok (.invokevirtual 267, 3) := by decide +kernel
theorem d_Mo_start_25 : decode c_Mo_start 25 = .ok (.aload_n 0, 1) := by decide +kernel
theorem d_Mo_start_26 : decode c_Mo_start 26 = .ok (.iconst 0, 1) := by decide +kernel
theorem d_Mo_start_27 : decode c_Mo_start 27 = .ok (.putfield 221, 3) := by decide +kernel
theorem d_Mo_start_30 : decode c_Mo_start 30 = .ok (.aload_n 0, 1) := by decide +kernel
theorem d_Mo_start_31 : decode c_Mo_start 31 = .ok (.iload_n 2, 1) := by decide +kernel
theorem d_Mo_start_32 : decode c_Mo_start 32 = .ok (.ifCond .eq 7, 3) := by decide +kernel
theorem d_Mo_start_35 : decode c_Mo_start 35 = .ok (.iconst 1, 1) := by decide +kernel
theorem d_Mo_start_36 : decode c_Mo_start 36 = .ok (.goto 4, 3) := by decide +kernel
theorem d_Mo_start_39 : decode c_Mo_start 39 = .ok (.iconst 2, 1) := by decide +kernel
theorem d_Mo_start_40 : decode c_Mo_start 40 = .ok (.invokevirtual 239, 3) := by decide +kernel
theorem d_Mo_start_43 : decode c_Mo_start 43 = .ok (.aload_n 0, 1) := by decide +kernel
theorem d_Mo_start_44 : decode c_Mo_start 44 = .ok (.iconst 0, 1) := by decide +kernel
theorem d_Mo_start_45 : decode c_Mo_start 45 = .ok (.iload_n 1, 1) := by decide +kernel
theorem d_Mo_start_46 : decode c_Mo_start 46 = .ok (.invokevirtual 242, 3) := by decide +kernel
theorem d_Mo_start_49 : decode c_Mo_start 49 = .ok (.iconst 1, 1) := by decide +kernel
theorem d_Mo_start_50 : decode c_Mo_start 50 = .ok (.ireturn, 1) := by decide +kernel
theorem d_Mo_hostTakes_0 : decode c_Mo_hostTakes 0 = .ok (.aload_n 0, 1) := by decide +kernel
theorem d_Mo_hostTakes_1 : decode c_Mo_hostTakes 1 = .ok (.getfield 41, 3) := by decide +kernel
theorem d_Mo_hostTakes_4 : decode c_Mo_hostTakes 4 = .ok (.iload_n 1, 1) := by decide +kernel
theorem d_Mo_hostTakes_5 : decode c_Mo_hostTakes 5 = .ok (.iaload, 1) := by decide +kernel
theorem d_Mo_hostTakes_6 : decode c_Mo_hostTakes 6 = .ok (.ifCond .ge 4, 3) := by decide +kernel
theorem d_Mo_hostTakes_9 : decode c_Mo_hostTakes 9 = .ok (.return_, 1) := by decide +kernel
theorem d_Mo_hostTakes_10 : decode c_Mo_hostTakes 10 = .ok (.aload_n 0, 1) := by decide +kernel
theorem d_Mo_hostTakes_11 : decode c_Mo_hostTakes 11 = .ok (.invokevirtual 270, 3) := by decide +kernel
theorem d_Mo_hostTakes_14 : decode c_Mo_hostTakes 14 = .ok (.istore_n 2, 1) := by decide +kernel
theorem d_Mo_hostTakes_15 : decode c_Mo_hostTakes 15 = .ok (.iload_n 2, 1) := by decide +kernel
theorem d_Mo_hostTakes_16 : decode c_Mo_hostTakes 16 = .ok (.ifCond .ge 13, 3) := by decide +kernel
theorem d_Mo_hostTakes_19 : decode c_Mo_hostTakes 19 = .ok (.aload_n 0, 1) := by decide +kernel
theorem d_Mo_hostTakes_20 : decode c_Mo_hostTakes 20 = .ok (.getfield 188, 3) := by decide +kernel
theorem d_Mo_hostTakes_23 : decode c_Mo_hostTakes 23 = .ok (.iconst 1, 1) := by decide +kernel
theorem d_Mo_hostTakes_24 : decode c_Mo_hostTakes 24 = .ok (.dup2, 1) := by decide +kernel
theorem d_Mo_hostTakes_25 : decode c_Mo_hostTakes 25 = .ok (.iaload, 1) := by decide +kernel
theorem d_Mo_hostTakes_26 : decode c_Mo_hostTakes 26 = .ok (.iconst 1, 1) := by decide +kernel
theorem d_Mo_hostTakes_27 : decode c_Mo_hostTakes 27 = .ok (.iadd, 1) := by decide +kernel
theorem d_Mo_hostTakes_28 : decode c_Mo_hostTakes 28 = .ok (.iastore, 1) := by decide +kernel
theorem d_Mo_hostTakes_29 : decode c_Mo_hostTakes 29 = .ok (.iload_n 2, 1) := by decide +kernel
theorem d_Mo_hostTakes_30 : decode c_Mo_hostTakes 30 = .ok (.ifCond .eq 4, 3) := by decide +kernel
theorem d_Mo_hostTakes_33 : decode c_Mo_hostTakes 33 = .ok (.return_, 1) := by decide +kernel
theorem d_Mo_hostTakes_34 : decode c_Mo_hostTakes 34 = .ok (.aload_n 0, 1) := by decide +kernel
theorem d_Mo_hostTakes_35 : decode c_Mo_hostTakes 35 = .ok (.getfield 38, 3) := by decide +kernel
theorem d_Mo_hostTakes_38 : decode c_Mo_hostTakes 38 = .ok (.iconst 0, 1) := by decide +kernel
theorem d_Mo_hostTakes_39 : decode c_Mo_hostTakes 39 = .ok (.iaload, 1) := by decide +kernel
theorem d_Mo_hostTakes_40 : decode c_Mo_hostTakes 40 = .ok (.iconst 1, 1) := by decide +kernel
theorem d_Mo_hostTakes_41 : decode c_Mo_hostTakes 41 = .ok (.if_icmp .ne 11, 3) := by decide +kernel
theorem d_Mo_hostTakes_44 : decode c_Mo_hostTakes 44 = .ok (.aload_n 0, 1) := by decide +kernel
theorem d_Mo_hostTakes_45 : decode c_Mo_hostTakes 45 = .ok (.iload_n 1, 1) := by decide +kernel
theorem d_Mo_hostTakes_46 : decode c_Mo_hostTakes 46 = .ok (.invokevirtual 273, 3) := by decide +kernel
theorem d_Mo_hostTakes_49 : decode c_Mo_hostTakes 49 = .ok (.goto 65, 3) := by decide +kernel
theorem d_Mo_hostTakes_52 : decode c_Mo_hostTakes 52 = .ok (.aload_n 0, 1) := by decide +kernel
theorem d_Mo_hostTakes_53 : decode c_Mo_hostTakes 53 = .ok (.getfield 38, 3) := by decide +kernel
theorem d_Mo_hostTakes_56 : decode c_Mo_hostTakes 56 = .ok (.iconst 0, 1) := by decide +kernel
theorem d_Mo_hostTakes_57 : decode c_Mo_hostTakes 57 = .ok (.iaload, 1) := by decide +kernel
theorem d_Mo_hostTakes_58 : decode c_Mo_hostTakes 58 = .ok (.iconst 3, 1) := by decide +kernel
theorem d_Mo_hostTakes_59 : decode c_Mo_hostTakes 59 = .ok (.if_icmp .ne 31, 3) := by decide +kernel
theorem d_Mo_hostTakes_62 : decode c_Mo_hostTakes 62 = .ok (.aload_n 0, 1) := by decide +kernel
theorem d_Mo_hostTakes_63 : decode c_Mo_hostTakes 63 = .ok (.getfield 59, 3) := by decide +kernel
theorem d_Mo_hostTakes_66 : decode c_Mo_hostTakes 66 = .ok (.iload_n 1, 1) := by decide +kernel
theorem d_Mo_hostTakes_67 : decode c_Mo_hostTakes 67 = .ok (.aload_n 0, 1) := by decide +kernel
theorem d_Mo_hostTakes_68 : decode c_Mo_hostTakes 68 = .ok (.getfield 56, 3) := by decide +kernel
theorem d_Mo_hostTakes_71 : decode c_Mo_hostTakes 71 = .ok (.iload_n 1, 1) := by decide +kernel
theorem d_Mo_hostTakes_72 : decode c_Mo_hostTakes 72 = .ok (.baload, 1) := by decide +kernel
theorem d_Mo_hostTakes_73 : decode c_Mo_hostTakes 73 = .ok (.ifCond .eq 7, 3) := by decide +kernel
theorem d_Mo_hostTakes_76 : decode c_Mo_hostTakes 76 = .ok (.iconst 1, 1) := by decide +kernel
theorem d_Mo_hostTakes_77 : decode c_Mo_hostTakes 77 = .ok (.goto 9, 3) := by decide +kernel
theorem d_Mo_hostTakes_80 : decode c_Mo_hostTakes 80 = .ok (.aload_n 0, 1) := by decide +kernel
theorem d_Mo_hostTakes_81 : decode c_Mo_hostTakes 81 = .ok (.getfield 59, 3) := by decide +kernel
theorem d_Mo_hostTakes_84 : decode c_Mo_hostTakes 84 = .ok (.iload_n 1, 1) := by decide +kernel
theorem d_Mo_hostTakes_85 : decode c_Mo_hostTakes 85 = .ok (.iaload, 1) := by decide +kernel
theorem d_Mo_hostTakes_86 : decode c_Mo_hostTakes 86 = .ok (.iastore, 1) := by decide +kernel
theorem d_Mo_hostTakes_87 : decode c_Mo_hostTakes 87 = .ok (.goto 27, 3) := by decide +kernel
theorem d_Mo_hostTakes_90 : decode c_Mo_hostTakes 90 = .ok (.aload_n 0, 1) := by decide +kernel
theorem d_Mo_hostTakes_91 : decode c_Mo_hostTakes 91 = .ok (.getfield 38, 3) := by decide +kernel
theorem d_Mo_hostTakes_94 : decode c_Mo_hostTakes 94 = .ok (.iconst 0, 1) := by decide +kernel
theorem d_Mo_hostTakes_95 : decode c_Mo_hostTakes 95 = .ok (.iaload, 1) := by decide +kernel
theorem d_Mo_hostTakes_96 : decode c_Mo_hostTakes 96 = .ok (.iconst 4, 1) := by decide +kernel
theorem d_Mo_hostTakes_97 : decode c_Mo_hostTakes 97 = .ok (.if_icmp .ne 17, 3) := by decide +kernel
theorem d_Mo_hostTakes_100 : decode c_Mo_hostTakes 100 = .ok (.aload_n 0, 1) := by decide +kernel
theorem d_Mo_hostTakes_101 : decode c_Mo_hostTakes 101 = .ok (.getfield 59, 3) := by decide +kernel
theorem d_Mo_hostTakes_104 : decode c_Mo_hostTakes 104 = .ok (.iload_n 1, 1) := by decide +kernel
theorem d_Mo_hostTakes_105 : decode c_Mo_hostTakes 105 = .ok (.iconst 2, 1) := by decide +kernel
theorem d_Mo_hostTakes_106 : decode c_Mo_hostTakes 106 = .ok (.iastore, 1) := by decide +kernel
theorem d_Mo_hostTakes_107 : decode c_Mo_hostTakes 107 = .ok (.aload_n 0, 1) := by decide +kernel
theorem d_Mo_hostTakes_108 : decode c_Mo_hostTakes 108 = .ok (.getfield 56, 3) := by decide +kernel
theorem d_Mo_hostTakes_111 : decode c_Mo_hostTakes 111 = .ok (.iload_n 1, 1) := by decide +kernel
theorem d_Mo_hostTakes_112 : decode c_Mo_hostTakes 112 = .ok (.iconst 0, 1) := by decide +kernel
theorem d_Mo_hostTakes_113 : decode c_Mo_hostTakes 113 = .ok (.bastore, 1) := by decide +kernel
theorem d_Mo_hostTakes_114 : decode c_Mo_hostTakes 114 = .ok (.return_, 1) := by decide +kernel
theorem d_Mo_requested_0 : decode c_Mo_requested 0 = .ok (.aload_n 0, 1) := by decide +kernel
theorem d_Mo_requested_1 : decode c_Mo_requested 1 = .ok (.getfield 50, 3) := by decide +kernel
theorem d_Mo_requested_4 : decode c_Mo_requested 4 = .ok (.iload_n 1, 1) := by decide +kernel
theorem d_Mo_requested_5 : decode c_Mo_requested 5 = .ok (.iaload, 1) := by decide +kernel
theorem d_Mo_requested_6 : decode c_Mo_requested 6 = .ok (.ifCond .le 73, 3) := by decide +kernel
theorem d_Mo_requested_9 : decode c_Mo_requested 9 = .ok (.aload_n 0, 1) := by decide +kernel
theorem d_Mo_requested_10 : decode c_Mo_requested 10 = .ok (.getfield 53, 3) := by decide +kernel
theorem d_Mo_requested_13 : decode c_Mo_requested 13 = .ok (.bipush 20, 2) := by decide +kernel
theorem d_Mo_requested_15 : decode c_Mo_requested 15 = .ok (.iload_n 1, 1) := by decide +kernel
theorem d_Mo_requested_16 : decode c_Mo_requested 16 = .ok (.imul, 1) := by decide +kernel
theorem d_Mo_requested_17 : decode c_Mo_requested 17 = .ok (.iconst 1, 1) := by decide +kernel
theorem d_Mo_requested_18 : decode c_Mo_requested 18 = .ok (.iadd, 1) := by decide +kernel
theorem d_Mo_requested_19 : decode c_Mo_requested 19 = .ok (.iaload, 1) := by decide +kernel
theorem d_Mo_requested_20 : decode c_Mo_requested 20 = .ok (.aload_n 0, 1) := by decide +kernel
theorem d_Mo_requested_21 : decode c_Mo_requested 21 = .ok (.getfield 38, 3) := by decide +kernel
theorem d_Mo_requested_24 : decode c_Mo_requested 24 = .ok (.iconst 1, 1) := by decide +kernel
theorem d_Mo_requested_25 : decode c_Mo_requested 25 = .ok (.iaload, 1) := by decide +kernel
theorem d_Mo_requested_26 : decode c_Mo_requested 26 = .ok (.if_icmp .ne 53, 3) := by decide +kernel
theorem d_Mo_requested_29 : decode c_Mo_requested 29 = .ok (.aload_n 0, 1) := by decide +kernel
theorem d_Mo_requested_30 : decode c_Mo_requested 30 = .ok (.aload_n 0, 1) := by decide +kernel
theorem d_Mo_requested_31 : decode c_Mo_requested 31 = .ok (.getfield 50, 3) := by decide +kernel
theorem d_Mo_requested_34 : decode c_Mo_requested 34 = .ok (.iload_n 1, 1) := by decide +kernel
theorem d_Mo_requested_35 : decode c_Mo_requested 35 = .ok (.iaload, 1) := by decide +kernel
theorem d_Mo_requested_36 : decode c_Mo_requested 36 = .ok (.putfield 233, 3) := by decide +kernel
theorem d_Mo_requested_39 : decode c_Mo_requested 39 = .ok (.iconst 0, 1) := by decide +kernel
theorem d_Mo_requested_40 : decode c_Mo_requested 40 = .ok (.istore_n 2, 1) := by decide +kernel
theorem d_Mo_requested_41 : decode c_Mo_requested 41 = .ok (.iload_n 2, 1) := by decide +kernel
theorem d_Mo_requested_42 : decode c_Mo_requested 42 = .ok (.aload_n 0, 1) := by decide +kernel
theorem d_Mo_requested_43 : decode c_Mo_requested 43 = .ok (.getfield 233, 3) := by decide +kernel
theorem d_Mo_requested_46 : decode c_Mo_requested 46 = .ok (.if_icmp .ge 26, 3) := by decide +kernel
theorem d_Mo_requested_49 : decode c_Mo_requested 49 = .ok (.aload_n 0, 1) := by decide +kernel
theorem d_Mo_requested_50 : decode c_Mo_requested 50 = .ok (.getfield 38, 3) := by decide +kernel
theorem d_Mo_requested_53 : decode c_Mo_requested 53 = .ok (.iload_n 2, 1) := by decide +kernel
theorem d_Mo_requested_54 : decode c_Mo_requested 54 = .ok (.aload_n 0, 1) := by decide +kernel
theorem d_Mo_requested_55 : decode c_Mo_requested 55 = .ok (.getfield 53, 3) := by decide +kernel
theorem d_Mo_requested_58 : decode c_Mo_requested 58 = .ok (.bipush 20, 2) := by decide +kernel
theorem d_Mo_requested_60 : decode c_Mo_requested 60 = .ok (.iload_n 1, 1) := by decide +kernel
theorem d_Mo_requested_61 : decode c_Mo_requested 61 = .ok (.imul, 1) := by decide +kernel
theorem d_Mo_requested_62 : decode c_Mo_requested 62 = .ok (.iload_n 2, 1) := by decide +kernel
theorem d_Mo_requested_63 : decode c_Mo_requested 63 = .ok (.iadd, 1) := by decide +kernel
theorem d_Mo_requested_64 : decode c_Mo_requested 64 = .ok (.iaload, 1) := by decide +kernel
theorem d_Mo_requested_65 : decode c_Mo_requested 65 = .ok (.iastore, 1) := by decide +kernel
theorem d_Mo_requested_66 : decode c_Mo_requested 66 = .ok (.iinc 2 1, 3) := by decide +kernel
theorem d_Mo_requested_69 : decode c_Mo_requested 69 = .ok (.goto (-28), 3) := by decide +kernel
theorem d_Mo_requested_72 : decode c_Mo_requested 72 = .ok (.aload_n 0, 1) := by decide +kernel
theorem d_Mo_requested_73 : decode c_Mo_requested 73 = .ok (.iconst 0, 1) := by decide +kernel
theorem d_Mo_requested_74 : decode c_Mo_requested 74 = .ok (.iload_n 1, 1) := by decide +kernel
theorem d_Mo_requested_75 : decode c_Mo_requested 75 = .ok (.invokevirtual 276, 3) := by decide +kernel
theorem d_Mo_requested_78 : decode c_Mo_requested 78 = .ok (.return_, 1) := by decide +kernel
theorem d_Mo_requested_79 : decode c_Mo_requested 79 = .ok (.aload_n 0, 1) := by decide +kernel
theorem d_Mo_requested_80 : decode c_Mo_requested 80 = .ok (.getfield 38, 3) := by decide +kernel
theorem d_Mo_requested_83 : decode c_Mo_requested 83 = .ok (.iconst 3, 1) := by decide +kernel
theorem d_Mo_requested_84 : decode c_Mo_requested 84 = .ok (.iaload, 1) := by decide +kernel
theorem d_Mo_requested_85 : decode c_Mo_requested 85 = .ok (.istore_n 2, 1) := by decide +kernel
theorem d_Mo_requested_86 : decode c_Mo_requested 86 = .ok (.iload_n 2, 1) := by decide +kernel
theorem d_Mo_requested_87 : decode c_Mo_requested 87 = .ok (.iconst 4, 1) := by decide +kernel
theorem d_Mo_requested_88 : decode c_Mo_requested 88 = .ok (.if_icmp .ne 14, 3) := by decide +kernel
theorem d_Mo_requested_91 : decode c_Mo_requested 91 = .ok (.aload_n 0, 1) := by decide +kernel
theorem d_Mo_requested_92 : decode c_Mo_requested 92 = .ok (.getfield 47, 3) := by decide +kernel
theorem d_Mo_requested_95 : decode c_Mo_requested 95 = .ok (.iload_n 1, 1) := by decide +kernel
theorem d_Mo_requested_96 : decode c_Mo_requested 96 = .ok (.iaload, 1) := by decide +kernel
theorem d_Mo_requested_97 : decode c_Mo_requested 97 = .ok (.iconst 1, 1) := by decide +kernel
theorem d_Mo_requested_98 : decode c_Mo_requested 98 = .ok (.iand, 1) := by decide +kernel
theorem d_Mo_requested_99 : decode c_Mo_requested 99 = .ok (.ifCond .ne 20, 3) := by decide +kernel
theorem d_Mo_requested_102 : decode c_Mo_requested 102 = .ok (.iload_n 2, 1) := by decide +kernel
theorem d_Mo_requested_103 : decode c_Mo_requested 103 = .ok (.bipush 51, 2) := by decide +kernel
theorem d_Mo_requested_105 : decode c_Mo_requested 105 = .ok (.if_icmp .ne 18, 3) := by decide +kernel
theorem d_Mo_requested_108 : decode c_Mo_requested 108 = .ok (.aload_n 0, 1) := by decide +kernel
theorem d_Mo_requested_109 : decode c_Mo_requested 109 = .ok (.getfield 47, 3) := by decide +kernel
theorem d_Mo_requested_112 : decode c_Mo_requested 112 = .ok (.iload_n 1, 1) := by decide +kernel
theorem d_Mo_requested_113 : decode c_Mo_requested 113 = .ok (.iaload, 1) := by decide +kernel
theorem d_Mo_requested_114 : decode c_Mo_requested 114 = .ok (.iconst 2, 1) := by decide +kernel
theorem d_Mo_requested_115 : decode c_Mo_requested 115 = .ok (.iand, 1) := by decide +kernel
theorem d_Mo_requested_116 : decode c_Mo_requested 116 = .ok (.ifCond .eq 7, 3) := by decide +kernel
theorem d_Mo_requested_119 : decode c_Mo_requested 119 = .ok (.iconst 1, 1) := by decide +kernel
theorem d_Mo_requested_120 : decode c_Mo_requested 120 = .ok (.goto 4, 3) := by decide +kernel
theorem d_Mo_requested_123 : decode c_Mo_requested 123 = .ok (.iconst 0, 1) := by decide +kernel
theorem d_Mo_requested_124 : decode c_Mo_requested 124 = .ok (.istore_n 3, 1) := by decide +kernel
theorem d_Mo_requested_125 : decode c_Mo_requested 125 = .ok (.iconst 1, 1) := by decide +kernel
theorem d_Mo_requested_126 : decode c_Mo_requested 126 = .ok (.istore 4, 2) := by decide +kernel
theorem d_Mo_requested_128 : decode c_Mo_requested 128 = .ok (.iload_n 2, 1) := by decide +kernel
theorem d_Mo_requested_129 : decode c_Mo_requested 129 = .ok (.iconst 1, 1) := by decide +kernel
theorem d_Mo_requested_130 : decode c_Mo_requested 130 = .ok (.if_icmp .ne 35, 3) := by decide +kernel
theorem d_Mo_requested_133 : decode c_Mo_requested 133 = .ok (.aload_n 0, 1) := by decide +kernel
theorem d_Mo_requested_134 : decode c_Mo_requested 134 = .ok (.getfield 56, 3) := by decide +kernel
theorem d_Mo_requested_137 : decode c_Mo_requested 137 = .ok (.iload_n 1, 1) := by decide +kernel
theorem d_Mo_requested_138 : decode c_Mo_requested 138 = .ok (.iconst 0, 1) := by decide +kernel
theorem d_Mo_requested_139 : decode c_Mo_requested 139 = .ok (.bastore, 1) := by decide +kernel
theorem d_Mo_requested_140 : decode c_Mo_requested 140 = .ok (.aload_n 0, 1) := by decide +kernel
theorem d_Mo_requested_141 : decode c_Mo_requested 141 = .ok (.iconst 2, 1) := by decide +kernel
theorem d_Mo_requested_142 : decode c_Mo_requested 142 = .ok (.aload_n 0, 1) := by decide +kernel
theorem d_Mo_requested_143 : decode c_Mo_requested 143 = .ok (.getfield 38, 3) := by decide +kernel
theorem d_Mo_requested_146 : decode c_Mo_requested 146 = .ok (.iconst 1, 1) := by decide +kernel
theorem d_Mo_requested_147 : decode c_Mo_requested 147 = .ok (.iaload, 1) := by decide +kernel
theorem d_Mo_requested_148 : decode c_Mo_requested 148 = .ok (.iconst 1, 1) := by decide +kernel
theorem d_Mo_requested_149 : decode c_Mo_requested 149 = .ok (.invokevirtual 279, 3) := by decide +kernel
theorem d_Mo_requested_152 : decode c_Mo_requested 152 = .ok (.aload_n 0, 1) := by decide +kernel
theorem d_Mo_requested_153 : decode c_Mo_requested 153 = .ok (.aload_n 0, 1) := by decide +kernel
theorem d_Mo_requested_154 : decode c_Mo_requested 154 = .ok (.getfield 41, 3) := by decide +kernel
theorem d_Mo_requested_157 : decode c_Mo_requested 157 = .ok (.iload_n 1, 1) := by decide +kernel
theorem d_Mo_requested_158 : decode c_Mo_requested 158 = .ok (.iaload, 1) := by decide +kernel
theorem d_Mo_requested_159 : decode c_Mo_requested 159 = .ok (.invokevirtual 236, 3) := by decide +kernel
theorem d_Mo_requested_162 : decode c_Mo_requested 162 = .ok (.goto 164, 3) := by decide +kernel
theorem d_Mo_requested_165 : decode c_Mo_requested 165 = .ok (.iload_n 2, 1) := by decide +kernel
theorem d_Mo_requested_166 : decode c_Mo_requested 166 = .ok (.iconst 4, 1) := by decide +kernel
theorem d_Mo_requested_167 : decode c_Mo_requested 167 = .ok (.if_icmp .eq 9, 3) := by decide +kernel
theorem d_Mo_requested_170 : decode c_Mo_requested 170 = .ok (.iload_n 2, 1) := by decide +kernel
theorem d_Mo_requested_171 : decode c_Mo_requested 171 = .ok (.bipush 51, 2) := by decide +kernel
theorem d_Mo_requested_173 : decode c_Mo_requested 173 = .ok (.if_icmp .ne 58, 3) := by decide +kernel
theorem d_Mo_requested_176 : decode c_Mo_requested 176 = .ok (.iload_n 3, 1) := by decide +kernel
theorem d_Mo_requested_177 : decode c_Mo_requested 177 = .ok (.ifCond .ne 54, 3) := by decide +kernel
theorem d_Mo_requested_180 : decode c_Mo_requested 180 = .ok (.aload_n 0, 1) := by decide +kernel
theorem d_Mo_requested_181 : decode c_Mo_requested 181 = .ok (.iconst 2, 1) := by decide +kernel
theorem d_Mo_requested_182 : decode c_Mo_requested 182 = .ok (.aload_n 0, 1) := by decide +kernel
theorem d_Mo_requested_183 : decode c_Mo_requested 183 = .ok (.getfield 38, 3) := by decide +kernel
theorem d_Mo_requested_186 : decode c_Mo_requested 186 = .ok (.iconst 1, 1) := by decide +kernel
theorem d_Mo_requested_187 : decode c_Mo_requested 187 = .ok (.iaload, 1) := by decide +kernel
theorem d_Mo_requested_188 : decode c_Mo_requested 188 = .ok (.iconst 3, 1) := by decide +kernel
theorem d_Mo_requested_189 : decode c_Mo_requested 189 = .ok (.invokevirtual 279, 3) := by decide +kernel
theorem d_Mo_requested_192 : decode c_Mo_requested 192 = .ok (.aload_n 0, 1) := by decide +kernel
theorem d_Mo_requested_193 : decode c_Mo_requested 193 = .ok (.aload_n 0, 1) := by decide +kernel
theorem d_Mo_requested_194 : decode c_Mo_requested 194 = .ok (.getfield 47, 3) := by decide +kernel
theorem d_Mo_requested_197 : decode c_Mo_requested 197 = .ok (.iload_n 1, 1) := by decide +kernel
theorem d_Mo_requested_198 : decode c_Mo_requested 198 = .ok (.iaload, 1) := by decide +kernel
theorem d_Mo_requested_199 : decode c_Mo_requested 199 = .ok (.iconst 1, 1) := by decide +kernel
theorem d_Mo_requested_200 : decode c_Mo_requested 200 = .ok (.iand, 1) := by decide +kernel
theorem d_Mo_requested_201 : decode c_Mo_requested 201 = .ok (.ifCond .eq 7, 3) := by decide +kernel
theorem d_Mo_requested_204 : decode c_Mo_requested 204 = .ok (.iconst 4, 1) := by decide +kernel
theorem d_Mo_requested_205 : decode c_Mo_requested 205 = .ok (.goto 20, 3) := by decide +kernel
theorem d_Mo_requested_208 : decode c_Mo_requested 208 = .ok (.aload_n 0, 1) := by decide +kernel
theorem d_Mo_requested_209 : decode c_Mo_requested 209 = .ok (.getfield 47, 3) := by decide +kernel
theorem d_Mo_requested_212 : decode c_Mo_requested 212 = .ok (.iload_n 1, 1) := by decide +kernel
theorem d_Mo_requested_213 : decode c_Mo_requested 213 = .ok (.iaload, 1) := by decide +kernel
theorem d_Mo_requested_214 : decode c_Mo_requested 214 = .ok (.iconst 2, 1) := by decide +kernel
theorem d_Mo_requested_215 : decode c_Mo_requested 215 = .ok (.iand, 1) := by decide +kernel
theorem d_Mo_requested_216 : decode c_Mo_requested 216 = .ok (.ifCond .eq 8, 3) := by decide +kernel
theorem d_Mo_requested_219 : decode c_Mo_requested 219 = .ok (.bipush 51, 2) := by decide +kernel
theorem d_Mo_requested_221 : decode c_Mo_requested 221 = .ok (.goto 4, 3) := by decide +kernel
theorem d_Mo_requested_224 : decode c_Mo_requested 224 = .ok (.iconst 0, 1) := by decide +kernel
theorem d_Mo_requested_225 : decode c_Mo_requested 225 = .ok (.invokevirtual 236, 3) := by decide +kernel
theorem d_Mo_requested_228 : decode c_Mo_requested 228 = .ok (.goto 98, 3) := by decide +kernel
theorem d_Mo_requested_231 : decode c_Mo_requested 231 = .ok (.iload_n 2, 1) := by decide +kernel
theorem d_Mo_requested_232 : decode c_Mo_requested 232 = .ok (.iconst 4, 1) := by decide +kernel
theorem d_Mo_requested_233 : decode c_Mo_requested 233 = .ok (.if_icmp .ne 63, 3) := by decide +kernel
theorem d_Mo_requested_236 : decode c_Mo_requested 236 = .ok (.aload_n 0, 1) := by decide +kernel
theorem d_Mo_requested_237 : decode c_Mo_requested 237 = .ok (.getfield 233, 3) := by decide +kernel
theorem d_Mo_requested_240 : decode c_Mo_requested 240 = .ok (.bipush 8, 2) := by decide +kernel
theorem d_Mo_requested_242 : decode c_Mo_requested 242 = .ok (.if_icmp .ne 54, 3) := by decide +kernel
theorem d_Mo_requested_245 : decode c_Mo_requested 245 = .ok (.aload_n 0, 1) := by decide +kernel
theorem d_Mo_requested_246 : decode c_Mo_requested 246 = .ok (.aload_n 0, 1) := by decide +kernel
theorem d_Mo_requested_247 : decode c_Mo_requested 247 = .ok (.getfield 38, 3) := by decide +kernel
theorem d_Mo_requested_250 : decode c_Mo_requested 250 = .ok (.iconst 1, 1) := by decide +kernel
theorem d_Mo_requested_251 : decode c_Mo_requested 251 = .ok (.iaload, 1) := by decide +kernel
theorem d_Mo_requested_252 : decode c_Mo_requested 252 = .ok (.aload_n 0, 1) := by decide +kernel
theorem d_Mo_requested_253 : decode c_Mo_requested 253 = .ok (.getfield 44, 3) := by decide +kernel
theorem d_Mo_requested_256 : decode c_Mo_requested 256 = .ok (.iload_n 1, 1) := by decide +kernel
theorem d_Mo_requested_257 : decode c_Mo_requested 257 = .ok (.iaload, 1) := by decide +kernel
theorem d_Mo_requested_258 : decode c_Mo_requested 258 = .ok (.aload_n 0, 1) := by decide +kernel
theorem d_Mo_requested_259 : decode c_Mo_requested 259 = .ok (.iconst 4, 1) := by decide +kernel
theorem d_Mo_requested_260 : decode c_Mo_requested 260 = .ok (.invokevirtual 283, 3) := by decide +kernel
theorem d_Mo_requested_263 : decode c_Mo_requested 263 = .ok (.invokevirtual 286, 3) := by decide +kernel
theorem d_Mo_requested_266 : decode c_Mo_requested 266 = .ok (.istore 5, 2) := by decide +kernel
theorem d_Mo_requested_268 : decode c_Mo_requested 268 = .ok (.aload_n 0, 1) := by decide +kernel
theorem d_Mo_requested_269 : decode c_Mo_requested 269 = .ok (.getfield 56, 3) := by decide +kernel
theorem d_Mo_requested_272 : decode c_Mo_requested 272 = .ok (.iload_n 1, 1) := by decide +kernel
theorem d_Mo_requested_273 : decode c_Mo_requested 273 = .ok (.iconst 1, 1) := by decide +kernel
theorem d_Mo_requested_274 : decode c_Mo_requested 274 = .ok (.bastore, 1) := by decide +kernel
theorem d_Mo_requested_275 : decode c_Mo_requested 275 = .ok (.aload_n 0, 1) := by decide +kernel
theorem d_Mo_requested_276 : decode c_Mo_requested 276 = .ok (.iconst 2, 1) := by decide +kernel
theorem d_Mo_requested_277 : decode c_Mo_requested 277 = .ok (.aload_n 0, 1) := by decide +kernel
theorem d_Mo_requested_278 : decode c_Mo_requested 278 = .ok (.getfield 38, 3) := by decide +kernel
theorem d_Mo_requested_281 : decode c_Mo_requested 281 = .ok (.iconst 1, 1) := by decide +kernel
theorem d_Mo_requested_282 : decode c_Mo_requested 282 = .ok (.iaload, 1) := by decide +kernel
theorem d_Mo_requested_283 : decode c_Mo_requested 283 = .ok (.iconst 4, 1) := by decide +kernel
theorem d_Mo_requested_284 : decode c_Mo_requested 284 = .ok (.invokevirtual 279, 3) := by decide +kernel
theorem d_Mo_requested_287 : decode c_Mo_requested 287 = .ok (.aload_n 0, 1) := by decide +kernel
theorem d_Mo_requested_288 : decode c_Mo_requested 288 = .ok (.iload 5, 2) := by decide +kernel
theorem d_Mo_requested_290 : decode c_Mo_requested 290 = .ok (.invokevirtual 290, 3) := by decide +kernel
theorem d_Mo_requested_293 : decode c_Mo_requested 293 = .ok (.goto 33, 3) := by decide +kernel
theorem d_Mo_requested_296 : decode c_Mo_requested 296 = .ok (.iload_n 2, 1) := by decide +kernel
theorem d_Mo_requested_297 : decode c_Mo_requested 297 = .ok (.bipush 51, 2) := by decide +kernel
theorem d_Mo_requested_299 : decode c_Mo_requested 299 = .ok (.if_icmp .ne 24, 3) := by decide +kernel
theorem d_Mo_requested_302 : decode c_Mo_requested 302 = .ok (.aload_n 0, 1) := by decide +kernel
theorem d_Mo_requested_303 : decode c_Mo_requested 303 = .ok (.getfield 233, 3) := by decide +kernel
theorem d_Mo_requested_306 : decode c_Mo_requested 306 = .ok (.bipush 9, 2) := by decide +kernel
theorem d_Mo_requested_308 : decode c_Mo_requested 308 = .ok (.if_icmp .ne 15, 3) := by decide +kernel
theorem d_Mo_requested_311 : decode c_Mo_requested 311 = .ok (.aload_n 0, 1) := by decide +kernel
theorem d_Mo_requested_312 : decode c_Mo_requested 312 = .ok (.iload_n 1, 1) := by decide +kernel
theorem d_Mo_requested_313 : decode c_Mo_requested 313 = .ok (.invokevirtual 293, 3) := by decide +kernel
theorem d_Mo_requested_316 : decode c_Mo_requested 316 = .ok (.ifCond .eq 7, 3) := by decide +kernel
theorem d_Mo_requested_319 : decode c_Mo_requested 319 = .ok (.iconst 1, 1) := by decide +kernel
theorem d_Mo_requested_320 : decode c_Mo_requested 320 = .ok (.goto 4, 3) := by decide +kernel
theorem d_Mo_requested_323 : decode c_Mo_requested 323 = .ok (.iconst 0, 1) := by decide +kernel
theorem d_Mo_requested_324 : decode c_Mo_requested 324 = .ok (.istore 4, 2) := by decide +kernel
theorem d_Mo_requested_326 : decode c_Mo_requested 326 = .ok (.iload 4, 2) := by decide +kernel
theorem d_Mo_requested_328 : decode c_Mo_requested 328 = .ok (.ifCond .eq 56, 3) := by decide +kernel
theorem d_Mo_requested_331 : decode c_Mo_requested 331 = .ok (.aload_n 0, 1) := by decide +kernel
theorem d_Mo_requested_332 : decode c_Mo_requested 332 = .ok (.getfield 50, 3) := by decide +kernel
theorem d_Mo_requested_335 : decode c_Mo_requested 335 = .ok (.iload_n 1, 1) := by decide +kernel
theorem d_Mo_requested_336 : decode c_Mo_requested 336 = .ok (.aload_n 0, 1) := by decide +kernel
theorem d_Mo_requested_337 : decode c_Mo_requested 337 = .ok (.getfield 233, 3) := by decide +kernel
theorem d_Mo_requested_340 : decode c_Mo_requested 340 = .ok (.iastore, 1) := by decide +kernel
theorem d_Mo_requested_341 : decode c_Mo_requested 341 = .ok (.iconst 0, 1) := by decide +kernel
theorem d_Mo_requested_342 : decode c_Mo_requested 342 = .ok (.istore 5, 2) := by decide +kernel
theorem d_Mo_requested_344 : decode c_Mo_requested 344 = .ok (.iload 5, 2) := by decide +kernel
theorem d_Mo_requested_346 : decode c_Mo_requested 346 = .ok (.aload_n 0, 1) := by decide +kernel
theorem d_Mo_requested_347 : decode c_Mo_requested 347 = .ok (.getfield 233, 3) := by decide +kernel
theorem d_Mo_requested_350 : decode c_Mo_requested 350 = .ok (.if_icmp .ge 28, 3) := by decide +kernel
theorem d_Mo_requested_353 : decode c_Mo_requested 353 = .ok (.aload_n 0, 1) := by decide +kernel
theorem d_Mo_requested_354 : decode c_Mo_requested 354 = .ok (.getfield 53, 3) := by decide +kernel
theorem d_Mo_requested_357 : decode c_Mo_requested 357 = .ok (.bipush 20, 2) := by decide +kernel
theorem d_Mo_requested_359 : decode c_Mo_requested 359 = .ok (.iload_n 1, 1) := by decide +kernel
theorem d_Mo_requested_360 : decode c_Mo_requested 360 = .ok (.imul, 1) := by decide +kernel
theorem d_Mo_requested_361 : decode c_Mo_requested 361 = .ok (.iload 5, 2) := by decide +kernel
theorem d_Mo_requested_363 : decode c_Mo_requested 363 = .ok (.iadd, 1) := by decide +kernel
theorem d_Mo_requested_364 : decode c_Mo_requested 364 = .ok (.aload_n 0, 1) := by decide +kernel
theorem d_Mo_requested_365 : decode c_Mo_requested 365 = .ok (.getfield 38, 3) := by decide +kernel
theorem d_Mo_requested_368 : decode c_Mo_requested 368 = .ok (.iload 5, 2) := by decide +kernel
theorem d_Mo_requested_370 : decode c_Mo_requested 370 = .ok (.iaload, 1) := by decide +kernel
theorem d_Mo_requested_371 : decode c_Mo_requested 371 = .ok (.iastore, 1) := by decide +kernel
theorem d_Mo_requested_372 : decode c_Mo_requested 372 = .ok (.iinc 5 1, 3) := by decide +kernel
theorem d_Mo_requested_375 : decode c_Mo_requested 375 = .ok (.goto (-31), 3) := by decide +kernel
theorem d_Mo_requested_378 : decode c_Mo_requested 378 = .ok (.aload_n 0, 1) := by decide +kernel
theorem d_Mo_requested_379 : decode c_Mo_requested 379 = .ok (.iconst 0, 1) := by decide +kernel
theorem d_Mo_requested_380 : decode c_Mo_requested 380 = .ok (.iload_n 1, 1) := by decide +kernel
theorem d_Mo_requested_381 : decode c_Mo_requested 381 = .ok (.invokevirtual 276, 3) := by decide +kernel
theorem d_Mo_requested_384 : decode c_Mo_requested 384 = .ok (.return_, 1) := by decide +kernel
theorem d_Mo_mutual_0 : decode c_Mo_mutual 0 = .ok (.aload_n 0, 1) := by decide +kernel
theorem d_Mo_mutual_1 : decode c_Mo_mutual 1 = .ok (.getfield 38, 3) := by decide +kernel
theorem d_Mo_mutual_4 : decode c_Mo_mutual 4 = .ok (.iconst 4, 1) := by decide +kernel
theorem d_Mo_mutual_5 : decode c_Mo_mutual 5 = .ok (.iaload, 1) := by decide +kernel
theorem d_Mo_mutual_6 : decode c_Mo_mutual 6 = .ok (.istore_n 2, 1) := by decide +kernel
theorem d_Mo_mutual_7 : decode c_Mo_mutual 7 = .ok (.aload_n 0, 1) := by decide +kernel
theorem d_Mo_mutual_8 : decode c_Mo_mutual 8 = .ok (.iconst 5, 1) := by decide +kernel
theorem d_Mo_mutual_9 : decode c_Mo_mutual 9 = .ok (.invokevirtual 283, 3) := by decide +kernel
theorem d_Mo_mutual_12 : decode c_Mo_mutual 12 = .ok (.istore_n 3, 1) := by decide +kernel
theorem d_Mo_mutual_13 : decode c_Mo_mutual 13 = .ok (.iload_n 2, 1) := by decide +kernel
theorem d_Mo_mutual_14 : decode c_Mo_mutual 14 = .ok (.iconst 1, 1) := by decide +kernel
theorem d_Mo_mutual_15 : decode c_Mo_mutual 15 = .ok (.if_icmp .ne 113, 3) := by decide +kernel
theorem d_Mo_mutual_18 : decode c_Mo_mutual 18 = .ok (.aload_n 0, 1) := by decide +kernel
theorem d_Mo_mutual_19 : decode c_Mo_mutual 19 = .ok (.getfield 56, 3) := by decide +kernel
theorem d_Mo_mutual_22 : decode c_Mo_mutual 22 = .ok (.iload_n 1, 1) := by decide +kernel
theorem d_Mo_mutual_23 : decode c_Mo_mutual 23 = .ok (.iconst 0, 1) := by decide +kernel
theorem d_Mo_mutual_24 : decode c_Mo_mutual 24 = .ok (.bastore, 1) := by decide +kernel
theorem d_Mo_mutual_25 : decode c_Mo_mutual 25 = .ok (.aload_n 0, 1) := by decide +kernel
theorem d_Mo_mutual_26 : decode c_Mo_mutual 26 = .ok (.getfield 62, 3) := by decide +kernel
theorem d_Mo_mutual_29 : decode c_Mo_mutual 29 = .ok (.iload_n 1, 1) := by decide +kernel
theorem d_Mo_mutual_30 : decode c_Mo_mutual 30 = .ok (.iconst 1, 1) := by decide +kernel
theorem d_Mo_mutual_31 : decode c_Mo_mutual 31 = .ok (.bastore, 1) := by decide +kernel
theorem d_Mo_mutual_32 : decode c_Mo_mutual 32 = .ok (.aload_n 0, 1) := by decide +kernel
theorem d_Mo_mutual_33 : decode c_Mo_mutual 33 = .ok (.getfield 65, 3) := by decide +kernel
theorem d_Mo_mutual_36 : decode c_Mo_mutual 36 = .ok (.iload_n 1, 1) := by decide +kernel
theorem d_Mo_mutual_37 : decode c_Mo_mutual 37 = .ok (.iload_n 3, 1) := by decide +kernel
theorem d_Mo_mutual_38 : decode c_Mo_mutual 38 = .ok (.iastore, 1) := by decide +kernel
theorem d_Mo_mutual_39 : decode c_Mo_mutual 39 = .ok (.aload_n 0, 1) := by decide +kernel
theorem d_Mo_mutual_40 : decode c_Mo_mutual 40 = .ok (.getfield 68, 3) := by decide +kernel
theorem d_Mo_mutual_43 : decode c_Mo_mutual 43 = .ok (.iload_n 1, 1) := by decide +kernel
theorem d_Mo_mutual_44 : decode c_Mo_mutual 44 = .ok (.aload_n 0, 1) := by decide +kernel
theorem d_Mo_mutual_45 : decode c_Mo_mutual 45 = .ok (.aload_n 0, 1) := by decide +kernel
theorem d_Mo_mutual_46 : decode c_Mo_mutual 46 = .ok (.getfield 44, 3) := by decide +kernel
theorem d_Mo_mutual_49 : decode c_Mo_mutual 49 = .ok (.iload_n 1, 1) := by decide +kernel
theorem d_Mo_mutual_50 : decode c_Mo_mutual 50 = .ok (.iaload, 1) := by decide +kernel
theorem d_Mo_mutual_51 : decode c_Mo_mutual 51 = .ok (.iload_n 1, 1) := by decide +kernel
theorem d_Mo_mutual_52 : decode c_Mo_mutual 52 = .ok (.aload_n 0, 1) := by decide +kernel
theorem d_Mo_mutual_53 : decode c_Mo_mutual 53 = .ok (.getfield 71, 3) := by decide +kernel
theorem d_Mo_mutual_56 : decode c_Mo_mutual 56 = .ok (.iload_n 1, 1) := by decide +kernel
theorem d_Mo_mutual_57 : decode c_Mo_mutual 57 = .ok (.iaload, 1) := by decide +kernel
theorem d_Mo_mutual_58 : decode c_Mo_mutual 58 = .ok (.invokevirtual 297, 3) := by decide +kernel
theorem d_Mo_mutual_61 : decode c_Mo_mutual 61 = .ok (.iastore, 1) := by decide +kernel
theorem d_Mo_mutual_62 : decode c_Mo_mutual 62 = .ok (.aload_n 0, 1) := by decide +kernel
theorem d_Mo_mutual_63 : decode c_Mo_mutual 63 = .ok (.getfield 71, 3) := by decide +kernel
theorem d_Mo_mutual_66 : decode c_Mo_mutual 66 = .ok (.iload_n 1, 1) := by decide +kernel
theorem d_Mo_mutual_67 : decode c_Mo_mutual 67 = .ok (.dup2, 1) := by decide +kernel
theorem d_Mo_mutual_68 : decode c_Mo_mutual 68 = .ok (.iaload, 1) := by decide +kernel
theorem d_Mo_mutual_69 : decode c_Mo_mutual 69 = .ok (.iconst 1, 1) := by decide +kernel
theorem d_Mo_mutual_70 : decode c_Mo_mutual 70 = .ok (.iadd, 1) := by decide +kernel
theorem d_Mo_mutual_71 : decode c_Mo_mutual 71 = .ok (.iastore, 1) := by decide +kernel
theorem d_Mo_mutual_72 : decode c_Mo_mutual 72 = .ok (.aload_n 0, 1) := by decide +kernel
theorem d_Mo_mutual_73 : decode c_Mo_mutual 73 = .ok (.aload_n 0, 1) := by decide +kernel
theorem d_Mo_mutual_74 : decode c_Mo_mutual 74 = .ok (.getfield 44, 3) := by decide +kernel
theorem d_Mo_mutual_77 : decode c_Mo_mutual 77 = .ok (.iload_n 1, 1) := by decide +kernel
theorem d_Mo_mutual_78 : decode c_Mo_mutual 78 = .ok (.iaload, 1) := by decide +kernel
theorem d_Mo_mutual_79 : decode c_Mo_mutual 79 = .ok (.iconst 2, 1) := by decide +kernel
theorem d_Mo_mutual_80 : decode c_Mo_mutual 80 = .ok (.iload_n 3, 1) := by decide +kernel
theorem d_Mo_mutual_81 : decode c_Mo_mutual 81 = .ok (.aload_n 0, 1) := by decide +kernel
theorem d_Mo_mutual_82 : decode c_Mo_mutual 82 = .ok (.getfield 68, 3) := by decide +kernel
theorem d_Mo_mutual_85 : decode c_Mo_mutual 85 = .ok (.iload_n 1, 1) := by decide +kernel
theorem d_Mo_mutual_86 : decode c_Mo_mutual 86 = .ok (.iaload, 1) := by decide +kernel
theorem d_Mo_mutual_87 : decode c_Mo_mutual 87 = .ok (.invokevirtual 300, 3) := by decide +kernel
theorem d_Mo_mutual_90 : decode c_Mo_mutual 90 = .ok (.istore 4, 2) := by decide +kernel
theorem d_Mo_mutual_92 : decode c_Mo_mutual 92 = .ok (.aload_n 0, 1) := by decide +kernel
theorem d_Mo_mutual_93 : decode c_Mo_mutual 93 = .ok (.iconst 2, 1) := by decide +kernel
theorem d_Mo_mutual_94 : decode c_Mo_mutual 94 = .ok (.aload_n 0, 1) := by decide +kernel
theorem d_Mo_mutual_95 : decode c_Mo_mutual 95 = .ok (.getfield 38, 3) := by decide +kernel
theorem d_Mo_mutual_98 : decode c_Mo_mutual 98 = .ok (.iconst 1, 1) := by decide +kernel
theorem d_Mo_mutual_99 : decode c_Mo_mutual 99 = .ok (.iaload, 1) := by decide +kernel
theorem d_Mo_mutual_100 : decode c_Mo_mutual 100 = .ok (.bipush 51, 2) := by decide +kernel
theorem d_Mo_mutual_102 : decode c_Mo_mutual 102 = .ok (.invokevirtual 279, 3) := by decide +kernel
theorem d_Mo_mutual_105 : decode c_Mo_mutual 105 = .ok (.aload_n 0, 1) := by decide +kernel
theorem d_Mo_mutual_106 : decode c_Mo_mutual 106 = .ok (.iconst 2, 1) := by decide +kernel
theorem d_Mo_mutual_107 : decode c_Mo_mutual 107 = .ok (.invokevirtual 236, 3) := by decide +kernel
theorem d_Mo_mutual_110 : decode c_Mo_mutual 110 = .ok (.aload_n 0, 1) := by decide +kernel
theorem d_Mo_mutual_111 : decode c_Mo_mutual 111 = .ok (.aload_n 0, 1) := by decide +kernel
theorem d_Mo_mutual_112 : decode c_Mo_mutual 112 = .ok (.getfield 68, 3) := by decide +kernel
theorem d_Mo_mutual_115 : decode c_Mo_mutual 115 = .ok (.iload_n 1, 1) := by decide +kernel
theorem d_Mo_mutual_116 : decode c_Mo_mutual 116 = .ok (.iaload, 1) := by decide +kernel
theorem d_Mo_mutual_117 : decode c_Mo_mutual 117 = .ok (.invokevirtual 290, 3) := by decide +kernel
theorem d_Mo_mutual_120 : decode c_Mo_mutual 120 = .ok (.aload_n 0, 1) := by decide +kernel
theorem d_Mo_mutual_121 : decode c_Mo_mutual 121 = .ok (.iload 4, 2) := by decide +kernel
theorem d_Mo_mutual_123 : decode c_Mo_mutual 123 = .ok (.invokevirtual 290, 3) := by decide +kernel
theorem d_Mo_mutual_126 : decode c_Mo_mutual 126 = .ok (.iconst 1, 1) := by decide +kernel
theorem d_Mo_mutual_127 : decode c_Mo_mutual 127 = .ok (.ireturn, 1) := by decide +kernel
theorem d_Mo_mutual_128 : decode c_Mo_mutual 128 = .ok (.iload_n 2, 1) := by decide +kernel
theorem d_Mo_mutual_129 : decode c_Mo_mutual 129 = .ok (.iconst 3, 1) := by decide +kernel
theorem d_Mo_mutual_130 : decode c_Mo_mutual 130 = .ok (.if_icmp .ne 39, 3) := by decide +kernel
theorem d_Mo_mutual_133 : decode c_Mo_mutual 133 = .ok (.aload_n 0, 1) := by decide +kernel
theorem d_Mo_mutual_134 : decode c_Mo_mutual 134 = .ok (.getfield 62, 3) := by decide +kernel
theorem d_Mo_mutual_137 : decode c_Mo_mutual 137 = .ok (.iload_n 1, 1) := by decide +kernel
theorem d_Mo_mutual_138 : decode c_Mo_mutual 138 = .ok (.baload, 1) := by decide +kernel
theorem d_Mo_mutual_139 : decode c_Mo_mutual 139 = .ok (.ifCond .eq 30, 3) := by decide +kernel
theorem d_Mo_mutual_142 : decode c_Mo_mutual 142 = .ok (.iload_n 3, 1) := by decide +kernel
theorem d_Mo_mutual_143 : decode c_Mo_mutual 143 = .ok (.aload_n 0, 1) := by decide +kernel
theorem d_Mo_mutual_144 : decode c_Mo_mutual 144 = .ok (.aload_n 0, 1) := by decide +kernel
theorem d_Mo_mutual_145 : decode c_Mo_mutual 145 = .ok (.getfield 44, 3) := by decide +kernel
theorem d_Mo_mutual_148 : decode c_Mo_mutual 148 = .ok (.iload_n 1, 1) := by decide +kernel
theorem d_Mo_mutual_149 : decode c_Mo_mutual 149 = .ok (.iaload, 1) := by decide +kernel
theorem d_Mo_mutual_150 : decode c_Mo_mutual 150 = .ok (.iconst 3, 1) := by decide +kernel
theorem d_Mo_mutual_151 : decode c_Mo_mutual 151 = .ok (.aload_n 0, 1) := by decide +kernel
theorem d_Mo_mutual_152 : decode c_Mo_mutual 152 = .ok (.getfield 68, 3) := by decide +kernel
theorem d_Mo_mutual_155 : decode c_Mo_mutual 155 = .ok (.iload_n 1, 1) := by decide +kernel
theorem d_Mo_mutual_156 : decode c_Mo_mutual 156 = .ok (.iaload, 1) := by decide +kernel
theorem d_Mo_mutual_157 : decode c_Mo_mutual 157 = .ok (.aload_n 0, 1) := by decide +kernel
theorem d_Mo_mutual_158 : decode c_Mo_mutual 158 = .ok (.getfield 65, 3) := by decide +kernel
theorem d_Mo_mutual_161 : decode c_Mo_mutual 161 = .ok (.iload_n 1, 1) := by decide +kernel
theorem d_Mo_mutual_162 : decode c_Mo_mutual 162 = .ok (.iaload, 1) := by decide +kernel
theorem d_Mo_mutual_163 : decode c_Mo_mutual 163 = .ok (.invokevirtual 300, 3) := by decide +kernel
theorem d_Mo_mutual_166 : decode c_Mo_mutual 166 = .ok (.if_icmp .eq 5, 3) := by decide +kernel
theorem d_Mo_mutual_169 : decode c_Mo_mutual 169 = .ok (.iconst 0, 1) := by decide +kernel
theorem d_Mo_mutual_170 : decode c_Mo_mutual 170 = .ok (.ireturn, 1) := by decide +kernel
theorem d_Mo_mutual_171 : decode c_Mo_mutual 171 = .ok (.aload_n 0, 1) := by decide +kernel
theorem d_Mo_mutual_172 : decode c_Mo_mutual 172 = .ok (.getfield 56, 3) := by decide +kernel
theorem d_Mo_mutual_175 : decode c_Mo_mutual 175 = .ok (.iload_n 1, 1) := by decide +kernel
theorem d_Mo_mutual_176 : decode c_Mo_mutual 176 = .ok (.iconst 1, 1) := by decide +kernel
theorem d_Mo_mutual_177 : decode c_Mo_mutual 177 = .ok (.bastore, 1) := by decide +kernel
theorem d_Mo_mutual_178 : decode c_Mo_mutual 178 = .ok (.aload_n 0, 1) := by decide +kernel
theorem d_Mo_mutual_179 : decode c_Mo_mutual 179 = .ok (.aload_n 0, 1) := by decide +kernel
theorem d_Mo_mutual_180 : decode c_Mo_mutual 180 = .ok (.getfield 44, 3) := by decide +kernel
theorem d_Mo_mutual_183 : decode c_Mo_mutual 183 = .ok (.iload_n 1, 1) := by decide +kernel
theorem d_Mo_mutual_184 : decode c_Mo_mutual 184 = .ok (.iaload, 1) := by decide +kernel
theorem d_Mo_mutual_185 : decode c_Mo_mutual 185 = .ok (.iconst 4, 1) := by decide +kernel
theorem d_Mo_mutual_186 : decode c_Mo_mutual 186 = .ok (.aload_n 0, 1) := by decide +kernel
theorem d_Mo_mutual_187 : decode c_Mo_mutual 187 = .ok (.getfield 65, 3) := by decide +kernel
theorem d_Mo_mutual_190 : decode c_Mo_mutual 190 = .ok (.iload_n 1, 1) := by decide +kernel
theorem d_Mo_mutual_191 : decode c_Mo_mutual 191 = .ok (.iaload, 1) := by decide +kernel
theorem d_Mo_mutual_192 : decode c_Mo_mutual 192 = .ok (.aload_n 0, 1) := by decide +kernel
theorem d_Mo_mutual_193 : decode c_Mo_mutual 193 = .ok (.getfield 68, 3) := by decide +kernel
theorem d_Mo_mutual_196 : decode c_Mo_mutual 196 = .ok (.iload_n 1, 1) := by decide +kernel
theorem d_Mo_mutual_197 : decode c_Mo_mutual 197 = .ok (.iaload, 1) := by decide +kernel
theorem d_Mo_mutual_198 : decode c_Mo_mutual 198 = .ok (.invokevirtual 300, 3) := by decide +kernel
theorem d_Mo_mutual_201 : decode c_Mo_mutual 201 = .ok (.istore 4, 2) := by decide +kernel
theorem d_Mo_mutual_203 : decode c_Mo_mutual 203 = .ok (.aload_n 0, 1) := by decide +kernel
theorem d_Mo_mutual_204 : decode c_Mo_mutual 204 = .ok (.iconst 2, 1) := by decide +kernel
theorem d_Mo_mutual_205 : decode c_Mo_mutual 205 = .ok (.aload_n 0, 1) := by decide +kernel
theorem d_Mo_mutual_206 : decode c_Mo_mutual 206 = .ok (.getfield 38, 3) := by decide +kernel
theorem d_Mo_mutual_209 : decode c_Mo_mutual 209 = .ok (.iconst 1, 1) := by decide +kernel
theorem d_Mo_mutual_210 : decode c_Mo_mutual 210 = .ok (.iaload, 1) := by decide +kernel
theorem d_Mo_mutual_211 : decode c_Mo_mutual 211 = .ok (.bipush 51, 2) := by decide +kernel
theorem d_Mo_mutual_213 : decode c_Mo_mutual 213 = .ok (.invokevirtual 279, 3) := by decide +kernel
theorem d_Mo_mutual_216 : decode c_Mo_mutual 216 = .ok (.aload_n 0, 1) := by decide +kernel
theorem d_Mo_mutual_217 : decode c_Mo_mutual 217 = .ok (.iconst 4, 1) := by decide +kernel
theorem d_Mo_mutual_218 : decode c_Mo_mutual 218 = .ok (.invokevirtual 236, 3) := by decide +kernel
theorem d_Mo_mutual_221 : decode c_Mo_mutual 221 = .ok (.aload_n 0, 1) := by decide +kernel
theorem d_Mo_mutual_222 : decode c_Mo_mutual 222 = .ok (.iload 4, 2) := by decide +kernel
theorem d_Mo_mutual_224 : decode c_Mo_mutual 224 = .ok (.invokevirtual 290, 3) := by decide +kernel
theorem d_Mo_mutual_227 : decode c_Mo_mutual 227 = .ok (.iconst 1, 1) := by decide +kernel
theorem d_Mo_mutual_228 : decode c_Mo_mutual 228 = .ok (.ireturn, 1) := by decide +kernel
theorem d_Mo_power_0 : decode c_Mo_power 0 = .ok (.iload_n 1, 1) := by decide +kernel
theorem d_Mo_power_1 : decode c_Mo_power 1 = .ok (.ifCond .lt 18, 3) := by decide +kernel
theorem d_Mo_power_4 : decode c_Mo_power 4 = .ok (.iload_n 1, 1) := by decide +kernel
theorem d_Mo_power_5 : decode c_Mo_power 5 = .ok (.iconst 1, 1) := by decide +kernel
theorem d_Mo_power_6 : decode c_Mo_power 6 = .ok (.if_icmp .gt 13, 3) := by decide +kernel
theorem d_Mo_power_9 : decode c_Mo_power 9 = .ok (.aload_n 0, 1) := by decide +kernel
theorem d_Mo_power_10 : decode c_Mo_power 10 = .ok (.getfield 74, 3) := by decide +kernel
theorem d_Mo_power_13 : decode c_Mo_power 13 = .ok (.iload_n 1, 1) := by decide +kernel
theorem d_Mo_power_14 : decode c_Mo_power 14 = .ok (.baload, 1) := by decide +kernel
theorem d_Mo_power_15 : decode c_Mo_power 15 = .ok (.iload_n 2, 1) := by decide +kernel
theorem d_Mo_power_16 : decode c_Mo_power 16 = .ok (.if_icmp .eq 5, 3) := by decide +kernel
theorem d_Mo_power_19 : decode c_Mo_power 19 = .ok (.iconst 0, 1) := by decide +kernel
theorem d_Mo_power_20 : decode c_Mo_power 20 = .ok (.ireturn, 1) := by decide +kernel
theorem d_Mo_power_21 : decode c_Mo_power 21 = .ok (.aload_n 0, 1) := by decide +kernel
theorem d_Mo_power_22 : decode c_Mo_power 22 = .ok (.getfield 74, 3) := by decide +kernel
theorem d_Mo_power_25 : decode c_Mo_power 25 = .ok (.iload_n 1, 1) := by decide +kernel
theorem d_Mo_power_26 : decode c_Mo_power 26 = .ok (.iload_n 2, 1) := by decide +kernel
theorem d_Mo_power_27 : decode c_Mo_power 27 = .ok (.ifCond .ne 7, 3) := by decide +kernel
theorem d_Mo_power_30 : decode c_Mo_power 30 = .ok (.iconst 1, 1) := by decide +kernel
theorem d_Mo_power_31 : decode c_Mo_power 31 = .ok (.goto 4, 3) := by decide +kernel
theorem d_Mo_power_34 : decode c_Mo_power 34 = .ok (.iconst 0, 1) := by decide +kernel
theorem d_Mo_power_35 : decode c_Mo_power 35 = .ok (.bastore, 1) := by decide +kernel
theorem d_Mo_power_36 : decode c_Mo_power 36 = .ok (.aload_n 0, 1) := by decide +kernel
theorem d_Mo_power_37 : decode c_Mo_power 37 = .ok (.getfield 83, 3) := by decide +kernel
theorem d_Mo_power_40 : decode c_Mo_power 40 = .ok (.iload_n 1, 1) := by decide +kernel
theorem d_Mo_power_41 : decode c_Mo_power 41 = .ok (.iconst 0, 1) := by decide +kernel
theorem d_Mo_power_42 : decode c_Mo_power 42 = .ok (.iastore, 1) := by decide +kernel
theorem d_Mo_power_43 : decode c_Mo_power 43 = .ok (.aload_n 0, 1) := by decide +kernel
theorem d_Mo_power_44 : decode c_Mo_power 44 = .ok (.getfield 110, 3) := by decide +kernel
theorem d_Mo_power_47 : decode c_Mo_power 47 = .ok (.iload_n 1, 1) := by decide +kernel
theorem d_Mo_power_48 : decode c_Mo_power 48 = .ok (.iconst 0, 1) := by decide +kernel
theorem d_Mo_power_49 : decode c_Mo_power 49 = .ok (.iastore, 1) := by decide +kernel
theorem d_Mo_power_50 : decode c_Mo_power 50 = .ok (.iconst 1, 1) := by decide +kernel
theorem d_Mo_power_51 : decode c_Mo_power 51 = .ok (.ireturn, 1) := by decide +kernel
theorem d_Mo_sessionOf_0 : decode c_Mo_sessionOf 0 = .ok (.iconst 4, 1) := by decide +kernel
theorem d_Mo_sessionOf_1 : decode c_Mo_sessionOf 1 = .ok (.iload_n 1, 1) := by decide +kernel
theorem d_Mo_sessionOf_2 : decode c_Mo_sessionOf 2 = .ok (.imul, 1) := by decide +kernel
theorem d_Mo_sessionOf_3 : decode c_Mo_sessionOf 3 = .ok (.istore_n 3, 1) := by decide +kernel
theorem d_Mo_sessionOf_4 : decode c_Mo_sessionOf 4 = .ok (.iload_n 3, 1) := by decide +kernel
theorem d_Mo_sessionOf_5 : decode c_Mo_sessionOf 5 = .ok (.iconst 4, 1) := by decide +kernel
theorem d_Mo_sessionOf_6 : decode c_Mo_sessionOf 6 = .ok (.iload_n 1, 1) := by decide +kernel
theorem d_Mo_sessionOf_7 : decode c_Mo_sessionOf 7 = .ok (.imul, 1) := by decide +kernel
theorem d_Mo_sessionOf_8 : decode c_Mo_sessionOf 8 = .ok (.aload_n 0, 1) := by decide +kernel
theorem d_Mo_sessionOf_9 : decode c_Mo_sessionOf 9 = .ok (.getfield 83, 3) := by decide +kernel
theorem d_Mo_sessionOf_12 : decode c_Mo_sessionOf 12 = .ok (.iload_n 1, 1) := by decide +kernel
theorem d_Mo_sessionOf_13 : decode c_Mo_sessionOf 13 = .ok (.iaload, 1) := by decide +kernel
theorem d_Mo_sessionOf_14 : decode c_Mo_sessionOf 14 = .ok (.iadd, 1) := by decide +kernel
theorem d_Mo_sessionOf_15 : decode c_Mo_sessionOf 15 = .ok (.if_icmp .ge 21, 3) := by decide +kernel
theorem d_Mo_sessionOf_18 : decode c_Mo_sessionOf 18 = .ok (.aload_n 0, 1) := by decide +kernel
theorem d_Mo_sessionOf_19 : decode c_Mo_sessionOf 19 = .ok (.getfield 86, 3) := by decide +kernel
theorem d_Mo_sessionOf_22 : decode c_Mo_sessionOf 22 = .ok (.iload_n 3, 1) := by decide +kernel
theorem d_Mo_sessionOf_23 : decode c_Mo_sessionOf 23 = .ok (.iaload, 1) := by decide +kernel
theorem d_Mo_sessionOf_24 : decode c_Mo_sessionOf 24 = .ok (.iload_n 2, 1) := by decide +kernel
theorem d_Mo_sessionOf_25 : decode c_Mo_sessionOf 25 = .ok (.if_icmp .ne 5, 3) := by decide +kernel
theorem d_Mo_sessionOf_28 : decode c_Mo_sessionOf 28 = .ok (.iload_n 3, 1) := by decide +kernel
theorem d_Mo_sessionOf_29 : decode c_Mo_sessionOf 29 = .ok (.ireturn, 1) := by decide +kernel
theorem d_Mo_sessionOf_30 : decode c_Mo_sessionOf 30 = .ok (.iinc 3 1, 3) := by decide +kernel
theorem d_Mo_sessionOf_33 : decode c_Mo_sessionOf 33 = .ok (.goto (-29), 3) := by decide +kernel
theorem d_Mo_sessionOf_36 : decode c_Mo_sessionOf 36 = .ok (.iconst (-1), 1) := by decide +kernel
theorem d_Mo_sessionOf_37 : decode c_Mo_sessionOf 37 = .ok (.ireturn, 1) := by decide +kernel
theorem d_Mo_endSession_0 : decode c_Mo_endSession 0 = .ok (.aload_n 0, 1) := by decide +kernel
theorem d_Mo_endSession_1 : decode c_Mo_endSession 1 = .ok (.getfield 83, 3) := by decide +kernel
theorem d_Mo_endSession_4 : decode c_Mo_endSession 4 = .ok (.iload_n 1, 1) := by decide +kernel
theorem d_Mo_endSession_5 : decode c_Mo_endSession 5 = .ok (.dup2, 1) := by decide +kernel
theorem d_Mo_endSession_6 : decode c_Mo_endSession 6 = .ok (.iaload, 1) := by decide +kernel
theorem d_Mo_endSession_7 : decode c_Mo_endSession 7 = .ok (.iconst 1, 1) := by decide +kernel
theorem d_Mo_endSession_8 : decode c_Mo_endSession 8 = .ok (.isub, 1) := by decide +kernel
theorem d_Mo_endSession_9 : decode c_Mo_endSession 9 = .ok (.iastore, 1) := by decide +kernel
theorem d_Mo_endSession_10 : decode c_Mo_endSession 10 = .ok (.iload_n 2, 1) := by decide +kernel
theorem d_Mo_endSession_11 : decode c_Mo_endSession 11 = .ok (.istore_n 3, 1) := by decide +kernel
theorem d_Mo_endSession_12 : decode c_Mo_endSession 12 = .ok (.iload_n 3, 1) := by decide +kernel
theorem d_Mo_endSession_13 : decode c_Mo_endSession 13 = .ok (.iconst 4, 1) := by decide +kernel
theorem d_Mo_endSession_14 : decode c_Mo_endSession 14 = .ok (.iload_n 1, 1) := by decide +kernel
theorem d_Mo_endSession_15 : decode c_Mo_endSession 15 = .ok (.imul, 1) := by decide +kernel
theorem d_Mo_endSession_16 : decode c_Mo_endSession 16 = .ok (.aload_n 0, 1) := by decide +kernel
theorem d_Mo_endSession_17 : decode c_Mo_endSession 17 = .ok (.getfield 83, 3) := by decide +kernel
theorem d_Mo_endSession_20 : decode c_Mo_endSession 20 = .ok (.iload_n 1, 1) := by decide +kernel
theorem d_Mo_endSession_21 : decode c_Mo_endSession 21 = .ok (.iaload, 1) := by decide +kernel
theorem d_Mo_endSession_22 : decode c_Mo_endSession 22 = .ok (.iadd, 1) := by decide +kernel
theorem d_Mo_endSession_23 : decode c_Mo_endSession 23 = .ok (.if_icmp .ge 121, 3) := by decide +kernel
theorem d_Mo_endSession_26 : decode c_Mo_endSession 26 = .ok (.aload_n 0, 1) := by decide +kernel
theorem d_Mo_endSession_27 : decode c_Mo_endSession 27 = .ok (.getfield 86, 3) := by decide +kernel
theorem d_Mo_endSession_30 : decode c_Mo_endSession 30 = .ok (.iload_n 3, 1) := by decide +kernel
theorem d_Mo_endSession_31 : decode c_Mo_endSession 31 = .ok (.aload_n 0, 1) := by decide +kernel
theorem d_Mo_endSession_32 : decode c_Mo_endSession 32 = .ok (.getfield 86, 3) := by decide +kernel
theorem d_Mo_endSession_35 : decode c_Mo_endSession 35 = .ok (.iload_n 3, 1) := by decide +kernel
theorem d_Mo_endSession_36 : decode c_Mo_endSession 36 = .ok (.iconst 1, 1) := by decide +kernel
theorem d_Mo_endSession_37 : decode c_Mo_endSession 37 = .ok (.iadd, 1) := by decide +kernel
theorem d_Mo_endSession_38 : decode c_Mo_endSession 38 = .ok (.iaload, 1) := by decide +kernel
theorem d_Mo_endSession_39 : decode c_Mo_endSession 39 = .ok (.iastore, 1) := by decide +kernel
theorem d_Mo_endSession_40 : decode c_Mo_endSession 40 = .ok (.aload_n 0, 1) := by decide +kernel
theorem d_Mo_endSession_41 : decode c_Mo_endSession 41 = .ok (.getfield 89, 3) := by decide +kernel
theorem d_Mo_endSession_44 : decode c_Mo_endSession 44 = .ok (.iload_n 3, 1) := by decide +kernel
theorem d_Mo_endSession_45 : decode c_Mo_endSession 45 = .ok (.aload_n 0, 1) := by decide +kernel
theorem d_Mo_endSession_46 : decode c_Mo_endSession 46 = .ok (.getfield 89, 3) := by decide +kernel
theorem d_Mo_endSession_49 : decode c_Mo_endSession 49 = .ok (.iload_n 3, 1) := by decide +kernel
theorem d_Mo_endSession_50 : decode c_Mo_endSession 50 = .ok (.iconst 1, 1) := by decide +kernel
theorem d_Mo_endSession_51 : decode c_Mo_endSession 51 = .ok (.iadd, 1) := by decide +kernel
theorem d_Mo_endSession_52 : decode c_Mo_endSession 52 = .ok (.iaload, 1) := by decide +kernel
theorem d_Mo_endSession_53 : decode c_Mo_endSession 53 = .ok (.iastore, 1) := by decide +kernel
theorem d_Mo_endSession_54 : decode c_Mo_endSession 54 = .ok (.aload_n 0, 1) := by decide +kernel
theorem d_Mo_endSession_55 : decode c_Mo_endSession 55 = .ok (.getfield 92, 3) := by decide +kernel
theorem d_Mo_endSession_58 : decode c_Mo_endSession 58 = .ok (.iload_n 3, 1) := by decide +kernel
theorem d_Mo_endSession_59 : decode c_Mo_endSession 59 = .ok (.aload_n 0, 1) := by decide +kernel
theorem d_Mo_endSession_60 : decode c_Mo_endSession 60 = .ok (.getfield 92, 3) := by decide +kernel
theorem d_Mo_endSession_63 : decode c_Mo_endSession 63 = .ok (.iload_n 3, 1) := by decide +kernel
theorem d_Mo_endSession_64 : decode c_Mo_endSession 64 = .ok (.iconst 1, 1) := by decide +kernel
theorem d_Mo_endSession_65 : decode c_Mo_endSession 65 = .ok (.iadd, 1) := by decide +kernel
theorem d_Mo_endSession_66 : decode c_Mo_endSession 66 = .ok (.iaload, 1) := by decide +kernel
theorem d_Mo_endSession_67 : decode c_Mo_endSession 67 = .ok (.iastore, 1) := by decide +kernel
theorem d_Mo_endSession_68 : decode c_Mo_endSession 68 = .ok (.aload_n 0, 1) := by decide +kernel
theorem d_Mo_endSession_69 : decode c_Mo_endSession 69 = .ok (.getfield 95, 3) := by decide +kernel
theorem d_Mo_endSession_72 : decode c_Mo_endSession 72 = .ok (.iload_n 3, 1) := by decide +kernel
theorem d_Mo_endSession_73 : decode c_Mo_endSession 73 = .ok (.aload_n 0, 1) := by decide +kernel
theorem d_Mo_endSession_74 : decode c_Mo_endSession 74 = .ok (.getfield 95, 3) := by decide +kernel
theorem d_Mo_endSession_77 : decode c_Mo_endSession 77 = .ok (.iload_n 3, 1) := by decide +kernel
theorem d_Mo_endSession_78 : decode c_Mo_endSession 78 = .ok (.iconst 1, 1) := by decide +kernel
theorem d_Mo_endSession_79 : decode c_Mo_endSession 79 = .ok (.iadd, 1) := by decide +kernel
theorem d_Mo_endSession_80 : decode c_Mo_endSession 80 = .ok (.iaload, 1) := by decide +kernel
theorem d_Mo_endSession_81 : decode c_Mo_endSession 81 = .ok (.iastore, 1) := by decide +kernel
theorem d_Mo_endSession_82 : decode c_Mo_endSession 82 = .ok (.aload_n 0, 1) := by decide +kernel
theorem d_Mo_endSession_83 : decode c_Mo_endSession 83 = .ok (.getfield 98, 3) := by decide +kernel
theorem d_Mo_endSession_86 : decode c_Mo_endSession 86 = .ok (.iload_n 3, 1) := by decide +kernel
theorem d_Mo_endSession_87 : decode c_Mo_endSession 87 = .ok (.aload_n 0, 1) := by decide +kernel
theorem d_Mo_endSession_88 : decode c_Mo_endSession 88 = .ok (.getfield 98, 3) := by decide +kernel
theorem d_Mo_endSession_91 : decode c_Mo_endSession 91 = .ok (.iload_n 3, 1) := by decide +kernel
theorem d_Mo_endSession_92 : decode c_Mo_endSession 92 = .ok (.iconst 1, 1) := by decide +kernel
theorem d_Mo_endSession_93 : decode c_Mo_endSession 93 = .ok (.iadd, 1) := by decide +kernel
theorem d_Mo_endSession_94 : decode c_Mo_endSession 94 = .ok (.iaload, 1) := by decide +kernel
theorem d_Mo_endSession_95 : decode c_Mo_endSession 95 = .ok (.iastore, 1) := by decide +kernel
theorem d_Mo_endSession_96 : decode c_Mo_endSession 96 = .ok (.aload_n 0, 1) := by decide +kernel
theorem d_Mo_endSession_97 : decode c_Mo_endSession 97 = .ok (.getfield 101, 3) := by decide +kernel
theorem d_Mo_endSession_100 : decode c_Mo_endSession 100 = .ok (.iload_n 3, 1) := by decide +kernel
theorem d_Mo_endSession_101 : decode c_Mo_endSession 101 = .ok (.aload_n 0, 1) := by decide +kernel
theorem d_Mo_endSession_102 : decode c_Mo_endSession 102 = .ok (.getfield 101, 3) := by decide +kernel
theorem d_Mo_endSession_105 : decode c_Mo_endSession 105 = .ok (.iload_n 3, 1) := by decide +kernel
theorem d_Mo_endSession_106 : decode c_Mo_endSession 106 = .ok (.iconst 1, 1) := by decide +kernel
theorem d_Mo_endSession_107 : decode c_Mo_endSession 107 = .ok (.iadd, 1) := by decide +kernel
theorem d_Mo_endSession_108 : decode c_Mo_endSession 108 = .ok (.iaload, 1) := by decide +kernel
theorem d_Mo_endSession_109 : decode c_Mo_endSession 109 = .ok (.iastore, 1) := by decide +kernel
theorem d_Mo_endSession_110 : decode c_Mo_endSession 110 = .ok (.aload_n 0, 1) := by decide +kernel
theorem d_Mo_endSession_111 : decode c_Mo_endSession 111 = .ok (.getfield 104, 3) := by decide +kernel
theorem d_Mo_endSession_114 : decode c_Mo_endSession 114 = .ok (.iload_n 3, 1) := by decide +kernel
theorem d_Mo_endSession_115 : decode c_Mo_endSession 115 = .ok (.aload_n 0, 1) := by decide +kernel
theorem d_Mo_endSession_116 : decode c_Mo_endSession 116 = .ok (.getfield 104, 3) := by decide +kernel
theorem d_Mo_endSession_119 : decode c_Mo_endSession 119 = .ok (.iload_n 3, 1) := by decide +kernel
theorem d_Mo_endSession_120 : decode c_Mo_endSession 120 = .ok (.iconst 1, 1) := by decide +kernel
theorem d_Mo_endSession_121 : decode c_Mo_endSession 121 = .ok (.iadd, 1) := by decide +kernel
theorem d_Mo_endSession_122 : decode c_Mo_endSession 122 = .ok (.baload, 1) := by decide +kernel
theorem d_Mo_endSession_123 : decode c_Mo_endSession 123 = .ok (.bastore, 1) := by decide +kernel
theorem d_Mo_endSession_124 : decode c_Mo_endSession 124 = .ok (.aload_n 0, 1) := by decide +kernel
theorem d_Mo_endSession_125 : decode c_Mo_endSession 125 = .ok (.getfield 107, 3) := by decide +kernel
theorem d_Mo_endSession_128 : decode c_Mo_endSession 128 = .ok (.iload_n 3, 1) := by decide +kernel
theorem d_Mo_endSession_129 : decode c_Mo_endSession 129 = .ok (.aload_n 0, 1) := by decide +kernel
theorem d_Mo_endSession_130 : decode c_Mo_endSession 130 = .ok (.getfield 107, 3) := by decide +kernel
theorem d_Mo_endSession_133 : decode c_Mo_endSession 133 = .ok (.iload_n 3, 1) := by decide +kernel
theorem d_Mo_endSession_134 : decode c_Mo_endSession 134 = .ok (.iconst 1, 1) := by decide +kernel
theorem d_Mo_endSession_135 : decode c_Mo_endSession 135 = .ok (.iadd, 1) := by decide +kernel
theorem d_Mo_endSession_136 : decode c_Mo_endSession 136 = .ok (.iaload, 1) := by decide +kernel
theorem d_Mo_endSession_137 : decode c_Mo_endSession 137 = .ok (.iastore, 1) := by decide +kernel
theorem d_Mo_endSession_138 : decode c_Mo_endSession 138 = .ok (.iinc 3 1, 3) := by decide +kernel
theorem d_Mo_endSession_141 : decode c_Mo_endSession 141 = .ok (.goto (-129), 3) := by decide +kernel
theorem d_Mo_endSession_144 : decode c_Mo_endSession 144 = .ok (.return_, 1) := by decide +kernel
theorem d_Mo_serverTakes_0 : decode c_Mo_serverTakes 0 = .ok (.aload_n 0, 1) := by decide +kernel
theorem d_Mo_serverTakes_1 : decode c_Mo_serverTakes 1 = .ok (.getfield 74, 3) := by decide +kernel
theorem d_Mo_serverTakes_4 : decode c_Mo_serverTakes 4 = .ok (.iload_n 1, 1) := by decide +kernel
theorem d_Mo_serverTakes_5 : decode c_Mo_serverTakes 5 = .ok (.baload, 1) := by decide +kernel
theorem d_Mo_serverTakes_6 : decode c_Mo_serverTakes 6 = .ok (.ifCond .eq 4, 3) := by decide +kernel
theorem d_Mo_serverTakes_9 : decode c_Mo_serverTakes 9 = .ok (.return_, 1) := by decide +kernel
theorem d_Mo_serverTakes_10 : decode c_Mo_serverTakes 10 = .ok (.aload_n 0, 1) := by decide +kernel
theorem d_Mo_serverTakes_11 : decode c_Mo_serverTakes 11 = .ok (.invokevirtual 304, 3) := by decide +kernel
theorem d_Mo_serverTakes_14 : decode c_Mo_serverTakes 14 = .ok (.ifCond .eq 40, 3) := by decide +kernel
theorem d_Mo_serverTakes_17 : decode c_Mo_serverTakes 17 = .ok (.aload_n 0, 1) := by decide +kernel
theorem d_Mo_serverTakes_18 : decode c_Mo_serverTakes 18 = .ok (.getfield 35, 3) := by decide +kernel
theorem d_Mo_serverTakes_21 : decode c_Mo_serverTakes 21 = .ok (.iconst 0, 1) := by decide +kernel
theorem d_Mo_serverTakes_22 : decode c_Mo_serverTakes 22 = .ok (.iaload, 1) := by decide +kernel
theorem d_Mo_serverTakes_23 : decode c_Mo_serverTakes 23 = .ok (.iconst 1, 1) := by decide +kernel
theorem d_Mo_serverTakes_24 : decode c_Mo_serverTakes 24 = .ok (.if_icmp .ne 30, 3) := by decide +kernel
theorem d_Mo_serverTakes_27 : decode c_Mo_serverTakes 27 = .ok (.aload_n 0, 1) := by decide +kernel
theorem d_Mo_serverTakes_28 : decode c_Mo_serverTakes 28 = .ok (.getfield 250, 3) := by decide +kernel
theorem d_Mo_serverTakes_31 : decode c_Mo_serverTakes 31 = .ok (.ifCond .lt 23, 3) := by decide +kernel
theorem d_Mo_serverTakes_34 : decode c_Mo_serverTakes 34 = .ok (.aload_n 0, 1) := by decide +kernel
theorem d_Mo_serverTakes_35 : decode c_Mo_serverTakes 35 = .ok (.aload_n 0, 1) := by decide +kernel
theorem d_Mo_serverTakes_36 : decode c_Mo_serverTakes 36 = .ok (.getfield 224, 3) := by decide +kernel
theorem d_Mo_serverTakes_39 : decode c_Mo_serverTakes 39 = .ok (.invokevirtual 307, 3) := by decide +kernel
theorem d_Mo_serverTakes_42 : decode c_Mo_serverTakes 42 = .ok (.aload_n 0, 1) := by decide +kernel
theorem d_Mo_serverTakes_43 : decode c_Mo_serverTakes 43 = .ok (.aload_n 0, 1) := by decide +kernel
theorem d_Mo_serverTakes_44 : decode c_Mo_serverTakes 44 = .ok (.iconst 3, 1) := by decide +kernel
theorem d_Mo_serverTakes_45 : decode c_Mo_serverTakes 45 = .ok (.invokevirtual 307, 3) := by decide +kernel
theorem d_Mo_serverTakes_48 : decode c_Mo_serverTakes 48 = .ok (.invokevirtual 260, 3) := by decide +kernel
theorem d_Mo_serverTakes_51 : decode c_Mo_serverTakes 51 = .ok (.if_icmp .eq 14, 3) := by decide +kernel
theorem d_Mo_serverTakes_54 : decode c_Mo_serverTakes 54 = .ok (.aload_n 0, 1) := by decide +kernel
theorem d_Mo_serverTakes_55 : decode c_Mo_serverTakes 55 = .ok (.getfield 188, 3) := by decide +kernel
theorem d_Mo_serverTakes_58 : decode c_Mo_serverTakes 58 = .ok (.iconst 2, 1) := by decide +kernel
theorem d_Mo_serverTakes_59 : decode c_Mo_serverTakes 59 = .ok (.dup2, 1) := by decide +kernel
theorem d_Mo_serverTakes_60 : decode c_Mo_serverTakes 60 = .ok (.iaload, 1) := by decide +kernel
theorem d_Mo_serverTakes_61 : decode c_Mo_serverTakes 61 = .ok (.iconst 1, 1) := by decide +kernel
theorem d_Mo_serverTakes_62 : decode c_Mo_serverTakes 62 = .ok (.iadd, 1) := by decide +kernel
theorem d_Mo_serverTakes_63 : decode c_Mo_serverTakes 63 = .ok (.iastore, 1) := by decide +kernel
theorem d_Mo_serverTakes_64 : decode c_Mo_serverTakes 64 = .ok (.return_, 1) := by decide +kernel
theorem d_Mo_serverTakes_65 : decode c_Mo_serverTakes 65 = .ok (.aload_n 0, 1) := by decide +kernel
theorem d_Mo_serverTakes_66 : decode c_Mo_serverTakes 66 = .ok (.getfield 35, 3) := by decide +kernel
theorem d_Mo_serverTakes_69 : decode c_Mo_serverTakes 69 = .ok (.iconst 1, 1) := by decide +kernel
theorem d_Mo_serverTakes_70 : decode c_Mo_serverTakes 70 = .ok (.iaload, 1) := by decide +kernel
theorem d_Mo_serverTakes_71 : decode c_Mo_serverTakes 71 = .ok (.istore_n 2, 1) := by decide +kernel
theorem d_Mo_serverTakes_72 : decode c_Mo_serverTakes 72 = .ok (.aload_n 0, 1) := by decide +kernel
theorem d_Mo_serverTakes_73 : decode c_Mo_serverTakes 73 = .ok (.iconst 3, 1) := by decide +kernel
theorem d_Mo_serverTakes_74 : decode c_Mo_serverTakes 74 = .ok (.invokevirtual 307, 3) := by decide +kernel
theorem d_Mo_serverTakes_77 : decode c_Mo_serverTakes 77 = .ok (.istore_n 3, 1) := by decide +kernel
theorem d_Mo_serverTakes_78 : decode c_Mo_serverTakes 78 = .ok (.iconst 4, 1) := by decide +kernel
theorem d_Mo_serverTakes_79 : decode c_Mo_serverTakes 79 = .ok (.iload_n 1, 1) := by decide +kernel
theorem d_Mo_serverTakes_80 : decode c_Mo_serverTakes 80 = .ok (.imul, 1) := by decide +kernel
theorem d_Mo_serverTakes_81 : decode c_Mo_serverTakes 81 = .ok (.istore 4, 2) := by decide +kernel
theorem d_Mo_serverTakes_83 : decode c_Mo_serverTakes 83 = .ok (.iload 4, 2) := by decide +kernel
theorem d_Mo_serverTakes_85 : decode c_Mo_serverTakes 85 = .ok (.iconst 4, 1) := by decide +kernel
theorem d_Mo_serverTakes_86 : decode c_Mo_serverTakes 86 = .ok (.iload_n 1, 1) := by decide +kernel
theorem d_Mo_serverTakes_87 : decode c_Mo_serverTakes 87 = .ok (.imul, 1) := by decide +kernel
theorem d_Mo_serverTakes_88 : decode c_Mo_serverTakes 88 = .ok (.aload_n 0, 1) := by decide +kernel
theorem d_Mo_serverTakes_89 : decode c_Mo_serverTakes 89 = .ok (.getfield 110, 3) := by decide +kernel
theorem d_Mo_serverTakes_92 : decode c_Mo_serverTakes 92 = .ok (.iload_n 1, 1) := by decide +kernel
theorem d_Mo_serverTakes_93 : decode c_Mo_serverTakes 93 = .ok (.iaload, 1) := by decide +kernel
theorem d_Mo_serverTakes_94 : decode c_Mo_serverTakes 94 = .ok (.iadd, 1) := by decide +kernel
theorem d_Mo_serverTakes_95 : decode c_Mo_serverTakes 95 = .ok (.if_icmp .ge 39, 3) := by decide +kernel
theorem d_Mo_serverTakes_98 : decode c_Mo_serverTakes 98 = .ok (.aload_n 0, 1) := by decide +kernel
theorem d_Mo_serverTakes_99 : decode c_Mo_serverTakes 99 = .ok (.getfield 113, 3) := by decide +kernel
theorem d_Mo_serverTakes_102 : decode c_Mo_serverTakes 102 = .ok (.iload 4, 2) := by decide +kernel
theorem d_Mo_serverTakes_104 : decode c_Mo_serverTakes 104 = .ok (.iaload, 1) := by decide +kernel
theorem d_Mo_serverTakes_105 : decode c_Mo_serverTakes 105 = .ok (.iload_n 2, 1) := by decide +kernel
theorem d_Mo_serverTakes_106 : decode c_Mo_serverTakes 106 = .ok (.if_icmp .ne 22, 3) := by decide +kernel
theorem d_Mo_serverTakes_109 : decode c_Mo_serverTakes 109 = .ok (.aload_n 0, 1) := by decide +kernel
theorem d_Mo_serverTakes_110 : decode c_Mo_serverTakes 110 = .ok (.getfield 116, 3) := by decide +kernel
theorem d_Mo_serverTakes_113 : decode c_Mo_serverTakes 113 = .ok (.iload 4, 2) := by decide +kernel
theorem d_Mo_serverTakes_115 : decode c_Mo_serverTakes 115 = .ok (.iaload, 1) := by decide +kernel
theorem d_Mo_serverTakes_116 : decode c_Mo_serverTakes 116 = .ok (.iload_n 3, 1) := by decide +kernel
theorem d_Mo_serverTakes_117 : decode c_Mo_serverTakes 117 = .ok (.if_icmp .ne 11, 3) := by decide +kernel
theorem d_Mo_serverTakes_120 : decode c_Mo_serverTakes 120 = .ok (.aload_n 0, 1) := by decide +kernel
theorem d_Mo_serverTakes_121 : decode c_Mo_serverTakes 121 = .ok (.iload_n 1, 1) := by decide +kernel
theorem d_Mo_serverTakes_122 : decode c_Mo_serverTakes 122 = .ok (.iload 4, 2) := by decide +kernel
theorem d_Mo_serverTakes_124 : decode c_Mo_serverTakes 124 = .ok (.invokevirtual 310, 3) := by decide +kernel
theorem d_Mo_serverTakes_127 : decode c_Mo_serverTakes 127 = .ok (.return_, 1) := by decide +kernel
theorem d_Mo_serverTakes_128 : decode c_Mo_serverTakes 128 = .ok (.iinc 4 1, 3) := by decide +kernel
theorem d_Mo_serverTakes_131 : decode c_Mo_serverTakes 131 = .ok (.goto (-48), 3) := by decide +kernel
theorem d_Mo_serverTakes_134 : decode c_Mo_serverTakes 134 = .ok (.aload_n 0, 1) := by decide +kernel
theorem d_Mo_serverTakes_135 : decode c_Mo_serverTakes 135 = .ok (.iload_n 1, 1) := by decide +kernel
theorem d_Mo_serverTakes_136 : decode c_Mo_serverTakes 136 = .ok (.iload_n 2, 1) := by decide +kernel
theorem d_Mo_serverTakes_137 : decode c_Mo_serverTakes 137 = .ok (.iload_n 3, 1) := by decide +kernel
theorem d_Mo_serverTakes_138 : decode c_Mo_serverTakes 138 = .ok (.invokevirtual 313, 3) := by decide +kernel
theorem d_Mo_serverTakes_141 : decode c_Mo_serverTakes 141 = .ok (.return_, 1) := by decide +kernel
theorem d_Mo_sendAnswer_0 : decode c_Mo_sendAnswer 0 = .ok (.aload_n 0, 1) := by decide +kernel
theorem d_Mo_sendAnswer_1 : decode c_Mo_sendAnswer 1 = .ok (.aload_n 0, 1) := by decide +kernel
theorem d_Mo_sendAnswer_2 : decode c_Mo_sendAnswer 2 = .ok (.getfield 125, 3) := by decide +kernel
theorem d_Mo_sendAnswer_5 : decode c_Mo_sendAnswer 5 = .ok (.iload_n 2, 1) := by decide +kernel
theorem d_Mo_sendAnswer_6 : decode c_Mo_sendAnswer 6 = .ok (.iaload, 1) := by decide +kernel
theorem d_Mo_sendAnswer_7 : decode c_Mo_sendAnswer 7 = .ok (.putfield 233, 3) := by decide +kernel
theorem d_Mo_sendAnswer_10 : decode c_Mo_sendAnswer 10 = .ok (.iconst 0, 1) := by decide +kernel
theorem d_Mo_sendAnswer_11 : decode c_Mo_sendAnswer 11 = .ok (.istore_n 3, 1) := by decide +kernel
theorem d_Mo_sendAnswer_12 : decode c_Mo_sendAnswer 12 = .ok (.iload_n 3, 1) := by decide +kernel
theorem d_Mo_sendAnswer_13 : decode c_Mo_sendAnswer 13 = .ok (.aload_n 0, 1) := by decide +kernel
theorem d_Mo_sendAnswer_14 : decode c_Mo_sendAnswer 14 = .ok (.getfield 233, 3) := by decide +kernel
theorem d_Mo_sendAnswer_17 : decode c_Mo_sendAnswer 17 = .ok (.if_icmp .ge 26, 3) := by decide +kernel
theorem d_Mo_sendAnswer_20 : decode c_Mo_sendAnswer 20 = .ok (.aload_n 0, 1) := by decide +kernel
theorem d_Mo_sendAnswer_21 : decode c_Mo_sendAnswer 21 = .ok (.getfield 38, 3) := by decide +kernel
theorem d_Mo_sendAnswer_24 : decode c_Mo_sendAnswer 24 = .ok (.iload_n 3, 1) := by decide +kernel
theorem d_Mo_sendAnswer_25 : decode c_Mo_sendAnswer 25 = .ok (.aload_n 0, 1) := by decide +kernel
theorem d_Mo_sendAnswer_26 : decode c_Mo_sendAnswer 26 = .ok (.getfield 128, 3) := by decide +kernel
theorem d_Mo_sendAnswer_29 : decode c_Mo_sendAnswer 29 = .ok (.bipush 20, 2) := by decide +kernel
theorem d_Mo_sendAnswer_31 : decode c_Mo_sendAnswer 31 = .ok (.iload_n 2, 1) := by decide +kernel
theorem d_Mo_sendAnswer_32 : decode c_Mo_sendAnswer 32 = .ok (.imul, 1) := by decide +kernel
theorem d_Mo_sendAnswer_33 : decode c_Mo_sendAnswer 33 = .ok (.iload_n 3, 1) := by decide +kernel
theorem d_Mo_sendAnswer_34 : decode c_Mo_sendAnswer 34 = .ok (.iadd, 1) := by decide +kernel
theorem d_Mo_sendAnswer_35 : decode c_Mo_sendAnswer 35 = .ok (.iaload, 1) := by decide +kernel
theorem d_Mo_sendAnswer_36 : decode c_Mo_sendAnswer 36 = .ok (.iastore, 1) := by decide +kernel
theorem d_Mo_sendAnswer_37 : decode c_Mo_sendAnswer 37 = .ok (.iinc 3 1, 3) := by decide +kernel
theorem d_Mo_sendAnswer_40 : decode c_Mo_sendAnswer 40 = .ok (.goto (-28), 3) := by decide +kernel
theorem d_Mo_sendAnswer_43 : decode c_Mo_sendAnswer 43 = .ok (.aload_n 0, 1) := by decide +kernel
theorem d_Mo_sendAnswer_44 : decode c_Mo_sendAnswer 44 = .ok (.aload_n 0, 1) := by decide +kernel
theorem d_Mo_sendAnswer_45 : decode c_Mo_sendAnswer 45 = .ok (.getfield 119, 3) := by decide +kernel
theorem d_Mo_sendAnswer_48 : decode c_Mo_sendAnswer 48 = .ok (.iload_n 2, 1) := by decide +kernel
theorem d_Mo_sendAnswer_49 : decode c_Mo_sendAnswer 49 = .ok (.iaload, 1) := by decide +kernel
theorem d_Mo_sendAnswer_50 : decode c_Mo_sendAnswer 50 = .ok (.aload_n 0, 1) := by decide +kernel
theorem d_Mo_sendAnswer_51 : decode c_Mo_sendAnswer 51 = .ok (.getfield 113, 3) := by decide +kernel
theorem d_Mo_sendAnswer_54 : decode c_Mo_sendAnswer 54 = .ok (.iload_n 2, 1) := by decide +kernel
theorem d_Mo_sendAnswer_55 : decode c_Mo_sendAnswer 55 = .ok (.iaload, 1) := by decide +kernel
theorem d_Mo_sendAnswer_56 : decode c_Mo_sendAnswer 56 = .ok (.aload_n 0, 1) := by decide +kernel
theorem d_Mo_sendAnswer_57 : decode c_Mo_sendAnswer 57 = .ok (.getfield 116, 3) := by decide +kernel
theorem d_Mo_sendAnswer_60 : decode c_Mo_sendAnswer 60 = .ok (.iload_n 2, 1) := by decide +kernel
theorem d_Mo_sendAnswer_61 : decode c_Mo_sendAnswer 61 = .ok (.iaload, 1) := by decide +kernel
theorem d_Mo_sendAnswer_62 : decode c_Mo_sendAnswer 62 = .ok (.iconst (-1), 1) := by decide +kernel
theorem d_Mo_sendAnswer_63 : decode c_Mo_sendAnswer 63 = .ok (.aload_n 0, 1) := by decide +kernel
theorem d_Mo_sendAnswer_64 : decode c_Mo_sendAnswer 64 = .ok (.getfield 122, 3) := by decide +kernel
theorem d_Mo_sendAnswer_67 : decode c_Mo_sendAnswer 67 = .ok (.iload_n 2, 1) := by decide +kernel
theorem d_Mo_sendAnswer_68 : decode c_Mo_sendAnswer 68 = .ok (.iaload, 1) := by decide +kernel
theorem d_Mo_sendAnswer_69 : decode c_Mo_sendAnswer 69 = .ok (.invokevirtual 316, 3) := by decide +kernel
theorem d_Mo_sendAnswer_72 : decode c_Mo_sendAnswer 72 = .ok (.aload_n 0, 1) := by decide +kernel
theorem d_Mo_sendAnswer_73 : decode c_Mo_sendAnswer 73 = .ok (.iconst 3, 1) := by decide +kernel
theorem d_Mo_sendAnswer_74 : decode c_Mo_sendAnswer 74 = .ok (.aload_n 0, 1) := by decide +kernel
theorem d_Mo_sendAnswer_75 : decode c_Mo_sendAnswer 75 = .ok (.aload_n 0, 1) := by decide +kernel
theorem d_Mo_sendAnswer_76 : decode c_Mo_sendAnswer 76 = .ok (.getfield 116, 3) := by decide +kernel
theorem d_Mo_sendAnswer_79 : decode c_Mo_sendAnswer 79 = .ok (.iload_n 2, 1) := by decide +kernel
theorem d_Mo_sendAnswer_80 : decode c_Mo_sendAnswer 80 = .ok (.iaload, 1) := by decide +kernel
theorem d_Mo_sendAnswer_81 : decode c_Mo_sendAnswer 81 = .ok (.invokevirtual 320, 3) := by decide +kernel
theorem d_Mo_sendAnswer_84 : decode c_Mo_sendAnswer 84 = .ok (.invokevirtual 264, 3) := by decide +kernel
theorem d_Mo_sendAnswer_87 : decode c_Mo_sendAnswer 87 = .ok (.aload_n 0, 1) := by decide +kernel
theorem d_Mo_sendAnswer_88 : decode c_Mo_sendAnswer 88 = .ok (.iconst 3, 1) := by decide +kernel
theorem d_Mo_sendAnswer_89 : decode c_Mo_sendAnswer 89 = .ok (.iload_n 1, 1) := by decide +kernel
theorem d_Mo_sendAnswer_90 : decode c_Mo_sendAnswer 90 = .ok (.invokevirtual 242, 3) := by decide +kernel
theorem d_Mo_sendAnswer_93 : decode c_Mo_sendAnswer 93 = .ok (.return_, 1) := by decide +kernel
theorem d_Mo_answer_0 : decode c_Mo_answer 0 = .ok (.aload_n 0, 1) := by decide +kernel
theorem d_Mo_answer_1 : decode c_Mo_answer 1 = .ok (.getfield 110, 3) := by decide +kernel
theorem d_Mo_answer_4 : decode c_Mo_answer 4 = .ok (.iload_n 1, 1) := by decide +kernel
theorem d_Mo_answer_5 : decode c_Mo_answer 5 = .ok (.iaload, 1) := by decide +kernel
theorem d_Mo_answer_6 : decode c_Mo_answer 6 = .ok (.iconst 4, 1) := by decide +kernel
theorem d_Mo_answer_7 : decode c_Mo_answer 7 = .ok (.if_icmp .ne 156, 3) := by decide +kernel
theorem d_Mo_answer_10 : decode c_Mo_answer 10 = .ok (.iconst 4, 1) := by decide +kernel
theorem d_Mo_answer_11 : decode c_Mo_answer 11 = .ok (.iload_n 1, 1) := by decide +kernel
theorem d_Mo_answer_12 : decode c_Mo_answer 12 = .ok (.imul, 1) := by decide +kernel
theorem d_Mo_answer_13 : decode c_Mo_answer 13 = .ok (.istore 6, 2) := by decide +kernel
theorem d_Mo_answer_15 : decode c_Mo_answer 15 = .ok (.iload 6, 2) := by decide +kernel
theorem d_Mo_answer_17 : decode c_Mo_answer 17 = .ok (.iconst 4, 1) := by decide +kernel
theorem d_Mo_answer_18 : decode c_Mo_answer 18 = .ok (.iload_n 1, 1) := by decide +kernel
theorem d_Mo_answer_19 : decode c_Mo_answer 19 = .ok (.imul, 1) := by decide +kernel
theorem d_Mo_answer_20 : decode c_Mo_answer 20 = .ok (.iconst 3, 1) := by decide +kernel
theorem d_Mo_answer_21 : decode c_Mo_answer 21 = .ok (.iadd, 1) := by decide +kernel
theorem d_Mo_answer_22 : decode c_Mo_answer 22 = .ok (.if_icmp .ge 134, 3) := by decide +kernel
theorem d_Mo_answer_25 : decode c_Mo_answer 25 = .ok (.aload_n 0, 1) := by decide +kernel
theorem d_Mo_answer_26 : decode c_Mo_answer 26 = .ok (.getfield 113, 3) := by decide +kernel
theorem d_Mo_answer_29 : decode c_Mo_answer 29 = .ok (.iload 6, 2) := by decide +kernel
theorem d_Mo_answer_31 : decode c_Mo_answer 31 = .ok (.aload_n 0, 1) := by decide +kernel
theorem d_Mo_answer_32 : decode c_Mo_answer 32 = .ok (.getfield 113, 3) := by decide +kernel
theorem d_Mo_answer_35 : decode c_Mo_answer 35 = .ok (.iload 6, 2) := by decide +kernel
theorem d_Mo_answer_37 : decode c_Mo_answer 37 = .ok (.iconst 1, 1) := by decide +kernel
theorem d_Mo_answer_38 : decode c_Mo_answer 38 = .ok (.iadd, 1) := by decide +kernel
theorem d_Mo_answer_39 : decode c_Mo_answer 39 = .ok (.iaload, 1) := by decide +kernel
theorem d_Mo_answer_40 : decode c_Mo_answer 40 = .ok (.iastore, 1) := by decide +kernel
theorem d_Mo_answer_41 : decode c_Mo_answer 41 = .ok (.aload_n 0, 1) := by decide +kernel
theorem d_Mo_answer_42 : decode c_Mo_answer 42 = .ok (.getfield 116, 3) := by decide +kernel
theorem d_Mo_answer_45 : decode c_Mo_answer 45 = .ok (.iload 6, 2) := by decide +kernel
theorem d_Mo_answer_47 : decode c_Mo_answer 47 = .ok (.aload_n 0, 1) := by decide +kernel
theorem d_Mo_answer_48 : decode c_Mo_answer 48 = .ok (.getfield 116, 3) := by decide +kernel
theorem d_Mo_answer_51 : decode c_Mo_answer 51 = .ok (.iload 6, 2) := by decide +kernel
theorem d_Mo_answer_53 : decode c_Mo_answer 53 = .ok (.iconst 1, 1) := by decide +kernel
theorem d_Mo_answer_54 : decode c_Mo_answer 54 = .ok (.iadd, 1) := by decide +kernel
theorem d_Mo_answer_55 : decode c_Mo_answer 55 = .ok (.iaload, 1) := by decide +kernel
theorem d_Mo_answer_56 : decode c_Mo_answer 56 = .ok (.iastore, 1) := by decide +kernel
theorem d_Mo_answer_57 : decode c_Mo_answer 57 = .ok (.aload_n 0, 1) := by decide +kernel
theorem d_Mo_answer_58 : decode c_Mo_answer 58 = .ok (.getfield 119, 3) := by decide +kernel
theorem d_Mo_answer_61 : decode c_Mo_answer 61 = .ok (.iload 6, 2) := by decide +kernel
theorem d_Mo_answer_63 : decode c_Mo_answer 63 = .ok (.aload_n 0, 1) := by decide +kernel
theorem d_Mo_answer_64 : decode c_Mo_answer 64 = .ok (.getfield 119, 3) := by decide +kernel
theorem d_Mo_answer_67 : decode c_Mo_answer 67 = .ok (.iload 6, 2) := by decide +kernel
theorem d_Mo_answer_69 : decode c_Mo_answer 69 = .ok (.iconst 1, 1) := by decide +kernel
theorem d_Mo_answer_70 : decode c_Mo_answer 70 = .ok (.iadd, 1) := by decide +kernel
theorem d_Mo_answer_71 : decode c_Mo_answer 71 = .ok (.iaload, 1) := by decide +kernel
theorem d_Mo_answer_72 : decode c_Mo_answer 72 = .ok (.iastore, 1) := by decide +kernel
theorem d_Mo_answer_73 : decode c_Mo_answer 73 = .ok (.aload_n 0, 1) := by decide +kernel
theorem d_Mo_answer_74 : decode c_Mo_answer 74 = .ok (.getfield 122, 3) := by decide +kernel
theorem d_Mo_answer_77 : decode c_Mo_answer 77 = .ok (.iload 6, 2) := by decide +kernel
theorem d_Mo_answer_79 : decode c_Mo_answer 79 = .ok (.aload_n 0, 1) := by decide +kernel
theorem d_Mo_answer_80 : decode c_Mo_answer 80 = .ok (.getfield 122, 3) := by decide +kernel
theorem d_Mo_answer_83 : decode c_Mo_answer 83 = .ok (.iload 6, 2) := by decide +kernel
theorem d_Mo_answer_85 : decode c_Mo_answer 85 = .ok (.iconst 1, 1) := by decide +kernel
theorem d_Mo_answer_86 : decode c_Mo_answer 86 = .ok (.iadd, 1) := by decide +kernel
theorem d_Mo_answer_87 : decode c_Mo_answer 87 = .ok (.iaload, 1) := by decide +kernel
theorem d_Mo_answer_88 : decode c_Mo_answer 88 = .ok (.iastore, 1) := by decide +kernel
theorem d_Mo_answer_89 : decode c_Mo_answer 89 = .ok (.aload_n 0, 1) := by decide +kernel
theorem d_Mo_answer_90 : decode c_Mo_answer 90 = .ok (.getfield 125, 3) := by decide +kernel
theorem d_Mo_answer_93 : decode c_Mo_answer 93 = .ok (.iload 6, 2) := by decide +kernel
theorem d_Mo_answer_95 : decode c_Mo_answer 95 = .ok (.aload_n 0, 1) := by decide +kernel
theorem d_Mo_answer_96 : decode c_Mo_answer 96 = .ok (.getfield 125, 3) := by decide +kernel
theorem d_Mo_answer_99 : decode c_Mo_answer 99 = .ok (.iload 6, 2) := by decide +kernel
theorem d_Mo_answer_101 : decode c_Mo_answer 101 = .ok (.iconst 1, 1) := by decide +kernel
theorem d_Mo_answer_102 : decode c_Mo_answer 102 = .ok (.iadd, 1) := by decide +kernel
theorem d_Mo_answer_103 : decode c_Mo_answer 103 = .ok (.iaload, 1) := by decide +kernel
theorem d_Mo_answer_104 : decode c_Mo_answer 104 = .ok (.iastore, 1) := by decide +kernel
theorem d_Mo_answer_105 : decode c_Mo_answer 105 = .ok (.iconst 0, 1) := by decide +kernel
theorem d_Mo_answer_106 : decode c_Mo_answer 106 = .ok (.istore 7, 2) := by decide +kernel
theorem d_Mo_answer_108 : decode c_Mo_answer 108 = .ok (.iload 7, 2) := by decide +kernel
theorem d_Mo_answer_110 : decode c_Mo_answer 110 = .ok (.bipush 20, 2) := by decide +kernel
theorem d_Mo_answer_112 : decode c_Mo_answer 112 = .ok (.if_icmp .ge 38, 3) := by decide +kernel
theorem d_Mo_answer_115 : decode c_Mo_answer 115 = .ok (.aload_n 0, 1) := by decide +kernel
theorem d_Mo_answer_116 : decode c_Mo_answer 116 = .ok (.getfield 128, 3) := by decide +kernel
theorem d_Mo_answer_119 : decode c_Mo_answer 119 = .ok (.bipush 20, 2) := by decide +kernel
theorem d_Mo_answer_121 : decode c_Mo_answer 121 = .ok (.iload 6, 2) := by decide +kernel
theorem d_Mo_answer_123 : decode c_Mo_answer 123 = .ok (.imul, 1) := by decide +kernel
theorem d_Mo_answer_124 : decode c_Mo_answer 124 = .ok (.iload 7, 2) := by decide +kernel
theorem d_Mo_answer_126 : decode c_Mo_answer 126 = .ok (.iadd, 1) := by decide +kernel
theorem d_Mo_answer_127 : decode c_Mo_answer 127 = .ok (.aload_n 0, 1) := by decide +kernel
theorem d_Mo_answer_128 : decode c_Mo_answer 128 = .ok (.getfield 128, 3) := by decide +kernel
theorem d_Mo_answer_131 : decode c_Mo_answer 131 = .ok (.bipush 20, 2) := by decide +kernel
theorem d_Mo_answer_133 : decode c_Mo_answer 133 = .ok (.iload 6, 2) := by decide +kernel
theorem d_Mo_answer_135 : decode c_Mo_answer 135 = .ok (.imul, 1) := by decide +kernel
theorem d_Mo_answer_136 : decode c_Mo_answer 136 = .ok (.bipush 20, 2) := by decide +kernel
theorem d_Mo_answer_138 : decode c_Mo_answer 138 = .ok (.iadd, 1) := by decide +kernel
theorem d_Mo_answer_139 : decode c_Mo_answer 139 = .ok (.iload 7, 2) := by decide +kernel
theorem d_Mo_answer_141 : decode c_Mo_answer 141 = .ok (.iadd, 1) := by decide +kernel
theorem d_Mo_answer_142 : decode c_Mo_answer 142 = .ok (.iaload, 1) := by decide +kernel
theorem d_Mo_answer_143 : decode c_Mo_answer 143 = .ok (.iastore, 1) := by decide +kernel
theorem d_Mo_answer_144 : decode c_Mo_answer 144 = .ok (.iinc 7 1, 3) := by decide +kernel
theorem d_Mo_answer_147 : decode c_Mo_answer 147 = .ok (.goto (-39), 3) := by decide +kernel
theorem d_Mo_answer_150 : decode c_Mo_answer 150 = .ok (.iinc 6 1, 3) := by decide +kernel
theorem d_Mo_answer_153 : decode c_Mo_answer 153 = .ok (.goto (-138), 3) := by decide +kernel
theorem d_Mo_answer_156 : decode c_Mo_answer 156 = .ok (.aload_n 0, 1) := by decide +kernel
theorem d_Mo_answer_157 : decode c_Mo_answer 157 = .ok (.getfield 110, 3) := by decide +kernel
theorem d_Mo_answer_160 : decode c_Mo_answer 160 = .ok (.iload_n 1, 1) := by decide +kernel
theorem d_Mo_answer_161 : decode c_Mo_answer 161 = .ok (.iconst 3, 1) := by decide +kernel
theorem d_Mo_answer_162 : decode c_Mo_answer 162 = .ok (.iastore, 1) := by decide +kernel
theorem d_Mo_answer_163 : decode c_Mo_answer 163 = .ok (.iconst 4, 1) := by decide +kernel
theorem d_Mo_answer_164 : decode c_Mo_answer 164 = .ok (.iload_n 1, 1) := by decide +kernel
theorem d_Mo_answer_165 : decode c_Mo_answer 165 = .ok (.imul, 1) := by decide +kernel
theorem d_Mo_answer_166 : decode c_Mo_answer 166 = .ok (.aload_n 0, 1) := by decide +kernel
theorem d_Mo_answer_167 : decode c_Mo_answer 167 = .ok (.getfield 110, 3) := by decide +kernel
theorem d_Mo_answer_170 : decode c_Mo_answer 170 = .ok (.iload_n 1, 1) := by decide +kernel
theorem d_Mo_answer_171 : decode c_Mo_answer 171 = .ok (.iaload, 1) := by decide +kernel
theorem d_Mo_answer_172 : decode c_Mo_answer 172 = .ok (.iadd, 1) := by decide +kernel
theorem d_Mo_answer_173 : decode c_Mo_answer 173 = .ok (.istore 6, 2) := by decide +kernel
theorem d_Mo_answer_175 : decode c_Mo_answer 175 = .ok (.aload_n 0, 1) := by decide +kernel
theorem d_Mo_answer_176 : decode c_Mo_answer 176 = .ok (.getfield 110, 3) := by decide +kernel
theorem d_Mo_answer_179 : decode c_Mo_answer 179 = .ok (.iload_n 1, 1) := by decide +kernel
theorem d_Mo_answer_180 : decode c_Mo_answer 180 = .ok (.dup2, 1) := by decide +kernel
theorem d_Mo_answer_181 : decode c_Mo_answer 181 = .ok (.iaload, 1) := by decide +kernel
theorem d_Mo_answer_182 : decode c_Mo_answer 182 = .ok (.iconst 1, 1) := by decide +kernel
theorem d_Mo_answer_183 : decode c_Mo_answer 183 = .ok (.iadd, 1) := by decide +kernel
theorem d_Mo_answer_184 : decode c_Mo_answer 184 = .ok (.iastore, 1) := by decide +kernel
theorem d_Mo_answer_185 : decode c_Mo_answer 185 = .ok (.aload_n 0, 1) := by decide +kernel
theorem d_Mo_answer_186 : decode c_Mo_answer 186 = .ok (.getfield 113, 3) := by decide +kernel
theorem d_Mo_answer_189 : decode c_Mo_answer 189 = .ok (.iload 6, 2) := by decide +kernel
theorem d_Mo_answer_191 : decode c_Mo_answer 191 = .ok (.iload_n 2, 1) := by decide +kernel
theorem d_Mo_answer_192 : decode c_Mo_answer 192 = .ok (.iastore, 1) := by decide +kernel
theorem d_Mo_answer_193 : decode c_Mo_answer 193 = .ok (.aload_n 0, 1) := by decide +kernel
theorem d_Mo_answer_194 : decode c_Mo_answer 194 = .ok (.getfield 116, 3) := by decide +kernel
theorem d_Mo_answer_197 : decode c_Mo_answer 197 = .ok (.iload 6, 2) := by decide +kernel
theorem d_Mo_answer_199 : decode c_Mo_answer 199 = .ok (.iload_n 3, 1) := by decide +kernel
theorem d_Mo_answer_200 : decode c_Mo_answer 200 = .ok (.iastore, 1) := by decide +kernel
theorem d_Mo_answer_201 : decode c_Mo_answer 201 = .ok (.aload_n 0, 1) := by decide +kernel
theorem d_Mo_answer_202 : decode c_Mo_answer 202 = .ok (.getfield 119, 3) := by decide +kernel
theorem d_Mo_answer_205 : decode c_Mo_answer 205 = .ok (.iload 6, 2) := by decide +kernel
theorem d_Mo_answer_207 : decode c_Mo_answer 207 = .ok (.iload 4, 2) := by decide +kernel
theorem d_Mo_answer_209 : decode c_Mo_answer 209 = .ok (.iastore, 1) := by decide +kernel
theorem d_Mo_answer_210 : decode c_Mo_answer 210 = .ok (.aload_n 0, 1) := by decide +kernel
theorem d_Mo_answer_211 : decode c_Mo_answer 211 = .ok (.getfield 122, 3) := by decide +kernel
theorem d_Mo_answer_214 : decode c_Mo_answer 214 = .ok (.iload 6, 2) := by decide +kernel
theorem d_Mo_answer_216 : decode c_Mo_answer 216 = .ok (.iload 5, 2) := by decide +kernel
theorem d_Mo_answer_218 : decode c_Mo_answer 218 = .ok (.iastore, 1) := by decide +kernel
theorem d_Mo_answer_219 : decode c_Mo_answer 219 = .ok (.aload_n 0, 1) := by decide +kernel
theorem d_Mo_answer_220 : decode c_Mo_answer 220 = .ok (.getfield 125, 3) := by decide +kernel
theorem d_Mo_answer_223 : decode c_Mo_answer 223 = .ok (.iload 6, 2) := by decide +kernel
theorem d_Mo_answer_225 : decode c_Mo_answer 225 = .ok (.aload_n 0, 1) := by decide +kernel
theorem d_Mo_answer_226 : decode c_Mo_answer 226 = .ok (.getfield 233, 3) := by decide +kernel
theorem d_Mo_answer_229 : decode c_Mo_answer 229 = .ok (.iastore, 1) := by decide +kernel
theorem d_Mo_answer_230 : decode c_Mo_answer 230 = .ok (.iconst 0, 1) := by decide +kernel
theorem d_Mo_answer_231 : decode c_Mo_answer 231 = .ok (.istore 7, 2) := by decide +kernel
theorem d_Mo_answer_233 : decode c_Mo_answer 233 = .ok (.iload 7, 2) := by decide +kernel
theorem d_Mo_answer_235 : decode c_Mo_answer 235 = .ok (.aload_n 0, 1) := by decide +kernel
theorem d_Mo_answer_236 : decode c_Mo_answer 236 = .ok (.getfield 233, 3) := by decide +kernel
theorem d_Mo_answer_239 : decode c_Mo_answer 239 = .ok (.if_icmp .ge 29, 3) := by decide +kernel
theorem d_Mo_answer_242 : decode c_Mo_answer 242 = .ok (.aload_n 0, 1) := by decide +kernel
theorem d_Mo_answer_243 : decode c_Mo_answer 243 = .ok (.getfield 128, 3) := by decide +kernel
theorem d_Mo_answer_246 : decode c_Mo_answer 246 = .ok (.bipush 20, 2) := by decide +kernel
theorem d_Mo_answer_248 : decode c_Mo_answer 248 = .ok (.iload 6, 2) := by decide +kernel
theorem d_Mo_answer_250 : decode c_Mo_answer 250 = .ok (.imul, 1) := by decide +kernel
theorem d_Mo_answer_251 : decode c_Mo_answer 251 = .ok (.iload 7, 2) := by decide +kernel
theorem d_Mo_answer_253 : decode c_Mo_answer 253 = .ok (.iadd, 1) := by decide +kernel
theorem d_Mo_answer_254 : decode c_Mo_answer 254 = .ok (.aload_n 0, 1) := by decide +kernel
theorem d_Mo_answer_255 : decode c_Mo_answer 255 = .ok (.getfield 38, 3) := by decide +kernel
theorem d_Mo_answer_258 : decode c_Mo_answer 258 = .ok (.iload 7, 2) := by decide +kernel
theorem d_Mo_answer_260 : decode c_Mo_answer 260 = .ok (.iaload, 1) := by decide +kernel
theorem d_Mo_answer_261 : decode c_Mo_answer 261 = .ok (.iastore, 1) := by decide +kernel
theorem d_Mo_answer_262 : decode c_Mo_answer 262 = .ok (.iinc 7 1, 3) := by decide +kernel
theorem d_Mo_answer_265 : decode c_Mo_answer 265 = .ok (.goto (-32), 3) := by decide +kernel
theorem d_Mo_answer_268 : decode c_Mo_answer 268 = .ok (.aload_n 0, 1) := by decide +kernel
theorem d_Mo_answer_269 : decode c_Mo_answer 269 = .ok (.iload_n 1, 1) := by decide +kernel
theorem d_Mo_answer_270 : decode c_Mo_answer 270 = .ok (.iload 6, 2) := by decide +kernel
theorem d_Mo_answer_272 : decode c_Mo_answer 272 = .ok (.invokevirtual 310, 3) := by decide +kernel
theorem d_Mo_answer_275 : decode c_Mo_answer 275 = .ok (.return_, 1) := by decide +kernel
theorem d_Mo_decide_0 : decode c_Mo_decide 0 = .ok (.aload_n 0, 1) := by decide +kernel
theorem d_Mo_decide_1 : decode c_Mo_decide 1 = .ok (.getfield 253, 3) := by decide +kernel
theorem d_Mo_decide_4 : decode c_Mo_decide 4 = .ok (.ifCond .ge 7, 3) := by decide +kernel
theorem d_Mo_decide_7 : decode c_Mo_decide 7 = .ok (.iconst (-1), 1) := by decide +kernel
theorem d_Mo_decide_8 : decode c_Mo_decide 8 = .ok (.goto 12, 3) := by decide +kernel
theorem d_Mo_decide_11 : decode c_Mo_decide 11 = .ok (.aload_n 0, 1) := by decide +kernel
theorem d_Mo_decide_12 : decode c_Mo_decide 12 = .ok (.iload_n 1, 1) := by decide +kernel
theorem d_Mo_decide_13 : decode c_Mo_decide 13 = .ok (.aload_n 0, 1) := by decide +kernel
theorem d_Mo_decide_14 : decode c_Mo_decide 14 = .ok (.getfield 253, 3) := by decide +kernel
theorem d_Mo_decide_17 : decode c_Mo_decide 17 = .ok (.invokevirtual 323, 3) := by decide +kernel
theorem d_Mo_decide_20 : decode c_Mo_decide 20 = .ok (.istore 4, 2) := by decide +kernel
theorem d_Mo_decide_22 : decode c_Mo_decide 22 = .ok (.aload_n 0, 1) := by decide +kernel
theorem d_Mo_decide_23 : decode c_Mo_decide 23 = .ok (.getfield 38, 3) := by decide +kernel
theorem d_Mo_decide_26 : decode c_Mo_decide 26 = .ok (.iconst 1, 1) := by decide +kernel
theorem d_Mo_decide_27 : decode c_Mo_decide 27 = .ok (.iaload, 1) := by decide +kernel
theorem d_Mo_decide_28 : decode c_Mo_decide 28 = .ok (.istore 5, 2) := by decide +kernel
theorem d_Mo_decide_30 : decode c_Mo_decide 30 = .ok (.aload_n 0, 1) := by decide +kernel
theorem d_Mo_decide_31 : decode c_Mo_decide 31 = .ok (.getfield 38, 3) := by decide +kernel
theorem d_Mo_decide_34 : decode c_Mo_decide 34 = .ok (.iconst 0, 1) := by decide +kernel
theorem d_Mo_decide_35 : decode c_Mo_decide 35 = .ok (.iaload, 1) := by decide +kernel
theorem d_Mo_decide_36 : decode c_Mo_decide 36 = .ok (.iconst 2, 1) := by decide +kernel
theorem d_Mo_decide_37 : decode c_Mo_decide 37 = .ok (.if_icmp .eq 7, 3) := by decide +kernel
theorem d_Mo_decide_40 : decode c_Mo_decide 40 = .ok (.iconst 0, 1) := by decide +kernel
theorem d_Mo_decide_41 : decode c_Mo_decide 41 = .ok (.goto 49, 3) := by decide +kernel
theorem d_Mo_decide_44 : decode c_Mo_decide 44 = .ok (.aload_n 0, 1) := by decide +kernel
theorem d_Mo_decide_45 : decode c_Mo_decide 45 = .ok (.getfield 38, 3) := by decide +kernel
theorem d_Mo_decide_48 : decode c_Mo_decide 48 = .ok (.iconst 3, 1) := by decide +kernel
theorem d_Mo_decide_49 : decode c_Mo_decide 49 = .ok (.iaload, 1) := by decide +kernel
theorem d_Mo_decide_50 : decode c_Mo_decide 50 = .ok (.iconst 1, 1) := by decide +kernel
theorem d_Mo_decide_51 : decode c_Mo_decide 51 = .ok (.if_icmp .ne 11, 3) := by decide +kernel
theorem d_Mo_decide_54 : decode c_Mo_decide 54 = .ok (.aload_n 0, 1) := by decide +kernel
theorem d_Mo_decide_55 : decode c_Mo_decide 55 = .ok (.iload_n 1, 1) := by decide +kernel
theorem d_Mo_decide_56 : decode c_Mo_decide 56 = .ok (.invokevirtual 326, 3) := by decide +kernel
theorem d_Mo_decide_59 : decode c_Mo_decide 59 = .ok (.goto 31, 3) := by decide +kernel
theorem d_Mo_decide_62 : decode c_Mo_decide 62 = .ok (.iload 4, 2) := by decide +kernel
theorem d_Mo_decide_64 : decode c_Mo_decide 64 = .ok (.ifCond .lt 25, 3) := by decide +kernel
theorem d_Mo_decide_67 : decode c_Mo_decide 67 = .ok (.aload_n 0, 1) := by decide +kernel
theorem d_Mo_decide_68 : decode c_Mo_decide 68 = .ok (.getfield 98, 3) := by decide +kernel
theorem d_Mo_decide_71 : decode c_Mo_decide 71 = .ok (.iload 4, 2) := by decide +kernel
theorem d_Mo_decide_73 : decode c_Mo_decide 73 = .ok (.iaload, 1) := by decide +kernel
theorem d_Mo_decide_74 : decode c_Mo_decide 74 = .ok (.iload 5, 2) := by decide +kernel
theorem d_Mo_decide_76 : decode c_Mo_decide 76 = .ok (.if_icmp .ne 13, 3) := by decide +kernel
theorem d_Mo_decide_79 : decode c_Mo_decide 79 = .ok (.aload_n 0, 1) := by decide +kernel
theorem d_Mo_decide_80 : decode c_Mo_decide 80 = .ok (.iload_n 1, 1) := by decide +kernel
theorem d_Mo_decide_81 : decode c_Mo_decide 81 = .ok (.iload 4, 2) := by decide +kernel
theorem d_Mo_decide_83 : decode c_Mo_decide 83 = .ok (.invokevirtual 329, 3) := by decide +kernel
theorem d_Mo_decide_86 : decode c_Mo_decide 86 = .ok (.goto 4, 3) := by decide +kernel
theorem d_Mo_decide_89 : decode c_Mo_decide 89 = .ok (.iconst 0, 1) := by decide +kernel
theorem d_Mo_decide_90 : decode c_Mo_decide 90 = .ok (.istore 6, 2) := by decide +kernel
theorem d_Mo_decide_92 : decode c_Mo_decide 92 = .ok (.iload 6, 2) := by decide +kernel
theorem d_Mo_decide_94 : decode c_Mo_decide 94 = .ok (.iconst 2, 1) := by decide +kernel
theorem d_Mo_decide_95 : decode c_Mo_decide 95 = .ok (.if_icmp .ne 17, 3) := by decide +kernel
theorem d_Mo_decide_98 : decode c_Mo_decide 98 = .ok (.aload_n 0, 1) := by decide +kernel
theorem d_Mo_decide_99 : decode c_Mo_decide 99 = .ok (.iload_n 1, 1) := by decide +kernel
theorem d_Mo_decide_100 : decode c_Mo_decide 100 = .ok (.iload_n 2, 1) := by decide +kernel
theorem d_Mo_decide_101 : decode c_Mo_decide 101 = .ok (.iload_n 3, 1) := by decide +kernel
theorem d_Mo_decide_102 : decode c_Mo_decide 102 = .ok (.bipush 11, 2) := by decide +kernel
theorem d_Mo_decide_104 : decode c_Mo_decide 104 = .ok (.aload_n 0, 1) := by decide +kernel
theorem d_Mo_decide_105 : decode c_Mo_decide 105 = .ok (.getfield 253, 3) := by decide +kernel
theorem d_Mo_decide_108 : decode c_Mo_decide 108 = .ok (.invokevirtual 332, 3) := by decide +kernel
theorem d_Mo_decide_111 : decode c_Mo_decide 111 = .ok (.return_, 1) := by decide +kernel
theorem d_Mo_decide_112 : decode c_Mo_decide 112 = .ok (.iload 4, 2) := by decide +kernel
theorem d_Mo_decide_114 : decode c_Mo_decide 114 = .ok (.ifCond .lt 10, 3) := by decide +kernel
theorem d_Mo_decide_117 : decode c_Mo_decide 117 = .ok (.aload_n 0, 1) := by decide +kernel
theorem d_Mo_decide_118 : decode c_Mo_decide 118 = .ok (.iload_n 1, 1) := by decide +kernel
theorem d_Mo_decide_119 : decode c_Mo_decide 119 = .ok (.iload 4, 2) := by decide +kernel
theorem d_Mo_decide_121 : decode c_Mo_decide 121 = .ok (.invokevirtual 335, 3) := by decide +kernel
theorem d_Mo_decide_124 : decode c_Mo_decide 124 = .ok (.aload_n 0, 1) := by decide +kernel
theorem d_Mo_decide_125 : decode c_Mo_decide 125 = .ok (.iload 6, 2) := by decide +kernel
theorem d_Mo_decide_127 : decode c_Mo_decide 127 = .ok (.iconst 1, 1) := by decide +kernel
theorem d_Mo_decide_128 : decode c_Mo_decide 128 = .ok (.if_icmp .ne 7, 3) := by decide +kernel
theorem d_Mo_decide_131 : decode c_Mo_decide 131 = .ok (.iconst 3, 1) := by decide +kernel
theorem d_Mo_decide_132 : decode c_Mo_decide 132 = .ok (.goto 4, 3) := by decide +kernel
theorem d_Mo_decide_135 : decode c_Mo_decide 135 = .ok (.iconst 4, 1) := by decide +kernel
theorem d_Mo_decide_136 : decode c_Mo_decide 136 = .ok (.iload 5, 2) := by decide +kernel
theorem d_Mo_decide_138 : decode c_Mo_decide 138 = .ok (.iconst 0, 1) := by decide +kernel
theorem d_Mo_decide_139 : decode c_Mo_decide 139 = .ok (.invokevirtual 279, 3) := by decide +kernel
theorem d_Mo_decide_142 : decode c_Mo_decide 142 = .ok (.aload_n 0, 1) := by decide +kernel
theorem d_Mo_decide_143 : decode c_Mo_decide 143 = .ok (.iload_n 1, 1) := by decide +kernel
theorem d_Mo_decide_144 : decode c_Mo_decide 144 = .ok (.iload_n 2, 1) := by decide +kernel
theorem d_Mo_decide_145 : decode c_Mo_decide 145 = .ok (.iload_n 3, 1) := by decide +kernel
theorem d_Mo_decide_146 : decode c_Mo_decide 146 = .ok (.iload 6, 2) := by decide +kernel
theorem d_Mo_decide_148 : decode c_Mo_decide 148 = .ok (.iconst 1, 1) := by decide +kernel
theorem d_Mo_decide_149 : decode c_Mo_decide 149 = .ok (.if_icmp .ne 7, 3) := by decide +kernel
theorem d_Mo_decide_152 : decode c_Mo_decide 152 = .ok (.iconst 2, 1) := by decide +kernel
theorem d_Mo_decide_153 : decode c_Mo_decide 153 = .ok (.goto 4, 3) := by decide +kernel
theorem d_Mo_decide_156 : decode c_Mo_decide 156 = .ok (.iconst 3, 1) := by decide +kernel
theorem d_Mo_decide_157 : decode c_Mo_decide 157 = .ok (.iconst (-1), 1) := by decide +kernel
theorem d_Mo_decide_158 : decode c_Mo_decide 158 = .ok (.invokevirtual 332, 3) := by decide +kernel
theorem d_Mo_decide_161 : decode c_Mo_decide 161 = .ok (.return_, 1) := by decide +kernel
theorem d_Mo_identified_0 : decode c_Mo_identified 0 = .ok (.aload_n 0, 1) := by decide +kernel
theorem d_Mo_identified_1 : decode c_Mo_identified 1 = .ok (.getfield 233, 3) := by decide +kernel
theorem d_Mo_identified_4 : decode c_Mo_identified 4 = .ok (.iconst 5, 1) := by decide +kernel
theorem d_Mo_identified_5 : decode c_Mo_identified 5 = .ok (.if_icmp .ne 28, 3) := by decide +kernel
theorem d_Mo_identified_8 : decode c_Mo_identified 8 = .ok (.aload_n 0, 1) := by decide +kernel
theorem d_Mo_identified_9 : decode c_Mo_identified 9 = .ok (.getfield 38, 3) := by decide +kernel
theorem d_Mo_identified_12 : decode c_Mo_identified 12 = .ok (.iconst 4, 1) := by decide +kernel
theorem d_Mo_identified_13 : decode c_Mo_identified 13 = .ok (.iaload, 1) := by decide +kernel
theorem d_Mo_identified_14 : decode c_Mo_identified 14 = .ok (.bipush 7, 2) := by decide +kernel
theorem d_Mo_identified_16 : decode c_Mo_identified 16 = .ok (.if_icmp .gt 17, 3) := by decide +kernel
theorem d_Mo_identified_19 : decode c_Mo_identified 19 = .ok (.aload_n 0, 1) := by decide +kernel
theorem d_Mo_identified_20 : decode c_Mo_identified 20 = .ok (.getfield 7, 3) := by decide +kernel
theorem d_Mo_identified_23 : decode c_Mo_identified 23 = .ok (.aload_n 0, 1) := by decide +kernel
theorem d_Mo_identified_24 : decode c_Mo_identified 24 = .ok (.getfield 38, 3) := by decide +kernel
theorem d_Mo_identified_27 : decode c_Mo_identified 27 = .ok (.iconst 4, 1) := by decide +kernel
theorem d_Mo_identified_28 : decode c_Mo_identified 28 = .ok (.iaload, 1) := by decide +kernel
theorem d_Mo_identified_29 : decode c_Mo_identified 29 = .ok (.baload, 1) := by decide +kernel
theorem d_Mo_identified_30 : decode c_Mo_identified 30 = .ok (.ifCond .ne 5, 3) := by decide +kernel
theorem d_Mo_identified_33 : decode c_Mo_identified 33 = .ok (.iconst 0, 1) := by decide +kernel
theorem d_Mo_identified_34 : decode c_Mo_identified 34 = .ok (.ireturn, 1) := by decide +kernel
theorem d_Mo_identified_35 : decode c_Mo_identified 35 = .ok (.aload_n 0, 1) := by decide +kernel
theorem d_Mo_identified_36 : decode c_Mo_identified 36 = .ok (.getfield 83, 3) := by decide +kernel
theorem d_Mo_identified_39 : decode c_Mo_identified 39 = .ok (.iload_n 1, 1) := by decide +kernel
theorem d_Mo_identified_40 : decode c_Mo_identified 40 = .ok (.iaload, 1) := by decide +kernel
theorem d_Mo_identified_41 : decode c_Mo_identified 41 = .ok (.iconst 4, 1) := by decide +kernel
theorem d_Mo_identified_42 : decode c_Mo_identified 42 = .ok (.if_icmp .ne 11, 3) := by decide +kernel
theorem d_Mo_identified_45 : decode c_Mo_identified 45 = .ok (.aload_n 0, 1) := by decide +kernel
theorem d_Mo_identified_46 : decode c_Mo_identified 46 = .ok (.iload_n 1, 1) := by decide +kernel
theorem d_Mo_identified_47 : decode c_Mo_identified 47 = .ok (.iconst 4, 1) := by decide +kernel
theorem d_Mo_identified_48 : decode c_Mo_identified 48 = .ok (.iload_n 1, 1) := by decide +kernel
theorem d_Mo_identified_49 : decode c_Mo_identified 49 = .ok (.imul, 1) := by decide +kernel
theorem d_Mo_identified_50 : decode c_Mo_identified 50 = .ok (.invokevirtual 335, 3) := by decide +kernel
theorem d_Mo_identified_53 : decode c_Mo_identified 53 = .ok (.iconst 4, 1) := by decide +kernel
theorem d_Mo_identified_54 : decode c_Mo_identified 54 = .ok (.iload_n 1, 1) := by decide +kernel
theorem d_Mo_identified_55 : decode c_Mo_identified 55 = .ok (.imul, 1) := by decide +kernel
theorem d_Mo_identified_56 : decode c_Mo_identified 56 = .ok (.aload_n 0, 1) := by decide +kernel
theorem d_Mo_identified_57 : decode c_Mo_identified 57 = .ok (.getfield 83, 3) := by decide +kernel
theorem d_Mo_identified_60 : decode c_Mo_identified 60 = .ok (.iload_n 1, 1) := by decide +kernel
theorem d_Mo_identified_61 : decode c_Mo_identified 61 = .ok (.iaload, 1) := by decide +kernel
theorem d_Mo_identified_62 : decode c_Mo_identified 62 = .ok (.iadd, 1) := by decide +kernel
theorem d_Mo_identified_63 : decode c_Mo_identified 63 = .ok (.istore_n 2, 1) := by decide +kernel
theorem d_Mo_identified_64 : decode c_Mo_identified 64 = .ok (.aload_n 0, 1) := by decide +kernel
theorem d_Mo_identified_65 : decode c_Mo_identified 65 = .ok (.getfield 83, 3) := by decide +kernel
theorem d_Mo_identified_68 : decode c_Mo_identified 68 = .ok (.iload_n 1, 1) := by decide +kernel
theorem d_Mo_identified_69 : decode c_Mo_identified 69 = .ok (.dup2, 1) := by decide +kernel
theorem d_Mo_identified_70 : decode c_Mo_identified 70 = .ok (.iaload, 1) := by decide +kernel
theorem d_Mo_identified_71 : decode c_Mo_identified 71 = .ok (.iconst 1, 1) := by decide +kernel
theorem d_Mo_identified_72 : decode c_Mo_identified 72 = .ok (.iadd, 1) := by decide +kernel
theorem d_Mo_identified_73 : decode c_Mo_identified 73 = .ok (.iastore, 1) := by decide +kernel
theorem d_Mo_identified_74 : decode c_Mo_identified 74 = .ok (.aload_n 0, 1) := by decide +kernel
theorem d_Mo_identified_75 : decode c_Mo_identified 75 = .ok (.getfield 86, 3) := by decide +kernel
theorem d_Mo_identified_78 : decode c_Mo_identified 78 = .ok (.iload_n 2, 1) := by decide +kernel
theorem d_Mo_identified_79 : decode c_Mo_identified 79 = .ok (.aload_n 0, 1) := by decide +kernel
theorem d_Mo_identified_80 : decode c_Mo_identified 80 = .ok (.getfield 77, 3) := by decide +kernel
theorem d_Mo_identified_83 : decode c_Mo_identified 83 = .ok (.iload_n 1, 1) := by decide +kernel
theorem d_Mo_identified_84 : decode c_Mo_identified 84 = .ok (.iaload, 1) := by decide +kernel
theorem d_Mo_identified_85 : decode c_Mo_identified 85 = .ok (.ldc_w 338, 3) := by decide +kernel
theorem d_Mo_identified_88 : decode c_Mo_identified 88 = .ok (.iand, 1) := by decide +kernel
theorem d_Mo_identified_89 : decode c_Mo_identified 89 = .ok (.iastore, 1) := by decide +kernel
theorem d_Mo_identified_90 : decode c_Mo_identified 90 = .ok (.aload_n 0, 1) := by decide +kernel
theorem d_Mo_identified_91 : decode c_Mo_identified 91 = .ok (.getfield 77, 3) := by decide +kernel
theorem d_Mo_identified_94 : decode c_Mo_identified 94 = .ok (.iload_n 1, 1) := by decide +kernel
theorem d_Mo_identified_95 : decode c_Mo_identified 95 = .ok (.dup2, 1) := by decide +kernel
theorem d_Mo_identified_96 : decode c_Mo_identified 96 = .ok (.iaload, 1) := by decide +kernel
theorem d_Mo_identified_97 : decode c_Mo_identified 97 = .ok (.iconst 1, 1) := by decide +kernel
theorem d_Mo_identified_98 : decode c_Mo_identified 98 = .ok (.iadd, 1) := by decide +kernel
theorem d_Mo_identified_99 : decode c_Mo_identified 99 = .ok (.iastore, 1) := by decide +kernel
theorem d_Mo_identified_100 : decode c_Mo_identified 100 = .ok (.aload_n 0, 1) := by decide +kernel
theorem d_Mo_identified_101 : decode c_Mo_identified 101 = .ok (.getfield 89, 3) := by decide +kernel
theorem d_Mo_identified_104 : decode c_Mo_identified 104 = .ok (.iload_n 2, 1) := by decide +kernel
theorem d_Mo_identified_105 : decode c_Mo_identified 105 = .ok (.aload_n 0, 1) := by decide +kernel
theorem d_Mo_identified_106 : decode c_Mo_identified 106 = .ok (.getfield 38, 3) := by decide +kernel
theorem d_Mo_identified_109 : decode c_Mo_identified 109 = .ok (.iconst 4, 1) := by decide +kernel
theorem d_Mo_identified_110 : decode c_Mo_identified 110 = .ok (.iaload, 1) := by decide +kernel
theorem d_Mo_identified_111 : decode c_Mo_identified 111 = .ok (.iastore, 1) := by decide +kernel
theorem d_Mo_identified_112 : decode c_Mo_identified 112 = .ok (.aload_n 0, 1) := by decide +kernel
theorem d_Mo_identified_113 : decode c_Mo_identified 113 = .ok (.getfield 95, 3) := by decide +kernel
theorem d_Mo_identified_116 : decode c_Mo_identified 116 = .ok (.iload_n 2, 1) := by decide +kernel
theorem d_Mo_identified_117 : decode c_Mo_identified 117 = .ok (.iconst 0, 1) := by decide +kernel
theorem d_Mo_identified_118 : decode c_Mo_identified 118 = .ok (.iastore, 1) := by decide +kernel
theorem d_Mo_identified_119 : decode c_Mo_identified 119 = .ok (.aload_n 0, 1) := by decide +kernel
theorem d_Mo_identified_120 : decode c_Mo_identified 120 = .ok (.iload_n 1, 1) := by decide +kernel
theorem d_Mo_identified_121 : decode c_Mo_identified 121 = .ok (.iload_n 2, 1) := by decide +kernel
theorem d_Mo_identified_122 : decode c_Mo_identified 122 = .ok (.aload_n 0, 1) := by decide +kernel
theorem d_Mo_identified_123 : decode c_Mo_identified 123 = .ok (.getfield 17, 3) := by decide +kernel
theorem d_Mo_identified_126 : decode c_Mo_identified 126 = .ok (.aload_n 0, 1) := by decide +kernel
theorem d_Mo_identified_127 : decode c_Mo_identified 127 = .ok (.getfield 38, 3) := by decide +kernel
theorem d_Mo_identified_130 : decode c_Mo_identified 130 = .ok (.iconst 4, 1) := by decide +kernel
theorem d_Mo_identified_131 : decode c_Mo_identified 131 = .ok (.iaload, 1) := by decide +kernel
theorem d_Mo_identified_132 : decode c_Mo_identified 132 = .ok (.iaload, 1) := by decide +kernel
theorem d_Mo_identified_133 : decode c_Mo_identified 133 = .ok (.iconst 1, 1) := by decide +kernel
theorem d_Mo_identified_134 : decode c_Mo_identified 134 = .ok (.iand, 1) := by decide +kernel
theorem d_Mo_identified_135 : decode c_Mo_identified 135 = .ok (.ifCond .eq 7, 3) := by decide +kernel
theorem d_Mo_identified_138 : decode c_Mo_identified 138 = .ok (.iconst 1, 1) := by decide +kernel
theorem d_Mo_identified_139 : decode c_Mo_identified 139 = .ok (.goto 4, 3) := by decide +kernel
theorem d_Mo_identified_142 : decode c_Mo_identified 142 = .ok (.iconst 2, 1) := by decide +kernel
theorem d_Mo_identified_143 : decode c_Mo_identified 143 = .ok (.invokevirtual 339, 3) := by decide +kernel
theorem d_Mo_identified_146 : decode c_Mo_identified 146 = .ok (.iconst 2, 1) := by decide +kernel
theorem d_Mo_identified_147 : decode c_Mo_identified 147 = .ok (.ireturn, 1) := by decide +kernel
theorem d_Mo_begin_0 : decode c_Mo_begin 0 = .ok (.aload_n 0, 1) := by decide +kernel
theorem d_Mo_begin_1 : decode c_Mo_begin 1 = .ok (.getfield 92, 3) := by decide +kernel
theorem d_Mo_begin_4 : decode c_Mo_begin 4 = .ok (.iload_n 2, 1) := by decide +kernel
theorem d_Mo_begin_5 : decode c_Mo_begin 5 = .ok (.iload_n 3, 1) := by decide +kernel
theorem d_Mo_begin_6 : decode c_Mo_begin 6 = .ok (.iastore, 1) := by decide +kernel
theorem d_Mo_begin_7 : decode c_Mo_begin 7 = .ok (.aload_n 0, 1) := by decide +kernel
theorem d_Mo_begin_8 : decode c_Mo_begin 8 = .ok (.getfield 95, 3) := by decide +kernel
theorem d_Mo_begin_11 : decode c_Mo_begin 11 = .ok (.iload_n 2, 1) := by decide +kernel
theorem d_Mo_begin_12 : decode c_Mo_begin 12 = .ok (.dup2, 1) := by decide +kernel
theorem d_Mo_begin_13 : decode c_Mo_begin 13 = .ok (.iaload, 1) := by decide +kernel
theorem d_Mo_begin_14 : decode c_Mo_begin 14 = .ok (.iload_n 3, 1) := by decide +kernel
theorem d_Mo_begin_15 : decode c_Mo_begin 15 = .ok (.ior, 1) := by decide +kernel
theorem d_Mo_begin_16 : decode c_Mo_begin 16 = .ok (.iastore, 1) := by decide +kernel
theorem d_Mo_begin_17 : decode c_Mo_begin 17 = .ok (.aload_n 0, 1) := by decide +kernel
theorem d_Mo_begin_18 : decode c_Mo_begin 18 = .ok (.getfield 104, 3) := by decide +kernel
theorem d_Mo_begin_21 : decode c_Mo_begin 21 = .ok (.iload_n 2, 1) := by decide +kernel
theorem d_Mo_begin_22 : decode c_Mo_begin 22 = .ok (.iconst 0, 1) := by decide +kernel
theorem d_Mo_begin_23 : decode c_Mo_begin 23 = .ok (.bastore, 1) := by decide +kernel
theorem d_Mo_begin_24 : decode c_Mo_begin 24 = .ok (.aload_n 0, 1) := by decide +kernel
theorem d_Mo_begin_25 : decode c_Mo_begin 25 = .ok (.getfield 101, 3) := by decide +kernel
theorem d_Mo_begin_28 : decode c_Mo_begin 28 = .ok (.iload_n 2, 1) := by decide +kernel
theorem d_Mo_begin_29 : decode c_Mo_begin 29 = .ok (.aload_n 0, 1) := by decide +kernel
theorem d_Mo_begin_30 : decode c_Mo_begin 30 = .ok (.aload_n 0, 1) := by decide +kernel
theorem d_Mo_begin_31 : decode c_Mo_begin 31 = .ok (.getfield 13, 3) := by decide +kernel
theorem d_Mo_begin_34 : decode c_Mo_begin 34 = .ok (.aload_n 0, 1) := by decide +kernel
theorem d_Mo_begin_35 : decode c_Mo_begin 35 = .ok (.getfield 89, 3) := by decide +kernel
theorem d_Mo_begin_38 : decode c_Mo_begin 38 = .ok (.iload_n 2, 1) := by decide +kernel
theorem d_Mo_begin_39 : decode c_Mo_begin 39 = .ok (.iaload, 1) := by decide +kernel
theorem d_Mo_begin_40 : decode c_Mo_begin 40 = .ok (.iaload, 1) := by decide +kernel
theorem d_Mo_begin_41 : decode c_Mo_begin 41 = .ok (.iload_n 1, 1) := by decide +kernel
theorem d_Mo_begin_42 : decode c_Mo_begin 42 = .ok (.aload_n 0, 1) := by decide +kernel
theorem d_Mo_begin_43 : decode c_Mo_begin 43 = .ok (.getfield 80, 3) := by decide +kernel
theorem d_Mo_begin_46 : decode c_Mo_begin 46 = .ok (.iload_n 1, 1) := by decide +kernel
theorem d_Mo_begin_47 : decode c_Mo_begin 47 = .ok (.iaload, 1) := by decide +kernel
theorem d_Mo_begin_48 : decode c_Mo_begin 48 = .ok (.invokevirtual 297, 3) := by decide +kernel
theorem d_Mo_begin_51 : decode c_Mo_begin 51 = .ok (.iastore, 1) := by decide +kernel
theorem d_Mo_begin_52 : decode c_Mo_begin 52 = .ok (.aload_n 0, 1) := by decide +kernel
theorem d_Mo_begin_53 : decode c_Mo_begin 53 = .ok (.getfield 80, 3) := by decide +kernel
theorem d_Mo_begin_56 : decode c_Mo_begin 56 = .ok (.iload_n 1, 1) := by decide +kernel
theorem d_Mo_begin_57 : decode c_Mo_begin 57 = .ok (.dup2, 1) := by decide +kernel
theorem d_Mo_begin_58 : decode c_Mo_begin 58 = .ok (.iaload, 1) := by decide +kernel
theorem d_Mo_begin_59 : decode c_Mo_begin 59 = .ok (.iconst 1, 1) := by decide +kernel
theorem d_Mo_begin_60 : decode c_Mo_begin 60 = .ok (.iadd, 1) := by decide +kernel
theorem d_Mo_begin_61 : decode c_Mo_begin 61 = .ok (.iastore, 1) := by decide +kernel
theorem d_Mo_begin_62 : decode c_Mo_begin 62 = .ok (.aload_n 0, 1) := by decide +kernel
theorem d_Mo_begin_63 : decode c_Mo_begin 63 = .ok (.iload_n 2, 1) := by decide +kernel
theorem d_Mo_begin_64 : decode c_Mo_begin 64 = .ok (.iload_n 3, 1) := by decide +kernel
theorem d_Mo_begin_65 : decode c_Mo_begin 65 = .ok (.iconst 1, 1) := by decide +kernel
theorem d_Mo_begin_66 : decode c_Mo_begin 66 = .ok (.if_icmp .ne 7, 3) := by decide +kernel
theorem d_Mo_begin_69 : decode c_Mo_begin 69 = .ok (.iconst 4, 1) := by decide +kernel
theorem d_Mo_begin_70 : decode c_Mo_begin 70 = .ok (.goto 5, 3) := by decide +kernel
theorem d_Mo_begin_73 : decode c_Mo_begin 73 = .ok (.bipush 51, 2) := by decide +kernel
theorem d_Mo_begin_75 : decode c_Mo_begin 75 = .ok (.invokevirtual 342, 3) := by decide +kernel
theorem d_Mo_begin_78 : decode c_Mo_begin 78 = .ok (.iload_n 3, 1) := by decide +kernel
theorem d_Mo_begin_79 : decode c_Mo_begin 79 = .ok (.iconst 2, 1) := by decide +kernel
theorem d_Mo_begin_80 : decode c_Mo_begin 80 = .ok (.if_icmp .ne 8, 3) := by decide +kernel
theorem d_Mo_begin_83 : decode c_Mo_begin 83 = .ok (.aload_n 0, 1) := by decide +kernel
theorem d_Mo_begin_84 : decode c_Mo_begin 84 = .ok (.iconst 1, 1) := by decide +kernel
theorem d_Mo_begin_85 : decode c_Mo_begin 85 = .ok (.invokevirtual 236, 3) := by decide +kernel
theorem d_Mo_begin_88 : decode c_Mo_begin 88 = .ok (.aload_n 0, 1) := by decide +kernel
theorem d_Mo_begin_89 : decode c_Mo_begin 89 = .ok (.aload_n 0, 1) := by decide +kernel
theorem d_Mo_begin_90 : decode c_Mo_begin 90 = .ok (.getfield 101, 3) := by decide +kernel
theorem d_Mo_begin_93 : decode c_Mo_begin 93 = .ok (.iload_n 2, 1) := by decide +kernel
theorem d_Mo_begin_94 : decode c_Mo_begin 94 = .ok (.iaload, 1) := by decide +kernel
theorem d_Mo_begin_95 : decode c_Mo_begin 95 = .ok (.invokevirtual 290, 3) := by decide +kernel
theorem d_Mo_begin_98 : decode c_Mo_begin 98 = .ok (.return_, 1) := by decide +kernel
theorem d_Mo_request_0 : decode c_Mo_request 0 = .ok (.aload_n 0, 1) := by decide +kernel
theorem d_Mo_request_1 : decode c_Mo_request 1 = .ok (.getfield 98, 3) := by decide +kernel
theorem d_Mo_request_4 : decode c_Mo_request 4 = .ok (.iload_n 1, 1) := by decide +kernel
theorem d_Mo_request_5 : decode c_Mo_request 5 = .ok (.aload_n 0, 1) := by decide +kernel
theorem d_Mo_request_6 : decode c_Mo_request 6 = .ok (.getfield 38, 3) := by decide +kernel
theorem d_Mo_request_9 : decode c_Mo_request 9 = .ok (.iconst 1, 1) := by decide +kernel
theorem d_Mo_request_10 : decode c_Mo_request 10 = .ok (.iaload, 1) := by decide +kernel
theorem d_Mo_request_11 : decode c_Mo_request 11 = .ok (.iconst 1, 1) := by decide +kernel
theorem d_Mo_request_12 : decode c_Mo_request 12 = .ok (.iadd, 1) := by decide +kernel
theorem d_Mo_request_13 : decode c_Mo_request 13 = .ok (.sipush 255, 3) := by decide +kernel
theorem d_Mo_request_16 : decode c_Mo_request 16 = .ok (.iand, 1) := by decide +kernel
theorem d_Mo_request_17 : decode c_Mo_request 17 = .ok (.iastore, 1) := by decide +kernel
theorem d_Mo_request_18 : decode c_Mo_request 18 = .ok (.aload_n 0, 1) := by decide +kernel
theorem d_Mo_request_19 : decode c_Mo_request 19 = .ok (.iconst 1, 1) := by decide +kernel
theorem d_Mo_request_20 : decode c_Mo_request 20 = .ok (.aload_n 0, 1) := by decide +kernel
theorem d_Mo_request_21 : decode c_Mo_request 21 = .ok (.getfield 98, 3) := by decide +kernel
theorem d_Mo_request_24 : decode c_Mo_request 24 = .ok (.iload_n 1, 1) := by decide +kernel
theorem d_Mo_request_25 : decode c_Mo_request 25 = .ok (.iaload, 1) := by decide +kernel
theorem d_Mo_request_26 : decode c_Mo_request 26 = .ok (.iload_n 2, 1) := by decide +kernel
theorem d_Mo_request_27 : decode c_Mo_request 27 = .ok (.invokevirtual 279, 3) := by decide +kernel
theorem d_Mo_request_30 : decode c_Mo_request 30 = .ok (.aload_n 0, 1) := by decide +kernel
theorem d_Mo_request_31 : decode c_Mo_request 31 = .ok (.aload_n 0, 1) := by decide +kernel
theorem d_Mo_request_32 : decode c_Mo_request 32 = .ok (.getfield 86, 3) := by decide +kernel
theorem d_Mo_request_35 : decode c_Mo_request 35 = .ok (.iload_n 1, 1) := by decide +kernel
theorem d_Mo_request_36 : decode c_Mo_request 36 = .ok (.iaload, 1) := by decide +kernel
theorem d_Mo_request_37 : decode c_Mo_request 37 = .ok (.putfield 253, 3) := by decide +kernel
theorem d_Mo_request_40 : decode c_Mo_request 40 = .ok (.return_, 1) := by decide +kernel
theorem d_Mo_met_0 : decode c_Mo_met 0 = .ok (.aload_n 0, 1) := by decide +kernel
theorem d_Mo_met_1 : decode c_Mo_met 1 = .ok (.getfield 13, 3) := by decide +kernel
theorem d_Mo_met_4 : decode c_Mo_met 4 = .ok (.aload_n 0, 1) := by decide +kernel
theorem d_Mo_met_5 : decode c_Mo_met 5 = .ok (.getfield 89, 3) := by decide +kernel
theorem d_Mo_met_8 : decode c_Mo_met 8 = .ok (.iload_n 2, 1) := by decide +kernel
theorem d_Mo_met_9 : decode c_Mo_met 9 = .ok (.iaload, 1) := by decide +kernel
theorem d_Mo_met_10 : decode c_Mo_met 10 = .ok (.iaload, 1) := by decide +kernel
theorem d_Mo_met_11 : decode c_Mo_met 11 = .ok (.istore_n 3, 1) := by decide +kernel
theorem d_Mo_met_12 : decode c_Mo_met 12 = .ok (.aload_n 0, 1) := by decide +kernel
theorem d_Mo_met_13 : decode c_Mo_met 13 = .ok (.getfield 38, 3) := by decide +kernel
theorem d_Mo_met_16 : decode c_Mo_met 16 = .ok (.iconst 3, 1) := by decide +kernel
theorem d_Mo_met_17 : decode c_Mo_met 17 = .ok (.iaload, 1) := by decide +kernel
theorem d_Mo_met_18 : decode c_Mo_met 18 = .ok (.istore 4, 2) := by decide +kernel
theorem d_Mo_met_20 : decode c_Mo_met 20 = .ok (.iload 4, 2) := by decide +kernel
theorem d_Mo_met_22 : decode c_Mo_met 22 = .ok (.iconst 3, 1) := by decide +kernel
theorem d_Mo_met_23 : decode c_Mo_met 23 = .ok (.if_icmp .ne 85, 3) := by decide +kernel
theorem d_Mo_met_26 : decode c_Mo_met 26 = .ok (.aload_n 0, 1) := by decide +kernel
theorem d_Mo_met_27 : decode c_Mo_met 27 = .ok (.getfield 233, 3) := by decide +kernel
theorem d_Mo_met_30 : decode c_Mo_met 30 = .ok (.iconst 5, 1) := by decide +kernel
theorem d_Mo_met_31 : decode c_Mo_met 31 = .ok (.if_icmp .eq 7, 3) := by decide +kernel
theorem d_Mo_met_34 : decode c_Mo_met 34 = .ok (.iconst 0, 1) := by decide +kernel
theorem d_Mo_met_35 : decode c_Mo_met 35 = .ok (.goto 33, 3) := by decide +kernel
theorem d_Mo_met_38 : decode c_Mo_met 38 = .ok (.aload_n 0, 1) := by decide +kernel
theorem d_Mo_met_39 : decode c_Mo_met 39 = .ok (.getfield 38, 3) := by decide +kernel
theorem d_Mo_met_42 : decode c_Mo_met 42 = .ok (.iconst 4, 1) := by decide +kernel
theorem d_Mo_met_43 : decode c_Mo_met 43 = .ok (.iaload, 1) := by decide +kernel
theorem d_Mo_met_44 : decode c_Mo_met 44 = .ok (.iconst 4, 1) := by decide +kernel
theorem d_Mo_met_45 : decode c_Mo_met 45 = .ok (.if_icmp .ne 7, 3) := by decide +kernel
theorem d_Mo_met_48 : decode c_Mo_met 48 = .ok (.iconst 1, 1) := by decide +kernel
theorem d_Mo_met_49 : decode c_Mo_met 49 = .ok (.goto 19, 3) := by decide +kernel
theorem d_Mo_met_52 : decode c_Mo_met 52 = .ok (.aload_n 0, 1) := by decide +kernel
theorem d_Mo_met_53 : decode c_Mo_met 53 = .ok (.getfield 38, 3) := by decide +kernel
theorem d_Mo_met_56 : decode c_Mo_met 56 = .ok (.iconst 4, 1) := by decide +kernel
theorem d_Mo_met_57 : decode c_Mo_met 57 = .ok (.iaload, 1) := by decide +kernel
theorem d_Mo_met_58 : decode c_Mo_met 58 = .ok (.bipush 51, 2) := by decide +kernel
theorem d_Mo_met_60 : decode c_Mo_met 60 = .ok (.if_icmp .ne 7, 3) := by decide +kernel
theorem d_Mo_met_63 : decode c_Mo_met 63 = .ok (.iconst 2, 1) := by decide +kernel
theorem d_Mo_met_64 : decode c_Mo_met 64 = .ok (.goto 4, 3) := by decide +kernel
theorem d_Mo_met_67 : decode c_Mo_met 67 = .ok (.iconst 0, 1) := by decide +kernel
theorem d_Mo_met_68 : decode c_Mo_met 68 = .ok (.istore 5, 2) := by decide +kernel
theorem d_Mo_met_70 : decode c_Mo_met 70 = .ok (.aload_n 0, 1) := by decide +kernel
theorem d_Mo_met_71 : decode c_Mo_met 71 = .ok (.getfield 17, 3) := by decide +kernel
theorem d_Mo_met_74 : decode c_Mo_met 74 = .ok (.aload_n 0, 1) := by decide +kernel
theorem d_Mo_met_75 : decode c_Mo_met 75 = .ok (.getfield 89, 3) := by decide +kernel
theorem d_Mo_met_78 : decode c_Mo_met 78 = .ok (.iload_n 2, 1) := by decide +kernel
theorem d_Mo_met_79 : decode c_Mo_met 79 = .ok (.iaload, 1) := by decide +kernel
theorem d_Mo_met_80 : decode c_Mo_met 80 = .ok (.iaload, 1) := by decide +kernel
theorem d_Mo_met_81 : decode c_Mo_met 81 = .ok (.iload 5, 2) := by decide +kernel
theorem d_Mo_met_83 : decode c_Mo_met 83 = .ok (.iand, 1) := by decide +kernel
theorem d_Mo_met_84 : decode c_Mo_met 84 = .ok (.aload_n 0, 1) := by decide +kernel
theorem d_Mo_met_85 : decode c_Mo_met 85 = .ok (.getfield 95, 3) := by decide +kernel
theorem d_Mo_met_88 : decode c_Mo_met 88 = .ok (.iload_n 2, 1) := by decide +kernel
theorem d_Mo_met_89 : decode c_Mo_met 89 = .ok (.iaload, 1) := by decide +kernel
theorem d_Mo_met_90 : decode c_Mo_met 90 = .ok (.iconst (-1), 1) := by decide +kernel
theorem d_Mo_met_91 : decode c_Mo_met 91 = .ok (.ixor, 1) := by decide +kernel
theorem d_Mo_met_92 : decode c_Mo_met 92 = .ok (.iand, 1) := by decide +kernel
theorem d_Mo_met_93 : decode c_Mo_met 93 = .ok (.ifCond .ne 5, 3) := by decide +kernel
theorem d_Mo_met_96 : decode c_Mo_met 96 = .ok (.iconst 0, 1) := by decide +kernel
theorem d_Mo_met_97 : decode c_Mo_met 97 = .ok (.ireturn, 1) := by decide +kernel
theorem d_Mo_met_98 : decode c_Mo_met 98 = .ok (.aload_n 0, 1) := by decide +kernel
theorem d_Mo_met_99 : decode c_Mo_met 99 = .ok (.iload_n 1, 1) := by decide +kernel
theorem d_Mo_met_100 : decode c_Mo_met 100 = .ok (.iload_n 2, 1) := by decide +kernel
theorem d_Mo_met_101 : decode c_Mo_met 101 = .ok (.iload 5, 2) := by decide +kernel
theorem d_Mo_met_103 : decode c_Mo_met 103 = .ok (.invokevirtual 339, 3) := by decide +kernel
theorem d_Mo_met_106 : decode c_Mo_met 106 = .ok (.iconst 2, 1) := by decide +kernel
theorem d_Mo_met_107 : decode c_Mo_met 107 = .ok (.ireturn, 1) := by decide +kernel
theorem d_Mo_met_108 : decode c_Mo_met 108 = .ok (.aload_n 0, 1) := by decide +kernel
theorem d_Mo_met_109 : decode c_Mo_met 109 = .ok (.getfield 92, 3) := by decide +kernel
theorem d_Mo_met_112 : decode c_Mo_met 112 = .ok (.iload_n 2, 1) := by decide +kernel
theorem d_Mo_met_113 : decode c_Mo_met 113 = .ok (.iaload, 1) := by decide +kernel
theorem d_Mo_met_114 : decode c_Mo_met 114 = .ok (.iconst 1, 1) := by decide +kernel
theorem d_Mo_met_115 : decode c_Mo_met 115 = .ok (.if_icmp .ne 49, 3) := by decide +kernel
theorem d_Mo_met_118 : decode c_Mo_met 118 = .ok (.iload 4, 2) := by decide +kernel
theorem d_Mo_met_120 : decode c_Mo_met 120 = .ok (.iconst 4, 1) := by decide +kernel
theorem d_Mo_met_121 : decode c_Mo_met 121 = .ok (.if_icmp .ne 41, 3) := by decide +kernel
theorem d_Mo_met_124 : decode c_Mo_met 124 = .ok (.aload_n 0, 1) := by decide +kernel
theorem d_Mo_met_125 : decode c_Mo_met 125 = .ok (.getfield 233, 3) := by decide +kernel
theorem d_Mo_met_128 : decode c_Mo_met 128 = .ok (.bipush 8, 2) := by decide +kernel
theorem d_Mo_met_130 : decode c_Mo_met 130 = .ok (.if_icmp .ne 32, 3) := by decide +kernel
theorem d_Mo_met_133 : decode c_Mo_met 133 = .ok (.aload_n 0, 1) := by decide +kernel
theorem d_Mo_met_134 : decode c_Mo_met 134 = .ok (.iconst 4, 1) := by decide +kernel
theorem d_Mo_met_135 : decode c_Mo_met 135 = .ok (.invokevirtual 283, 3) := by decide +kernel
theorem d_Mo_met_138 : decode c_Mo_met 138 = .ok (.aload_n 0, 1) := by decide +kernel
theorem d_Mo_met_139 : decode c_Mo_met 139 = .ok (.aload_n 0, 1) := by decide +kernel
theorem d_Mo_met_140 : decode c_Mo_met 140 = .ok (.getfield 38, 3) := by decide +kernel
theorem d_Mo_met_143 : decode c_Mo_met 143 = .ok (.iconst 1, 1) := by decide +kernel
theorem d_Mo_met_144 : decode c_Mo_met 144 = .ok (.iaload, 1) := by decide +kernel
theorem d_Mo_met_145 : decode c_Mo_met 145 = .ok (.iload_n 3, 1) := by decide +kernel
theorem d_Mo_met_146 : decode c_Mo_met 146 = .ok (.aload_n 0, 1) := by decide +kernel
theorem d_Mo_met_147 : decode c_Mo_met 147 = .ok (.getfield 101, 3) := by decide +kernel
theorem d_Mo_met_150 : decode c_Mo_met 150 = .ok (.iload_n 2, 1) := by decide +kernel
theorem d_Mo_met_151 : decode c_Mo_met 151 = .ok (.iaload, 1) := by decide +kernel
theorem d_Mo_met_152 : decode c_Mo_met 152 = .ok (.invokevirtual 286, 3) := by decide +kernel
theorem d_Mo_met_155 : decode c_Mo_met 155 = .ok (.if_icmp .ne 7, 3) := by decide +kernel
theorem d_Mo_met_158 : decode c_Mo_met 158 = .ok (.iconst 1, 1) := by decide +kernel
theorem d_Mo_met_159 : decode c_Mo_met 159 = .ok (.goto 4, 3) := by decide +kernel
theorem d_Mo_met_162 : decode c_Mo_met 162 = .ok (.iconst 0, 1) := by decide +kernel
theorem d_Mo_met_163 : decode c_Mo_met 163 = .ok (.ireturn, 1) := by decide +kernel
theorem d_Mo_met_164 : decode c_Mo_met 164 = .ok (.iload 4, 2) := by decide +kernel
theorem d_Mo_met_166 : decode c_Mo_met 166 = .ok (.bipush 51, 2) := by decide +kernel
theorem d_Mo_met_168 : decode c_Mo_met 168 = .ok (.if_icmp .eq 5, 3) := by decide +kernel
theorem d_Mo_met_171 : decode c_Mo_met 171 = .ok (.iconst 0, 1) := by decide +kernel
theorem d_Mo_met_172 : decode c_Mo_met 172 = .ok (.ireturn, 1) := by decide +kernel
theorem d_Mo_met_173 : decode c_Mo_met 173 = .ok (.aload_n 0, 1) := by decide +kernel
theorem d_Mo_met_174 : decode c_Mo_met 174 = .ok (.getfield 104, 3) := by decide +kernel
theorem d_Mo_met_177 : decode c_Mo_met 177 = .ok (.iload_n 2, 1) := by decide +kernel
theorem d_Mo_met_178 : decode c_Mo_met 178 = .ok (.baload, 1) := by decide +kernel
theorem d_Mo_met_179 : decode c_Mo_met 179 = .ok (.ifCond .eq 54, 3) := by decide +kernel
theorem d_Mo_met_182 : decode c_Mo_met 182 = .ok (.aload_n 0, 1) := by decide +kernel
theorem d_Mo_met_183 : decode c_Mo_met 183 = .ok (.getfield 233, 3) := by decide +kernel
theorem d_Mo_met_186 : decode c_Mo_met 186 = .ok (.bipush 9, 2) := by decide +kernel
theorem d_Mo_met_188 : decode c_Mo_met 188 = .ok (.if_icmp .ne 43, 3) := by decide +kernel
theorem d_Mo_met_191 : decode c_Mo_met 191 = .ok (.aload_n 0, 1) := by decide +kernel
theorem d_Mo_met_192 : decode c_Mo_met 192 = .ok (.getfield 38, 3) := by decide +kernel
theorem d_Mo_met_195 : decode c_Mo_met 195 = .ok (.iconst 4, 1) := by decide +kernel
theorem d_Mo_met_196 : decode c_Mo_met 196 = .ok (.iaload, 1) := by decide +kernel
theorem d_Mo_met_197 : decode c_Mo_met 197 = .ok (.iconst 4, 1) := by decide +kernel
theorem d_Mo_met_198 : decode c_Mo_met 198 = .ok (.if_icmp .ne 33, 3) := by decide +kernel
theorem d_Mo_met_201 : decode c_Mo_met 201 = .ok (.aload_n 0, 1) := by decide +kernel
theorem d_Mo_met_202 : decode c_Mo_met 202 = .ok (.iconst 5, 1) := by decide +kernel
theorem d_Mo_met_203 : decode c_Mo_met 203 = .ok (.invokevirtual 283, 3) := by decide +kernel
theorem d_Mo_met_206 : decode c_Mo_met 206 = .ok (.aload_n 0, 1) := by decide +kernel
theorem d_Mo_met_207 : decode c_Mo_met 207 = .ok (.iload_n 3, 1) := by decide +kernel
theorem d_Mo_met_208 : decode c_Mo_met 208 = .ok (.iconst 4, 1) := by decide +kernel
theorem d_Mo_met_209 : decode c_Mo_met 209 = .ok (.aload_n 0, 1) := by decide +kernel
theorem d_Mo_met_210 : decode c_Mo_met 210 = .ok (.getfield 101, 3) := by decide +kernel
theorem d_Mo_met_213 : decode c_Mo_met 213 = .ok (.iload_n 2, 1) := by decide +kernel
theorem d_Mo_met_214 : decode c_Mo_met 214 = .ok (.iaload, 1) := by decide +kernel
theorem d_Mo_met_215 : decode c_Mo_met 215 = .ok (.aload_n 0, 1) := by decide +kernel
theorem d_Mo_met_216 : decode c_Mo_met 216 = .ok (.getfield 107, 3) := by decide +kernel
theorem d_Mo_met_219 : decode c_Mo_met 219 = .ok (.iload_n 2, 1) := by decide +kernel
theorem d_Mo_met_220 : decode c_Mo_met 220 = .ok (.iaload, 1) := by decide +kernel
theorem d_Mo_met_221 : decode c_Mo_met 221 = .ok (.invokevirtual 300, 3) := by decide +kernel
theorem d_Mo_met_224 : decode c_Mo_met 224 = .ok (.if_icmp .ne 7, 3) := by decide +kernel
theorem d_Mo_met_227 : decode c_Mo_met 227 = .ok (.iconst 1, 1) := by decide +kernel
theorem d_Mo_met_228 : decode c_Mo_met 228 = .ok (.goto 4, 3) := by decide +kernel
theorem d_Mo_met_231 : decode c_Mo_met 231 = .ok (.iconst 0, 1) := by decide +kernel
theorem d_Mo_met_232 : decode c_Mo_met 232 = .ok (.ireturn, 1) := by decide +kernel
theorem d_Mo_met_233 : decode c_Mo_met 233 = .ok (.aload_n 0, 1) := by decide +kernel
theorem d_Mo_met_234 : decode c_Mo_met 234 = .ok (.getfield 233, 3) := by decide +kernel
theorem d_Mo_met_237 : decode c_Mo_met 237 = .ok (.bipush 13, 2) := by decide +kernel
theorem d_Mo_met_239 : decode c_Mo_met 239 = .ok (.if_icmp .ne 39, 3) := by decide +kernel
theorem d_Mo_met_242 : decode c_Mo_met 242 = .ok (.aload_n 0, 1) := by decide +kernel
theorem d_Mo_met_243 : decode c_Mo_met 243 = .ok (.getfield 38, 3) := by decide +kernel
theorem d_Mo_met_246 : decode c_Mo_met 246 = .ok (.iconst 4, 1) := by decide +kernel
theorem d_Mo_met_247 : decode c_Mo_met 247 = .ok (.iaload, 1) := by decide +kernel
theorem d_Mo_met_248 : decode c_Mo_met 248 = .ok (.iconst 2, 1) := by decide +kernel
theorem d_Mo_met_249 : decode c_Mo_met 249 = .ok (.if_icmp .ne 29, 3) := by decide +kernel
theorem d_Mo_met_252 : decode c_Mo_met 252 = .ok (.aload_n 0, 1) := by decide +kernel
theorem d_Mo_met_253 : decode c_Mo_met 253 = .ok (.bipush 9, 2) := by decide +kernel
theorem d_Mo_met_255 : decode c_Mo_met 255 = .ok (.invokevirtual 283, 3) := by decide +kernel
theorem d_Mo_met_258 : decode c_Mo_met 258 = .ok (.aload_n 0, 1) := by decide +kernel
theorem d_Mo_met_259 : decode c_Mo_met 259 = .ok (.iload_n 3, 1) := by decide +kernel
theorem d_Mo_met_260 : decode c_Mo_met 260 = .ok (.iconst 2, 1) := by decide +kernel
theorem d_Mo_met_261 : decode c_Mo_met 261 = .ok (.aload_n 0, 1) := by decide +kernel
theorem d_Mo_met_262 : decode c_Mo_met 262 = .ok (.getfield 101, 3) := by decide +kernel
theorem d_Mo_met_265 : decode c_Mo_met 265 = .ok (.iload_n 2, 1) := by decide +kernel
theorem d_Mo_met_266 : decode c_Mo_met 266 = .ok (.iaload, 1) := by decide +kernel
theorem d_Mo_met_267 : decode c_Mo_met 267 = .ok (.aload_n 0, 1) := by decide +kernel
theorem d_Mo_met_268 : decode c_Mo_met 268 = .ok (.iconst 5, 1) := by decide +kernel
theorem d_Mo_met_269 : decode c_Mo_met 269 = .ok (.invokevirtual 283, 3) := by decide +kernel
theorem d_Mo_met_272 : decode c_Mo_met 272 = .ok (.invokevirtual 300, 3) := by decide +kernel
theorem d_Mo_met_275 : decode c_Mo_met 275 = .ok (.if_icmp .eq 5, 3) := by decide +kernel
theorem d_Mo_met_278 : decode c_Mo_met 278 = .ok (.iconst 0, 1) := by decide +kernel
theorem d_Mo_met_279 : decode c_Mo_met 279 = .ok (.ireturn, 1) := by decide +kernel
theorem d_Mo_met_280 : decode c_Mo_met 280 = .ok (.aload_n 0, 1) := by decide +kernel
theorem d_Mo_met_281 : decode c_Mo_met 281 = .ok (.getfield 107, 3) := by decide +kernel
theorem d_Mo_met_284 : decode c_Mo_met 284 = .ok (.iload_n 2, 1) := by decide +kernel
theorem d_Mo_met_285 : decode c_Mo_met 285 = .ok (.aload_n 0, 1) := by decide +kernel
theorem d_Mo_met_286 : decode c_Mo_met 286 = .ok (.iconst 5, 1) := by decide +kernel
theorem d_Mo_met_287 : decode c_Mo_met 287 = .ok (.invokevirtual 283, 3) := by decide +kernel
theorem d_Mo_met_290 : decode c_Mo_met 290 = .ok (.iastore, 1) := by decide +kernel
theorem d_Mo_met_291 : decode c_Mo_met 291 = .ok (.aload_n 0, 1) := by decide +kernel
theorem d_Mo_met_292 : decode c_Mo_met 292 = .ok (.getfield 104, 3) := by decide +kernel
theorem d_Mo_met_295 : decode c_Mo_met 295 = .ok (.iload_n 2, 1) := by decide +kernel
theorem d_Mo_met_296 : decode c_Mo_met 296 = .ok (.iconst 1, 1) := by decide +kernel
theorem d_Mo_met_297 : decode c_Mo_met 297 = .ok (.bastore, 1) := by decide +kernel
theorem d_Mo_met_298 : decode c_Mo_met 298 = .ok (.aload_n 0, 1) := by decide +kernel
theorem d_Mo_met_299 : decode c_Mo_met 299 = .ok (.iload_n 2, 1) := by decide +kernel
theorem d_Mo_met_300 : decode c_Mo_met 300 = .ok (.bipush 51, 2) := by decide +kernel
theorem d_Mo_met_302 : decode c_Mo_met 302 = .ok (.invokevirtual 342, 3) := by decide +kernel
theorem d_Mo_met_305 : decode c_Mo_met 305 = .ok (.aload_n 0, 1) := by decide +kernel
theorem d_Mo_met_306 : decode c_Mo_met 306 = .ok (.iconst 3, 1) := by decide +kernel
theorem d_Mo_met_307 : decode c_Mo_met 307 = .ok (.invokevirtual 236, 3) := by decide +kernel
theorem d_Mo_met_310 : decode c_Mo_met 310 = .ok (.aload_n 0, 1) := by decide +kernel
theorem d_Mo_met_311 : decode c_Mo_met 311 = .ok (.aload_n 0, 1) := by decide +kernel
theorem d_Mo_met_312 : decode c_Mo_met 312 = .ok (.iload_n 3, 1) := by decide +kernel
theorem d_Mo_met_313 : decode c_Mo_met 313 = .ok (.iconst 3, 1) := by decide +kernel
theorem d_Mo_met_314 : decode c_Mo_met 314 = .ok (.aload_n 0, 1) := by decide +kernel
theorem d_Mo_met_315 : decode c_Mo_met 315 = .ok (.getfield 107, 3) := by decide +kernel
theorem d_Mo_met_318 : decode c_Mo_met 318 = .ok (.iload_n 2, 1) := by decide +kernel
theorem d_Mo_met_319 : decode c_Mo_met 319 = .ok (.iaload, 1) := by decide +kernel
theorem d_Mo_met_320 : decode c_Mo_met 320 = .ok (.aload_n 0, 1) := by decide +kernel
theorem d_Mo_met_321 : decode c_Mo_met 321 = .ok (.getfield 101, 3) := by decide +kernel
theorem d_Mo_met_324 : decode c_Mo_met 324 = .ok (.iload_n 2, 1) := by decide +kernel
theorem d_Mo_met_325 : decode c_Mo_met 325 = .ok (.iaload, 1) := by decide +kernel
theorem d_Mo_met_326 : decode c_Mo_met 326 = .ok (.invokevirtual 300, 3) := by decide +kernel
theorem d_Mo_met_329 : decode c_Mo_met 329 = .ok (.invokevirtual 290, 3) := by decide +kernel
theorem d_Mo_met_332 : decode c_Mo_met 332 = .ok (.iconst 2, 1) := by decide +kernel
theorem d_Mo_met_333 : decode c_Mo_met 333 = .ok (.ireturn, 1) := by decide +kernel
theorem d_Mo_sendPacket_0 : decode c_Mo_sendPacket 0 = .ok (.aload_n 0, 1) := by decide +kernel
theorem d_Mo_sendPacket_1 : decode c_Mo_sendPacket 1 = .ok (.getfield 155, 3) := by decide +kernel
theorem d_Mo_sendPacket_4 : decode c_Mo_sendPacket 4 = .ok (.iload_n 1, 1) := by decide +kernel
theorem d_Mo_sendPacket_5 : decode c_Mo_sendPacket 5 = .ok (.aload_n 0, 1) := by decide +kernel
theorem d_Mo_sendPacket_6 : decode c_Mo_sendPacket 6 = .ok (.getfield 38, 3) := by decide +kernel
theorem d_Mo_sendPacket_9 : decode c_Mo_sendPacket 9 = .ok (.iconst 1, 1) := by decide +kernel
theorem d_Mo_sendPacket_10 : decode c_Mo_sendPacket 10 = .ok (.iaload, 1) := by decide +kernel
theorem d_Mo_sendPacket_11 : decode c_Mo_sendPacket 11 = .ok (.iconst 1, 1) := by decide +kernel
theorem d_Mo_sendPacket_12 : decode c_Mo_sendPacket 12 = .ok (.iadd, 1) := by decide +kernel
theorem d_Mo_sendPacket_13 : decode c_Mo_sendPacket 13 = .ok (.sipush 255, 3) := by decide +kernel
theorem d_Mo_sendPacket_16 : decode c_Mo_sendPacket 16 = .ok (.iand, 1) := by decide +kernel
theorem d_Mo_sendPacket_17 : decode c_Mo_sendPacket 17 = .ok (.iastore, 1) := by decide +kernel
theorem d_Mo_sendPacket_18 : decode c_Mo_sendPacket 18 = .ok (.aload_n 0, 1) := by decide +kernel
theorem d_Mo_sendPacket_19 : decode c_Mo_sendPacket 19 = .ok (.iconst 1, 1) := by decide +kernel
theorem d_Mo_sendPacket_20 : decode c_Mo_sendPacket 20 = .ok (.iload_n 1, 1) := by decide +kernel
theorem d_Mo_sendPacket_21 : decode c_Mo_sendPacket 21 = .ok (.invokevirtual 276, 3) := by decide +kernel
theorem d_Mo_sendPacket_24 : decode c_Mo_sendPacket 24 = .ok (.return_, 1) := by decide +kernel
theorem d_Mo_sendLast_0 : decode c_Mo_sendLast 0 = .ok (.aload_n 0, 1) := by decide +kernel
theorem d_Mo_sendLast_1 : decode c_Mo_sendLast 1 = .ok (.getfield 143, 3) := by decide +kernel
theorem d_Mo_sendLast_4 : decode c_Mo_sendLast 4 = .ok (.iload_n 1, 1) := by decide +kernel
theorem d_Mo_sendLast_5 : decode c_Mo_sendLast 5 = .ok (.aload_n 0, 1) := by decide +kernel
theorem d_Mo_sendLast_6 : decode c_Mo_sendLast 6 = .ok (.getfield 233, 3) := by decide +kernel
theorem d_Mo_sendLast_9 : decode c_Mo_sendLast 9 = .ok (.iastore, 1) := by decide +kernel
theorem d_Mo_sendLast_10 : decode c_Mo_sendLast 10 = .ok (.iconst 0, 1) := by decide +kernel
theorem d_Mo_sendLast_11 : decode c_Mo_sendLast 11 = .ok (.istore_n 2, 1) := by decide +kernel
theorem d_Mo_sendLast_12 : decode c_Mo_sendLast 12 = .ok (.iload_n 2, 1) := by decide +kernel
theorem d_Mo_sendLast_13 : decode c_Mo_sendLast 13 = .ok (.aload_n 0, 1) := by decide +kernel
theorem d_Mo_sendLast_14 : decode c_Mo_sendLast 14 = .ok (.getfield 233, 3) := by decide +kernel
theorem d_Mo_sendLast_17 : decode c_Mo_sendLast 17 = .ok (.if_icmp .ge 26, 3) := by decide +kernel
theorem d_Mo_sendLast_20 : decode c_Mo_sendLast 20 = .ok (.aload_n 0, 1) := by decide +kernel
theorem d_Mo_sendLast_21 : decode c_Mo_sendLast 21 = .ok (.getfield 146, 3) := by decide +kernel
theorem d_Mo_sendLast_24 : decode c_Mo_sendLast 24 = .ok (.bipush 20, 2) := by decide +kernel
theorem d_Mo_sendLast_26 : decode c_Mo_sendLast 26 = .ok (.iload_n 1, 1) := by decide +kernel
theorem d_Mo_sendLast_27 : decode c_Mo_sendLast 27 = .ok (.imul, 1) := by decide +kernel
theorem d_Mo_sendLast_28 : decode c_Mo_sendLast 28 = .ok (.iload_n 2, 1) := by decide +kernel
theorem d_Mo_sendLast_29 : decode c_Mo_sendLast 29 = .ok (.iadd, 1) := by decide +kernel
theorem d_Mo_sendLast_30 : decode c_Mo_sendLast 30 = .ok (.aload_n 0, 1) := by decide +kernel
theorem d_Mo_sendLast_31 : decode c_Mo_sendLast 31 = .ok (.getfield 38, 3) := by decide +kernel
theorem d_Mo_sendLast_34 : decode c_Mo_sendLast 34 = .ok (.iload_n 2, 1) := by decide +kernel
theorem d_Mo_sendLast_35 : decode c_Mo_sendLast 35 = .ok (.iaload, 1) := by decide +kernel
theorem d_Mo_sendLast_36 : decode c_Mo_sendLast 36 = .ok (.iastore, 1) := by decide +kernel
theorem d_Mo_sendLast_37 : decode c_Mo_sendLast 37 = .ok (.iinc 2 1, 3) := by decide +kernel
theorem d_Mo_sendLast_40 : decode c_Mo_sendLast 40 = .ok (.goto (-28), 3) := by decide +kernel
theorem d_Mo_sendLast_43 : decode c_Mo_sendLast 43 = .ok (.aload_n 0, 1) := by decide +kernel
theorem d_Mo_sendLast_44 : decode c_Mo_sendLast 44 = .ok (.getfield 149, 3) := by decide +kernel
theorem d_Mo_sendLast_47 : decode c_Mo_sendLast 47 = .ok (.iload_n 1, 1) := by decide +kernel
theorem d_Mo_sendLast_48 : decode c_Mo_sendLast 48 = .ok (.iconst 1, 1) := by decide +kernel
theorem d_Mo_sendLast_49 : decode c_Mo_sendLast 49 = .ok (.bastore, 1) := by decide +kernel
theorem d_Mo_sendLast_50 : decode c_Mo_sendLast 50 = .ok (.aload_n 0, 1) := by decide +kernel
theorem d_Mo_sendLast_51 : decode c_Mo_sendLast 51 = .ok (.getfield 152, 3) := by decide +kernel
theorem d_Mo_sendLast_54 : decode c_Mo_sendLast 54 = .ok (.iload_n 1, 1) := by decide +kernel
theorem d_Mo_sendLast_55 : decode c_Mo_sendLast 55 = .ok (.iconst 0, 1) := by decide +kernel
theorem d_Mo_sendLast_56 : decode c_Mo_sendLast 56 = .ok (.iastore, 1) := by decide +kernel
theorem d_Mo_sendLast_57 : decode c_Mo_sendLast 57 = .ok (.aload_n 0, 1) := by decide +kernel
theorem d_Mo_sendLast_58 : decode c_Mo_sendLast 58 = .ok (.getfield 140, 3) := by decide +kernel
theorem d_Mo_sendLast_61 : decode c_Mo_sendLast 61 = .ok (.iload_n 1, 1) := by decide +kernel
theorem d_Mo_sendLast_62 : decode c_Mo_sendLast 62 = .ok (.iconst 0, 1) := by decide +kernel
theorem d_Mo_sendLast_63 : decode c_Mo_sendLast 63 = .ok (.iastore, 1) := by decide +kernel
theorem d_Mo_sendLast_64 : decode c_Mo_sendLast 64 = .ok (.aload_n 0, 1) := by decide +kernel
theorem d_Mo_sendLast_65 : decode c_Mo_sendLast 65 = .ok (.iload_n 1, 1) := by decide +kernel
theorem d_Mo_sendLast_66 : decode c_Mo_sendLast 66 = .ok (.invokevirtual 345, 3) := by decide +kernel
theorem d_Mo_sendLast_69 : decode c_Mo_sendLast 69 = .ok (.return_, 1) := by decide +kernel
theorem d_Mo_beginPort_0 : decode c_Mo_beginPort 0 = .ok (.aload_n 0, 1) := by decide +kernel
theorem d_Mo_beginPort_1 : decode c_Mo_beginPort 1 = .ok (.getfield 134, 3) := by decide +kernel
theorem d_Mo_beginPort_4 : decode c_Mo_beginPort 4 = .ok (.iload_n 1, 1) := by decide +kernel
theorem d_Mo_beginPort_5 : decode c_Mo_beginPort 5 = .ok (.iconst 1, 1) := by decide +kernel
theorem d_Mo_beginPort_6 : decode c_Mo_beginPort 6 = .ok (.iastore, 1) := by decide +kernel
theorem d_Mo_beginPort_7 : decode c_Mo_beginPort 7 = .ok (.aload_n 0, 1) := by decide +kernel
theorem d_Mo_beginPort_8 : decode c_Mo_beginPort 8 = .ok (.getfield 170, 3) := by decide +kernel
theorem d_Mo_beginPort_11 : decode c_Mo_beginPort 11 = .ok (.iload_n 1, 1) := by decide +kernel
theorem d_Mo_beginPort_12 : decode c_Mo_beginPort 12 = .ok (.iconst (-1), 1) := by decide +kernel
theorem d_Mo_beginPort_13 : decode c_Mo_beginPort 13 = .ok (.iastore, 1) := by decide +kernel
theorem d_Mo_beginPort_14 : decode c_Mo_beginPort 14 = .ok (.aload_n 0, 1) := by decide +kernel
theorem d_Mo_beginPort_15 : decode c_Mo_beginPort 15 = .ok (.getfield 161, 3) := by decide +kernel
theorem d_Mo_beginPort_18 : decode c_Mo_beginPort 18 = .ok (.iload_n 1, 1) := by decide +kernel
theorem d_Mo_beginPort_19 : decode c_Mo_beginPort 19 = .ok (.iconst (-1), 1) := by decide +kernel
theorem d_Mo_beginPort_20 : decode c_Mo_beginPort 20 = .ok (.iastore, 1) := by decide +kernel
theorem d_Mo_beginPort_21 : decode c_Mo_beginPort 21 = .ok (.aload_n 0, 1) := by decide +kernel
theorem d_Mo_beginPort_22 : decode c_Mo_beginPort 22 = .ok (.iconst 1, 1) := by decide +kernel
theorem d_Mo_beginPort_23 : decode c_Mo_beginPort 23 = .ok (.aload_n 0, 1) := by decide +kernel
theorem d_Mo_beginPort_24 : decode c_Mo_beginPort 24 = .ok (.getfield 155, 3) := by decide +kernel
theorem d_Mo_beginPort_27 : decode c_Mo_beginPort 27 = .ok (.iload_n 1, 1) := by decide +kernel
theorem d_Mo_beginPort_28 : decode c_Mo_beginPort 28 = .ok (.iaload, 1) := by decide +kernel
theorem d_Mo_beginPort_29 : decode c_Mo_beginPort 29 = .ok (.iconst 1, 1) := by decide +kernel
theorem d_Mo_beginPort_30 : decode c_Mo_beginPort 30 = .ok (.invokevirtual 279, 3) := by decide +kernel
theorem d_Mo_beginPort_33 : decode c_Mo_beginPort 33 = .ok (.aload_n 0, 1) := by decide +kernel
theorem d_Mo_beginPort_34 : decode c_Mo_beginPort 34 = .ok (.iload_n 1, 1) := by decide +kernel
theorem d_Mo_beginPort_35 : decode c_Mo_beginPort 35 = .ok (.invokevirtual 348, 3) := by decide +kernel
theorem d_Mo_beginPort_38 : decode c_Mo_beginPort 38 = .ok (.return_, 1) := by decide +kernel
theorem d_Mo_close_0 : decode c_Mo_close 0 = .ok (.aload_n 0, 1) := by decide +kernel
theorem d_Mo_close_1 : decode c_Mo_close 1 = .ok (.getfield 137, 3) := by decide +kernel
theorem d_Mo_close_4 : decode c_Mo_close 4 = .ok (.iload_n 1, 1) := by decide +kernel
theorem d_Mo_close_5 : decode c_Mo_close 5 = .ok (.iconst 0, 1) := by decide +kernel
theorem d_Mo_close_6 : decode c_Mo_close 6 = .ok (.bastore, 1) := by decide +kernel
theorem d_Mo_close_7 : decode c_Mo_close 7 = .ok (.iconst 0, 1) := by decide +kernel
theorem d_Mo_close_8 : decode c_Mo_close 8 = .ok (.istore_n 2, 1) := by decide +kernel
theorem d_Mo_close_9 : decode c_Mo_close 9 = .ok (.iload_n 2, 1) := by decide +kernel
theorem d_Mo_close_10 : decode c_Mo_close 10 = .ok (.bipush 8, 2) := by decide +kernel
theorem d_Mo_close_12 : decode c_Mo_close 12 = .ok (.if_icmp .ge 35, 3) := by decide +kernel
theorem d_Mo_close_15 : decode c_Mo_close 15 = .ok (.aload_n 0, 1) := by decide +kernel
theorem d_Mo_close_16 : decode c_Mo_close 16 = .ok (.getfield 191, 3) := by decide +kernel
theorem d_Mo_close_19 : decode c_Mo_close 19 = .ok (.iload_n 2, 1) := by decide +kernel
theorem d_Mo_close_20 : decode c_Mo_close 20 = .ok (.aload_n 0, 1) := by decide +kernel
theorem d_Mo_close_21 : decode c_Mo_close 21 = .ok (.getfield 191, 3) := by decide +kernel
theorem d_Mo_close_24 : decode c_Mo_close 24 = .ok (.iload_n 2, 1) := by decide +kernel
theorem d_Mo_close_25 : decode c_Mo_close 25 = .ok (.iaload, 1) := by decide +kernel
theorem d_Mo_close_26 : decode c_Mo_close 26 = .ok (.iload_n 1, 1) := by decide +kernel
theorem d_Mo_close_27 : decode c_Mo_close 27 = .ok (.if_icmp .ne 7, 3) := by decide +kernel
theorem d_Mo_close_30 : decode c_Mo_close 30 = .ok (.iconst (-1), 1) := by decide +kernel
theorem d_Mo_close_31 : decode c_Mo_close 31 = .ok (.goto 9, 3) := by decide +kernel
theorem d_Mo_close_34 : decode c_Mo_close 34 = .ok (.aload_n 0, 1) := by decide +kernel
theorem d_Mo_close_35 : decode c_Mo_close 35 = .ok (.getfield 191, 3) := by decide +kernel
theorem d_Mo_close_38 : decode c_Mo_close 38 = .ok (.iload_n 2, 1) := by decide +kernel
theorem d_Mo_close_39 : decode c_Mo_close 39 = .ok (.iaload, 1) := by decide +kernel
theorem d_Mo_close_40 : decode c_Mo_close 40 = .ok (.iastore, 1) := by decide +kernel
theorem d_Mo_close_41 : decode c_Mo_close 41 = .ok (.iinc 2 1, 3) := by decide +kernel
theorem d_Mo_close_44 : decode c_Mo_close 44 = .ok (.goto (-35), 3) := by decide +kernel
theorem d_Mo_close_47 : decode c_Mo_close 47 = .ok (.return_, 1) := by decide +kernel
theorem d_Mo_failPort_0 : decode c_Mo_failPort 0 = .ok (.aload_n 0, 1) := by decide +kernel
theorem d_Mo_failPort_1 : decode c_Mo_failPort 1 = .ok (.iload_n 1, 1) := by decide +kernel
theorem d_Mo_failPort_2 : decode c_Mo_failPort 2 = .ok (.invokevirtual 351, 3) := by decide +kernel
theorem d_Mo_failPort_5 : decode c_Mo_failPort 5 = .ok (.aload_n 0, 1) := by decide +kernel
theorem d_Mo_failPort_6 : decode c_Mo_failPort 6 = .ok (.getfield 134, 3) := by decide +kernel
theorem d_Mo_failPort_9 : decode c_Mo_failPort 9 = .ok (.iload_n 1, 1) := by decide +kernel
theorem d_Mo_failPort_10 : decode c_Mo_failPort 10 = .ok (.iconst 4, 1) := by decide +kernel
theorem d_Mo_failPort_11 : decode c_Mo_failPort 11 = .ok (.iastore, 1) := by decide +kernel
theorem d_Mo_failPort_12 : decode c_Mo_failPort 12 = .ok (.aload_n 0, 1) := by decide +kernel
theorem d_Mo_failPort_13 : decode c_Mo_failPort 13 = .ok (.getfield 170, 3) := by decide +kernel
theorem d_Mo_failPort_16 : decode c_Mo_failPort 16 = .ok (.iload_n 1, 1) := by decide +kernel
theorem d_Mo_failPort_17 : decode c_Mo_failPort 17 = .ok (.iconst (-1), 1) := by decide +kernel
theorem d_Mo_failPort_18 : decode c_Mo_failPort 18 = .ok (.iastore, 1) := by decide +kernel
theorem d_Mo_failPort_19 : decode c_Mo_failPort 19 = .ok (.aload_n 0, 1) := by decide +kernel
theorem d_Mo_failPort_20 : decode c_Mo_failPort 20 = .ok (.getfield 149, 3) := by decide +kernel
theorem d_Mo_failPort_23 : decode c_Mo_failPort 23 = .ok (.iload_n 1, 1) := by decide +kernel
theorem d_Mo_failPort_24 : decode c_Mo_failPort 24 = .ok (.iconst 0, 1) := by decide +kernel
theorem d_Mo_failPort_25 : decode c_Mo_failPort 25 = .ok (.bastore, 1) := by decide +kernel
theorem d_Mo_failPort_26 : decode c_Mo_failPort 26 = .ok (.aload_n 0, 1) := by decide +kernel
theorem d_Mo_failPort_27 : decode c_Mo_failPort 27 = .ok (.getfield 140, 3) := by decide +kernel
theorem d_Mo_failPort_30 : decode c_Mo_failPort 30 = .ok (.iload_n 1, 1) := by decide +kernel
theorem d_Mo_failPort_31 : decode c_Mo_failPort 31 = .ok (.iconst 0, 1) := by decide +kernel
theorem d_Mo_failPort_32 : decode c_Mo_failPort 32 = .ok (.iastore, 1) := by decide +kernel
theorem d_Mo_failPort_33 : decode c_Mo_failPort 33 = .ok (.return_, 1) := by decide +kernel
theorem d_Mo_link_0 : decode c_Mo_link 0 = .ok (.iload_n 1, 1) := by decide +kernel
theorem d_Mo_link_1 : decode c_Mo_link 1 = .ok (.ifCond .lt 18, 3) := by decide +kernel
theorem d_Mo_link_4 : decode c_Mo_link 4 = .ok (.iload_n 1, 1) := by decide +kernel
theorem d_Mo_link_5 : decode c_Mo_link 5 = .ok (.iconst 3, 1) := by decide +kernel
theorem d_Mo_link_6 : decode c_Mo_link 6 = .ok (.if_icmp .gt 13, 3) := by decide +kernel
theorem d_Mo_link_9 : decode c_Mo_link 9 = .ok (.aload_n 0, 1) := by decide +kernel
theorem d_Mo_link_10 : decode c_Mo_link 10 = .ok (.getfield 131, 3) := by decide +kernel
theorem d_Mo_link_13 : decode c_Mo_link 13 = .ok (.iload_n 1, 1) := by decide +kernel
theorem d_Mo_link_14 : decode c_Mo_link 14 = .ok (.baload, 1) := by decide +kernel
theorem d_Mo_link_15 : decode c_Mo_link 15 = .ok (.iload_n 2, 1) := by decide +kernel
theorem d_Mo_link_16 : decode c_Mo_link 16 = .ok (.if_icmp .ne 5, 3) := by decide +kernel
theorem d_Mo_link_19 : decode c_Mo_link 19 = .ok (.iconst 0, 1) := by decide +kernel
theorem d_Mo_link_20 : decode c_Mo_link 20 = .ok (.ireturn, 1) := by decide +kernel
theorem d_Mo_link_21 : decode c_Mo_link 21 = .ok (.aload_n 0, 1) := by decide +kernel
theorem d_Mo_link_22 : decode c_Mo_link 22 = .ok (.getfield 131, 3) := by decide +kernel
theorem d_Mo_link_25 : decode c_Mo_link 25 = .ok (.iload_n 1, 1) := by decide +kernel
theorem d_Mo_link_26 : decode c_Mo_link 26 = .ok (.iload_n 2, 1) := by decide +kernel
theorem d_Mo_link_27 : decode c_Mo_link 27 = .ok (.bastore, 1) := by decide +kernel
theorem d_Mo_link_28 : decode c_Mo_link 28 = .ok (.iload_n 2, 1) := by decide +kernel
theorem d_Mo_link_29 : decode c_Mo_link 29 = .ok (.ifCond .eq 10, 3) := by decide +kernel
theorem d_Mo_link_32 : decode c_Mo_link 32 = .ok (.aload_n 0, 1) := by decide +kernel
theorem d_Mo_link_33 : decode c_Mo_link 33 = .ok (.iload_n 1, 1) := by decide +kernel
theorem d_Mo_link_34 : decode c_Mo_link 34 = .ok (.invokevirtual 354, 3) := by decide +kernel
theorem d_Mo_link_37 : decode c_Mo_link 37 = .ok (.iconst 1, 1) := by decide +kernel
theorem d_Mo_link_38 : decode c_Mo_link 38 = .ok (.ireturn, 1) := by decide +kernel
theorem d_Mo_link_39 : decode c_Mo_link 39 = .ok (.aload_n 0, 1) := by decide +kernel
theorem d_Mo_link_40 : decode c_Mo_link 40 = .ok (.iload_n 1, 1) := by decide +kernel
theorem d_Mo_link_41 : decode c_Mo_link 41 = .ok (.invokevirtual 351, 3) := by decide +kernel
theorem d_Mo_link_44 : decode c_Mo_link 44 = .ok (.aload_n 0, 1) := by decide +kernel
theorem d_Mo_link_45 : decode c_Mo_link 45 = .ok (.getfield 134, 3) := by decide +kernel
theorem d_Mo_link_48 : decode c_Mo_link 48 = .ok (.iload_n 1, 1) := by decide +kernel
theorem d_Mo_link_49 : decode c_Mo_link 49 = .ok (.iconst 0, 1) := by decide +kernel
theorem d_Mo_link_50 : decode c_Mo_link 50 = .ok (.iastore, 1) := by decide +kernel
theorem d_Mo_link_51 : decode c_Mo_link 51 = .ok (.aload_n 0, 1) := by decide +kernel
theorem d_Mo_link_52 : decode c_Mo_link 52 = .ok (.getfield 170, 3) := by decide +kernel
theorem d_Mo_link_55 : decode c_Mo_link 55 = .ok (.iload_n 1, 1) := by decide +kernel
theorem d_Mo_link_56 : decode c_Mo_link 56 = .ok (.iconst (-1), 1) := by decide +kernel
theorem d_Mo_link_57 : decode c_Mo_link 57 = .ok (.iastore, 1) := by decide +kernel
theorem d_Mo_link_58 : decode c_Mo_link 58 = .ok (.aload_n 0, 1) := by decide +kernel
theorem d_Mo_link_59 : decode c_Mo_link 59 = .ok (.getfield 149, 3) := by decide +kernel
theorem d_Mo_link_62 : decode c_Mo_link 62 = .ok (.iload_n 1, 1) := by decide +kernel
theorem d_Mo_link_63 : decode c_Mo_link 63 = .ok (.iconst 0, 1) := by decide +kernel
theorem d_Mo_link_64 : decode c_Mo_link 64 = .ok (.bastore, 1) := by decide +kernel
theorem d_Mo_link_65 : decode c_Mo_link 65 = .ok (.iconst 1, 1) := by decide +kernel
theorem d_Mo_link_66 : decode c_Mo_link 66 = .ok (.ireturn, 1) := by decide +kernel
theorem d_Mo_sendQuery_0 : decode c_Mo_sendQuery 0 = .ok (.aload_n 0, 1) := by decide +kernel
theorem d_Mo_sendQuery_1 : decode c_Mo_sendQuery 1 = .ok (.aload_n 0, 1) := by decide +kernel
theorem d_Mo_sendQuery_2 : decode c_Mo_sendQuery 2 = .ok (.getfield 182, 3) := by decide +kernel
theorem d_Mo_sendQuery_5 : decode c_Mo_sendQuery 5 = .ok (.iload_n 1, 1) := by decide +kernel
theorem d_Mo_sendQuery_6 : decode c_Mo_sendQuery 6 = .ok (.iaload, 1) := by decide +kernel
theorem d_Mo_sendQuery_7 : decode c_Mo_sendQuery 7 = .ok (.putfield 233, 3) := by decide +kernel
theorem d_Mo_sendQuery_10 : decode c_Mo_sendQuery 10 = .ok (.iconst 0, 1) := by decide +kernel
theorem d_Mo_sendQuery_11 : decode c_Mo_sendQuery 11 = .ok (.istore_n 2, 1) := by decide +kernel
theorem d_Mo_sendQuery_12 : decode c_Mo_sendQuery 12 = .ok (.iload_n 2, 1) := by decide +kernel
theorem d_Mo_sendQuery_13 : decode c_Mo_sendQuery 13 = .ok (.aload_n 0, 1) := by decide +kernel
theorem d_Mo_sendQuery_14 : decode c_Mo_sendQuery 14 = .ok (.getfield 233, 3) := by decide +kernel
theorem d_Mo_sendQuery_17 : decode c_Mo_sendQuery 17 = .ok (.if_icmp .ge 26, 3) := by decide +kernel
theorem d_Mo_sendQuery_20 : decode c_Mo_sendQuery 20 = .ok (.aload_n 0, 1) := by decide +kernel
theorem d_Mo_sendQuery_21 : decode c_Mo_sendQuery 21 = .ok (.getfield 38, 3) := by decide +kernel
theorem d_Mo_sendQuery_24 : decode c_Mo_sendQuery 24 = .ok (.iload_n 2, 1) := by decide +kernel
theorem d_Mo_sendQuery_25 : decode c_Mo_sendQuery 25 = .ok (.aload_n 0, 1) := by decide +kernel
theorem d_Mo_sendQuery_26 : decode c_Mo_sendQuery 26 = .ok (.getfield 185, 3) := by decide +kernel
theorem d_Mo_sendQuery_29 : decode c_Mo_sendQuery 29 = .ok (.bipush 20, 2) := by decide +kernel
theorem d_Mo_sendQuery_31 : decode c_Mo_sendQuery 31 = .ok (.iload_n 1, 1) := by decide +kernel
theorem d_Mo_sendQuery_32 : decode c_Mo_sendQuery 32 = .ok (.imul, 1) := by decide +kernel
theorem d_Mo_sendQuery_33 : decode c_Mo_sendQuery 33 = .ok (.iload_n 2, 1) := by decide +kernel
theorem d_Mo_sendQuery_34 : decode c_Mo_sendQuery 34 = .ok (.iadd, 1) := by decide +kernel
theorem d_Mo_sendQuery_35 : decode c_Mo_sendQuery 35 = .ok (.iaload, 1) := by decide +kernel
theorem d_Mo_sendQuery_36 : decode c_Mo_sendQuery 36 = .ok (.iastore, 1) := by decide +kernel
theorem d_Mo_sendQuery_37 : decode c_Mo_sendQuery 37 = .ok (.iinc 2 1, 3) := by decide +kernel
theorem d_Mo_sendQuery_40 : decode c_Mo_sendQuery 40 = .ok (.goto (-28), 3) := by decide +kernel
theorem d_Mo_sendQuery_43 : decode c_Mo_sendQuery 43 = .ok (.aload_n 0, 1) := by decide +kernel
theorem d_Mo_sendQuery_44 : decode c_Mo_sendQuery 44 = .ok (.iconst 1, 1) := by decide +kernel
theorem d_Mo_sendQuery_45 : decode c_Mo_sendQuery 45 = .ok (.aload_n 0, 1) := by decide +kernel
theorem d_Mo_sendQuery_46 : decode c_Mo_sendQuery 46 = .ok (.getfield 179, 3) := by decide +kernel
theorem d_Mo_sendQuery_49 : decode c_Mo_sendQuery 49 = .ok (.iload_n 1, 1) := by decide +kernel
theorem d_Mo_sendQuery_50 : decode c_Mo_sendQuery 50 = .ok (.iaload, 1) := by decide +kernel
theorem d_Mo_sendQuery_51 : decode c_Mo_sendQuery 51 = .ok (.sipush 255, 3) := by decide +kernel
theorem d_Mo_sendQuery_54 : decode c_Mo_sendQuery 54 = .ok (.iand, 1) := by decide +kernel
theorem d_Mo_sendQuery_55 : decode c_Mo_sendQuery 55 = .ok (.aload_n 0, 1) := by decide +kernel
theorem d_Mo_sendQuery_56 : decode c_Mo_sendQuery 56 = .ok (.aload_n 0, 1) := by decide +kernel
theorem d_Mo_sendQuery_57 : decode c_Mo_sendQuery 57 = .ok (.getfield 179, 3) := by decide +kernel
theorem d_Mo_sendQuery_60 : decode c_Mo_sendQuery 60 = .ok (.iload_n 1, 1) := by decide +kernel
theorem d_Mo_sendQuery_61 : decode c_Mo_sendQuery 61 = .ok (.iaload, 1) := by decide +kernel
theorem d_Mo_sendQuery_62 : decode c_Mo_sendQuery 62 = .ok (.invokevirtual 357, 3) := by decide +kernel
theorem d_Mo_sendQuery_65 : decode c_Mo_sendQuery 65 = .ok (.aload_n 0, 1) := by decide +kernel
theorem d_Mo_sendQuery_66 : decode c_Mo_sendQuery 66 = .ok (.getfield 158, 3) := by decide +kernel
theorem d_Mo_sendQuery_69 : decode c_Mo_sendQuery 69 = .ok (.iload_n 1, 1) := by decide +kernel
theorem d_Mo_sendQuery_70 : decode c_Mo_sendQuery 70 = .ok (.iaload, 1) := by decide +kernel
theorem d_Mo_sendQuery_71 : decode c_Mo_sendQuery 71 = .ok (.aload_n 0, 1) := by decide +kernel
theorem d_Mo_sendQuery_72 : decode c_Mo_sendQuery 72 = .ok (.getfield 161, 3) := by decide +kernel
theorem d_Mo_sendQuery_75 : decode c_Mo_sendQuery 75 = .ok (.iload_n 1, 1) := by decide +kernel
theorem d_Mo_sendQuery_76 : decode c_Mo_sendQuery 76 = .ok (.iaload, 1) := by decide +kernel
theorem d_Mo_sendQuery_77 : decode c_Mo_sendQuery 77 = .ok (.invokevirtual 316, 3) := by decide +kernel
theorem d_Mo_sendQuery_80 : decode c_Mo_sendQuery 80 = .ok (.aload_n 0, 1) := by decide +kernel
theorem d_Mo_sendQuery_81 : decode c_Mo_sendQuery 81 = .ok (.iconst 2, 1) := by decide +kernel
theorem d_Mo_sendQuery_82 : decode c_Mo_sendQuery 82 = .ok (.aload_n 0, 1) := by decide +kernel
theorem d_Mo_sendQuery_83 : decode c_Mo_sendQuery 83 = .ok (.getfield 170, 3) := by decide +kernel
theorem d_Mo_sendQuery_86 : decode c_Mo_sendQuery 86 = .ok (.iload_n 1, 1) := by decide +kernel
theorem d_Mo_sendQuery_87 : decode c_Mo_sendQuery 87 = .ok (.iaload, 1) := by decide +kernel
theorem d_Mo_sendQuery_88 : decode c_Mo_sendQuery 88 = .ok (.invokevirtual 242, 3) := by decide +kernel
theorem d_Mo_sendQuery_91 : decode c_Mo_sendQuery 91 = .ok (.return_, 1) := by decide +kernel
theorem d_Mo_ask_0 : decode c_Mo_ask 0 = .ok (.aload_n 0, 1) := by decide +kernel
theorem d_Mo_ask_1 : decode c_Mo_ask 1 = .ok (.getfield 170, 3) := by decide +kernel
theorem d_Mo_ask_4 : decode c_Mo_ask 4 = .ok (.iload_n 1, 1) := by decide +kernel
theorem d_Mo_ask_5 : decode c_Mo_ask 5 = .ok (.iload_n 2, 1) := by decide +kernel
theorem d_Mo_ask_6 : decode c_Mo_ask 6 = .ok (.iastore, 1) := by decide +kernel
theorem d_Mo_ask_7 : decode c_Mo_ask 7 = .ok (.aload_n 0, 1) := by decide +kernel
theorem d_Mo_ask_8 : decode c_Mo_ask 8 = .ok (.getfield 179, 3) := by decide +kernel
theorem d_Mo_ask_11 : decode c_Mo_ask 11 = .ok (.iload_n 1, 1) := by decide +kernel
theorem d_Mo_ask_12 : decode c_Mo_ask 12 = .ok (.aload_n 0, 1) := by decide +kernel
theorem d_Mo_ask_13 : decode c_Mo_ask 13 = .ok (.getfield 360, 3) := by decide +kernel
theorem d_Mo_ask_16 : decode c_Mo_ask 16 = .ok (.iastore, 1) := by decide +kernel
theorem d_Mo_ask_17 : decode c_Mo_ask 17 = .ok (.aload_n 0, 1) := by decide +kernel
theorem d_Mo_ask_18 : decode c_Mo_ask 18 = .ok (.dup, 1) := by decide +kernel
theorem d_Mo_ask_19 : decode c_Mo_ask 19 = .ok (.getfield 360, 3) := by decide +kernel
theorem d_Mo_ask_22 : decode c_Mo_ask 22 = .ok (.iconst 1, 1) := by decide +kernel
theorem d_Mo_ask_23 : decode c_Mo_ask 23 = .ok (.iadd, 1) := by decide +kernel
theorem d_Mo_ask_24 : decode c_Mo_ask 24 = .ok (.putfield 360, 3) := by decide +kernel
theorem d_Mo_ask_27 : decode c_Mo_ask 27 = .ok (.aload_n 0, 1) := by decide +kernel
theorem d_Mo_ask_28 : decode c_Mo_ask 28 = .ok (.getfield 173, 3) := by decide +kernel
theorem d_Mo_ask_31 : decode c_Mo_ask 31 = .ok (.iload_n 1, 1) := by decide +kernel
theorem d_Mo_ask_32 : decode c_Mo_ask 32 = .ok (.iconst 1, 1) := by decide +kernel
theorem d_Mo_ask_33 : decode c_Mo_ask 33 = .ok (.iastore, 1) := by decide +kernel
theorem d_Mo_ask_34 : decode c_Mo_ask 34 = .ok (.aload_n 0, 1) := by decide +kernel
theorem d_Mo_ask_35 : decode c_Mo_ask 35 = .ok (.getfield 140, 3) := by decide +kernel
theorem d_Mo_ask_38 : decode c_Mo_ask 38 = .ok (.iload_n 1, 1) := by decide +kernel
theorem d_Mo_ask_39 : decode c_Mo_ask 39 = .ok (.iconst 0, 1) := by decide +kernel
theorem d_Mo_ask_40 : decode c_Mo_ask 40 = .ok (.iastore, 1) := by decide +kernel
theorem d_Mo_ask_41 : decode c_Mo_ask 41 = .ok (.aload_n 0, 1) := by decide +kernel
theorem d_Mo_ask_42 : decode c_Mo_ask 42 = .ok (.iload_n 1, 1) := by decide +kernel
theorem d_Mo_ask_43 : decode c_Mo_ask 43 = .ok (.invokevirtual 363, 3) := by decide +kernel
theorem d_Mo_ask_46 : decode c_Mo_ask 46 = .ok (.return_, 1) := by decide +kernel
theorem d_Mo_switchTakes_0 : decode c_Mo_switchTakes 0 = .ok (.aload_n 0, 1) := by decide +kernel
theorem d_Mo_switchTakes_1 : decode c_Mo_switchTakes 1 = .ok (.getfield 131, 3) := by decide +kernel
theorem d_Mo_switchTakes_4 : decode c_Mo_switchTakes 4 = .ok (.iload_n 1, 1) := by decide +kernel
theorem d_Mo_switchTakes_5 : decode c_Mo_switchTakes 5 = .ok (.baload, 1) := by decide +kernel
theorem d_Mo_switchTakes_6 : decode c_Mo_switchTakes 6 = .ok (.ifCond .eq 13, 3) := by decide +kernel
theorem d_Mo_switchTakes_9 : decode c_Mo_switchTakes 9 = .ok (.aload_n 0, 1) := by decide +kernel
theorem d_Mo_switchTakes_10 : decode c_Mo_switchTakes 10 = .ok (.getfield 134, 3) := by decide +kernel
theorem d_Mo_switchTakes_13 : decode c_Mo_switchTakes 13 = .ok (.iload_n 1, 1) := by decide +kernel
theorem d_Mo_switchTakes_14 : decode c_Mo_switchTakes 14 = .ok (.iaload, 1) := by decide +kernel
theorem d_Mo_switchTakes_15 : decode c_Mo_switchTakes 15 = .ok (.iconst 4, 1) := by decide +kernel
theorem d_Mo_switchTakes_16 : decode c_Mo_switchTakes 16 = .ok (.if_icmp .ne 4, 3) := by decide +kernel
theorem d_Mo_switchTakes_19 : decode c_Mo_switchTakes 19 = .ok (.return_, 1) := by decide +kernel
theorem d_Mo_switchTakes_20 : decode c_Mo_switchTakes 20 = .ok (.aload_n 0, 1) := by decide +kernel
theorem d_Mo_switchTakes_21 : decode c_Mo_switchTakes 21 = .ok (.invokevirtual 270, 3) := by decide +kernel
theorem d_Mo_switchTakes_24 : decode c_Mo_switchTakes 24 = .ok (.istore_n 2, 1) := by decide +kernel
theorem d_Mo_switchTakes_25 : decode c_Mo_switchTakes 25 = .ok (.iload_n 2, 1) := by decide +kernel
theorem d_Mo_switchTakes_26 : decode c_Mo_switchTakes 26 = .ok (.ifCond .ge 16, 3) := by decide +kernel
theorem d_Mo_switchTakes_29 : decode c_Mo_switchTakes 29 = .ok (.aload_n 0, 1) := by decide +kernel
theorem d_Mo_switchTakes_30 : decode c_Mo_switchTakes 30 = .ok (.getfield 188, 3) := by decide +kernel
theorem d_Mo_switchTakes_33 : decode c_Mo_switchTakes 33 = .ok (.iconst 0, 1) := by decide +kernel
theorem d_Mo_switchTakes_34 : decode c_Mo_switchTakes 34 = .ok (.dup2, 1) := by decide +kernel
theorem d_Mo_switchTakes_35 : decode c_Mo_switchTakes 35 = .ok (.iaload, 1) := by decide +kernel
theorem d_Mo_switchTakes_36 : decode c_Mo_switchTakes 36 = .ok (.iconst 1, 1) := by decide +kernel
theorem d_Mo_switchTakes_37 : decode c_Mo_switchTakes 37 = .ok (.iadd, 1) := by decide +kernel
theorem d_Mo_switchTakes_38 : decode c_Mo_switchTakes 38 = .ok (.iastore, 1) := by decide +kernel
theorem d_Mo_switchTakes_39 : decode c_Mo_switchTakes 39 = .ok (.goto 196, 3) := by decide +kernel
theorem d_Mo_switchTakes_42 : decode c_Mo_switchTakes 42 = .ok (.iload_n 2, 1) := by decide +kernel
theorem d_Mo_switchTakes_43 : decode c_Mo_switchTakes 43 = .ok (.ifCond .le 21, 3) := by decide +kernel
theorem d_Mo_switchTakes_46 : decode c_Mo_switchTakes 46 = .ok (.iload_n 2, 1) := by decide +kernel
theorem d_Mo_switchTakes_47 : decode c_Mo_switchTakes 47 = .ok (.iconst 2, 1) := by decide +kernel
theorem d_Mo_switchTakes_48 : decode c_Mo_switchTakes 48 = .ok (.if_icmp .ne 8, 3) := by decide +kernel
theorem d_Mo_switchTakes_51 : decode c_Mo_switchTakes 51 = .ok (.aload_n 0, 1) := by decide +kernel
theorem d_Mo_switchTakes_52 : decode c_Mo_switchTakes 52 = .ok (.iload_n 1, 1) := by decide +kernel
theorem d_Mo_switchTakes_53 : decode c_Mo_switchTakes 53 = .ok (.invokevirtual 351, 3) := by decide +kernel
theorem d_Mo_switchTakes_56 : decode c_Mo_switchTakes 56 = .ok (.aload_n 0, 1) := by decide +kernel
theorem d_Mo_switchTakes_57 : decode c_Mo_switchTakes 57 = .ok (.iload_n 1, 1) := by decide +kernel
theorem d_Mo_switchTakes_58 : decode c_Mo_switchTakes 58 = .ok (.invokevirtual 354, 3) := by decide +kernel
theorem d_Mo_switchTakes_61 : decode c_Mo_switchTakes 61 = .ok (.goto 174, 3) := by decide +kernel
theorem d_Mo_switchTakes_64 : decode c_Mo_switchTakes 64 = .ok (.aload_n 0, 1) := by decide +kernel
theorem d_Mo_switchTakes_65 : decode c_Mo_switchTakes 65 = .ok (.getfield 38, 3) := by decide +kernel
theorem d_Mo_switchTakes_68 : decode c_Mo_switchTakes 68 = .ok (.iconst 0, 1) := by decide +kernel
theorem d_Mo_switchTakes_69 : decode c_Mo_switchTakes 69 = .ok (.iaload, 1) := by decide +kernel
theorem d_Mo_switchTakes_70 : decode c_Mo_switchTakes 70 = .ok (.iconst 2, 1) := by decide +kernel
theorem d_Mo_switchTakes_71 : decode c_Mo_switchTakes 71 = .ok (.if_icmp .ne 164, 3) := by decide +kernel
theorem d_Mo_switchTakes_74 : decode c_Mo_switchTakes 74 = .ok (.aload_n 0, 1) := by decide +kernel
theorem d_Mo_switchTakes_75 : decode c_Mo_switchTakes 75 = .ok (.getfield 149, 3) := by decide +kernel
theorem d_Mo_switchTakes_78 : decode c_Mo_switchTakes 78 = .ok (.iload_n 1, 1) := by decide +kernel
theorem d_Mo_switchTakes_79 : decode c_Mo_switchTakes 79 = .ok (.baload, 1) := by decide +kernel
theorem d_Mo_switchTakes_80 : decode c_Mo_switchTakes 80 = .ok (.ifCond .eq 155, 3) := by decide +kernel
theorem d_Mo_switchTakes_83 : decode c_Mo_switchTakes 83 = .ok (.aload_n 0, 1) := by decide +kernel
theorem d_Mo_switchTakes_84 : decode c_Mo_switchTakes 84 = .ok (.getfield 38, 3) := by decide +kernel
theorem d_Mo_switchTakes_87 : decode c_Mo_switchTakes 87 = .ok (.iconst 1, 1) := by decide +kernel
theorem d_Mo_switchTakes_88 : decode c_Mo_switchTakes 88 = .ok (.iaload, 1) := by decide +kernel
theorem d_Mo_switchTakes_89 : decode c_Mo_switchTakes 89 = .ok (.aload_n 0, 1) := by decide +kernel
theorem d_Mo_switchTakes_90 : decode c_Mo_switchTakes 90 = .ok (.getfield 146, 3) := by decide +kernel
theorem d_Mo_switchTakes_93 : decode c_Mo_switchTakes 93 = .ok (.bipush 20, 2) := by decide +kernel
theorem d_Mo_switchTakes_95 : decode c_Mo_switchTakes 95 = .ok (.iload_n 1, 1) := by decide +kernel
theorem d_Mo_switchTakes_96 : decode c_Mo_switchTakes 96 = .ok (.imul, 1) := by decide +kernel
theorem d_Mo_switchTakes_97 : decode c_Mo_switchTakes 97 = .ok (.iconst 1, 1) := by decide +kernel
theorem d_Mo_switchTakes_98 : decode c_Mo_switchTakes 98 = .ok (.iadd, 1) := by decide +kernel
theorem d_Mo_switchTakes_99 : decode c_Mo_switchTakes 99 = .ok (.iaload, 1) := by decide +kernel
theorem d_Mo_switchTakes_100 : decode c_Mo_switchTakes 100 = .ok (.if_icmp .ne 135, 3) := by decide +kernel
theorem d_Mo_switchTakes_103 : decode c_Mo_switchTakes 103 = .ok (.aload_n 0, 1) := by decide +kernel
theorem d_Mo_switchTakes_104 : decode c_Mo_switchTakes 104 = .ok (.getfield 134, 3) := by decide +kernel
theorem d_Mo_switchTakes_107 : decode c_Mo_switchTakes 107 = .ok (.iload_n 1, 1) := by decide +kernel
theorem d_Mo_switchTakes_108 : decode c_Mo_switchTakes 108 = .ok (.iaload, 1) := by decide +kernel
theorem d_Mo_switchTakes_109 : decode c_Mo_switchTakes 109 = .ok (.iconst 2, 1) := by decide +kernel
theorem d_Mo_switchTakes_110 : decode c_Mo_switchTakes 110 = .ok (.if_icmp .eq 21, 3) := by decide +kernel
theorem d_Mo_switchTakes_113 : decode c_Mo_switchTakes 113 = .ok (.aload_n 0, 1) := by decide +kernel
theorem d_Mo_switchTakes_114 : decode c_Mo_switchTakes 114 = .ok (.getfield 38, 3) := by decide +kernel
theorem d_Mo_switchTakes_117 : decode c_Mo_switchTakes 117 = .ok (.iconst 3, 1) := by decide +kernel
theorem d_Mo_switchTakes_118 : decode c_Mo_switchTakes 118 = .ok (.iaload, 1) := by decide +kernel
theorem d_Mo_switchTakes_119 : decode c_Mo_switchTakes 119 = .ok (.iconst 1, 1) := by decide +kernel
theorem d_Mo_switchTakes_120 : decode c_Mo_switchTakes 120 = .ok (.if_icmp .ne 115, 3) := by decide +kernel
theorem d_Mo_switchTakes_123 : decode c_Mo_switchTakes 123 = .ok (.aload_n 0, 1) := by decide +kernel
theorem d_Mo_switchTakes_124 : decode c_Mo_switchTakes 124 = .ok (.getfield 233, 3) := by decide +kernel
theorem d_Mo_switchTakes_127 : decode c_Mo_switchTakes 127 = .ok (.iconst 5, 1) := by decide +kernel
theorem d_Mo_switchTakes_128 : decode c_Mo_switchTakes 128 = .ok (.if_icmp .ne 107, 3) := by decide +kernel
theorem d_Mo_switchTakes_131 : decode c_Mo_switchTakes 131 = .ok (.aload_n 0, 1) := by decide +kernel
theorem d_Mo_switchTakes_132 : decode c_Mo_switchTakes 132 = .ok (.getfield 158, 3) := by decide +kernel
theorem d_Mo_switchTakes_135 : decode c_Mo_switchTakes 135 = .ok (.iload_n 1, 1) := by decide +kernel
theorem d_Mo_switchTakes_136 : decode c_Mo_switchTakes 136 = .ok (.aload_n 0, 1) := by decide +kernel
theorem d_Mo_switchTakes_137 : decode c_Mo_switchTakes 137 = .ok (.getfield 134, 3) := by decide +kernel
theorem d_Mo_switchTakes_140 : decode c_Mo_switchTakes 140 = .ok (.iload_n 1, 1) := by decide +kernel
theorem d_Mo_switchTakes_141 : decode c_Mo_switchTakes 141 = .ok (.iaload, 1) := by decide +kernel
theorem d_Mo_switchTakes_142 : decode c_Mo_switchTakes 142 = .ok (.iconst 1, 1) := by decide +kernel
theorem d_Mo_switchTakes_143 : decode c_Mo_switchTakes 143 = .ok (.if_icmp .ne 12, 3) := by decide +kernel
theorem d_Mo_switchTakes_146 : decode c_Mo_switchTakes 146 = .ok (.aload_n 0, 1) := by decide +kernel
theorem d_Mo_switchTakes_147 : decode c_Mo_switchTakes 147 = .ok (.getfield 38, 3) := by decide +kernel
theorem d_Mo_switchTakes_150 : decode c_Mo_switchTakes 150 = .ok (.iconst 4, 1) := by decide +kernel
theorem d_Mo_switchTakes_151 : decode c_Mo_switchTakes 151 = .ok (.iaload, 1) := by decide +kernel
theorem d_Mo_switchTakes_152 : decode c_Mo_switchTakes 152 = .ok (.goto 9, 3) := by decide +kernel
theorem d_Mo_switchTakes_155 : decode c_Mo_switchTakes 155 = .ok (.aload_n 0, 1) := by decide +kernel
theorem d_Mo_switchTakes_156 : decode c_Mo_switchTakes 156 = .ok (.getfield 158, 3) := by decide +kernel
theorem d_Mo_switchTakes_159 : decode c_Mo_switchTakes 159 = .ok (.iload_n 1, 1) := by decide +kernel
theorem d_Mo_switchTakes_160 : decode c_Mo_switchTakes 160 = .ok (.iaload, 1) := by decide +kernel
theorem d_Mo_switchTakes_161 : decode c_Mo_switchTakes 161 = .ok (.iastore, 1) := by decide +kernel
theorem d_Mo_switchTakes_162 : decode c_Mo_switchTakes 162 = .ok (.aload_n 0, 1) := by decide +kernel
theorem d_Mo_switchTakes_163 : decode c_Mo_switchTakes 163 = .ok (.getfield 134, 3) := by decide +kernel
theorem d_Mo_switchTakes_166 : decode c_Mo_switchTakes 166 = .ok (.iload_n 1, 1) := by decide +kernel
theorem d_Mo_switchTakes_167 : decode c_Mo_switchTakes 167 = .ok (.iconst 2, 1) := by decide +kernel
theorem d_Mo_switchTakes_168 : decode c_Mo_switchTakes 168 = .ok (.iastore, 1) := by decide +kernel
theorem d_Mo_switchTakes_169 : decode c_Mo_switchTakes 169 = .ok (.aload_n 0, 1) := by decide +kernel
theorem d_Mo_switchTakes_170 : decode c_Mo_switchTakes 170 = .ok (.getfield 149, 3) := by decide +kernel
theorem d_Mo_switchTakes_173 : decode c_Mo_switchTakes 173 = .ok (.iload_n 1, 1) := by decide +kernel
theorem d_Mo_switchTakes_174 : decode c_Mo_switchTakes 174 = .ok (.iconst 0, 1) := by decide +kernel
theorem d_Mo_switchTakes_175 : decode c_Mo_switchTakes 175 = .ok (.bastore, 1) := by decide +kernel
theorem d_Mo_switchTakes_176 : decode c_Mo_switchTakes 176 = .ok (.aload_n 0, 1) := by decide +kernel
theorem d_Mo_switchTakes_177 : decode c_Mo_switchTakes 177 = .ok (.getfield 176, 3) := by decide +kernel
theorem d_Mo_switchTakes_180 : decode c_Mo_switchTakes 180 = .ok (.iload_n 1, 1) := by decide +kernel
theorem d_Mo_switchTakes_181 : decode c_Mo_switchTakes 181 = .ok (.iconst 0, 1) := by decide +kernel
theorem d_Mo_switchTakes_182 : decode c_Mo_switchTakes 182 = .ok (.bastore, 1) := by decide +kernel
theorem d_Mo_switchTakes_183 : decode c_Mo_switchTakes 183 = .ok (.aload_n 0, 1) := by decide +kernel
theorem d_Mo_switchTakes_184 : decode c_Mo_switchTakes 184 = .ok (.getfield 182, 3) := by decide +kernel
theorem d_Mo_switchTakes_187 : decode c_Mo_switchTakes 187 = .ok (.iload_n 1, 1) := by decide +kernel
theorem d_Mo_switchTakes_188 : decode c_Mo_switchTakes 188 = .ok (.aload_n 0, 1) := by decide +kernel
theorem d_Mo_switchTakes_189 : decode c_Mo_switchTakes 189 = .ok (.getfield 233, 3) := by decide +kernel
theorem d_Mo_switchTakes_192 : decode c_Mo_switchTakes 192 = .ok (.iastore, 1) := by decide +kernel
theorem d_Mo_switchTakes_193 : decode c_Mo_switchTakes 193 = .ok (.iconst 0, 1) := by decide +kernel
theorem d_Mo_switchTakes_194 : decode c_Mo_switchTakes 194 = .ok (.istore_n 3, 1) := by decide +kernel
theorem d_Mo_switchTakes_195 : decode c_Mo_switchTakes 195 = .ok (.iload_n 3, 1) := by decide +kernel
theorem d_Mo_switchTakes_196 : decode c_Mo_switchTakes 196 = .ok (.aload_n 0, 1) := by decide +kernel
theorem d_Mo_switchTakes_197 : decode c_Mo_switchTakes 197 = .ok (.getfield 233, 3) := by decide +kernel
theorem d_Mo_switchTakes_200 : decode c_Mo_switchTakes 200 = .ok (.if_icmp .ge 26, 3) := by decide +kernel
theorem d_Mo_switchTakes_203 : decode c_Mo_switchTakes 203 = .ok (.aload_n 0, 1) := by decide +kernel
theorem d_Mo_switchTakes_204 : decode c_Mo_switchTakes 204 = .ok (.getfield 185, 3) := by decide +kernel
theorem d_Mo_switchTakes_207 : decode c_Mo_switchTakes 207 = .ok (.bipush 20, 2) := by decide +kernel
theorem d_Mo_switchTakes_209 : decode c_Mo_switchTakes 209 = .ok (.iload_n 1, 1) := by decide +kernel
theorem d_Mo_switchTakes_210 : decode c_Mo_switchTakes 210 = .ok (.imul, 1) := by decide +kernel
theorem d_Mo_switchTakes_211 : decode c_Mo_switchTakes 211 = .ok (.iload_n 3, 1) := by decide +kernel
theorem d_Mo_switchTakes_212 : decode c_Mo_switchTakes 212 = .ok (.iadd, 1) := by decide +kernel
theorem d_Mo_switchTakes_213 : decode c_Mo_switchTakes 213 = .ok (.aload_n 0, 1) := by decide +kernel
theorem d_Mo_switchTakes_214 : decode c_Mo_switchTakes 214 = .ok (.getfield 38, 3) := by decide +kernel
theorem d_Mo_switchTakes_217 : decode c_Mo_switchTakes 217 = .ok (.iload_n 3, 1) := by decide +kernel
theorem d_Mo_switchTakes_218 : decode c_Mo_switchTakes 218 = .ok (.iaload, 1) := by decide +kernel
theorem d_Mo_switchTakes_219 : decode c_Mo_switchTakes 219 = .ok (.iastore, 1) := by decide +kernel
theorem d_Mo_switchTakes_220 : decode c_Mo_switchTakes 220 = .ok (.iinc 3 1, 3) := by decide +kernel
theorem d_Mo_switchTakes_223 : decode c_Mo_switchTakes 223 = .ok (.goto (-28), 3) := by decide +kernel
theorem d_Mo_switchTakes_226 : decode c_Mo_switchTakes 226 = .ok (.aload_n 0, 1) := by decide +kernel
theorem d_Mo_switchTakes_227 : decode c_Mo_switchTakes 227 = .ok (.iload_n 1, 1) := by decide +kernel
theorem d_Mo_switchTakes_228 : decode c_Mo_switchTakes 228 = .ok (.aload_n 0, 1) := by decide +kernel
theorem d_Mo_switchTakes_229 : decode c_Mo_switchTakes 229 = .ok (.getfield 366, 3) := by decide +kernel
theorem d_Mo_switchTakes_232 : decode c_Mo_switchTakes 232 = .ok (.invokevirtual 369, 3) := by decide +kernel
theorem d_Mo_switchTakes_235 : decode c_Mo_switchTakes 235 = .ok (.return_, 1) := by decide +kernel
theorem d_Mo_portFor_0 : decode c_Mo_portFor 0 = .ok (.iconst 0, 1) := by decide +kernel
theorem d_Mo_portFor_1 : decode c_Mo_portFor 1 = .ok (.istore_n 3, 1) := by decide +kernel
theorem d_Mo_portFor_2 : decode c_Mo_portFor 2 = .ok (.iload_n 3, 1) := by decide +kernel
theorem d_Mo_portFor_3 : decode c_Mo_portFor 3 = .ok (.iconst 4, 1) := by decide +kernel
theorem d_Mo_portFor_4 : decode c_Mo_portFor 4 = .ok (.if_icmp .ge 35, 3) := by decide +kernel
theorem d_Mo_portFor_7 : decode c_Mo_portFor 7 = .ok (.aload_n 0, 1) := by decide +kernel
theorem d_Mo_portFor_8 : decode c_Mo_portFor 8 = .ok (.getfield 170, 3) := by decide +kernel
theorem d_Mo_portFor_11 : decode c_Mo_portFor 11 = .ok (.iload_n 3, 1) := by decide +kernel
theorem d_Mo_portFor_12 : decode c_Mo_portFor 12 = .ok (.iaload, 1) := by decide +kernel
theorem d_Mo_portFor_13 : decode c_Mo_portFor 13 = .ok (.iload_n 1, 1) := by decide +kernel
theorem d_Mo_portFor_14 : decode c_Mo_portFor 14 = .ok (.if_icmp .ne 19, 3) := by decide +kernel
theorem d_Mo_portFor_17 : decode c_Mo_portFor 17 = .ok (.aload_n 0, 1) := by decide +kernel
theorem d_Mo_portFor_18 : decode c_Mo_portFor 18 = .ok (.getfield 179, 3) := by decide +kernel
theorem d_Mo_portFor_21 : decode c_Mo_portFor 21 = .ok (.iload_n 3, 1) := by decide +kernel
theorem d_Mo_portFor_22 : decode c_Mo_portFor 22 = .ok (.iaload, 1) := by decide +kernel
theorem d_Mo_portFor_23 : decode c_Mo_portFor 23 = .ok (.sipush 255, 3) := by decide +kernel
theorem d_Mo_portFor_26 : decode c_Mo_portFor 26 = .ok (.iand, 1) := by decide +kernel
theorem d_Mo_portFor_27 : decode c_Mo_portFor 27 = .ok (.iload_n 2, 1) := by decide +kernel
theorem d_Mo_portFor_28 : decode c_Mo_portFor 28 = .ok (.if_icmp .ne 5, 3) := by decide +kernel
theorem d_Mo_portFor_31 : decode c_Mo_portFor 31 = .ok (.iload_n 3, 1) := by decide +kernel
theorem d_Mo_portFor_32 : decode c_Mo_portFor 32 = .ok (.ireturn, 1) := by decide +kernel
theorem d_Mo_portFor_33 : decode c_Mo_portFor 33 = .ok (.iinc 3 1, 3) := by decide +kernel
theorem d_Mo_portFor_36 : decode c_Mo_portFor 36 = .ok (.goto (-34), 3) := by decide +kernel
theorem d_Mo_portFor_39 : decode c_Mo_portFor 39 = .ok (.iconst (-1), 1) := by decide +kernel
theorem d_Mo_portFor_40 : decode c_Mo_portFor 40 = .ok (.ireturn, 1) := by decide +kernel
theorem d_Mo_switchHears_0 : decode c_Mo_switchHears 0 = .ok (.aload_n 0, 1) := by decide +kernel
theorem d_Mo_switchHears_1 : decode c_Mo_switchHears 1 = .ok (.invokevirtual 304, 3) := by decide +kernel
theorem d_Mo_switchHears_4 : decode c_Mo_switchHears 4 = .ok (.istore_n 2, 1) := by decide +kernel
theorem d_Mo_switchHears_5 : decode c_Mo_switchHears 5 = .ok (.iload_n 2, 1) := by decide +kernel
theorem d_Mo_switchHears_6 : decode c_Mo_switchHears 6 = .ok (.ifCond .eq 17, 3) := by decide +kernel
theorem d_Mo_switchHears_9 : decode c_Mo_switchHears 9 = .ok (.aload_n 0, 1) := by decide +kernel
theorem d_Mo_switchHears_10 : decode c_Mo_switchHears 10 = .ok (.iload_n 1, 1) := by decide +kernel
theorem d_Mo_switchHears_11 : decode c_Mo_switchHears 11 = .ok (.aload_n 0, 1) := by decide +kernel
theorem d_Mo_switchHears_12 : decode c_Mo_switchHears 12 = .ok (.getfield 35, 3) := by decide +kernel
theorem d_Mo_switchHears_15 : decode c_Mo_switchHears 15 = .ok (.iconst 1, 1) := by decide +kernel
theorem d_Mo_switchHears_16 : decode c_Mo_switchHears 16 = .ok (.iaload, 1) := by decide +kernel
theorem d_Mo_switchHears_17 : decode c_Mo_switchHears 17 = .ok (.invokevirtual 372, 3) := by decide +kernel
theorem d_Mo_switchHears_20 : decode c_Mo_switchHears 20 = .ok (.goto 4, 3) := by decide +kernel
theorem d_Mo_switchHears_23 : decode c_Mo_switchHears 23 = .ok (.iconst (-1), 1) := by decide +kernel
theorem d_Mo_switchHears_24 : decode c_Mo_switchHears 24 = .ok (.istore_n 3, 1) := by decide +kernel
theorem d_Mo_switchHears_25 : decode c_Mo_switchHears 25 = .ok (.iload_n 3, 1) := by decide +kernel
theorem d_Mo_switchHears_26 : decode c_Mo_switchHears 26 = .ok (.ifCond .ge 7, 3) := by decide +kernel
theorem d_Mo_switchHears_29 : decode c_Mo_switchHears 29 = .ok (.iconst 0, 1) := by decide +kernel
theorem d_Mo_switchHears_30 : decode c_Mo_switchHears 30 = .ok (.goto 13, 3) := by decide +kernel
theorem d_Mo_switchHears_33 : decode c_Mo_switchHears 33 = .ok (.aload_n 0, 1) := by decide +kernel
theorem d_Mo_switchHears_34 : decode c_Mo_switchHears 34 = .ok (.aload_n 0, 1) := by decide +kernel
theorem d_Mo_switchHears_35 : decode c_Mo_switchHears 35 = .ok (.getfield 179, 3) := by decide +kernel
theorem d_Mo_switchHears_38 : decode c_Mo_switchHears 38 = .ok (.iload_n 3, 1) := by decide +kernel
theorem d_Mo_switchHears_39 : decode c_Mo_switchHears 39 = .ok (.iaload, 1) := by decide +kernel
theorem d_Mo_switchHears_40 : decode c_Mo_switchHears 40 = .ok (.invokevirtual 357, 3) := by decide +kernel
theorem d_Mo_switchHears_43 : decode c_Mo_switchHears 43 = .ok (.istore 4, 2) := by decide +kernel
theorem d_Mo_switchHears_45 : decode c_Mo_switchHears 45 = .ok (.iload_n 3, 1) := by decide +kernel
theorem d_Mo_switchHears_46 : decode c_Mo_switchHears 46 = .ok (.ifCond .lt 38, 3) := by decide +kernel
theorem d_Mo_switchHears_49 : decode c_Mo_switchHears 49 = .ok (.aload_n 0, 1) := by decide +kernel
theorem d_Mo_switchHears_50 : decode c_Mo_switchHears 50 = .ok (.aload_n 0, 1) := by decide +kernel
theorem d_Mo_switchHears_51 : decode c_Mo_switchHears 51 = .ok (.getfield 224, 3) := by decide +kernel
theorem d_Mo_switchHears_54 : decode c_Mo_switchHears 54 = .ok (.invokevirtual 307, 3) := by decide +kernel
theorem d_Mo_switchHears_57 : decode c_Mo_switchHears 57 = .ok (.aload_n 0, 1) := by decide +kernel
theorem d_Mo_switchHears_58 : decode c_Mo_switchHears 58 = .ok (.iload 4, 2) := by decide +kernel
theorem d_Mo_switchHears_60 : decode c_Mo_switchHears 60 = .ok (.invokevirtual 260, 3) := by decide +kernel
theorem d_Mo_switchHears_63 : decode c_Mo_switchHears 63 = .ok (.if_icmp .ne 21, 3) := by decide +kernel
theorem d_Mo_switchHears_66 : decode c_Mo_switchHears 66 = .ok (.aload_n 0, 1) := by decide +kernel
theorem d_Mo_switchHears_67 : decode c_Mo_switchHears 67 = .ok (.iconst 3, 1) := by decide +kernel
theorem d_Mo_switchHears_68 : decode c_Mo_switchHears 68 = .ok (.invokevirtual 307, 3) := by decide +kernel
theorem d_Mo_switchHears_71 : decode c_Mo_switchHears 71 = .ok (.aload_n 0, 1) := by decide +kernel
theorem d_Mo_switchHears_72 : decode c_Mo_switchHears 72 = .ok (.iload 4, 2) := by decide +kernel
theorem d_Mo_switchHears_74 : decode c_Mo_switchHears 74 = .ok (.invokevirtual 320, 3) := by decide +kernel
theorem d_Mo_switchHears_77 : decode c_Mo_switchHears 77 = .ok (.if_icmp .ne 7, 3) := by decide +kernel
theorem d_Mo_switchHears_80 : decode c_Mo_switchHears 80 = .ok (.iconst 1, 1) := by decide +kernel
theorem d_Mo_switchHears_81 : decode c_Mo_switchHears 81 = .ok (.goto 4, 3) := by decide +kernel
theorem d_Mo_switchHears_84 : decode c_Mo_switchHears 84 = .ok (.iconst 0, 1) := by decide +kernel
theorem d_Mo_switchHears_85 : decode c_Mo_switchHears 85 = .ok (.istore_n 2, 1) := by decide +kernel
theorem d_Mo_switchHears_86 : decode c_Mo_switchHears 86 = .ok (.iload_n 2, 1) := by decide +kernel
theorem d_Mo_switchHears_87 : decode c_Mo_switchHears 87 = .ok (.ifCond .eq 68, 3) := by decide +kernel
theorem d_Mo_switchHears_90 : decode c_Mo_switchHears 90 = .ok (.aload_n 0, 1) := by decide +kernel
theorem d_Mo_switchHears_91 : decode c_Mo_switchHears 91 = .ok (.getfield 35, 3) := by decide +kernel
theorem d_Mo_switchHears_94 : decode c_Mo_switchHears 94 = .ok (.iconst 0, 1) := by decide +kernel
theorem d_Mo_switchHears_95 : decode c_Mo_switchHears 95 = .ok (.iaload, 1) := by decide +kernel
theorem d_Mo_switchHears_96 : decode c_Mo_switchHears 96 = .ok (.bipush 11, 2) := by decide +kernel
theorem d_Mo_switchHears_98 : decode c_Mo_switchHears 98 = .ok (.if_icmp .ne 13, 3) := by decide +kernel
theorem d_Mo_switchHears_101 : decode c_Mo_switchHears 101 = .ok (.aload_n 0, 1) := by decide +kernel
theorem d_Mo_switchHears_102 : decode c_Mo_switchHears 102 = .ok (.getfield 38, 3) := by decide +kernel
theorem d_Mo_switchHears_105 : decode c_Mo_switchHears 105 = .ok (.iconst 0, 1) := by decide +kernel
theorem d_Mo_switchHears_106 : decode c_Mo_switchHears 106 = .ok (.iaload, 1) := by decide +kernel
theorem d_Mo_switchHears_107 : decode c_Mo_switchHears 107 = .ok (.iconst 1, 1) := by decide +kernel
theorem d_Mo_switchHears_108 : decode c_Mo_switchHears 108 = .ok (.if_icmp .eq 43, 3) := by decide +kernel
theorem d_Mo_switchHears_111 : decode c_Mo_switchHears 111 = .ok (.aload_n 0, 1) := by decide +kernel
theorem d_Mo_switchHears_112 : decode c_Mo_switchHears 112 = .ok (.getfield 35, 3) := by decide +kernel
theorem d_Mo_switchHears_115 : decode c_Mo_switchHears 115 = .ok (.iconst 0, 1) := by decide +kernel
theorem d_Mo_switchHears_116 : decode c_Mo_switchHears 116 = .ok (.iaload, 1) := by decide +kernel
theorem d_Mo_switchHears_117 : decode c_Mo_switchHears 117 = .ok (.iconst 2, 1) := by decide +kernel
theorem d_Mo_switchHears_118 : decode c_Mo_switchHears 118 = .ok (.if_icmp .ne 13, 3) := by decide +kernel
theorem d_Mo_switchHears_121 : decode c_Mo_switchHears 121 = .ok (.aload_n 0, 1) := by decide +kernel
theorem d_Mo_switchHears_122 : decode c_Mo_switchHears 122 = .ok (.getfield 38, 3) := by decide +kernel
theorem d_Mo_switchHears_125 : decode c_Mo_switchHears 125 = .ok (.iconst 0, 1) := by decide +kernel
theorem d_Mo_switchHears_126 : decode c_Mo_switchHears 126 = .ok (.iaload, 1) := by decide +kernel
theorem d_Mo_switchHears_127 : decode c_Mo_switchHears 127 = .ok (.iconst 3, 1) := by decide +kernel
theorem d_Mo_switchHears_128 : decode c_Mo_switchHears 128 = .ok (.if_icmp .eq 23, 3) := by decide +kernel
theorem d_Mo_switchHears_131 : decode c_Mo_switchHears 131 = .ok (.aload_n 0, 1) := by decide +kernel
theorem d_Mo_switchHears_132 : decode c_Mo_switchHears 132 = .ok (.getfield 35, 3) := by decide +kernel
theorem d_Mo_switchHears_135 : decode c_Mo_switchHears 135 = .ok (.iconst 0, 1) := by decide +kernel
theorem d_Mo_switchHears_136 : decode c_Mo_switchHears 136 = .ok (.iaload, 1) := by decide +kernel
theorem d_Mo_switchHears_137 : decode c_Mo_switchHears 137 = .ok (.iconst 3, 1) := by decide +kernel
theorem d_Mo_switchHears_138 : decode c_Mo_switchHears 138 = .ok (.if_icmp .ne 17, 3) := by decide +kernel
theorem d_Mo_switchHears_141 : decode c_Mo_switchHears 141 = .ok (.aload_n 0, 1) := by decide +kernel
theorem d_Mo_switchHears_142 : decode c_Mo_switchHears 142 = .ok (.getfield 38, 3) := by decide +kernel
theorem d_Mo_switchHears_145 : decode c_Mo_switchHears 145 = .ok (.iconst 0, 1) := by decide +kernel
theorem d_Mo_switchHears_146 : decode c_Mo_switchHears 146 = .ok (.iaload, 1) := by decide +kernel
theorem d_Mo_switchHears_147 : decode c_Mo_switchHears 147 = .ok (.iconst 4, 1) := by decide +kernel
theorem d_Mo_switchHears_148 : decode c_Mo_switchHears 148 = .ok (.if_icmp .ne 7, 3) := by decide +kernel
theorem d_Mo_switchHears_151 : decode c_Mo_switchHears 151 = .ok (.iconst 1, 1) := by decide +kernel
theorem d_Mo_switchHears_152 : decode c_Mo_switchHears 152 = .ok (.goto 4, 3) := by decide +kernel
theorem d_Mo_switchHears_155 : decode c_Mo_switchHears 155 = .ok (.iconst 0, 1) := by decide +kernel
theorem d_Mo_switchHears_156 : decode c_Mo_switchHears 156 = .ok (.istore_n 2, 1) := by decide +kernel
theorem d_Mo_switchHears_157 : decode c_Mo_switchHears 157 = .ok (.iload_n 2, 1) := by decide +kernel
theorem d_Mo_switchHears_158 : decode c_Mo_switchHears 158 = .ok (.ifCond .ne 14, 3) := by decide +kernel
theorem d_Mo_switchHears_161 : decode c_Mo_switchHears 161 = .ok (.aload_n 0, 1) := by decide +kernel
theorem d_Mo_switchHears_162 : decode c_Mo_switchHears 162 = .ok (.getfield 188, 3) := by decide +kernel
theorem d_Mo_switchHears_165 : decode c_Mo_switchHears 165 = .ok (.iconst 0, 1) := by decide +kernel
theorem d_Mo_switchHears_166 : decode c_Mo_switchHears 166 = .ok (.dup2, 1) := by decide +kernel
theorem d_Mo_switchHears_167 : decode c_Mo_switchHears 167 = .ok (.iaload, 1) := by decide +kernel
theorem d_Mo_switchHears_168 : decode c_Mo_switchHears 168 = .ok (.iconst 1, 1) := by decide +kernel
theorem d_Mo_switchHears_169 : decode c_Mo_switchHears 169 = .ok (.iadd, 1) := by decide +kernel
theorem d_Mo_switchHears_170 : decode c_Mo_switchHears 170 = .ok (.iastore, 1) := by decide +kernel
theorem d_Mo_switchHears_171 : decode c_Mo_switchHears 171 = .ok (.return_, 1) := by decide +kernel
theorem d_Mo_switchHears_172 : decode c_Mo_switchHears 172 = .ok (.aload_n 0, 1) := by decide +kernel
theorem d_Mo_switchHears_173 : decode c_Mo_switchHears 173 = .ok (.getfield 170, 3) := by decide +kernel
theorem d_Mo_switchHears_176 : decode c_Mo_switchHears 176 = .ok (.iload_n 3, 1) := by decide +kernel
theorem d_Mo_switchHears_177 : decode c_Mo_switchHears 177 = .ok (.iconst (-1), 1) := by decide +kernel
theorem d_Mo_switchHears_178 : decode c_Mo_switchHears 178 = .ok (.iastore, 1) := by decide +kernel
theorem d_Mo_switchHears_179 : decode c_Mo_switchHears 179 = .ok (.aload_n 0, 1) := by decide +kernel
theorem d_Mo_switchHears_180 : decode c_Mo_switchHears 180 = .ok (.iload_n 1, 1) := by decide +kernel
theorem d_Mo_switchHears_181 : decode c_Mo_switchHears 181 = .ok (.putfield 366, 3) := by decide +kernel
theorem d_Mo_switchHears_184 : decode c_Mo_switchHears 184 = .ok (.aload_n 0, 1) := by decide +kernel
theorem d_Mo_switchHears_185 : decode c_Mo_switchHears 185 = .ok (.getfield 38, 3) := by decide +kernel
theorem d_Mo_switchHears_188 : decode c_Mo_switchHears 188 = .ok (.iconst 0, 1) := by decide +kernel
theorem d_Mo_switchHears_189 : decode c_Mo_switchHears 189 = .ok (.iaload, 1) := by decide +kernel
theorem d_Mo_switchHears_190 : decode c_Mo_switchHears 190 = .ok (.iconst 1, 1) := by decide +kernel
theorem d_Mo_switchHears_191 : decode c_Mo_switchHears 191 = .ok (.if_icmp .ne 21, 3) := by decide +kernel
theorem d_Mo_switchHears_194 : decode c_Mo_switchHears 194 = .ok (.aload_n 0, 1) := by decide +kernel
theorem d_Mo_switchHears_195 : decode c_Mo_switchHears 195 = .ok (.getfield 161, 3) := by decide +kernel
theorem d_Mo_switchHears_198 : decode c_Mo_switchHears 198 = .ok (.iload_n 3, 1) := by decide +kernel
theorem d_Mo_switchHears_199 : decode c_Mo_switchHears 199 = .ok (.aload_n 0, 1) := by decide +kernel
theorem d_Mo_switchHears_200 : decode c_Mo_switchHears 200 = .ok (.getfield 253, 3) := by decide +kernel
theorem d_Mo_switchHears_203 : decode c_Mo_switchHears 203 = .ok (.iastore, 1) := by decide +kernel
theorem d_Mo_switchHears_204 : decode c_Mo_switchHears 204 = .ok (.aload_n 0, 1) := by decide +kernel
theorem d_Mo_switchHears_205 : decode c_Mo_switchHears 205 = .ok (.iload_n 3, 1) := by decide +kernel
theorem d_Mo_switchHears_206 : decode c_Mo_switchHears 206 = .ok (.invokevirtual 348, 3) := by decide +kernel
theorem d_Mo_switchHears_209 : decode c_Mo_switchHears 209 = .ok (.goto 100, 3) := by decide +kernel
theorem d_Mo_switchHears_212 : decode c_Mo_switchHears 212 = .ok (.aload_n 0, 1) := by decide +kernel
theorem d_Mo_switchHears_213 : decode c_Mo_switchHears 213 = .ok (.getfield 38, 3) := by decide +kernel
theorem d_Mo_switchHears_216 : decode c_Mo_switchHears 216 = .ok (.iconst 0, 1) := by decide +kernel
theorem d_Mo_switchHears_217 : decode c_Mo_switchHears 217 = .ok (.iaload, 1) := by decide +kernel
theorem d_Mo_switchHears_218 : decode c_Mo_switchHears 218 = .ok (.iconst 3, 1) := by decide +kernel
theorem d_Mo_switchHears_219 : decode c_Mo_switchHears 219 = .ok (.if_icmp .ne 80, 3) := by decide +kernel
theorem d_Mo_switchHears_222 : decode c_Mo_switchHears 222 = .ok (.aload_n 0, 1) := by decide +kernel
theorem d_Mo_switchHears_223 : decode c_Mo_switchHears 223 = .ok (.iload_n 3, 1) := by decide +kernel
theorem d_Mo_switchHears_224 : decode c_Mo_switchHears 224 = .ok (.invokevirtual 345, 3) := by decide +kernel
theorem d_Mo_switchHears_227 : decode c_Mo_switchHears 227 = .ok (.aload_n 0, 1) := by decide +kernel
theorem d_Mo_switchHears_228 : decode c_Mo_switchHears 228 = .ok (.getfield 134, 3) := by decide +kernel
theorem d_Mo_switchHears_231 : decode c_Mo_switchHears 231 = .ok (.iload_n 3, 1) := by decide +kernel
theorem d_Mo_switchHears_232 : decode c_Mo_switchHears 232 = .ok (.iconst 3, 1) := by decide +kernel
theorem d_Mo_switchHears_233 : decode c_Mo_switchHears 233 = .ok (.iastore, 1) := by decide +kernel
theorem d_Mo_switchHears_234 : decode c_Mo_switchHears 234 = .ok (.aload_n 0, 1) := by decide +kernel
theorem d_Mo_switchHears_235 : decode c_Mo_switchHears 235 = .ok (.getfield 140, 3) := by decide +kernel
theorem d_Mo_switchHears_238 : decode c_Mo_switchHears 238 = .ok (.iload_n 3, 1) := by decide +kernel
theorem d_Mo_switchHears_239 : decode c_Mo_switchHears 239 = .ok (.iconst 0, 1) := by decide +kernel
theorem d_Mo_switchHears_240 : decode c_Mo_switchHears 240 = .ok (.iastore, 1) := by decide +kernel
theorem d_Mo_switchHears_241 : decode c_Mo_switchHears 241 = .ok (.aload_n 0, 1) := by decide +kernel
theorem d_Mo_switchHears_242 : decode c_Mo_switchHears 242 = .ok (.getfield 164, 3) := by decide +kernel
theorem d_Mo_switchHears_245 : decode c_Mo_switchHears 245 = .ok (.iload_n 3, 1) := by decide +kernel
theorem d_Mo_switchHears_246 : decode c_Mo_switchHears 246 = .ok (.dup2, 1) := by decide +kernel
theorem d_Mo_switchHears_247 : decode c_Mo_switchHears 247 = .ok (.iaload, 1) := by decide +kernel
theorem d_Mo_switchHears_248 : decode c_Mo_switchHears 248 = .ok (.aload_n 0, 1) := by decide +kernel
theorem d_Mo_switchHears_249 : decode c_Mo_switchHears 249 = .ok (.getfield 137, 3) := by decide +kernel
theorem d_Mo_switchHears_252 : decode c_Mo_switchHears 252 = .ok (.iload_n 3, 1) := by decide +kernel
theorem d_Mo_switchHears_253 : decode c_Mo_switchHears 253 = .ok (.baload, 1) := by decide +kernel
theorem d_Mo_switchHears_254 : decode c_Mo_switchHears 254 = .ok (.ifCond .eq 7, 3) := by decide +kernel
theorem d_Mo_switchHears_257 : decode c_Mo_switchHears 257 = .ok (.iconst 0, 1) := by decide +kernel
theorem d_Mo_switchHears_258 : decode c_Mo_switchHears 258 = .ok (.goto 4, 3) := by decide +kernel
theorem d_Mo_switchHears_261 : decode c_Mo_switchHears 261 = .ok (.iconst 1, 1) := by decide +kernel
theorem d_Mo_switchHears_262 : decode c_Mo_switchHears 262 = .ok (.iadd, 1) := by decide +kernel
theorem d_Mo_switchHears_263 : decode c_Mo_switchHears 263 = .ok (.iastore, 1) := by decide +kernel
theorem d_Mo_switchHears_264 : decode c_Mo_switchHears 264 = .ok (.aload_n 0, 1) := by decide +kernel
theorem d_Mo_switchHears_265 : decode c_Mo_switchHears 265 = .ok (.getfield 167, 3) := by decide +kernel
theorem d_Mo_switchHears_268 : decode c_Mo_switchHears 268 = .ok (.iload_n 3, 1) := by decide +kernel
theorem d_Mo_switchHears_269 : decode c_Mo_switchHears 269 = .ok (.aload_n 0, 1) := by decide +kernel
theorem d_Mo_switchHears_270 : decode c_Mo_switchHears 270 = .ok (.getfield 137, 3) := by decide +kernel
theorem d_Mo_switchHears_273 : decode c_Mo_switchHears 273 = .ok (.iload_n 3, 1) := by decide +kernel
theorem d_Mo_switchHears_274 : decode c_Mo_switchHears 274 = .ok (.baload, 1) := by decide +kernel
theorem d_Mo_switchHears_275 : decode c_Mo_switchHears 275 = .ok (.ifCond .eq 12, 3) := by decide +kernel
theorem d_Mo_switchHears_278 : decode c_Mo_switchHears 278 = .ok (.aload_n 0, 1) := by decide +kernel
theorem d_Mo_switchHears_279 : decode c_Mo_switchHears 279 = .ok (.getfield 167, 3) := by decide +kernel
theorem d_Mo_switchHears_282 : decode c_Mo_switchHears 282 = .ok (.iload_n 3, 1) := by decide +kernel
theorem d_Mo_switchHears_283 : decode c_Mo_switchHears 283 = .ok (.iaload, 1) := by decide +kernel
theorem d_Mo_switchHears_284 : decode c_Mo_switchHears 284 = .ok (.goto 4, 3) := by decide +kernel
theorem d_Mo_switchHears_287 : decode c_Mo_switchHears 287 = .ok (.iconst 0, 1) := by decide +kernel
theorem d_Mo_switchHears_288 : decode c_Mo_switchHears 288 = .ok (.iastore, 1) := by decide +kernel
theorem d_Mo_switchHears_289 : decode c_Mo_switchHears 289 = .ok (.aload_n 0, 1) := by decide +kernel
theorem d_Mo_switchHears_290 : decode c_Mo_switchHears 290 = .ok (.getfield 137, 3) := by decide +kernel
theorem d_Mo_switchHears_293 : decode c_Mo_switchHears 293 = .ok (.iload_n 3, 1) := by decide +kernel
theorem d_Mo_switchHears_294 : decode c_Mo_switchHears 294 = .ok (.iconst 1, 1) := by decide +kernel
theorem d_Mo_switchHears_295 : decode c_Mo_switchHears 295 = .ok (.bastore, 1) := by decide +kernel
theorem d_Mo_switchHears_296 : decode c_Mo_switchHears 296 = .ok (.goto 13, 3) := by decide +kernel
theorem d_Mo_switchHears_299 : decode c_Mo_switchHears 299 = .ok (.aload_n 0, 1) := by decide +kernel
theorem d_Mo_switchHears_300 : decode c_Mo_switchHears 300 = .ok (.iload_n 3, 1) := by decide +kernel
theorem d_Mo_switchHears_301 : decode c_Mo_switchHears 301 = .ok (.invokevirtual 345, 3) := by decide +kernel
theorem d_Mo_switchHears_304 : decode c_Mo_switchHears 304 = .ok (.aload_n 0, 1) := by decide +kernel
theorem d_Mo_switchHears_305 : decode c_Mo_switchHears 305 = .ok (.iload_n 3, 1) := by decide +kernel
theorem d_Mo_switchHears_306 : decode c_Mo_switchHears 306 = .ok (.invokevirtual 375, 3) := by decide +kernel
theorem d_Mo_switchHears_309 : decode c_Mo_switchHears 309 = .ok (.return_, 1) := by decide +kernel
theorem d_Mo_tick_0 : decode c_Mo_tick 0 = .ok (.iconst 0, 1) := by decide +kernel
theorem d_Mo_tick_1 : decode c_Mo_tick 1 = .ok (.istore_n 1, 1) := by decide +kernel
theorem d_Mo_tick_2 : decode c_Mo_tick 2 = .ok (.iload_n 1, 1) := by decide +kernel
theorem d_Mo_tick_3 : decode c_Mo_tick 3 = .ok (.iconst 4, 1) := by decide +kernel
theorem d_Mo_tick_4 : decode c_Mo_tick 4 = .ok (.if_icmp .ge 33, 3) := by decide +kernel
theorem d_Mo_tick_7 : decode c_Mo_tick 7 = .ok (.aload_n 0, 1) := by decide +kernel
theorem d_Mo_tick_8 : decode c_Mo_tick 8 = .ok (.getfield 131, 3) := by decide +kernel
theorem d_Mo_tick_11 : decode c_Mo_tick 11 = .ok (.iload_n 1, 1) := by decide +kernel
theorem d_Mo_tick_12 : decode c_Mo_tick 12 = .ok (.baload, 1) := by decide +kernel
theorem d_Mo_tick_13 : decode c_Mo_tick 13 = .ok (.ifCond .eq 18, 3) := by decide +kernel
theorem d_Mo_tick_16 : decode c_Mo_tick 16 = .ok (.aload_n 0, 1) := by decide +kernel
theorem d_Mo_tick_17 : decode c_Mo_tick 17 = .ok (.getfield 140, 3) := by decide +kernel
theorem d_Mo_tick_20 : decode c_Mo_tick 20 = .ok (.iload_n 1, 1) := by decide +kernel
theorem d_Mo_tick_21 : decode c_Mo_tick 21 = .ok (.dup2, 1) := by decide +kernel
theorem d_Mo_tick_22 : decode c_Mo_tick 22 = .ok (.iaload, 1) := by decide +kernel
theorem d_Mo_tick_23 : decode c_Mo_tick 23 = .ok (.iconst 1, 1) := by decide +kernel
theorem d_Mo_tick_24 : decode c_Mo_tick 24 = .ok (.iadd, 1) := by decide +kernel
theorem d_Mo_tick_25 : decode c_Mo_tick 25 = .ok (.iastore, 1) := by decide +kernel
theorem d_Mo_tick_26 : decode c_Mo_tick 26 = .ok (.aload_n 0, 1) := by decide +kernel
theorem d_Mo_tick_27 : decode c_Mo_tick 27 = .ok (.iload_n 1, 1) := by decide +kernel
theorem d_Mo_tick_28 : decode c_Mo_tick 28 = .ok (.invokevirtual 378, 3) := by decide +kernel
theorem d_Mo_tick_31 : decode c_Mo_tick 31 = .ok (.iinc 1 1, 3) := by decide +kernel
theorem d_Mo_tick_34 : decode c_Mo_tick 34 = .ok (.goto (-32), 3) := by decide +kernel
theorem d_Mo_tick_37 : decode c_Mo_tick 37 = .ok (.aload_n 0, 1) := by decide +kernel
theorem d_Mo_tick_38 : decode c_Mo_tick 38 = .ok (.getfield 230, 3) := by decide +kernel
theorem d_Mo_tick_41 : decode c_Mo_tick 41 = .ok (.ireturn, 1) := by decide +kernel
theorem d_Mo_late_0 : decode c_Mo_late 0 = .ok (.aload_n 0, 1) := by decide +kernel
theorem d_Mo_late_1 : decode c_Mo_late 1 = .ok (.getfield 149, 3) := by decide +kernel
theorem d_Mo_late_4 : decode c_Mo_late 4 = .ok (.iload_n 1, 1) := by decide +kernel
theorem d_Mo_late_5 : decode c_Mo_late 5 = .ok (.baload, 1) := by decide +kernel
theorem d_Mo_late_6 : decode c_Mo_late 6 = .ok (.ifCond .eq 112, 3) := by decide +kernel
theorem d_Mo_late_9 : decode c_Mo_late 9 = .ok (.aload_n 0, 1) := by decide +kernel
theorem d_Mo_late_10 : decode c_Mo_late 10 = .ok (.getfield 140, 3) := by decide +kernel
theorem d_Mo_late_13 : decode c_Mo_late 13 = .ok (.iload_n 1, 1) := by decide +kernel
theorem d_Mo_late_14 : decode c_Mo_late 14 = .ok (.iaload, 1) := by decide +kernel
theorem d_Mo_late_15 : decode c_Mo_late 15 = .ok (.iconst 5, 1) := by decide +kernel
theorem d_Mo_late_16 : decode c_Mo_late 16 = .ok (.if_icmp .ne 102, 3) := by decide +kernel
theorem d_Mo_late_19 : decode c_Mo_late 19 = .ok (.aload_n 0, 1) := by decide +kernel
theorem d_Mo_late_20 : decode c_Mo_late 20 = .ok (.getfield 152, 3) := by decide +kernel
theorem d_Mo_late_23 : decode c_Mo_late 23 = .ok (.iload_n 1, 1) := by decide +kernel
theorem d_Mo_late_24 : decode c_Mo_late 24 = .ok (.iaload, 1) := by decide +kernel
theorem d_Mo_late_25 : decode c_Mo_late 25 = .ok (.iconst 2, 1) := by decide +kernel
theorem d_Mo_late_26 : decode c_Mo_late 26 = .ok (.if_icmp .ge 69, 3) := by decide +kernel
theorem d_Mo_late_29 : decode c_Mo_late 29 = .ok (.aload_n 0, 1) := by decide +kernel
theorem d_Mo_late_30 : decode c_Mo_late 30 = .ok (.aload_n 0, 1) := by decide +kernel
theorem d_Mo_late_31 : decode c_Mo_late 31 = .ok (.getfield 143, 3) := by decide +kernel
theorem d_Mo_late_34 : decode c_Mo_late 34 = .ok (.iload_n 1, 1) := by decide +kernel
theorem d_Mo_late_35 : decode c_Mo_late 35 = .ok (.iaload, 1) := by decide +kernel
theorem d_Mo_late_36 : decode c_Mo_late 36 = .ok (.putfield 233, 3) := by decide +kernel
theorem d_Mo_late_39 : decode c_Mo_late 39 = .ok (.iconst 0, 1) := by decide +kernel
theorem d_Mo_late_40 : decode c_Mo_late 40 = .ok (.istore_n 2, 1) := by decide +kernel
theorem d_Mo_late_41 : decode c_Mo_late 41 = .ok (.iload_n 2, 1) := by decide +kernel
theorem d_Mo_late_42 : decode c_Mo_late 42 = .ok (.aload_n 0, 1) := by decide +kernel
theorem d_Mo_late_43 : decode c_Mo_late 43 = .ok (.getfield 233, 3) := by decide +kernel
theorem d_Mo_late_46 : decode c_Mo_late 46 = .ok (.if_icmp .ge 26, 3) := by decide +kernel
theorem d_Mo_late_49 : decode c_Mo_late 49 = .ok (.aload_n 0, 1) := by decide +kernel
theorem d_Mo_late_50 : decode c_Mo_late 50 = .ok (.getfield 38, 3) := by decide +kernel
theorem d_Mo_late_53 : decode c_Mo_late 53 = .ok (.iload_n 2, 1) := by decide +kernel
theorem d_Mo_late_54 : decode c_Mo_late 54 = .ok (.aload_n 0, 1) := by decide +kernel
theorem d_Mo_late_55 : decode c_Mo_late 55 = .ok (.getfield 146, 3) := by decide +kernel
theorem d_Mo_late_58 : decode c_Mo_late 58 = .ok (.bipush 20, 2) := by decide +kernel
theorem d_Mo_late_60 : decode c_Mo_late 60 = .ok (.iload_n 1, 1) := by decide +kernel
theorem d_Mo_late_61 : decode c_Mo_late 61 = .ok (.imul, 1) := by decide +kernel
theorem d_Mo_late_62 : decode c_Mo_late 62 = .ok (.iload_n 2, 1) := by decide +kernel
theorem d_Mo_late_63 : decode c_Mo_late 63 = .ok (.iadd, 1) := by decide +kernel
theorem d_Mo_late_64 : decode c_Mo_late 64 = .ok (.iaload, 1) := by decide +kernel
theorem d_Mo_late_65 : decode c_Mo_late 65 = .ok (.iastore, 1) := by decide +kernel
theorem d_Mo_late_66 : decode c_Mo_late 66 = .ok (.iinc 2 1, 3) := by decide +kernel
theorem d_Mo_late_69 : decode c_Mo_late 69 = .ok (.goto (-28), 3) := by decide +kernel
theorem d_Mo_late_72 : decode c_Mo_late 72 = .ok (.aload_n 0, 1) := by decide +kernel
theorem d_Mo_late_73 : decode c_Mo_late 73 = .ok (.getfield 140, 3) := by decide +kernel
theorem d_Mo_late_76 : decode c_Mo_late 76 = .ok (.iload_n 1, 1) := by decide +kernel
theorem d_Mo_late_77 : decode c_Mo_late 77 = .ok (.iconst 0, 1) := by decide +kernel
theorem d_Mo_late_78 : decode c_Mo_late 78 = .ok (.iastore, 1) := by decide +kernel
theorem d_Mo_late_79 : decode c_Mo_late 79 = .ok (.aload_n 0, 1) := by decide +kernel
theorem d_Mo_late_80 : decode c_Mo_late 80 = .ok (.getfield 152, 3) := by decide +kernel
theorem d_Mo_late_83 : decode c_Mo_late 83 = .ok (.iload_n 1, 1) := by decide +kernel
theorem d_Mo_late_84 : decode c_Mo_late 84 = .ok (.dup2, 1) := by decide +kernel
theorem d_Mo_late_85 : decode c_Mo_late 85 = .ok (.iaload, 1) := by decide +kernel
theorem d_Mo_late_86 : decode c_Mo_late 86 = .ok (.iconst 1, 1) := by decide +kernel
theorem d_Mo_late_87 : decode c_Mo_late 87 = .ok (.iadd, 1) := by decide +kernel
theorem d_Mo_late_88 : decode c_Mo_late 88 = .ok (.iastore, 1) := by decide +kernel
theorem d_Mo_late_89 : decode c_Mo_late 89 = .ok (.aload_n 0, 1) := by decide +kernel
theorem d_Mo_late_90 : decode c_Mo_late 90 = .ok (.iload_n 1, 1) := by decide +kernel
theorem d_Mo_late_91 : decode c_Mo_late 91 = .ok (.invokevirtual 345, 3) := by decide +kernel
theorem d_Mo_late_94 : decode c_Mo_late 94 = .ok (.return_, 1) := by decide +kernel
theorem d_Mo_late_95 : decode c_Mo_late 95 = .ok (.aload_n 0, 1) := by decide +kernel
theorem d_Mo_late_96 : decode c_Mo_late 96 = .ok (.getfield 134, 3) := by decide +kernel
theorem d_Mo_late_99 : decode c_Mo_late 99 = .ok (.iload_n 1, 1) := by decide +kernel
theorem d_Mo_late_100 : decode c_Mo_late 100 = .ok (.iaload, 1) := by decide +kernel
theorem d_Mo_late_101 : decode c_Mo_late 101 = .ok (.iconst 2, 1) := by decide +kernel
theorem d_Mo_late_102 : decode c_Mo_late 102 = .ok (.if_icmp .ne 8, 3) := by decide +kernel
theorem d_Mo_late_105 : decode c_Mo_late 105 = .ok (.aload_n 0, 1) := by decide +kernel
theorem d_Mo_late_106 : decode c_Mo_late 106 = .ok (.iload_n 1, 1) := by decide +kernel
theorem d_Mo_late_107 : decode c_Mo_late 107 = .ok (.invokevirtual 351, 3) := by decide +kernel
theorem d_Mo_late_110 : decode c_Mo_late 110 = .ok (.aload_n 0, 1) := by decide +kernel
theorem d_Mo_late_111 : decode c_Mo_late 111 = .ok (.iload_n 1, 1) := by decide +kernel
theorem d_Mo_late_112 : decode c_Mo_late 112 = .ok (.invokevirtual 354, 3) := by decide +kernel
theorem d_Mo_late_115 : decode c_Mo_late 115 = .ok (.goto 163, 3) := by decide +kernel
theorem d_Mo_late_118 : decode c_Mo_late 118 = .ok (.aload_n 0, 1) := by decide +kernel
theorem d_Mo_late_119 : decode c_Mo_late 119 = .ok (.getfield 170, 3) := by decide +kernel
theorem d_Mo_late_122 : decode c_Mo_late 122 = .ok (.iload_n 1, 1) := by decide +kernel
theorem d_Mo_late_123 : decode c_Mo_late 123 = .ok (.iaload, 1) := by decide +kernel
theorem d_Mo_late_124 : decode c_Mo_late 124 = .ok (.ifCond .lt 107, 3) := by decide +kernel
theorem d_Mo_late_127 : decode c_Mo_late 127 = .ok (.aload_n 0, 1) := by decide +kernel
theorem d_Mo_late_128 : decode c_Mo_late 128 = .ok (.getfield 140, 3) := by decide +kernel
theorem d_Mo_late_131 : decode c_Mo_late 131 = .ok (.iload_n 1, 1) := by decide +kernel
theorem d_Mo_late_132 : decode c_Mo_late 132 = .ok (.iaload, 1) := by decide +kernel
theorem d_Mo_late_133 : decode c_Mo_late 133 = .ok (.iconst 4, 1) := by decide +kernel
theorem d_Mo_late_134 : decode c_Mo_late 134 = .ok (.if_icmp .ne 97, 3) := by decide +kernel
theorem d_Mo_late_137 : decode c_Mo_late 137 = .ok (.aload_n 0, 1) := by decide +kernel
theorem d_Mo_late_138 : decode c_Mo_late 138 = .ok (.getfield 173, 3) := by decide +kernel
theorem d_Mo_late_141 : decode c_Mo_late 141 = .ok (.iload_n 1, 1) := by decide +kernel
theorem d_Mo_late_142 : decode c_Mo_late 142 = .ok (.iaload, 1) := by decide +kernel
theorem d_Mo_late_143 : decode c_Mo_late 143 = .ok (.iconst 1, 1) := by decide +kernel
theorem d_Mo_late_144 : decode c_Mo_late 144 = .ok (.if_icmp .ne 25, 3) := by decide +kernel
theorem d_Mo_late_147 : decode c_Mo_late 147 = .ok (.aload_n 0, 1) := by decide +kernel
theorem d_Mo_late_148 : decode c_Mo_late 148 = .ok (.getfield 173, 3) := by decide +kernel
theorem d_Mo_late_151 : decode c_Mo_late 151 = .ok (.iload_n 1, 1) := by decide +kernel
theorem d_Mo_late_152 : decode c_Mo_late 152 = .ok (.iconst 2, 1) := by decide +kernel
theorem d_Mo_late_153 : decode c_Mo_late 153 = .ok (.iastore, 1) := by decide +kernel
theorem d_Mo_late_154 : decode c_Mo_late 154 = .ok (.aload_n 0, 1) := by decide +kernel
theorem d_Mo_late_155 : decode c_Mo_late 155 = .ok (.getfield 140, 3) := by decide +kernel
theorem d_Mo_late_158 : decode c_Mo_late 158 = .ok (.iload_n 1, 1) := by decide +kernel
theorem d_Mo_late_159 : decode c_Mo_late 159 = .ok (.iconst 0, 1) := by decide +kernel
theorem d_Mo_late_160 : decode c_Mo_late 160 = .ok (.iastore, 1) := by decide +kernel
theorem d_Mo_late_161 : decode c_Mo_late 161 = .ok (.aload_n 0, 1) := by decide +kernel
theorem d_Mo_late_162 : decode c_Mo_late 162 = .ok (.iload_n 1, 1) := by decide +kernel
theorem d_Mo_late_163 : decode c_Mo_late 163 = .ok (.invokevirtual 363, 3) := by decide +kernel
theorem d_Mo_late_166 : decode c_Mo_late 166 = .ok (.goto 112, 3) := by decide +kernel
theorem d_Mo_late_169 : decode c_Mo_late 169 = .ok (.aload_n 0, 1) := by decide +kernel
theorem d_Mo_late_170 : decode c_Mo_late 170 = .ok (.getfield 176, 3) := by decide +kernel
theorem d_Mo_late_173 : decode c_Mo_late 173 = .ok (.iload_n 1, 1) := by decide +kernel
theorem d_Mo_late_174 : decode c_Mo_late 174 = .ok (.baload, 1) := by decide +kernel
theorem d_Mo_late_175 : decode c_Mo_late 175 = .ok (.ifCond .ne 26, 3) := by decide +kernel
theorem d_Mo_late_178 : decode c_Mo_late 178 = .ok (.aload_n 0, 1) := by decide +kernel
theorem d_Mo_late_179 : decode c_Mo_late 179 = .ok (.getfield 176, 3) := by decide +kernel
theorem d_Mo_late_182 : decode c_Mo_late 182 = .ok (.iload_n 1, 1) := by decide +kernel
theorem d_Mo_late_183 : decode c_Mo_late 183 = .ok (.iconst 1, 1) := by decide +kernel
theorem d_Mo_late_184 : decode c_Mo_late 184 = .ok (.bastore, 1) := by decide +kernel
theorem d_Mo_late_185 : decode c_Mo_late 185 = .ok (.aload_n 0, 1) := by decide +kernel
theorem d_Mo_late_186 : decode c_Mo_late 186 = .ok (.iload_n 1, 1) := by decide +kernel
theorem d_Mo_late_187 : decode c_Mo_late 187 = .ok (.iconst 1, 1) := by decide +kernel
theorem d_Mo_late_188 : decode c_Mo_late 188 = .ok (.aload_n 0, 1) := by decide +kernel
theorem d_Mo_late_189 : decode c_Mo_late 189 = .ok (.getfield 170, 3) := by decide +kernel
theorem d_Mo_late_192 : decode c_Mo_late 192 = .ok (.iload_n 1, 1) := by decide +kernel
theorem d_Mo_late_193 : decode c_Mo_late 193 = .ok (.iaload, 1) := by decide +kernel
theorem d_Mo_late_194 : decode c_Mo_late 194 = .ok (.isub, 1) := by decide +kernel
theorem d_Mo_late_195 : decode c_Mo_late 195 = .ok (.invokevirtual 369, 3) := by decide +kernel
theorem d_Mo_late_198 : decode c_Mo_late 198 = .ok (.goto 80, 3) := by decide +kernel
theorem d_Mo_late_201 : decode c_Mo_late 201 = .ok (.aload_n 0, 1) := by decide +kernel
theorem d_Mo_late_202 : decode c_Mo_late 202 = .ok (.iconst 4, 1) := by decide +kernel
theorem d_Mo_late_203 : decode c_Mo_late 203 = .ok (.aload_n 0, 1) := by decide +kernel
theorem d_Mo_late_204 : decode c_Mo_late 204 = .ok (.getfield 146, 3) := by decide +kernel
theorem d_Mo_late_207 : decode c_Mo_late 207 = .ok (.bipush 20, 2) := by decide +kernel
theorem d_Mo_late_209 : decode c_Mo_late 209 = .ok (.iload_n 1, 1) := by decide +kernel
theorem d_Mo_late_210 : decode c_Mo_late 210 = .ok (.imul, 1) := by decide +kernel
theorem d_Mo_late_211 : decode c_Mo_late 211 = .ok (.iconst 1, 1) := by decide +kernel
theorem d_Mo_late_212 : decode c_Mo_late 212 = .ok (.iadd, 1) := by decide +kernel
theorem d_Mo_late_213 : decode c_Mo_late 213 = .ok (.iaload, 1) := by decide +kernel
theorem d_Mo_late_214 : decode c_Mo_late 214 = .ok (.iconst 0, 1) := by decide +kernel
theorem d_Mo_late_215 : decode c_Mo_late 215 = .ok (.invokevirtual 279, 3) := by decide +kernel
theorem d_Mo_late_218 : decode c_Mo_late 218 = .ok (.aload_n 0, 1) := by decide +kernel
theorem d_Mo_late_219 : decode c_Mo_late 219 = .ok (.iload_n 1, 1) := by decide +kernel
theorem d_Mo_late_220 : decode c_Mo_late 220 = .ok (.invokevirtual 345, 3) := by decide +kernel
theorem d_Mo_late_223 : decode c_Mo_late 223 = .ok (.aload_n 0, 1) := by decide +kernel
theorem d_Mo_late_224 : decode c_Mo_late 224 = .ok (.iload_n 1, 1) := by decide +kernel
theorem d_Mo_late_225 : decode c_Mo_late 225 = .ok (.invokevirtual 375, 3) := by decide +kernel
theorem d_Mo_late_228 : decode c_Mo_late 228 = .ok (.goto 50, 3) := by decide +kernel
theorem d_Mo_late_231 : decode c_Mo_late 231 = .ok (.aload_n 0, 1) := by decide +kernel
theorem d_Mo_late_232 : decode c_Mo_late 232 = .ok (.getfield 134, 3) := by decide +kernel
theorem d_Mo_late_235 : decode c_Mo_late 235 = .ok (.iload_n 1, 1) := by decide +kernel
theorem d_Mo_late_236 : decode c_Mo_late 236 = .ok (.iaload, 1) := by decide +kernel
theorem d_Mo_late_237 : decode c_Mo_late 237 = .ok (.iconst 3, 1) := by decide +kernel
theorem d_Mo_late_238 : decode c_Mo_late 238 = .ok (.if_icmp .ne 14, 3) := by decide +kernel
theorem d_Mo_late_241 : decode c_Mo_late 241 = .ok (.aload_n 0, 1) := by decide +kernel
theorem d_Mo_late_242 : decode c_Mo_late 242 = .ok (.getfield 140, 3) := by decide +kernel
theorem d_Mo_late_245 : decode c_Mo_late 245 = .ok (.iload_n 1, 1) := by decide +kernel
theorem d_Mo_late_246 : decode c_Mo_late 246 = .ok (.iaload, 1) := by decide +kernel
theorem d_Mo_late_247 : decode c_Mo_late 247 = .ok (.bipush 30, 2) := by decide +kernel
theorem d_Mo_late_249 : decode c_Mo_late 249 = .ok (.if_icmp .eq 24, 3) := by decide +kernel
theorem d_Mo_late_252 : decode c_Mo_late 252 = .ok (.aload_n 0, 1) := by decide +kernel
theorem d_Mo_late_253 : decode c_Mo_late 253 = .ok (.getfield 134, 3) := by decide +kernel
theorem d_Mo_late_256 : decode c_Mo_late 256 = .ok (.iload_n 1, 1) := by decide +kernel
theorem d_Mo_late_257 : decode c_Mo_late 257 = .ok (.iaload, 1) := by decide +kernel
theorem d_Mo_late_258 : decode c_Mo_late 258 = .ok (.iconst 4, 1) := by decide +kernel
theorem d_Mo_late_259 : decode c_Mo_late 259 = .ok (.if_icmp .ne 19, 3) := by decide +kernel
theorem d_Mo_late_262 : decode c_Mo_late 262 = .ok (.aload_n 0, 1) := by decide +kernel
theorem d_Mo_late_263 : decode c_Mo_late 263 = .ok (.getfield 140, 3) := by decide +kernel
theorem d_Mo_late_266 : decode c_Mo_late 266 = .ok (.iload_n 1, 1) := by decide +kernel
theorem d_Mo_late_267 : decode c_Mo_late 267 = .ok (.iaload, 1) := by decide +kernel
theorem d_Mo_late_268 : decode c_Mo_late 268 = .ok (.bipush 6, 2) := by decide +kernel
theorem d_Mo_late_270 : decode c_Mo_late 270 = .ok (.if_icmp .ne 8, 3) := by decide +kernel
theorem d_Mo_late_273 : decode c_Mo_late 273 = .ok (.aload_n 0, 1) := by decide +kernel
theorem d_Mo_late_274 : decode c_Mo_late 274 = .ok (.iload_n 1, 1) := by decide +kernel
theorem d_Mo_late_275 : decode c_Mo_late 275 = .ok (.invokevirtual 354, 3) := by decide +kernel
theorem d_Mo_late_278 : decode c_Mo_late 278 = .ok (.return_, 1) := by decide +kernel
theorem d_Mo_remove_0 : decode c_Mo_remove 0 = .ok (.aload_n 0, 1) := by decide +kernel
theorem d_Mo_remove_1 : decode c_Mo_remove 1 = .ok (.dup, 1) := by decide +kernel
theorem d_Mo_remove_2 : decode c_Mo_remove 2 = .ok (.getfield 230, 3) := by decide +kernel
theorem d_Mo_remove_5 : decode c_Mo_remove 5 = .ok (.iconst 1, 1) := by decide +kernel
theorem d_Mo_remove_6 : decode c_Mo_remove 6 = .ok (.isub, 1) := by decide +kernel
theorem d_Mo_remove_7 : decode c_Mo_remove 7 = .ok (.putfield 230, 3) := by decide +kernel
theorem d_Mo_remove_10 : decode c_Mo_remove 10 = .ok (.iload_n 1, 1) := by decide +kernel
theorem d_Mo_remove_11 : decode c_Mo_remove 11 = .ok (.istore_n 2, 1) := by decide +kernel
theorem d_Mo_remove_12 : decode c_Mo_remove 12 = .ok (.iload_n 2, 1) := by decide +kernel
theorem d_Mo_remove_13 : decode c_Mo_remove 13 = .ok (.aload_n 0, 1) := by decide +kernel
theorem d_Mo_remove_14 : decode c_Mo_remove 14 = .ok (.getfield 230, 3) := by decide +kernel
theorem d_Mo_remove_17 : decode c_Mo_remove 17 = .ok (.if_icmp .ge 90, 3) := by decide +kernel
theorem d_Mo_remove_20 : decode c_Mo_remove 20 = .ok (.aload_n 0, 1) := by decide +kernel
theorem d_Mo_remove_21 : decode c_Mo_remove 21 = .ok (.getfield 20, 3) := by decide +kernel
theorem d_Mo_remove_24 : decode c_Mo_remove 24 = .ok (.iload_n 2, 1) := by decide +kernel
theorem d_Mo_remove_25 : decode c_Mo_remove 25 = .ok (.aload_n 0, 1) := by decide +kernel
theorem d_Mo_remove_26 : decode c_Mo_remove 26 = .ok (.getfield 20, 3) := by decide +kernel
theorem d_Mo_remove_29 : decode c_Mo_remove 29 = .ok (.iload_n 2, 1) := by decide +kernel
theorem d_Mo_remove_30 : decode c_Mo_remove 30 = .ok (.iconst 1, 1) := by decide +kernel
theorem d_Mo_remove_31 : decode c_Mo_remove 31 = .ok (.iadd, 1) := by decide +kernel
theorem d_Mo_remove_32 : decode c_Mo_remove 32 = .ok (.iaload, 1) := by decide +kernel
theorem d_Mo_remove_33 : decode c_Mo_remove 33 = .ok (.iastore, 1) := by decide +kernel
theorem d_Mo_remove_34 : decode c_Mo_remove 34 = .ok (.aload_n 0, 1) := by decide +kernel
theorem d_Mo_remove_35 : decode c_Mo_remove 35 = .ok (.getfield 23, 3) := by decide +kernel
theorem d_Mo_remove_38 : decode c_Mo_remove 38 = .ok (.iload_n 2, 1) := by decide +kernel
theorem d_Mo_remove_39 : decode c_Mo_remove 39 = .ok (.aload_n 0, 1) := by decide +kernel
theorem d_Mo_remove_40 : decode c_Mo_remove 40 = .ok (.getfield 23, 3) := by decide +kernel
theorem d_Mo_remove_43 : decode c_Mo_remove 43 = .ok (.iload_n 2, 1) := by decide +kernel
theorem d_Mo_remove_44 : decode c_Mo_remove 44 = .ok (.iconst 1, 1) := by decide +kernel
theorem d_Mo_remove_45 : decode c_Mo_remove 45 = .ok (.iadd, 1) := by decide +kernel
theorem d_Mo_remove_46 : decode c_Mo_remove 46 = .ok (.iaload, 1) := by decide +kernel
theorem d_Mo_remove_47 : decode c_Mo_remove 47 = .ok (.iastore, 1) := by decide +kernel
theorem d_Mo_remove_48 : decode c_Mo_remove 48 = .ok (.aload_n 0, 1) := by decide +kernel
theorem d_Mo_remove_49 : decode c_Mo_remove 49 = .ok (.getfield 26, 3) := by decide +kernel
theorem d_Mo_remove_52 : decode c_Mo_remove 52 = .ok (.iload_n 2, 1) := by decide +kernel
theorem d_Mo_remove_53 : decode c_Mo_remove 53 = .ok (.aload_n 0, 1) := by decide +kernel
theorem d_Mo_remove_54 : decode c_Mo_remove 54 = .ok (.getfield 26, 3) := by decide +kernel
theorem d_Mo_remove_57 : decode c_Mo_remove 57 = .ok (.iload_n 2, 1) := by decide +kernel
theorem d_Mo_remove_58 : decode c_Mo_remove 58 = .ok (.iconst 1, 1) := by decide +kernel
theorem d_Mo_remove_59 : decode c_Mo_remove 59 = .ok (.iadd, 1) := by decide +kernel
theorem d_Mo_remove_60 : decode c_Mo_remove 60 = .ok (.iaload, 1) := by decide +kernel
theorem d_Mo_remove_61 : decode c_Mo_remove 61 = .ok (.iastore, 1) := by decide +kernel
theorem d_Mo_remove_62 : decode c_Mo_remove 62 = .ok (.iconst 0, 1) := by decide +kernel
theorem d_Mo_remove_63 : decode c_Mo_remove 63 = .ok (.istore_n 3, 1) := by decide +kernel
theorem d_Mo_remove_64 : decode c_Mo_remove 64 = .ok (.iload_n 3, 1) := by decide +kernel
theorem d_Mo_remove_65 : decode c_Mo_remove 65 = .ok (.bipush 48, 2) := by decide +kernel
theorem d_Mo_remove_67 : decode c_Mo_remove 67 = .ok (.if_icmp .ge 34, 3) := by decide +kernel
theorem d_Mo_remove_70 : decode c_Mo_remove 70 = .ok (.aload_n 0, 1) := by decide +kernel
theorem d_Mo_remove_71 : decode c_Mo_remove 71 = .ok (.getfield 29, 3) := by decide +kernel
theorem d_Mo_remove_74 : decode c_Mo_remove 74 = .ok (.bipush 48, 2) := by decide +kernel
theorem d_Mo_remove_76 : decode c_Mo_remove 76 = .ok (.iload_n 2, 1) := by decide +kernel
theorem d_Mo_remove_77 : decode c_Mo_remove 77 = .ok (.imul, 1) := by decide +kernel
theorem d_Mo_remove_78 : decode c_Mo_remove 78 = .ok (.iload_n 3, 1) := by decide +kernel
theorem d_Mo_remove_79 : decode c_Mo_remove 79 = .ok (.iadd, 1) := by decide +kernel
theorem d_Mo_remove_80 : decode c_Mo_remove 80 = .ok (.aload_n 0, 1) := by decide +kernel
theorem d_Mo_remove_81 : decode c_Mo_remove 81 = .ok (.getfield 29, 3) := by decide +kernel
theorem d_Mo_remove_84 : decode c_Mo_remove 84 = .ok (.bipush 48, 2) := by decide +kernel
theorem d_Mo_remove_86 : decode c_Mo_remove 86 = .ok (.iload_n 2, 1) := by decide +kernel
theorem d_Mo_remove_87 : decode c_Mo_remove 87 = .ok (.imul, 1) := by decide +kernel
theorem d_Mo_remove_88 : decode c_Mo_remove 88 = .ok (.bipush 48, 2) := by decide +kernel
theorem d_Mo_remove_90 : decode c_Mo_remove 90 = .ok (.iadd, 1) := by decide +kernel
theorem d_Mo_remove_91 : decode c_Mo_remove 91 = .ok (.iload_n 3, 1) := by decide +kernel
theorem d_Mo_remove_92 : decode c_Mo_remove 92 = .ok (.iadd, 1) := by decide +kernel
theorem d_Mo_remove_93 : decode c_Mo_remove 93 = .ok (.iaload, 1) := by decide +kernel
theorem d_Mo_remove_94 : decode c_Mo_remove 94 = .ok (.iastore, 1) := by decide +kernel
theorem d_Mo_remove_95 : decode c_Mo_remove 95 = .ok (.iinc 3 1, 3) := by decide +kernel
theorem d_Mo_remove_98 : decode c_Mo_remove 98 = .ok (.goto (-34), 3) := by decide +kernel
theorem d_Mo_remove_101 : decode c_Mo_remove 101 = .ok (.iinc 2 1, 3) := by decide +kernel
theorem d_Mo_remove_104 : decode c_Mo_remove 104 = .ok (.goto (-92), 3) := by decide +kernel
theorem d_Mo_remove_107 : decode c_Mo_remove 107 = .ok (.return_, 1) := by decide +kernel
theorem d_Mo_pass_0 : decode c_Mo_pass 0 = .ok (.iload_n 1, 1) := by decide +kernel
theorem d_Mo_pass_1 : decode c_Mo_pass 1 = .ok (.ifCond .lt 20, 3) := by decide +kernel
theorem d_Mo_pass_4 : decode c_Mo_pass 4 = .ok (.iload_n 1, 1) := by decide +kernel
theorem d_Mo_pass_5 : decode c_Mo_pass 5 = .ok (.aload_n 0, 1) := by decide +kernel
theorem d_Mo_pass_6 : decode c_Mo_pass 6 = .ok (.getfield 230, 3) := by decide +kernel
theorem d_Mo_pass_9 : decode c_Mo_pass 9 = .ok (.if_icmp .ge 12, 3) := by decide +kernel
theorem d_Mo_pass_12 : decode c_Mo_pass 12 = .ok (.iload_n 2, 1) := by decide +kernel
theorem d_Mo_pass_13 : decode c_Mo_pass 13 = .ok (.ifCond .lt 8, 3) := by decide +kernel
theorem d_Mo_pass_16 : decode c_Mo_pass 16 = .ok (.iload_n 2, 1) := by decide +kernel
theorem d_Mo_pass_17 : decode c_Mo_pass 17 = .ok (.iconst 2, 1) := by decide +kernel
theorem d_Mo_pass_18 : decode c_Mo_pass 18 = .ok (.if_icmp .le 5, 3) := by decide +kernel
theorem d_Mo_pass_21 : decode c_Mo_pass 21 = .ok (.iconst 0, 1) := by decide +kernel
theorem d_Mo_pass_22 : decode c_Mo_pass 22 = .ok (.ireturn, 1) := by decide +kernel
theorem d_Mo_pass_23 : decode c_Mo_pass 23 = .ok (.aload_n 0, 1) := by decide +kernel
theorem d_Mo_pass_24 : decode c_Mo_pass 24 = .ok (.getfield 20, 3) := by decide +kernel
theorem d_Mo_pass_27 : decode c_Mo_pass 27 = .ok (.iload_n 1, 1) := by decide +kernel
theorem d_Mo_pass_28 : decode c_Mo_pass 28 = .ok (.iaload, 1) := by decide +kernel
theorem d_Mo_pass_29 : decode c_Mo_pass 29 = .ok (.istore_n 3, 1) := by decide +kernel
theorem d_Mo_pass_30 : decode c_Mo_pass 30 = .ok (.aload_n 0, 1) := by decide +kernel
theorem d_Mo_pass_31 : decode c_Mo_pass 31 = .ok (.getfield 23, 3) := by decide +kernel
theorem d_Mo_pass_34 : decode c_Mo_pass 34 = .ok (.iload_n 1, 1) := by decide +kernel
theorem d_Mo_pass_35 : decode c_Mo_pass 35 = .ok (.iaload, 1) := by decide +kernel
theorem d_Mo_pass_36 : decode c_Mo_pass 36 = .ok (.istore 4, 2) := by decide +kernel
theorem d_Mo_pass_38 : decode c_Mo_pass 38 = .ok (.aload_n 0, 1) := by decide +kernel
theorem d_Mo_pass_39 : decode c_Mo_pass 39 = .ok (.aload_n 0, 1) := by decide +kernel
theorem d_Mo_pass_40 : decode c_Mo_pass 40 = .ok (.getfield 26, 3) := by decide +kernel
theorem d_Mo_pass_43 : decode c_Mo_pass 43 = .ok (.iload_n 1, 1) := by decide +kernel
theorem d_Mo_pass_44 : decode c_Mo_pass 44 = .ok (.iaload, 1) := by decide +kernel
theorem d_Mo_pass_45 : decode c_Mo_pass 45 = .ok (.putfield 221, 3) := by decide +kernel
theorem d_Mo_pass_48 : decode c_Mo_pass 48 = .ok (.iconst 0, 1) := by decide +kernel
theorem d_Mo_pass_49 : decode c_Mo_pass 49 = .ok (.istore 5, 2) := by decide +kernel
theorem d_Mo_pass_51 : decode c_Mo_pass 51 = .ok (.iload 5, 2) := by decide +kernel
theorem d_Mo_pass_53 : decode c_Mo_pass 53 = .ok (.aload_n 0, 1) := by decide +kernel
theorem d_Mo_pass_54 : decode c_Mo_pass 54 = .ok (.getfield 221, 3) := by decide +kernel
theorem d_Mo_pass_57 : decode c_Mo_pass 57 = .ok (.if_icmp .ge 28, 3) := by decide +kernel
theorem d_Mo_pass_60 : decode c_Mo_pass 60 = .ok (.aload_n 0, 1) := by decide +kernel
theorem d_Mo_pass_61 : decode c_Mo_pass 61 = .ok (.getfield 35, 3) := by decide +kernel
theorem d_Mo_pass_64 : decode c_Mo_pass 64 = .ok (.iload 5, 2) := by decide +kernel
theorem d_Mo_pass_66 : decode c_Mo_pass 66 = .ok (.aload_n 0, 1) := by decide +kernel
theorem d_Mo_pass_67 : decode c_Mo_pass 67 = .ok (.getfield 29, 3) := by decide +kernel
theorem d_Mo_pass_70 : decode c_Mo_pass 70 = .ok (.bipush 48, 2) := by decide +kernel
theorem d_Mo_pass_72 : decode c_Mo_pass 72 = .ok (.iload_n 1, 1) := by decide +kernel
theorem d_Mo_pass_73 : decode c_Mo_pass 73 = .ok (.imul, 1) := by decide +kernel
theorem d_Mo_pass_74 : decode c_Mo_pass 74 = .ok (.iload 5, 2) := by decide +kernel
theorem d_Mo_pass_76 : decode c_Mo_pass 76 = .ok (.iadd, 1) := by decide +kernel
theorem d_Mo_pass_77 : decode c_Mo_pass 77 = .ok (.iaload, 1) := by decide +kernel
theorem d_Mo_pass_78 : decode c_Mo_pass 78 = .ok (.iastore, 1) := by decide +kernel
theorem d_Mo_pass_79 : decode c_Mo_pass 79 = .ok (.iinc 5 1, 3) := by decide +kernel
theorem d_Mo_pass_82 : decode c_Mo_pass 82 = .ok (.goto (-31), 3) := by decide +kernel
theorem d_Mo_pass_85 : decode c_Mo_pass 85 = .ok (.iload_n 2, 1) := by decide +kernel
theorem d_Mo_pass_86 : decode c_Mo_pass 86 = .ok (.iconst 2, 1) := by decide +kernel
theorem d_Mo_pass_87 : decode c_Mo_pass 87 = .ok (.if_icmp .ne 12, 3) := by decide +kernel
theorem d_Mo_pass_90 : decode c_Mo_pass 90 = .ok (.aload_n 0, 1) := by decide +kernel
theorem d_Mo_pass_91 : decode c_Mo_pass 91 = .ok (.iload_n 3, 1) := by decide +kernel
theorem d_Mo_pass_92 : decode c_Mo_pass 92 = .ok (.iload 4, 2) := by decide +kernel
theorem d_Mo_pass_94 : decode c_Mo_pass 94 = .ok (.invokevirtual 242, 3) := by decide +kernel
theorem d_Mo_pass_97 : decode c_Mo_pass 97 = .ok (.iconst 1, 1) := by decide +kernel
theorem d_Mo_pass_98 : decode c_Mo_pass 98 = .ok (.ireturn, 1) := by decide +kernel
theorem d_Mo_pass_99 : decode c_Mo_pass 99 = .ok (.aload_n 0, 1) := by decide +kernel
theorem d_Mo_pass_100 : decode c_Mo_pass 100 = .ok (.iload_n 1, 1) := by decide +kernel
theorem d_Mo_pass_101 : decode c_Mo_pass 101 = .ok (.invokevirtual 381, 3) := by decide +kernel
theorem d_Mo_pass_104 : decode c_Mo_pass 104 = .ok (.iload_n 2, 1) := by decide +kernel
theorem d_Mo_pass_105 : decode c_Mo_pass 105 = .ok (.iconst 1, 1) := by decide +kernel
theorem d_Mo_pass_106 : decode c_Mo_pass 106 = .ok (.if_icmp .ne 5, 3) := by decide +kernel
theorem d_Mo_pass_109 : decode c_Mo_pass 109 = .ok (.iconst 1, 1) := by decide +kernel
theorem d_Mo_pass_110 : decode c_Mo_pass 110 = .ok (.ireturn, 1) := by decide +kernel
theorem d_Mo_pass_111 : decode c_Mo_pass 111 = .ok (.iload_n 3, 1) := by decide +kernel
theorem d_Mo_pass_112 : decode c_Mo_pass 112 = .ok (.tableswitch 55 0 2 #[28, 37, 46], 28) := by decide +kernel
theorem d_Mo_pass_140 : decode c_Mo_pass 140 = .ok (.aload_n 0, 1) := by decide +kernel
theorem d_Mo_pass_141 : decode c_Mo_pass 141 = .ok (.iload 4, 2) := by decide +kernel
theorem d_Mo_pass_143 : decode c_Mo_pass 143 = .ok (.invokevirtual 384, 3) := by decide +kernel
theorem d_Mo_pass_146 : decode c_Mo_pass 146 = .ok (.goto 27, 3) := by decide +kernel
theorem d_Mo_pass_149 : decode c_Mo_pass 149 = .ok (.aload_n 0, 1) := by decide +kernel
theorem d_Mo_pass_150 : decode c_Mo_pass 150 = .ok (.iload 4, 2) := by decide +kernel
theorem d_Mo_pass_152 : decode c_Mo_pass 152 = .ok (.invokevirtual 387, 3) := by decide +kernel
theorem d_Mo_pass_155 : decode c_Mo_pass 155 = .ok (.goto 18, 3) := by decide +kernel
theorem d_Mo_pass_158 : decode c_Mo_pass 158 = .ok (.aload_n 0, 1) := by decide +kernel
theorem d_Mo_pass_159 : decode c_Mo_pass 159 = .ok (.iload 4, 2) := by decide +kernel
theorem d_Mo_pass_161 : decode c_Mo_pass 161 = .ok (.invokevirtual 390, 3) := by decide +kernel
theorem d_Mo_pass_164 : decode c_Mo_pass 164 = .ok (.goto 9, 3) := by decide +kernel
theorem d_Mo_pass_167 : decode c_Mo_pass 167 = .ok (.aload_n 0, 1) := by decide +kernel
theorem d_Mo_pass_168 : decode c_Mo_pass 168 = .ok (.iload 4, 2) := by decide +kernel
theorem d_Mo_pass_170 : decode c_Mo_pass 170 = .ok (.invokevirtual 393, 3) := by decide +kernel
theorem d_Mo_pass_173 : decode c_Mo_pass 173 = .ok (.iconst 1, 1) := by decide +kernel
theorem d_Mo_pass_174 : decode c_Mo_pass 174 = .ok (.ireturn, 1) := by decide +kernel
theorem d_Mo_alter_0 : decode c_Mo_alter 0 = .ok (.iload_n 1, 1) := by decide +kernel
theorem d_Mo_alter_1 : decode c_Mo_alter 1 = .ok (.ifCond .lt 25, 3) := by decide +kernel
theorem d_Mo_alter_4 : decode c_Mo_alter 4 = .ok (.iload_n 1, 1) := by decide +kernel
theorem d_Mo_alter_5 : decode c_Mo_alter 5 = .ok (.aload_n 0, 1) := by decide +kernel
theorem d_Mo_alter_6 : decode c_Mo_alter 6 = .ok (.getfield 230, 3) := by decide +kernel
theorem d_Mo_alter_9 : decode c_Mo_alter 9 = .ok (.if_icmp .ge 17, 3) := by decide +kernel
theorem d_Mo_alter_12 : decode c_Mo_alter 12 = .ok (.iload_n 2, 1) := by decide +kernel
theorem d_Mo_alter_13 : decode c_Mo_alter 13 = .ok (.ifCond .lt 13, 3) := by decide +kernel
theorem d_Mo_alter_16 : decode c_Mo_alter 16 = .ok (.iload_n 2, 1) := by decide +kernel
theorem d_Mo_alter_17 : decode c_Mo_alter 17 = .ok (.aload_n 0, 1) := by decide +kernel
theorem d_Mo_alter_18 : decode c_Mo_alter 18 = .ok (.getfield 26, 3) := by decide +kernel
theorem d_Mo_alter_21 : decode c_Mo_alter 21 = .ok (.iload_n 1, 1) := by decide +kernel
theorem d_Mo_alter_22 : decode c_Mo_alter 22 = .ok (.iaload, 1) := by decide +kernel
theorem d_Mo_alter_23 : decode c_Mo_alter 23 = .ok (.if_icmp .lt 5, 3) := by decide +kernel
theorem d_Mo_alter_26 : decode c_Mo_alter 26 = .ok (.iconst 0, 1) := by decide +kernel
theorem d_Mo_alter_27 : decode c_Mo_alter 27 = .ok (.ireturn, 1) := by decide +kernel
theorem d_Mo_alter_28 : decode c_Mo_alter 28 = .ok (.aload_n 0, 1) := by decide +kernel
theorem d_Mo_alter_29 : decode c_Mo_alter 29 = .ok (.getfield 29, 3) := by decide +kernel
theorem d_Mo_alter_32 : decode c_Mo_alter 32 = .ok (.bipush 48, 2) := by decide +kernel
theorem d_Mo_alter_34 : decode c_Mo_alter 34 = .ok (.iload_n 1, 1) := by decide +kernel
theorem d_Mo_alter_35 : decode c_Mo_alter 35 = .ok (.imul, 1) := by decide +kernel
theorem d_Mo_alter_36 : decode c_Mo_alter 36 = .ok (.iload_n 2, 1) := by decide +kernel
theorem d_Mo_alter_37 : decode c_Mo_alter 37 = .ok (.iadd, 1) := by decide +kernel
theorem d_Mo_alter_38 : decode c_Mo_alter 38 = .ok (.aload_n 0, 1) := by decide +kernel
theorem d_Mo_alter_39 : decode c_Mo_alter 39 = .ok (.getfield 29, 3) := by decide +kernel
theorem d_Mo_alter_42 : decode c_Mo_alter 42 = .ok (.bipush 48, 2) := by decide +kernel
theorem d_Mo_alter_44 : decode c_Mo_alter 44 = .ok (.iload_n 1, 1) := by decide +kernel
theorem d_Mo_alter_45 : decode c_Mo_alter 45 = .ok (.imul, 1) := by decide +kernel
theorem d_Mo_alter_46 : decode c_Mo_alter 46 = .ok (.iload_n 2, 1) := by decide +kernel
theorem d_Mo_alter_47 : decode c_Mo_alter 47 = .ok (.iadd, 1) := by decide +kernel
theorem d_Mo_alter_48 : decode c_Mo_alter 48 = .ok (.iaload, 1) := by decide +kernel
theorem d_Mo_alter_49 : decode c_Mo_alter 49 = .ok (.iload_n 3, 1) := by decide +kernel
theorem d_Mo_alter_50 : decode c_Mo_alter 50 = .ok (.sipush 255, 3) := by decide +kernel
theorem d_Mo_alter_53 : decode c_Mo_alter 53 = .ok (.iand, 1) := by decide +kernel
theorem d_Mo_alter_54 : decode c_Mo_alter 54 = .ok (.ixor, 1) := by decide +kernel
theorem d_Mo_alter_55 : decode c_Mo_alter 55 = .ok (.iastore, 1) := by decide +kernel
theorem d_Mo_alter_56 : decode c_Mo_alter 56 = .ok (.iconst 1, 1) := by decide +kernel
theorem d_Mo_alter_57 : decode c_Mo_alter 57 = .ok (.ireturn, 1) := by decide +kernel
theorem d_Mo_draft_0 : decode c_Mo_draft 0 = .ok (.iload_n 3, 1) := by decide +kernel
theorem d_Mo_draft_1 : decode c_Mo_draft 1 = .ok (.iconst 1, 1) := by decide +kernel
theorem d_Mo_draft_2 : decode c_Mo_draft 2 = .ok (.if_icmp .lt 20, 3) := by decide +kernel
theorem d_Mo_draft_5 : decode c_Mo_draft 5 = .ok (.iload_n 3, 1) := by decide +kernel
theorem d_Mo_draft_6 : decode c_Mo_draft 6 = .ok (.bipush 8, 2) := by decide +kernel
theorem d_Mo_draft_8 : decode c_Mo_draft 8 = .ok (.if_icmp .gt 14, 3) := by decide +kernel
theorem d_Mo_draft_11 : decode c_Mo_draft 11 = .ok (.aload_n 0, 1) := by decide +kernel
theorem d_Mo_draft_12 : decode c_Mo_draft 12 = .ok (.getfield 396, 3) := by decide +kernel
theorem d_Mo_draft_15 : decode c_Mo_draft 15 = .ok (.iload_n 3, 1) := by decide +kernel
theorem d_Mo_draft_16 : decode c_Mo_draft 16 = .ok (.iadd, 1) := by decide +kernel
theorem d_Mo_draft_17 : decode c_Mo_draft 17 = .ok (.bipush 48, 2) := by decide +kernel
theorem d_Mo_draft_19 : decode c_Mo_draft 19 = .ok (.if_icmp .le 5, 3) := by decide +kernel
theorem d_Mo_draft_22 : decode c_Mo_draft 22 = .ok (.iconst 0, 1) := by decide +kernel
theorem d_Mo_draft_23 : decode c_Mo_draft 23 = .ok (.ireturn, 1) := by decide +kernel
theorem d_Mo_draft_24 : decode c_Mo_draft 24 = .ok (.iconst 0, 1) := by decide +kernel
theorem d_Mo_draft_25 : decode c_Mo_draft 25 = .ok (.istore 4, 2) := by decide +kernel
theorem d_Mo_draft_27 : decode c_Mo_draft 27 = .ok (.iload 4, 2) := by decide +kernel
theorem d_Mo_draft_29 : decode c_Mo_draft 29 = .ok (.iload_n 3, 1) := by decide +kernel
theorem d_Mo_draft_30 : decode c_Mo_draft 30 = .ok (.if_icmp .ge 33, 3) := by decide +kernel
theorem d_Mo_draft_33 : decode c_Mo_draft 33 = .ok (.aload_n 0, 1) := by decide +kernel
theorem d_Mo_draft_34 : decode c_Mo_draft 34 = .ok (.getfield 32, 3) := by decide +kernel
theorem d_Mo_draft_37 : decode c_Mo_draft 37 = .ok (.aload_n 0, 1) := by decide +kernel
theorem d_Mo_draft_38 : decode c_Mo_draft 38 = .ok (.getfield 396, 3) := by decide +kernel
theorem d_Mo_draft_41 : decode c_Mo_draft 41 = .ok (.iload 4, 2) := by decide +kernel
theorem d_Mo_draft_43 : decode c_Mo_draft 43 = .ok (.iadd, 1) := by decide +kernel
theorem d_Mo_draft_44 : decode c_Mo_draft 44 = .ok (.lload_n 1, 1) := by decide +kernel
theorem d_Mo_draft_45 : decode c_Mo_draft 45 = .ok (.bipush 8, 2) := by decide +kernel
theorem d_Mo_draft_47 : decode c_Mo_draft 47 = .ok (.iload 4, 2) := by decide +kernel
theorem d_Mo_draft_49 : decode c_Mo_draft 49 = .ok (.imul, 1) := by decide +kernel
theorem d_Mo_draft_50 : decode c_Mo_draft 50 = .ok (.lushr, 1) := by decide +kernel
theorem d_Mo_draft_51 : decode c_Mo_draft 51 = .ok (.ldc2_w 399, 3) := by decide +kernel
theorem d_Mo_draft_54 : decode c_Mo_draft 54 = .ok (.land, 1) := by decide +kernel
theorem d_Mo_draft_55 : decode c_Mo_draft 55 = .ok (.l2i, 1) := by decide +kernel
theorem d_Mo_draft_56 : decode c_Mo_draft 56 = .ok (.iastore, 1) := by decide +kernel
theorem d_Mo_draft_57 : decode c_Mo_draft 57 = .ok (.iinc 4 1, 3) := by decide +kernel
theorem d_Mo_draft_60 : decode c_Mo_draft 60 = .ok (.goto (-33), 3) := by decide +kernel
theorem d_Mo_draft_63 : decode c_Mo_draft 63 = .ok (.aload_n 0, 1) := by decide +kernel
theorem d_Mo_draft_64 : decode c_Mo_draft 64 = .ok (.dup, 1) := by decide +kernel
theorem d_Mo_draft_65 : decode c_Mo_draft 65 = .ok (.getfield 396, 3) := by decide +kernel
theorem d_Mo_draft_68 : decode c_Mo_draft 68 = .ok (.iload_n 3, 1) := by decide +kernel
theorem d_Mo_draft_69 : decode c_Mo_draft 69 = .ok (.iadd, 1) := by decide +kernel
theorem d_Mo_draft_70 : decode c_Mo_draft 70 = .ok (.putfield 396, 3) := by decide +kernel
theorem d_Mo_draft_73 : decode c_Mo_draft 73 = .ok (.iconst 1, 1) := by decide +kernel
theorem d_Mo_draft_74 : decode c_Mo_draft 74 = .ok (.ireturn, 1) := by decide +kernel
theorem d_Mo_forge_0 : decode c_Mo_forge 0 = .ok (.iload_n 1, 1) := by decide +kernel
theorem d_Mo_forge_1 : decode c_Mo_forge 1 = .ok (.ifCond .lt 33, 3) := by decide +kernel
theorem d_Mo_forge_4 : decode c_Mo_forge 4 = .ok (.iload_n 1, 1) := by decide +kernel
theorem d_Mo_forge_5 : decode c_Mo_forge 5 = .ok (.iconst 3, 1) := by decide +kernel
theorem d_Mo_forge_6 : decode c_Mo_forge 6 = .ok (.if_icmp .gt 28, 3) := by decide +kernel
theorem d_Mo_forge_9 : decode c_Mo_forge 9 = .ok (.iload_n 2, 1) := by decide +kernel
theorem d_Mo_forge_10 : decode c_Mo_forge 10 = .ok (.ifCond .lt 24, 3) := by decide +kernel
theorem d_Mo_forge_13 : decode c_Mo_forge 13 = .ok (.iload_n 2, 1) := by decide +kernel
theorem d_Mo_forge_14 : decode c_Mo_forge 14 = .ok (.iload_n 1, 1) := by decide +kernel
theorem d_Mo_forge_15 : decode c_Mo_forge 15 = .ok (.iconst 2, 1) := by decide +kernel
theorem d_Mo_forge_16 : decode c_Mo_forge 16 = .ok (.if_icmp .ge 7, 3) := by decide +kernel
theorem d_Mo_forge_19 : decode c_Mo_forge 19 = .ok (.iconst 3, 1) := by decide +kernel
theorem d_Mo_forge_20 : decode c_Mo_forge 20 = .ok (.goto 4, 3) := by decide +kernel
theorem d_Mo_forge_23 : decode c_Mo_forge 23 = .ok (.iconst 1, 1) := by decide +kernel
theorem d_Mo_forge_24 : decode c_Mo_forge 24 = .ok (.if_icmp .gt 10, 3) := by decide +kernel
theorem d_Mo_forge_27 : decode c_Mo_forge 27 = .ok (.aload_n 0, 1) := by decide +kernel
theorem d_Mo_forge_28 : decode c_Mo_forge 28 = .ok (.getfield 396, 3) := by decide +kernel
theorem d_Mo_forge_31 : decode c_Mo_forge 31 = .ok (.ifCond .ne 5, 3) := by decide +kernel
theorem d_Mo_forge_34 : decode c_Mo_forge 34 = .ok (.iconst 0, 1) := by decide +kernel
theorem d_Mo_forge_35 : decode c_Mo_forge 35 = .ok (.ireturn, 1) := by decide +kernel
theorem d_Mo_forge_36 : decode c_Mo_forge 36 = .ok (.aload_n 0, 1) := by decide +kernel
theorem d_Mo_forge_37 : decode c_Mo_forge 37 = .ok (.aload_n 0, 1) := by decide +kernel
theorem d_Mo_forge_38 : decode c_Mo_forge 38 = .ok (.getfield 396, 3) := by decide +kernel
theorem d_Mo_forge_41 : decode c_Mo_forge 41 = .ok (.putfield 221, 3) := by decide +kernel
theorem d_Mo_forge_44 : decode c_Mo_forge 44 = .ok (.iconst 0, 1) := by decide +kernel
theorem d_Mo_forge_45 : decode c_Mo_forge 45 = .ok (.istore_n 3, 1) := by decide +kernel
theorem d_Mo_forge_46 : decode c_Mo_forge 46 = .ok (.iload_n 3, 1) := by decide +kernel
theorem d_Mo_forge_47 : decode c_Mo_forge 47 = .ok (.aload_n 0, 1) := by decide +kernel
theorem d_Mo_forge_48 : decode c_Mo_forge 48 = .ok (.getfield 396, 3) := by decide +kernel
theorem d_Mo_forge_51 : decode c_Mo_forge 51 = .ok (.if_icmp .ge 21, 3) := by decide +kernel
theorem d_Mo_forge_54 : decode c_Mo_forge 54 = .ok (.aload_n 0, 1) := by decide +kernel
theorem d_Mo_forge_55 : decode c_Mo_forge 55 = .ok (.getfield 35, 3) := by decide +kernel
theorem d_Mo_forge_58 : decode c_Mo_forge 58 = .ok (.iload_n 3, 1) := by decide +kernel
theorem d_Mo_forge_59 : decode c_Mo_forge 59 = .ok (.aload_n 0, 1) := by decide +kernel
theorem d_Mo_forge_60 : decode c_Mo_forge 60 = .ok (.getfield 32, 3) := by decide +kernel
theorem d_Mo_forge_63 : decode c_Mo_forge 63 = .ok (.iload_n 3, 1) := by decide +kernel
theorem d_Mo_forge_64 : decode c_Mo_forge 64 = .ok (.iaload, 1) := by decide +kernel
theorem d_Mo_forge_65 : decode c_Mo_forge 65 = .ok (.iastore, 1) := by decide +kernel
theorem d_Mo_forge_66 : decode c_Mo_forge 66 = .ok (.iinc 3 1, 3) := by decide +kernel
theorem d_Mo_forge_69 : decode c_Mo_forge 69 = .ok (.goto (-23), 3) := by decide +kernel
theorem d_Mo_forge_72 : decode c_Mo_forge 72 = .ok (.aload_n 0, 1) := by decide +kernel
theorem d_Mo_forge_73 : decode c_Mo_forge 73 = .ok (.iconst 0, 1) := by decide +kernel
theorem d_Mo_forge_74 : decode c_Mo_forge 74 = .ok (.putfield 396, 3) := by decide +kernel
theorem d_Mo_forge_77 : decode c_Mo_forge 77 = .ok (.aload_n 0, 1) := by decide +kernel
theorem d_Mo_forge_78 : decode c_Mo_forge 78 = .ok (.iload_n 1, 1) := by decide +kernel
theorem d_Mo_forge_79 : decode c_Mo_forge 79 = .ok (.iload_n 2, 1) := by decide +kernel
theorem d_Mo_forge_80 : decode c_Mo_forge 80 = .ok (.invokevirtual 242, 3) := by decide +kernel
theorem d_Mo_forge_83 : decode c_Mo_forge 83 = .ok (.iconst 1, 1) := by decide +kernel
theorem d_Mo_forge_84 : decode c_Mo_forge 84 = .ok (.ireturn, 1) := by decide +kernel
theorem d_Mo_data_0 : decode c_Mo_data 0 = .ok (.iload_n 1, 1) := by decide +kernel
theorem d_Mo_data_1 : decode c_Mo_data 1 = .ok (.ifCond .lt 28, 3) := by decide +kernel
theorem d_Mo_data_4 : decode c_Mo_data 4 = .ok (.iload_n 1, 1) := by decide +kernel
theorem d_Mo_data_5 : decode c_Mo_data 5 = .ok (.iconst 3, 1) := by decide +kernel
theorem d_Mo_data_6 : decode c_Mo_data 6 = .ok (.if_icmp .gt 23, 3) := by decide +kernel
theorem d_Mo_data_9 : decode c_Mo_data 9 = .ok (.iload_n 2, 1) := by decide +kernel
theorem d_Mo_data_10 : decode c_Mo_data 10 = .ok (.ifCond .lt 19, 3) := by decide +kernel
theorem d_Mo_data_13 : decode c_Mo_data 13 = .ok (.iload_n 2, 1) := by decide +kernel
theorem d_Mo_data_14 : decode c_Mo_data 14 = .ok (.bipush 7, 2) := by decide +kernel
theorem d_Mo_data_16 : decode c_Mo_data 16 = .ok (.if_icmp .gt 13, 3) := by decide +kernel
theorem d_Mo_data_19 : decode c_Mo_data 19 = .ok (.iload_n 3, 1) := by decide +kernel
theorem d_Mo_data_20 : decode c_Mo_data 20 = .ok (.ifCond .lt 9, 3) := by decide +kernel
theorem d_Mo_data_23 : decode c_Mo_data 23 = .ok (.iload_n 3, 1) := by decide +kernel
theorem d_Mo_data_24 : decode c_Mo_data 24 = .ok (.bipush 8, 2) := by decide +kernel
theorem d_Mo_data_26 : decode c_Mo_data 26 = .ok (.if_icmp .le 5, 3) := by decide +kernel
theorem d_Mo_data_29 : decode c_Mo_data 29 = .ok (.iconst (-1), 1) := by decide +kernel
theorem d_Mo_data_30 : decode c_Mo_data 30 = .ok (.ireturn, 1) := by decide +kernel
theorem d_Mo_data_31 : decode c_Mo_data 31 = .ok (.aload_n 0, 1) := by decide +kernel
theorem d_Mo_data_32 : decode c_Mo_data 32 = .ok (.getfield 137, 3) := by decide +kernel
theorem d_Mo_data_35 : decode c_Mo_data 35 = .ok (.iload_n 1, 1) := by decide +kernel
theorem d_Mo_data_36 : decode c_Mo_data 36 = .ok (.baload, 1) := by decide +kernel
theorem d_Mo_data_37 : decode c_Mo_data 37 = .ok (.ifCond .ne 5, 3) := by decide +kernel
theorem d_Mo_data_40 : decode c_Mo_data 40 = .ok (.iconst 0, 1) := by decide +kernel
theorem d_Mo_data_41 : decode c_Mo_data 41 = .ok (.ireturn, 1) := by decide +kernel
theorem d_Mo_data_42 : decode c_Mo_data 42 = .ok (.aload_n 0, 1) := by decide +kernel
theorem d_Mo_data_43 : decode c_Mo_data 43 = .ok (.getfield 191, 3) := by decide +kernel
theorem d_Mo_data_46 : decode c_Mo_data 46 = .ok (.iload_n 2, 1) := by decide +kernel
theorem d_Mo_data_47 : decode c_Mo_data 47 = .ok (.iload_n 1, 1) := by decide +kernel
theorem d_Mo_data_48 : decode c_Mo_data 48 = .ok (.iastore, 1) := by decide +kernel
theorem d_Mo_data_49 : decode c_Mo_data 49 = .ok (.aload_n 0, 1) := by decide +kernel
theorem d_Mo_data_50 : decode c_Mo_data 50 = .ok (.getfield 167, 3) := by decide +kernel
theorem d_Mo_data_53 : decode c_Mo_data 53 = .ok (.iload_n 1, 1) := by decide +kernel
theorem d_Mo_data_54 : decode c_Mo_data 54 = .ok (.dup2, 1) := by decide +kernel
theorem d_Mo_data_55 : decode c_Mo_data 55 = .ok (.iaload, 1) := by decide +kernel
theorem d_Mo_data_56 : decode c_Mo_data 56 = .ok (.iconst 1, 1) := by decide +kernel
theorem d_Mo_data_57 : decode c_Mo_data 57 = .ok (.iadd, 1) := by decide +kernel
theorem d_Mo_data_58 : decode c_Mo_data 58 = .ok (.iastore, 1) := by decide +kernel
theorem d_Mo_data_59 : decode c_Mo_data 59 = .ok (.iload_n 3, 1) := by decide +kernel
theorem d_Mo_data_60 : decode c_Mo_data 60 = .ok (.bipush 8, 2) := by decide +kernel
theorem d_Mo_data_62 : decode c_Mo_data 62 = .ok (.if_icmp .ne 7, 3) := by decide +kernel
theorem d_Mo_data_65 : decode c_Mo_data 65 = .ok (.iconst (-1), 1) := by decide +kernel
theorem d_Mo_data_66 : decode c_Mo_data 66 = .ok (.goto 9, 3) := by decide +kernel
theorem d_Mo_data_69 : decode c_Mo_data 69 = .ok (.aload_n 0, 1) := by decide +kernel
theorem d_Mo_data_70 : decode c_Mo_data 70 = .ok (.getfield 191, 3) := by decide +kernel
theorem d_Mo_data_73 : decode c_Mo_data 73 = .ok (.iload_n 3, 1) := by decide +kernel
theorem d_Mo_data_74 : decode c_Mo_data 74 = .ok (.iaload, 1) := by decide +kernel
theorem d_Mo_data_75 : decode c_Mo_data 75 = .ok (.istore 4, 2) := by decide +kernel
theorem d_Mo_data_77 : decode c_Mo_data 77 = .ok (.iconst 0, 1) := by decide +kernel
theorem d_Mo_data_78 : decode c_Mo_data 78 = .ok (.istore 5, 2) := by decide +kernel
theorem d_Mo_data_80 : decode c_Mo_data 80 = .ok (.iconst 0, 1) := by decide +kernel
theorem d_Mo_data_81 : decode c_Mo_data 81 = .ok (.istore 6, 2) := by decide +kernel
theorem d_Mo_data_83 : decode c_Mo_data 83 = .ok (.iload 6, 2) := by decide +kernel
theorem d_Mo_data_85 : decode c_Mo_data 85 = .ok (.iconst 4, 1) := by decide +kernel
theorem d_Mo_data_86 : decode c_Mo_data 86 = .ok (.if_icmp .ge 50, 3) := by decide +kernel
theorem d_Mo_data_89 : decode c_Mo_data 89 = .ok (.iload 5, 2) := by decide +kernel
theorem d_Mo_data_91 : decode c_Mo_data 91 = .ok (.aload_n 0, 1) := by decide +kernel
theorem d_Mo_data_92 : decode c_Mo_data 92 = .ok (.getfield 137, 3) := by decide +kernel
theorem d_Mo_data_95 : decode c_Mo_data 95 = .ok (.iload 6, 2) := by decide +kernel
theorem d_Mo_data_97 : decode c_Mo_data 97 = .ok (.baload, 1) := by decide +kernel
theorem d_Mo_data_98 : decode c_Mo_data 98 = .ok (.ifCond .eq 28, 3) := by decide +kernel
theorem d_Mo_data_101 : decode c_Mo_data 101 = .ok (.iload 6, 2) := by decide +kernel
theorem d_Mo_data_103 : decode c_Mo_data 103 = .ok (.iload_n 1, 1) := by decide +kernel
theorem d_Mo_data_104 : decode c_Mo_data 104 = .ok (.if_icmp .eq 22, 3) := by decide +kernel
theorem d_Mo_data_107 : decode c_Mo_data 107 = .ok (.iload 4, 2) := by decide +kernel
theorem d_Mo_data_109 : decode c_Mo_data 109 = .ok (.ifCond .lt 10, 3) := by decide +kernel
theorem d_Mo_data_112 : decode c_Mo_data 112 = .ok (.iload 4, 2) := by decide +kernel
theorem d_Mo_data_114 : decode c_Mo_data 114 = .ok (.iload 6, 2) := by decide +kernel
theorem d_Mo_data_116 : decode c_Mo_data 116 = .ok (.if_icmp .ne 10, 3) := by decide +kernel
theorem d_Mo_data_119 : decode c_Mo_data 119 = .ok (.iconst 1, 1) := by decide +kernel
theorem d_Mo_data_120 : decode c_Mo_data 120 = .ok (.iload 6, 2) := by decide +kernel
theorem d_Mo_data_122 : decode c_Mo_data 122 = .ok (.ishl, 1) := by decide +kernel
theorem d_Mo_data_123 : decode c_Mo_data 123 = .ok (.goto 4, 3) := by decide +kernel
theorem d_Mo_data_126 : decode c_Mo_data 126 = .ok (.iconst 0, 1) := by decide +kernel
theorem d_Mo_data_127 : decode c_Mo_data 127 = .ok (.iadd, 1) := by decide +kernel
theorem d_Mo_data_128 : decode c_Mo_data 128 = .ok (.istore 5, 2) := by decide +kernel
theorem d_Mo_data_130 : decode c_Mo_data 130 = .ok (.iinc 6 1, 3) := by decide +kernel
theorem d_Mo_data_133 : decode c_Mo_data 133 = .ok (.goto (-50), 3) := by decide +kernel
theorem d_Mo_data_136 : decode c_Mo_data 136 = .ok (.iload 5, 2) := by decide +kernel
theorem d_Mo_data_138 : decode c_Mo_data 138 = .ok (.ireturn, 1) := by decide +kernel
theorem d_Mo_waiting_0 : decode c_Mo_waiting 0 = .ok (.aload_n 0, 1) := by decide +kernel
theorem d_Mo_waiting_1 : decode c_Mo_waiting 1 = .ok (.getfield 230, 3) := by decide +kernel
theorem d_Mo_waiting_4 : decode c_Mo_waiting 4 = .ok (.ireturn, 1) := by decide +kernel
theorem d_Mo_message_0 : decode c_Mo_message 0 = .ok (.iload_n 1, 1) := by decide +kernel
theorem d_Mo_message_1 : decode c_Mo_message 1 = .ok (.ifCond .lt 32, 3) := by decide +kernel
theorem d_Mo_message_4 : decode c_Mo_message 4 = .ok (.iload_n 1, 1) := by decide +kernel
theorem d_Mo_message_5 : decode c_Mo_message 5 = .ok (.aload_n 0, 1) := by decide +kernel
theorem d_Mo_message_6 : decode c_Mo_message 6 = .ok (.getfield 230, 3) := by decide +kernel
theorem d_Mo_message_9 : decode c_Mo_message 9 = .ok (.if_icmp .ge 24, 3) := by decide +kernel
theorem d_Mo_message_12 : decode c_Mo_message 12 = .ok (.iload_n 2, 1) := by decide +kernel
theorem d_Mo_message_13 : decode c_Mo_message 13 = .ok (.ifCond .lt 20, 3) := by decide +kernel
theorem d_Mo_message_16 : decode c_Mo_message 16 = .ok (.iload_n 2, 1) := by decide +kernel
theorem d_Mo_message_17 : decode c_Mo_message 17 = .ok (.iconst 2, 1) := by decide +kernel
theorem d_Mo_message_18 : decode c_Mo_message 18 = .ok (.if_icmp .le 17, 3) := by decide +kernel
theorem d_Mo_message_21 : decode c_Mo_message 21 = .ok (.iload_n 2, 1) := by decide +kernel
theorem d_Mo_message_22 : decode c_Mo_message 22 = .ok (.iconst 3, 1) := by decide +kernel
theorem d_Mo_message_23 : decode c_Mo_message 23 = .ok (.isub, 1) := by decide +kernel
theorem d_Mo_message_24 : decode c_Mo_message 24 = .ok (.aload_n 0, 1) := by decide +kernel
theorem d_Mo_message_25 : decode c_Mo_message 25 = .ok (.getfield 26, 3) := by decide +kernel
theorem d_Mo_message_28 : decode c_Mo_message 28 = .ok (.iload_n 1, 1) := by decide +kernel
theorem d_Mo_message_29 : decode c_Mo_message 29 = .ok (.iaload, 1) := by decide +kernel
theorem d_Mo_message_30 : decode c_Mo_message 30 = .ok (.if_icmp .lt 5, 3) := by decide +kernel
theorem d_Mo_message_33 : decode c_Mo_message 33 = .ok (.iconst (-1), 1) := by decide +kernel
theorem d_Mo_message_34 : decode c_Mo_message 34 = .ok (.ireturn, 1) := by decide +kernel
theorem d_Mo_message_35 : decode c_Mo_message 35 = .ok (.iload_n 2, 1) := by decide +kernel
theorem d_Mo_message_36 : decode c_Mo_message 36 = .ok (.ifCond .ne 12, 3) := by decide +kernel
theorem d_Mo_message_39 : decode c_Mo_message 39 = .ok (.aload_n 0, 1) := by decide +kernel
theorem d_Mo_message_40 : decode c_Mo_message 40 = .ok (.getfield 20, 3) := by decide +kernel
theorem d_Mo_message_43 : decode c_Mo_message 43 = .ok (.iload_n 1, 1) := by decide +kernel
theorem d_Mo_message_44 : decode c_Mo_message 44 = .ok (.iaload, 1) := by decide +kernel
theorem d_Mo_message_45 : decode c_Mo_message 45 = .ok (.goto 44, 3) := by decide +kernel
theorem d_Mo_message_48 : decode c_Mo_message 48 = .ok (.iload_n 2, 1) := by decide +kernel
theorem d_Mo_message_49 : decode c_Mo_message 49 = .ok (.iconst 1, 1) := by decide +kernel
theorem d_Mo_message_50 : decode c_Mo_message 50 = .ok (.if_icmp .ne 12, 3) := by decide +kernel
theorem d_Mo_message_53 : decode c_Mo_message 53 = .ok (.aload_n 0, 1) := by decide +kernel
theorem d_Mo_message_54 : decode c_Mo_message 54 = .ok (.getfield 23, 3) := by decide +kernel
theorem d_Mo_message_57 : decode c_Mo_message 57 = .ok (.iload_n 1, 1) := by decide +kernel
theorem d_Mo_message_58 : decode c_Mo_message 58 = .ok (.iaload, 1) := by decide +kernel
theorem d_Mo_message_59 : decode c_Mo_message 59 = .ok (.goto 30, 3) := by decide +kernel
theorem d_Mo_message_62 : decode c_Mo_message 62 = .ok (.iload_n 2, 1) := by decide +kernel
theorem d_Mo_message_63 : decode c_Mo_message 63 = .ok (.iconst 2, 1) := by decide +kernel
theorem d_Mo_message_64 : decode c_Mo_message 64 = .ok (.if_icmp .ne 12, 3) := by decide +kernel
theorem d_Mo_message_67 : decode c_Mo_message 67 = .ok (.aload_n 0, 1) := by decide +kernel
theorem d_Mo_message_68 : decode c_Mo_message 68 = .ok (.getfield 26, 3) := by decide +kernel
theorem d_Mo_message_71 : decode c_Mo_message 71 = .ok (.iload_n 1, 1) := by decide +kernel
theorem d_Mo_message_72 : decode c_Mo_message 72 = .ok (.iaload, 1) := by decide +kernel
theorem d_Mo_message_73 : decode c_Mo_message 73 = .ok (.goto 16, 3) := by decide +kernel
theorem d_Mo_message_76 : decode c_Mo_message 76 = .ok (.aload_n 0, 1) := by decide +kernel
theorem d_Mo_message_77 : decode c_Mo_message 77 = .ok (.getfield 29, 3) := by decide +kernel
theorem d_Mo_message_80 : decode c_Mo_message 80 = .ok (.bipush 48, 2) := by decide +kernel
theorem d_Mo_message_82 : decode c_Mo_message 82 = .ok (.iload_n 1, 1) := by decide +kernel
theorem d_Mo_message_83 : decode c_Mo_message 83 = .ok (.imul, 1) := by decide +kernel
theorem d_Mo_message_84 : decode c_Mo_message 84 = .ok (.iload_n 2, 1) := by decide +kernel
theorem d_Mo_message_85 : decode c_Mo_message 85 = .ok (.iadd, 1) := by decide +kernel
theorem d_Mo_message_86 : decode c_Mo_message 86 = .ok (.iconst 3, 1) := by decide +kernel
theorem d_Mo_message_87 : decode c_Mo_message 87 = .ok (.isub, 1) := by decide +kernel
theorem d_Mo_message_88 : decode c_Mo_message 88 = .ok (.iaload, 1) := by decide +kernel
theorem d_Mo_message_89 : decode c_Mo_message 89 = .ok (.ireturn, 1) := by decide +kernel
theorem d_Mo_port_0 : decode c_Mo_port 0 = .ok (.iload_n 1, 1) := by decide +kernel
theorem d_Mo_port_1 : decode c_Mo_port 1 = .ok (.ifCond .lt 8, 3) := by decide +kernel
theorem d_Mo_port_4 : decode c_Mo_port 4 = .ok (.iload_n 1, 1) := by decide +kernel
theorem d_Mo_port_5 : decode c_Mo_port 5 = .ok (.iconst 3, 1) := by decide +kernel
theorem d_Mo_port_6 : decode c_Mo_port 6 = .ok (.if_icmp .le 6, 3) := by decide +kernel
theorem d_Mo_port_9 : decode c_Mo_port 9 = .ok (.bipush (-2), 2) := by decide +kernel
theorem d_Mo_port_11 : decode c_Mo_port 11 = .ok (.ireturn, 1) := by decide +kernel
theorem d_Mo_port_12 : decode c_Mo_port 12 = .ok (.iload_n 2, 1) := by decide +kernel
theorem d_Mo_port_13 : decode c_Mo_port 13 = .ok (.tableswitch 176 0 11 #[63, 70, 85, 100, 107, 114, 121, 141, 148, 155, 162, 169], 63) := by decide +kernel
theorem d_Mo_port_76 : decode c_Mo_port 76 = .ok (.aload_n 0, 1) := by decide +kernel
theorem d_Mo_port_77 : decode c_Mo_port 77 = .ok (.getfield 134, 3) := by decide +kernel
theorem d_Mo_port_80 : decode c_Mo_port 80 = .ok (.iload_n 1, 1) := by decide +kernel
theorem d_Mo_port_81 : decode c_Mo_port 81 = .ok (.iaload, 1) := by decide +kernel
theorem d_Mo_port_82 : decode c_Mo_port 82 = .ok (.ireturn, 1) := by decide +kernel
theorem d_Mo_port_83 : decode c_Mo_port 83 = .ok (.aload_n 0, 1) := by decide +kernel
theorem d_Mo_port_84 : decode c_Mo_port 84 = .ok (.getfield 137, 3) := by decide +kernel
theorem d_Mo_port_87 : decode c_Mo_port 87 = .ok (.iload_n 1, 1) := by decide +kernel
theorem d_Mo_port_88 : decode c_Mo_port 88 = .ok (.baload, 1) := by decide +kernel
theorem d_Mo_port_89 : decode c_Mo_port 89 = .ok (.ifCond .eq 7, 3) := by decide +kernel
theorem d_Mo_port_92 : decode c_Mo_port 92 = .ok (.iconst 1, 1) := by decide +kernel
theorem d_Mo_port_93 : decode c_Mo_port 93 = .ok (.goto 4, 3) := by decide +kernel
theorem d_Mo_port_96 : decode c_Mo_port 96 = .ok (.iconst 0, 1) := by decide +kernel
theorem d_Mo_port_97 : decode c_Mo_port 97 = .ok (.ireturn, 1) := by decide +kernel
theorem d_Mo_port_98 : decode c_Mo_port 98 = .ok (.aload_n 0, 1) := by decide +kernel
theorem d_Mo_port_99 : decode c_Mo_port 99 = .ok (.getfield 149, 3) := by decide +kernel
theorem d_Mo_port_102 : decode c_Mo_port 102 = .ok (.iload_n 1, 1) := by decide +kernel
theorem d_Mo_port_103 : decode c_Mo_port 103 = .ok (.baload, 1) := by decide +kernel
theorem d_Mo_port_104 : decode c_Mo_port 104 = .ok (.ifCond .eq 7, 3) := by decide +kernel
theorem d_Mo_port_107 : decode c_Mo_port 107 = .ok (.iconst 1, 1) := by decide +kernel
theorem d_Mo_port_108 : decode c_Mo_port 108 = .ok (.goto 4, 3) := by decide +kernel
theorem d_Mo_port_111 : decode c_Mo_port 111 = .ok (.iconst 0, 1) := by decide +kernel
theorem d_Mo_port_112 : decode c_Mo_port 112 = .ok (.ireturn, 1) := by decide +kernel
theorem d_Mo_port_113 : decode c_Mo_port 113 = .ok (.aload_n 0, 1) := by decide +kernel
theorem d_Mo_port_114 : decode c_Mo_port 114 = .ok (.getfield 152, 3) := by decide +kernel
theorem d_Mo_port_117 : decode c_Mo_port 117 = .ok (.iload_n 1, 1) := by decide +kernel
theorem d_Mo_port_118 : decode c_Mo_port 118 = .ok (.iaload, 1) := by decide +kernel
theorem d_Mo_port_119 : decode c_Mo_port 119 = .ok (.ireturn, 1) := by decide +kernel
theorem d_Mo_port_120 : decode c_Mo_port 120 = .ok (.aload_n 0, 1) := by decide +kernel
theorem d_Mo_port_121 : decode c_Mo_port 121 = .ok (.getfield 140, 3) := by decide +kernel
theorem d_Mo_port_124 : decode c_Mo_port 124 = .ok (.iload_n 1, 1) := by decide +kernel
theorem d_Mo_port_125 : decode c_Mo_port 125 = .ok (.iaload, 1) := by decide +kernel
theorem d_Mo_port_126 : decode c_Mo_port 126 = .ok (.ireturn, 1) := by decide +kernel
theorem d_Mo_port_127 : decode c_Mo_port 127 = .ok (.aload_n 0, 1) := by decide +kernel
theorem d_Mo_port_128 : decode c_Mo_port 128 = .ok (.getfield 170, 3) := by decide +kernel
theorem d_Mo_port_131 : decode c_Mo_port 131 = .ok (.iload_n 1, 1) := by decide +kernel
theorem d_Mo_port_132 : decode c_Mo_port 132 = .ok (.iaload, 1) := by decide +kernel
theorem d_Mo_port_133 : decode c_Mo_port 133 = .ok (.ireturn, 1) := by decide +kernel
theorem d_Mo_port_134 : decode c_Mo_port 134 = .ok (.aload_n 0, 1) := by decide +kernel
theorem d_Mo_port_135 : decode c_Mo_port 135 = .ok (.getfield 170, 3) := by decide +kernel
theorem d_Mo_port_138 : decode c_Mo_port 138 = .ok (.iload_n 1, 1) := by decide +kernel
theorem d_Mo_port_139 : decode c_Mo_port 139 = .ok (.iaload, 1) := by decide +kernel
theorem d_Mo_port_140 : decode c_Mo_port 140 = .ok (.ifCond .ge 7, 3) := by decide +kernel
theorem d_Mo_port_143 : decode c_Mo_port 143 = .ok (.iconst 0, 1) := by decide +kernel
theorem d_Mo_port_144 : decode c_Mo_port 144 = .ok (.goto 9, 3) := by decide +kernel
theorem d_Mo_port_147 : decode c_Mo_port 147 = .ok (.aload_n 0, 1) := by decide +kernel
theorem d_Mo_port_148 : decode c_Mo_port 148 = .ok (.getfield 173, 3) := by decide +kernel
theorem d_Mo_port_151 : decode c_Mo_port 151 = .ok (.iload_n 1, 1) := by decide +kernel
theorem d_Mo_port_152 : decode c_Mo_port 152 = .ok (.iaload, 1) := by decide +kernel
theorem d_Mo_port_153 : decode c_Mo_port 153 = .ok (.ireturn, 1) := by decide +kernel
theorem d_Mo_port_154 : decode c_Mo_port 154 = .ok (.aload_n 0, 1) := by decide +kernel
theorem d_Mo_port_155 : decode c_Mo_port 155 = .ok (.getfield 158, 3) := by decide +kernel
theorem d_Mo_port_158 : decode c_Mo_port 158 = .ok (.iload_n 1, 1) := by decide +kernel
theorem d_Mo_port_159 : decode c_Mo_port 159 = .ok (.iaload, 1) := by decide +kernel
theorem d_Mo_port_160 : decode c_Mo_port 160 = .ok (.ireturn, 1) := by decide +kernel
theorem d_Mo_port_161 : decode c_Mo_port 161 = .ok (.aload_n 0, 1) := by decide +kernel
theorem d_Mo_port_162 : decode c_Mo_port 162 = .ok (.getfield 161, 3) := by decide +kernel
theorem d_Mo_port_165 : decode c_Mo_port 165 = .ok (.iload_n 1, 1) := by decide +kernel
theorem d_Mo_port_166 : decode c_Mo_port 166 = .ok (.iaload, 1) := by decide +kernel
theorem d_Mo_port_167 : decode c_Mo_port 167 = .ok (.ireturn, 1) := by decide +kernel
theorem d_Mo_port_168 : decode c_Mo_port 168 = .ok (.aload_n 0, 1) := by decide +kernel
theorem d_Mo_port_169 : decode c_Mo_port 169 = .ok (.getfield 164, 3) := by decide +kernel
theorem d_Mo_port_172 : decode c_Mo_port 172 = .ok (.iload_n 1, 1) := by decide +kernel
theorem d_Mo_port_173 : decode c_Mo_port 173 = .ok (.iaload, 1) := by decide +kernel
theorem d_Mo_port_174 : decode c_Mo_port 174 = .ok (.ireturn, 1) := by decide +kernel
theorem d_Mo_port_175 : decode c_Mo_port 175 = .ok (.aload_n 0, 1) := by decide +kernel
theorem d_Mo_port_176 : decode c_Mo_port 176 = .ok (.getfield 167, 3) := by decide +kernel
theorem d_Mo_port_179 : decode c_Mo_port 179 = .ok (.iload_n 1, 1) := by decide +kernel
theorem d_Mo_port_180 : decode c_Mo_port 180 = .ok (.iaload, 1) := by decide +kernel
theorem d_Mo_port_181 : decode c_Mo_port 181 = .ok (.ireturn, 1) := by decide +kernel
theorem d_Mo_port_182 : decode c_Mo_port 182 = .ok (.aload_n 0, 1) := by decide +kernel
theorem d_Mo_port_183 : decode c_Mo_port 183 = .ok (.getfield 155, 3) := by decide +kernel
theorem d_Mo_port_186 : decode c_Mo_port 186 = .ok (.iload_n 1, 1) := by decide +kernel
theorem d_Mo_port_187 : decode c_Mo_port 187 = .ok (.iaload, 1) := by decide +kernel
theorem d_Mo_port_188 : decode c_Mo_port 188 = .ok (.ireturn, 1) := by decide +kernel
theorem d_Mo_port_189 : decode c_Mo_port 189 = .ok (.bipush (-2), 2) := by decide +kernel
theorem d_Mo_port_191 : decode c_Mo_port 191 = .ok (.ireturn, 1) := by decide +kernel
theorem d_Mo_station_0 : decode c_Mo_station 0 = .ok (.iload_n 1, 1) := by decide +kernel
theorem d_Mo_station_1 : decode c_Mo_station 1 = .ok (.ifCond .lt 8, 3) := by decide +kernel
theorem d_Mo_station_4 : decode c_Mo_station 4 = .ok (.iload_n 1, 1) := by decide +kernel
theorem d_Mo_station_5 : decode c_Mo_station 5 = .ok (.iconst 3, 1) := by decide +kernel
theorem d_Mo_station_6 : decode c_Mo_station 6 = .ok (.if_icmp .le 6, 3) := by decide +kernel
theorem d_Mo_station_9 : decode c_Mo_station 9 = .ok (.bipush (-2), 2) := by decide +kernel
theorem d_Mo_station_11 : decode c_Mo_station 11 = .ok (.ireturn, 1) := by decide +kernel
theorem d_Mo_station_12 : decode c_Mo_station 12 = .ok (.iload_n 2, 1) := by decide +kernel
theorem d_Mo_station_13 : decode c_Mo_station 13 = .ok (.tableswitch 96 0 4 #[35, 42, 57, 82, 89], 35) := by decide +kernel
theorem d_Mo_station_48 : decode c_Mo_station 48 = .ok (.aload_n 0, 1) := by decide +kernel
theorem d_Mo_station_49 : decode c_Mo_station 49 = .ok (.getfield 59, 3) := by decide +kernel
theorem d_Mo_station_52 : decode c_Mo_station 52 = .ok (.iload_n 1, 1) := by decide +kernel
theorem d_Mo_station_53 : decode c_Mo_station 53 = .ok (.iaload, 1) := by decide +kernel
theorem d_Mo_station_54 : decode c_Mo_station 54 = .ok (.ireturn, 1) := by decide +kernel
theorem d_Mo_station_55 : decode c_Mo_station 55 = .ok (.aload_n 0, 1) := by decide +kernel
theorem d_Mo_station_56 : decode c_Mo_station 56 = .ok (.getfield 56, 3) := by decide +kernel
theorem d_Mo_station_59 : decode c_Mo_station 59 = .ok (.iload_n 1, 1) := by decide +kernel
theorem d_Mo_station_60 : decode c_Mo_station 60 = .ok (.baload, 1) := by decide +kernel
theorem d_Mo_station_61 : decode c_Mo_station 61 = .ok (.ifCond .eq 7, 3) := by decide +kernel
theorem d_Mo_station_64 : decode c_Mo_station 64 = .ok (.iconst 1, 1) := by decide +kernel
theorem d_Mo_station_65 : decode c_Mo_station 65 = .ok (.goto 4, 3) := by decide +kernel
theorem d_Mo_station_68 : decode c_Mo_station 68 = .ok (.iconst 0, 1) := by decide +kernel
theorem d_Mo_station_69 : decode c_Mo_station 69 = .ok (.ireturn, 1) := by decide +kernel
theorem d_Mo_station_70 : decode c_Mo_station 70 = .ok (.aload_n 0, 1) := by decide +kernel
theorem d_Mo_station_71 : decode c_Mo_station 71 = .ok (.getfield 50, 3) := by decide +kernel
theorem d_Mo_station_74 : decode c_Mo_station 74 = .ok (.iload_n 1, 1) := by decide +kernel
theorem d_Mo_station_75 : decode c_Mo_station 75 = .ok (.iaload, 1) := by decide +kernel
theorem d_Mo_station_76 : decode c_Mo_station 76 = .ok (.ifCond .ne 7, 3) := by decide +kernel
theorem d_Mo_station_79 : decode c_Mo_station 79 = .ok (.iconst (-1), 1) := by decide +kernel
theorem d_Mo_station_80 : decode c_Mo_station 80 = .ok (.goto 14, 3) := by decide +kernel
theorem d_Mo_station_83 : decode c_Mo_station 83 = .ok (.aload_n 0, 1) := by decide +kernel
theorem d_Mo_station_84 : decode c_Mo_station 84 = .ok (.getfield 53, 3) := by decide +kernel
theorem d_Mo_station_87 : decode c_Mo_station 87 = .ok (.bipush 20, 2) := by decide +kernel
theorem d_Mo_station_89 : decode c_Mo_station 89 = .ok (.iload_n 1, 1) := by decide +kernel
theorem d_Mo_station_90 : decode c_Mo_station 90 = .ok (.imul, 1) := by decide +kernel
theorem d_Mo_station_91 : decode c_Mo_station 91 = .ok (.iconst 1, 1) := by decide +kernel
theorem d_Mo_station_92 : decode c_Mo_station 92 = .ok (.iadd, 1) := by decide +kernel
theorem d_Mo_station_93 : decode c_Mo_station 93 = .ok (.iaload, 1) := by decide +kernel
theorem d_Mo_station_94 : decode c_Mo_station 94 = .ok (.ireturn, 1) := by decide +kernel
theorem d_Mo_station_95 : decode c_Mo_station 95 = .ok (.aload_n 0, 1) := by decide +kernel
theorem d_Mo_station_96 : decode c_Mo_station 96 = .ok (.getfield 41, 3) := by decide +kernel
theorem d_Mo_station_99 : decode c_Mo_station 99 = .ok (.iload_n 1, 1) := by decide +kernel
theorem d_Mo_station_100 : decode c_Mo_station 100 = .ok (.iaload, 1) := by decide +kernel
theorem d_Mo_station_101 : decode c_Mo_station 101 = .ok (.ireturn, 1) := by decide +kernel
theorem d_Mo_station_102 : decode c_Mo_station 102 = .ok (.aload_n 0, 1) := by decide +kernel
theorem d_Mo_station_103 : decode c_Mo_station 103 = .ok (.getfield 71, 3) := by decide +kernel
theorem d_Mo_station_106 : decode c_Mo_station 106 = .ok (.iload_n 1, 1) := by decide +kernel
theorem d_Mo_station_107 : decode c_Mo_station 107 = .ok (.iaload, 1) := by decide +kernel
theorem d_Mo_station_108 : decode c_Mo_station 108 = .ok (.ireturn, 1) := by decide +kernel
theorem d_Mo_station_109 : decode c_Mo_station 109 = .ok (.bipush (-2), 2) := by decide +kernel
theorem d_Mo_station_111 : decode c_Mo_station 111 = .ok (.ireturn, 1) := by decide +kernel
theorem d_Mo_server_0 : decode c_Mo_server 0 = .ok (.iload_n 1, 1) := by decide +kernel
theorem d_Mo_server_1 : decode c_Mo_server 1 = .ok (.ifCond .lt 8, 3) := by decide +kernel
theorem d_Mo_server_4 : decode c_Mo_server 4 = .ok (.iload_n 1, 1) := by decide +kernel
theorem d_Mo_server_5 : decode c_Mo_server 5 = .ok (.iconst 1, 1) := by decide +kernel
theorem d_Mo_server_6 : decode c_Mo_server 6 = .ok (.if_icmp .le 6, 3) := by decide +kernel
theorem d_Mo_server_9 : decode c_Mo_server 9 = .ok (.bipush (-2), 2) := by decide +kernel
theorem d_Mo_server_11 : decode c_Mo_server 11 = .ok (.ireturn, 1) := by decide +kernel
theorem d_Mo_server_12 : decode c_Mo_server 12 = .ok (.iload_n 2, 1) := by decide +kernel
theorem d_Mo_server_13 : decode c_Mo_server 13 = .ok (.tableswitch 67 0 3 #[31, 46, 53, 60], 31) := by decide +kernel
theorem d_Mo_server_44 : decode c_Mo_server 44 = .ok (.aload_n 0, 1) := by decide +kernel
theorem d_Mo_server_45 : decode c_Mo_server 45 = .ok (.getfield 74, 3) := by decide +kernel
theorem d_Mo_server_48 : decode c_Mo_server 48 = .ok (.iload_n 1, 1) := by decide +kernel
theorem d_Mo_server_49 : decode c_Mo_server 49 = .ok (.baload, 1) := by decide +kernel
theorem d_Mo_server_50 : decode c_Mo_server 50 = .ok (.ifCond .eq 7, 3) := by decide +kernel
theorem d_Mo_server_53 : decode c_Mo_server 53 = .ok (.iconst 0, 1) := by decide +kernel
theorem d_Mo_server_54 : decode c_Mo_server 54 = .ok (.goto 4, 3) := by decide +kernel
theorem d_Mo_server_57 : decode c_Mo_server 57 = .ok (.iconst 1, 1) := by decide +kernel
theorem d_Mo_server_58 : decode c_Mo_server 58 = .ok (.ireturn, 1) := by decide +kernel
theorem d_Mo_server_59 : decode c_Mo_server 59 = .ok (.aload_n 0, 1) := by decide +kernel
theorem d_Mo_server_60 : decode c_Mo_server 60 = .ok (.getfield 83, 3) := by decide +kernel
theorem d_Mo_server_63 : decode c_Mo_server 63 = .ok (.iload_n 1, 1) := by decide +kernel
theorem d_Mo_server_64 : decode c_Mo_server 64 = .ok (.iaload, 1) := by decide +kernel
theorem d_Mo_server_65 : decode c_Mo_server 65 = .ok (.ireturn, 1) := by decide +kernel
theorem d_Mo_server_66 : decode c_Mo_server 66 = .ok (.aload_n 0, 1) := by decide +kernel
theorem d_Mo_server_67 : decode c_Mo_server 67 = .ok (.getfield 77, 3) := by decide +kernel
theorem d_Mo_server_70 : decode c_Mo_server 70 = .ok (.iload_n 1, 1) := by decide +kernel
theorem d_Mo_server_71 : decode c_Mo_server 71 = .ok (.iaload, 1) := by decide +kernel
theorem d_Mo_server_72 : decode c_Mo_server 72 = .ok (.ireturn, 1) := by decide +kernel
theorem d_Mo_server_73 : decode c_Mo_server 73 = .ok (.aload_n 0, 1) := by decide +kernel
theorem d_Mo_server_74 : decode c_Mo_server 74 = .ok (.getfield 80, 3) := by decide +kernel
theorem d_Mo_server_77 : decode c_Mo_server 77 = .ok (.iload_n 1, 1) := by decide +kernel
theorem d_Mo_server_78 : decode c_Mo_server 78 = .ok (.iaload, 1) := by decide +kernel
theorem d_Mo_server_79 : decode c_Mo_server 79 = .ok (.ireturn, 1) := by decide +kernel
theorem d_Mo_server_80 : decode c_Mo_server 80 = .ok (.bipush (-2), 2) := by decide +kernel
theorem d_Mo_server_82 : decode c_Mo_server 82 = .ok (.ireturn, 1) := by decide +kernel
theorem d_Mo_wrong_0 : decode c_Mo_wrong 0 = .ok (.iload_n 1, 1) := by decide +kernel
theorem d_Mo_wrong_1 : decode c_Mo_wrong 1 = .ok (.ifCond .lt 8, 3) := by decide +kernel
theorem d_Mo_wrong_4 : decode c_Mo_wrong 4 = .ok (.iload_n 1, 1) := by decide +kernel
theorem d_Mo_wrong_5 : decode c_Mo_wrong 5 = .ok (.iconst 2, 1) := by decide +kernel
theorem d_Mo_wrong_6 : decode c_Mo_wrong 6 = .ok (.if_icmp .le 7, 3) := by decide +kernel
theorem d_Mo_wrong_9 : decode c_Mo_wrong 9 = .ok (.iconst (-1), 1) := by decide +kernel
theorem d_Mo_wrong_10 : decode c_Mo_wrong 10 = .ok (.goto 9, 3) := by decide +kernel
theorem d_Mo_wrong_13 : decode c_Mo_wrong 13 = .ok (.aload_n 0, 1) := by decide +kernel
theorem d_Mo_wrong_14 : decode c_Mo_wrong 14 = .ok (.getfield 188, 3) := by decide +kernel
theorem d_Mo_wrong_17 : decode c_Mo_wrong 17 = .ok (.iload_n 1, 1) := by decide +kernel
theorem d_Mo_wrong_18 : decode c_Mo_wrong 18 = .ok (.iaload, 1) := by decide +kernel
theorem d_Mo_wrong_19 : decode c_Mo_wrong 19 = .ok (.ireturn, 1) := by decide +kernel
theorem d_Mo_learned_0 : decode c_Mo_learned 0 = .ok (.iload_n 1, 1) := by decide +kernel
theorem d_Mo_learned_1 : decode c_Mo_learned 1 = .ok (.ifCond .lt 9, 3) := by decide +kernel
theorem d_Mo_learned_4 : decode c_Mo_learned 4 = .ok (.iload_n 1, 1) := by decide +kernel
theorem d_Mo_learned_5 : decode c_Mo_learned 5 = .ok (.bipush 7, 2) := by decide +kernel
theorem d_Mo_learned_7 : decode c_Mo_learned 7 = .ok (.if_icmp .le 7, 3) := by decide +kernel
theorem d_Mo_learned_10 : decode c_Mo_learned 10 = .ok (.iconst (-1), 1) := by decide +kernel
theorem d_Mo_learned_11 : decode c_Mo_learned 11 = .ok (.goto 9, 3) := by decide +kernel
theorem d_Mo_learned_14 : decode c_Mo_learned 14 = .ok (.aload_n 0, 1) := by decide +kernel
theorem d_Mo_learned_15 : decode c_Mo_learned 15 = .ok (.getfield 191, 3) := by decide +kernel
theorem d_Mo_learned_18 : decode c_Mo_learned 18 = .ok (.iload_n 1, 1) := by decide +kernel
theorem d_Mo_learned_19 : decode c_Mo_learned 19 = .ok (.iaload, 1) := by decide +kernel
theorem d_Mo_learned_20 : decode c_Mo_learned 20 = .ok (.ireturn, 1) := by decide +kernel
theorem d_Mo_favourite_0 : decode c_Mo_favourite 0 = .ok (.aload_n 0, 1) := by decide +kernel
theorem d_Mo_favourite_1 : decode c_Mo_favourite 1 = .ok (.getfield 366, 3) := by decide +kernel
theorem d_Mo_favourite_4 : decode c_Mo_favourite 4 = .ok (.ireturn, 1) := by decide +kernel

theorem d_Di_addByte_0 : decode c_Di_addByte 0 = .ok (.iload_n 0, 1) := by decide +kernel
theorem d_Di_addByte_1 : decode c_Di_addByte 1 = .ok (.iload_n 1, 1) := by decide +kernel
theorem d_Di_addByte_2 : decode c_Di_addByte 2 = .ok (.sipush 255, 3) := by decide +kernel
theorem d_Di_addByte_5 : decode c_Di_addByte 5 = .ok (.iand, 1) := by decide +kernel
theorem d_Di_addByte_6 : decode c_Di_addByte 6 = .ok (.ixor, 1) := by decide +kernel
theorem d_Di_addByte_7 : decode c_Di_addByte 7 = .ok (.ldc 9, 2) := by decide +kernel
theorem d_Di_addByte_9 : decode c_Di_addByte 9 = .ok (.imul, 1) := by decide +kernel
theorem d_Di_addByte_10 : decode c_Di_addByte 10 = .ok (.ireturn, 1) := by decide +kernel
theorem d_Di_addInt_0 : decode c_Di_addInt 0 = .ok (.iload_n 0, 1) := by decide +kernel
theorem d_Di_addInt_1 : decode c_Di_addInt 1 = .ok (.istore_n 2, 1) := by decide +kernel
theorem d_Di_addInt_2 : decode c_Di_addInt 2 = .ok (.bipush 24, 2) := by decide +kernel
theorem d_Di_addInt_4 : decode c_Di_addInt 4 = .ok (.istore_n 3, 1) := by decide +kernel
theorem d_Di_addInt_5 : decode c_Di_addInt 5 = .ok (.iload_n 3, 1) := by decide +kernel
theorem d_Di_addInt_6 : decode c_Di_addInt 6 = .ok (.ifCond .lt 22, 3) := by decide +kernel
theorem d_Di_addInt_9 : decode c_Di_addInt 9 = .ok (.iload_n 2, 1) := by decide +kernel
theorem d_Di_addInt_10 : decode c_Di_addInt 10 = .ok (.iload_n 1, 1) := by decide +kernel
theorem d_Di_addInt_11 : decode c_Di_addInt 11 = .ok (.iload_n 3, 1) := by decide +kernel
theorem d_Di_addInt_12 : decode c_Di_addInt 12 = .ok (.iushr, 1) := by decide +kernel
theorem d_Di_addInt_13 : decode c_Di_addInt 13 = .ok (.sipush 255, 3) := by decide +kernel
theorem d_Di_addInt_16 : decode c_Di_addInt 16 = .ok (.iand, 1) := by decide +kernel
theorem d_Di_addInt_17 : decode c_Di_addInt 17 = .ok (.ixor, 1) := by decide +kernel
theorem d_Di_addInt_18 : decode c_Di_addInt 18 = .ok (.ldc 9, 2) := by decide +kernel
theorem d_Di_addInt_20 : decode c_Di_addInt 20 = .ok (.imul, 1) := by decide +kernel
theorem d_Di_addInt_21 : decode c_Di_addInt 21 = .ok (.istore_n 2, 1) := by decide +kernel
theorem d_Di_addInt_22 : decode c_Di_addInt 22 = .ok (.iinc 3 (-8), 3) := by decide +kernel
theorem d_Di_addInt_25 : decode c_Di_addInt 25 = .ok (.goto (-20), 3) := by decide +kernel
theorem d_Di_addInt_28 : decode c_Di_addInt 28 = .ok (.iload_n 2, 1) := by decide +kernel
theorem d_Di_addInt_29 : decode c_Di_addInt 29 = .ok (.ireturn, 1) := by decide +kernel
theorem d_Di_addRow_0 : decode c_Di_addRow 0 = .ok (.iload_n 0, 1) := by decide +kernel
theorem d_Di_addRow_1 : decode c_Di_addRow 1 = .ok (.istore_n 2, 1) := by decide +kernel
theorem d_Di_addRow_2 : decode c_Di_addRow 2 = .ok (.iconst 0, 1) := by decide +kernel
theorem d_Di_addRow_3 : decode c_Di_addRow 3 = .ok (.istore_n 3, 1) := by decide +kernel
theorem d_Di_addRow_4 : decode c_Di_addRow 4 = .ok (.iload_n 3, 1) := by decide +kernel
theorem d_Di_addRow_5 : decode c_Di_addRow 5 = .ok (.aload_n 1, 1) := by decide +kernel
theorem d_Di_addRow_6 : decode c_Di_addRow 6 = .ok (.getfield 10, 3) := by decide +kernel
theorem d_Di_addRow_9 : decode c_Di_addRow 9 = .ok (.if_icmp .ge 21, 3) := by decide +kernel
theorem d_Di_addRow_12 : decode c_Di_addRow 12 = .ok (.iload_n 2, 1) := by decide +kernel
theorem d_Di_addRow_13 : decode c_Di_addRow 13 = .ok (.aload_n 1, 1) := by decide +kernel
theorem d_Di_addRow_14 : decode c_Di_addRow 14 = .ok (.getfield 16, 3) := by decide +kernel
theorem d_Di_addRow_17 : decode c_Di_addRow 17 = .ok (.iload_n 3, 1) := by decide +kernel
theorem d_Di_addRow_18 : decode c_Di_addRow 18 = .ok (.iaload, 1) := by decide +kernel
theorem d_Di_addRow_19 : decode c_Di_addRow 19 = .ok (.ixor, 1) := by decide +kernel
theorem d_Di_addRow_20 : decode c_Di_addRow 20 = .ok (.ldc 9, 2) := by decide +kernel
theorem d_Di_addRow_22 : decode c_Di_addRow 22 = .ok (.imul, 1) := by decide +kernel
theorem d_Di_addRow_23 : decode c_Di_addRow 23 = .ok (.istore_n 2, 1) := by decide +kernel
theorem d_Di_addRow_24 : decode c_Di_addRow 24 = .ok (.iinc 3 1, 3) := by decide +kernel
theorem d_Di_addRow_27 : decode c_Di_addRow 27 = .ok (.goto (-23), 3) := by decide +kernel
theorem d_Di_addRow_30 : decode c_Di_addRow 30 = .ok (.iload_n 2, 1) := by decide +kernel
theorem d_Di_addRow_31 : decode c_Di_addRow 31 = .ok (.ireturn, 1) := by decide +kernel
theorem d_Di_end_0 : decode c_Di_end 0 = .ok (.iload_n 0, 1) := by decide +kernel
theorem d_Di_end_1 : decode c_Di_end 1 = .ok (.iload_n 0, 1) := by decide +kernel
theorem d_Di_end_2 : decode c_Di_end 2 = .ok (.bipush 15, 2) := by decide +kernel
theorem d_Di_end_4 : decode c_Di_end 4 = .ok (.iushr, 1) := by decide +kernel
theorem d_Di_end_5 : decode c_Di_end 5 = .ok (.ixor, 1) := by decide +kernel
theorem d_Di_end_6 : decode c_Di_end 6 = .ok (.ireturn, 1) := by decide +kernel
theorem d_Di_macOfRow_0 : decode c_Di_macOfRow 0 = .ok (.ldc 20, 2) := by decide +kernel
theorem d_Di_macOfRow_2 : decode c_Di_macOfRow 2 = .ok (.iload_n 0, 1) := by decide +kernel
theorem d_Di_macOfRow_3 : decode c_Di_macOfRow 3 = .ok (.invokestatic 21, 3) := by decide +kernel
theorem d_Di_macOfRow_6 : decode c_Di_macOfRow 6 = .ok (.bipush 54, 2) := by decide +kernel
theorem d_Di_macOfRow_8 : decode c_Di_macOfRow 8 = .ok (.invokestatic 25, 3) := by decide +kernel
theorem d_Di_macOfRow_11 : decode c_Di_macOfRow 11 = .ok (.aload_n 1, 1) := by decide +kernel
theorem d_Di_macOfRow_12 : decode c_Di_macOfRow 12 = .ok (.invokestatic 28, 3) := by decide +kernel
theorem d_Di_macOfRow_15 : decode c_Di_macOfRow 15 = .ok (.invokestatic 32, 3) := by decide +kernel
theorem d_Di_macOfRow_18 : decode c_Di_macOfRow 18 = .ok (.istore_n 2, 1) := by decide +kernel
theorem d_Di_macOfRow_19 : decode c_Di_macOfRow 19 = .ok (.ldc 20, 2) := by decide +kernel
theorem d_Di_macOfRow_21 : decode c_Di_macOfRow 21 = .ok (.iload_n 0, 1) := by decide +kernel
theorem d_Di_macOfRow_22 : decode c_Di_macOfRow 22 = .ok (.invokestatic 21, 3) := by decide +kernel
theorem d_Di_macOfRow_25 : decode c_Di_macOfRow 25 = .ok (.bipush 92, 2) := by decide +kernel
theorem d_Di_macOfRow_27 : decode c_Di_macOfRow 27 = .ok (.invokestatic 25, 3) := by decide +kernel
theorem d_Di_macOfRow_30 : decode c_Di_macOfRow 30 = .ok (.iload_n 2, 1) := by decide +kernel
theorem d_Di_macOfRow_31 : decode c_Di_macOfRow 31 = .ok (.invokestatic 21, 3) := by decide +kernel
theorem d_Di_macOfRow_34 : decode c_Di_macOfRow 34 = .ok (.invokestatic 32, 3) := by decide +kernel
theorem d_Di_macOfRow_37 : decode c_Di_macOfRow 37 = .ok (.ireturn, 1) := by decide +kernel
theorem d_Di_macOfProof_0 : decode c_Di_macOfProof 0 = .ok (.ldc 20, 2) := by decide +kernel
theorem d_Di_macOfProof_2 : decode c_Di_macOfProof 2 = .ok (.iload_n 0, 1) := by decide +kernel
theorem d_Di_macOfProof_3 : decode c_Di_macOfProof 3 = .ok (.invokestatic 21, 3) := by decide +kernel
theorem d_Di_macOfProof_6 : decode c_Di_macOfProof 6 = .ok (.bipush 54, 2) := by decide +kernel
theorem d_Di_macOfProof_8 : decode c_Di_macOfProof 8 = .ok (.invokestatic 25, 3) := by decide +kernel
theorem d_Di_macOfProof_11 : decode c_Di_macOfProof 11 = .ok (.iload_n 1, 1) := by decide +kernel
theorem d_Di_macOfProof_12 : decode c_Di_macOfProof 12 = .ok (.invokestatic 25, 3) := by decide +kernel
theorem d_Di_macOfProof_15 : decode c_Di_macOfProof 15 = .ok (.istore 4, 2) := by decide +kernel
theorem d_Di_macOfProof_17 : decode c_Di_macOfProof 17 = .ok (.iload 4, 2) := by decide +kernel
theorem d_Di_macOfProof_19 : decode c_Di_macOfProof 19 = .ok (.iload_n 2, 1) := by decide +kernel
theorem d_Di_macOfProof_20 : decode c_Di_macOfProof 20 = .ok (.invokestatic 21, 3) := by decide +kernel
theorem d_Di_macOfProof_23 : decode c_Di_macOfProof 23 = .ok (.iload_n 3, 1) := by decide +kernel
theorem d_Di_macOfProof_24 : decode c_Di_macOfProof 24 = .ok (.invokestatic 21, 3) := by decide +kernel
theorem d_Di_macOfProof_27 : decode c_Di_macOfProof 27 = .ok (.invokestatic 32, 3) := by decide +kernel
theorem d_Di_macOfProof_30 : decode c_Di_macOfProof 30 = .ok (.istore 5, 2) := by decide +kernel
theorem d_Di_macOfProof_32 : decode c_Di_macOfProof 32 = .ok (.ldc 20, 2) := by decide +kernel
theorem d_Di_macOfProof_34 : decode c_Di_macOfProof 34 = .ok (.iload_n 0, 1) := by decide +kernel
theorem d_Di_macOfProof_35 : decode c_Di_macOfProof 35 = .ok (.invokestatic 21, 3) := by decide +kernel
theorem d_Di_macOfProof_38 : decode c_Di_macOfProof 38 = .ok (.bipush 92, 2) := by decide +kernel
theorem d_Di_macOfProof_40 : decode c_Di_macOfProof 40 = .ok (.invokestatic 25, 3) := by decide +kernel
theorem d_Di_macOfProof_43 : decode c_Di_macOfProof 43 = .ok (.iload 5, 2) := by decide +kernel
theorem d_Di_macOfProof_45 : decode c_Di_macOfProof 45 = .ok (.invokestatic 21, 3) := by decide +kernel
theorem d_Di_macOfProof_48 : decode c_Di_macOfProof 48 = .ok (.invokestatic 32, 3) := by decide +kernel
theorem d_Di_macOfProof_51 : decode c_Di_macOfProof 51 = .ok (.ireturn, 1) := by decide +kernel
theorem d_Di_hashOfInts_0 : decode c_Di_hashOfInts 0 = .ok (.ldc 20, 2) := by decide +kernel
theorem d_Di_hashOfInts_2 : decode c_Di_hashOfInts 2 = .ok (.iload_n 0, 1) := by decide +kernel
theorem d_Di_hashOfInts_3 : decode c_Di_hashOfInts 3 = .ok (.invokestatic 21, 3) := by decide +kernel
theorem d_Di_hashOfInts_6 : decode c_Di_hashOfInts 6 = .ok (.iload_n 1, 1) := by decide +kernel
theorem d_Di_hashOfInts_7 : decode c_Di_hashOfInts 7 = .ok (.invokestatic 21, 3) := by decide +kernel
theorem d_Di_hashOfInts_10 : decode c_Di_hashOfInts 10 = .ok (.invokestatic 32, 3) := by decide +kernel
theorem d_Di_hashOfInts_13 : decode c_Di_hashOfInts 13 = .ok (.ireturn, 1) := by decide +kernel
theorem d_Di_hashOfRow_0 : decode c_Di_hashOfRow 0 = .ok (.ldc 20, 2) := by decide +kernel
theorem d_Di_hashOfRow_2 : decode c_Di_hashOfRow 2 = .ok (.aload_n 0, 1) := by decide +kernel
theorem d_Di_hashOfRow_3 : decode c_Di_hashOfRow 3 = .ok (.invokestatic 28, 3) := by decide +kernel
theorem d_Di_hashOfRow_6 : decode c_Di_hashOfRow 6 = .ok (.iload_n 1, 1) := by decide +kernel
theorem d_Di_hashOfRow_7 : decode c_Di_hashOfRow 7 = .ok (.invokestatic 21, 3) := by decide +kernel
theorem d_Di_hashOfRow_10 : decode c_Di_hashOfRow 10 = .ok (.invokestatic 32, 3) := by decide +kernel
theorem d_Di_hashOfRow_13 : decode c_Di_hashOfRow 13 = .ok (.ireturn, 1) := by decide +kernel
theorem d_Di_random_0 : decode c_Di_random 0 = .ok (.ldc 20, 2) := by decide +kernel
theorem d_Di_random_2 : decode c_Di_random 2 = .ok (.iload_n 0, 1) := by decide +kernel
theorem d_Di_random_3 : decode c_Di_random 3 = .ok (.invokestatic 21, 3) := by decide +kernel
theorem d_Di_random_6 : decode c_Di_random 6 = .ok (.iload_n 1, 1) := by decide +kernel
theorem d_Di_random_7 : decode c_Di_random 7 = .ok (.invokestatic 25, 3) := by decide +kernel
theorem d_Di_random_10 : decode c_Di_random 10 = .ok (.iload_n 2, 1) := by decide +kernel
theorem d_Di_random_11 : decode c_Di_random 11 = .ok (.invokestatic 21, 3) := by decide +kernel
theorem d_Di_random_14 : decode c_Di_random 14 = .ok (.invokestatic 32, 3) := by decide +kernel
theorem d_Di_random_17 : decode c_Di_random 17 = .ok (.ireturn, 1) := by decide +kernel
theorem d_Di_challengeResponse_0 : decode c_Di_challengeResponse 0 = .ok (.ldc 20, 2) := by decide +kernel
theorem d_Di_challengeResponse_2 : decode c_Di_challengeResponse 2 = .ok (.iload_n 0, 1) := by decide +kernel
theorem d_Di_challengeResponse_3 : decode c_Di_challengeResponse 3 = .ok (.invokestatic 25, 3) := by decide +kernel
theorem d_Di_challengeResponse_6 : decode c_Di_challengeResponse 6 = .ok (.iload_n 1, 1) := by decide +kernel
theorem d_Di_challengeResponse_7 : decode c_Di_challengeResponse 7 = .ok (.invokestatic 21, 3) := by decide +kernel
theorem d_Di_challengeResponse_10 : decode c_Di_challengeResponse 10 = .ok (.iload_n 2, 1) := by decide +kernel
theorem d_Di_challengeResponse_11 : decode c_Di_challengeResponse 11 = .ok (.invokestatic 21, 3) := by decide +kernel
theorem d_Di_challengeResponse_14 : decode c_Di_challengeResponse 14 = .ok (.invokestatic 32, 3) := by decide +kernel
theorem d_Di_challengeResponse_17 : decode c_Di_challengeResponse 17 = .ok (.ireturn, 1) := by decide +kernel

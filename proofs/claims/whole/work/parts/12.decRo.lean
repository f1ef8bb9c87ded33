theorem d_Ro_clear_0 : decode c_Ro_clear 0 = .ok (.aload_n 0, 1) := by decide +kernel
theorem d_Ro_clear_1 : decode c_Ro_clear 1 = .ok (.iconst 0, 1) := by decide +kernel
theorem d_Ro_clear_2 : decode c_Ro_clear 2 = .ok (.putfield 15, 3) := by decide +kernel
theorem d_Ro_clear_5 : decode c_Ro_clear 5 = .ok (.return_, 1) := by decide +kernel
theorem d_Ro_put_0 : decode c_Ro_put 0 = .ok (.aload_n 0, 1) := by decide +kernel
theorem d_Ro_put_1 : decode c_Ro_put 1 = .ok (.getfield 15, 3) := by decide +kernel
theorem d_Ro_put_4 : decode c_Ro_put 4 = .ok (.bipush 48, 2) := by decide +kernel
theorem d_Ro_put_6 : decode c_Ro_put 6 = .ok (.if_icmp .ge 27, 3) := by decide +kernel
theorem d_Ro_put_9 : decode c_Ro_put 9 = .ok (.aload_n 0, 1) := by decide +kernel
theorem d_Ro_put_10 : decode c_Ro_put 10 = .ok (.getfield 9, 3) := by decide +kernel
theorem d_Ro_put_13 : decode c_Ro_put 13 = .ok (.aload_n 0, 1) := by decide +kernel
theorem d_Ro_put_14 : decode c_Ro_put 14 = .ok (.getfield 15, 3) := by decide +kernel
theorem d_Ro_put_17 : decode c_Ro_put 17 = .ok (.iload_n 1, 1) := by decide +kernel
theorem d_Ro_put_18 : decode c_Ro_put 18 = .ok (.sipush 255, 3) := by decide +kernel
theorem d_Ro_put_21 : decode c_Ro_put 21 = .ok (.iand, 1) := by decide +kernel
theorem d_Ro_put_22 : decode c_Ro_put 22 = .ok (.iastore, 1) := by decide +kernel
theorem d_Ro_put_23 : decode c_Ro_put 23 = .ok (.aload_n 0, 1) := by decide +kernel
theorem d_Ro_put_24 : decode c_Ro_put 24 = .ok (.dup, 1) := by decide +kernel
theorem d_Ro_put_25 : decode c_Ro_put 25 = .ok (.getfield 15, 3) := by decide +kernel
theorem d_Ro_put_28 : decode c_Ro_put 28 = .ok (.iconst 1, 1) := by decide +kernel
theorem d_Ro_put_29 : decode c_Ro_put 29 = .ok (.iadd, 1) := by decide +kernel
theorem d_Ro_put_30 : decode c_Ro_put 30 = .ok (.putfield 15, 3) := by decide +kernel
theorem d_Ro_put_33 : decode c_Ro_put 33 = .ok (.return_, 1) := by decide +kernel
theorem d_Ro_putInt_0 : decode c_Ro_putInt 0 = .ok (.aload_n 0, 1) := by decide +kernel
theorem d_Ro_putInt_1 : decode c_Ro_putInt 1 = .ok (.iload_n 1, 1) := by decide +kernel
theorem d_Ro_putInt_2 : decode c_Ro_putInt 2 = .ok (.bipush 24, 2) := by decide +kernel
theorem d_Ro_putInt_4 : decode c_Ro_putInt 4 = .ok (.iushr, 1) := by decide +kernel
theorem d_Ro_putInt_5 : decode c_Ro_putInt 5 = .ok (.invokevirtual 19, 3) := by decide +kernel
theorem d_Ro_putInt_8 : decode c_Ro_putInt 8 = .ok (.aload_n 0, 1) := by decide +kernel
theorem d_Ro_putInt_9 : decode c_Ro_putInt 9 = .ok (.iload_n 1, 1) := by decide +kernel
theorem d_Ro_putInt_10 : decode c_Ro_putInt 10 = .ok (.bipush 16, 2) := by decide +kernel
theorem d_Ro_putInt_12 : decode c_Ro_putInt 12 = .ok (.iushr, 1) := by decide +kernel
theorem d_Ro_putInt_13 : decode c_Ro_putInt 13 = .ok (.invokevirtual 19, 3) := by decide +kernel
theorem d_Ro_putInt_16 : decode c_Ro_putInt 16 = .ok (.aload_n 0, 1) := by decide +kernel
theorem d_Ro_putInt_17 : decode c_Ro_putInt 17 = .ok (.iload_n 1, 1) := by decide +kernel
theorem d_Ro_putInt_18 : decode c_Ro_putInt 18 = .ok (.bipush 8, 2) := by decide +kernel
theorem d_Ro_putInt_20 : decode c_Ro_putInt 20 = .ok (.iushr, 1) := by decide +kernel
theorem d_Ro_putInt_21 : decode c_Ro_putInt 21 = .ok (.invokevirtual 19, 3) := by decide +kernel
theorem d_Ro_putInt_24 : decode c_Ro_putInt 24 = .ok (.aload_n 0, 1) := by decide +kernel
theorem d_Ro_putInt_25 : decode c_Ro_putInt 25 = .ok (.iload_n 1, 1) := by decide +kernel
theorem d_Ro_putInt_26 : decode c_Ro_putInt 26 = .ok (.invokevirtual 19, 3) := by decide +kernel
theorem d_Ro_putInt_29 : decode c_Ro_putInt 29 = .ok (.return_, 1) := by decide +kernel
theorem d_Ro_at_0 : decode c_Ro_at 0 = .ok (.iload_n 1, 1) := by decide +kernel
theorem d_Ro_at_1 : decode c_Ro_at 1 = .ok (.ifCond .lt 20, 3) := by decide +kernel
theorem d_Ro_at_4 : decode c_Ro_at 4 = .ok (.iload_n 1, 1) := by decide +kernel
theorem d_Ro_at_5 : decode c_Ro_at 5 = .ok (.aload_n 0, 1) := by decide +kernel
theorem d_Ro_at_6 : decode c_Ro_at 6 = .ok (.getfield 15, 3) := by decide +kernel
theorem d_Ro_at_9 : decode c_Ro_at 9 = .ok (.if_icmp .ge 12, 3) := by decide +kernel
theorem d_Ro_at_12 : decode c_Ro_at 12 = .ok (.aload_n 0, 1) := by decide +kernel
theorem d_Ro_at_13 : decode c_Ro_at 13 = .ok (.getfield 9, 3) := by decide +kernel
theorem d_Ro_at_16 : decode c_Ro_at 16 = .ok (.iload_n 1, 1) := by decide +kernel
theorem d_Ro_at_17 : decode c_Ro_at 17 = .ok (.iaload, 1) := by decide +kernel
theorem d_Ro_at_18 : decode c_Ro_at 18 = .ok (.goto 4, 3) := by decide +kernel
theorem d_Ro_at_21 : decode c_Ro_at 21 = .ok (.iconst (-1), 1) := by decide +kernel
theorem d_Ro_at_22 : decode c_Ro_at 22 = .ok (.ireturn, 1) := by decide +kernel
theorem d_Ro_intAt_0 : decode c_Ro_intAt 0 = .ok (.iconst 0, 1) := by decide +kernel
theorem d_Ro_intAt_1 : decode c_Ro_intAt 1 = .ok (.istore_n 2, 1) := by decide +kernel
theorem d_Ro_intAt_2 : decode c_Ro_intAt 2 = .ok (.iconst 0, 1) := by decide +kernel
theorem d_Ro_intAt_3 : decode c_Ro_intAt 3 = .ok (.istore_n 3, 1) := by decide +kernel
theorem d_Ro_intAt_4 : decode c_Ro_intAt 4 = .ok (.iload_n 3, 1) := by decide +kernel
theorem d_Ro_intAt_5 : decode c_Ro_intAt 5 = .ok (.iconst 4, 1) := by decide +kernel
theorem d_Ro_intAt_6 : decode c_Ro_intAt 6 = .ok (.if_icmp .ge 26, 3) := by decide +kernel
theorem d_Ro_intAt_9 : decode c_Ro_intAt 9 = .ok (.iload_n 2, 1) := by decide +kernel
theorem d_Ro_intAt_10 : decode c_Ro_intAt 10 = .ok (.bipush 8, 2) := by decide +kernel
theorem d_Ro_intAt_12 : decode c_Ro_intAt 12 = .ok (.ishl, 1) := by decide +kernel
theorem d_Ro_intAt_13 : decode c_Ro_intAt 13 = .ok (.aload_n 0, 1) := by decide +kernel
theorem d_Ro_intAt_14 : decode c_Ro_intAt 14 = .ok (.iload_n 1, 1) := by decide +kernel
theorem d_Ro_intAt_15 : decode c_Ro_intAt 15 = .ok (.iload_n 3, 1) := by decide +kernel
theorem d_Ro_intAt_16 : decode c_Ro_intAt 16 = .ok (.iadd, 1) := by decide +kernel
theorem d_Ro_intAt_17 : decode c_Ro_intAt 17 = .ok (.invokevirtual 23, 3) := by decide +kernel
theorem d_Ro_intAt_20 : decode c_Ro_intAt 20 = .ok (.sipush 255, 3) := by decide +kernel
theorem d_Ro_intAt_23 : decode c_Ro_intAt 23 = .ok (.iand, 1) := by decide +kernel
theorem d_Ro_intAt_24 : decode c_Ro_intAt 24 = .ok (.ior, 1) := by decide +kernel
theorem d_Ro_intAt_25 : decode c_Ro_intAt 25 = .ok (.istore_n 2, 1) := by decide +kernel
theorem d_Ro_intAt_26 : decode c_Ro_intAt 26 = .ok (.iinc 3 1, 3) := by decide +kernel
theorem d_Ro_intAt_29 : decode c_Ro_intAt 29 = .ok (.goto (-25), 3) := by decide +kernel
theorem d_Ro_intAt_32 : decode c_Ro_intAt 32 = .ok (.iload_n 2, 1) := by decide +kernel
theorem d_Ro_intAt_33 : decode c_Ro_intAt 33 = .ok (.ireturn, 1) := by decide +kernel
theorem d_Ro_set_0 : decode c_Ro_set 0 = .ok (.iload_n 1, 1) := by decide +kernel
theorem d_Ro_set_1 : decode c_Ro_set 1 = .ok (.ifCond .lt 22, 3) := by decide +kernel
theorem d_Ro_set_4 : decode c_Ro_set 4 = .ok (.iload_n 1, 1) := by decide +kernel
theorem d_Ro_set_5 : decode c_Ro_set 5 = .ok (.aload_n 0, 1) := by decide +kernel
theorem d_Ro_set_6 : decode c_Ro_set 6 = .ok (.getfield 15, 3) := by decide +kernel
theorem d_Ro_set_9 : decode c_Ro_set 9 = .ok (.if_icmp .ge 14, 3) := by decide +kernel
theorem d_Ro_set_12 : decode c_Ro_set 12 = .ok (.aload_n 0, 1) := by decide +kernel
theorem d_Ro_set_13 : decode c_Ro_set 13 = .ok (.getfield 9, 3) := by decide +kernel
theorem d_Ro_set_16 : decode c_Ro_set 16 = .ok (.iload_n 1, 1) := by decide +kernel
theorem d_Ro_set_17 : decode c_Ro_set 17 = .ok (.iload_n 2, 1) := by decide +kernel
theorem d_Ro_set_18 : decode c_Ro_set 18 = .ok (.sipush 255, 3) := by decide +kernel
theorem d_Ro_set_21 : decode c_Ro_set 21 = .ok (.iand, 1) := by decide +kernel
theorem d_Ro_set_22 : decode c_Ro_set 22 = .ok (.iastore, 1) := by decide +kernel
theorem d_Ro_set_23 : decode c_Ro_set 23 = .ok (.return_, 1) := by decide +kernel
theorem d_Ro_setInt_0 : decode c_Ro_setInt 0 = .ok (.aload_n 0, 1) := by decide +kernel
theorem d_Ro_setInt_1 : decode c_Ro_setInt 1 = .ok (.iload_n 1, 1) := by decide +kernel
theorem d_Ro_setInt_2 : decode c_Ro_setInt 2 = .ok (.iload_n 2, 1) := by decide +kernel
theorem d_Ro_setInt_3 : decode c_Ro_setInt 3 = .ok (.bipush 24, 2) := by decide +kernel
theorem d_Ro_setInt_5 : decode c_Ro_setInt 5 = .ok (.iushr, 1) := by decide +kernel
theorem d_Ro_setInt_6 : decode c_Ro_setInt 6 = .ok (.invokevirtual 27, 3) := by decide +kernel
theorem d_Ro_setInt_9 : decode c_Ro_setInt 9 = .ok (.aload_n 0, 1) := by decide +kernel
theorem d_Ro_setInt_10 : decode c_Ro_setInt 10 = .ok (.iload_n 1, 1) := by decide +kernel
theorem d_Ro_setInt_11 : decode c_Ro_setInt 11 = .ok (.iconst 1, 1) := by decide +kernel
theorem d_Ro_setInt_12 : decode c_Ro_setInt 12 = .ok (.iadd, 1) := by decide +kernel
theorem d_Ro_setInt_13 : decode c_Ro_setInt 13 = .ok (.iload_n 2, 1) := by decide +kernel
theorem d_Ro_setInt_14 : decode c_Ro_setInt 14 = .ok (.bipush 16, 2) := by decide +kernel
theorem d_Ro_setInt_16 : decode c_Ro_setInt 16 = .ok (.iushr, 1) := by decide +kernel
theorem d_Ro_setInt_17 : decode c_Ro_setInt 17 = .ok (.invokevirtual 27, 3) := by decide +kernel
theorem d_Ro_setInt_20 : decode c_Ro_setInt 20 = .ok (.aload_n 0, 1) := by decide +kernel
theorem d_Ro_setInt_21 : decode c_Ro_setInt 21 = .ok (.iload_n 1, 1) := by decide +kernel
theorem d_Ro_setInt_22 : decode c_Ro_setInt 22 = .ok (.iconst 2, 1) := by decide +kernel
theorem d_Ro_setInt_23 : decode c_Ro_setInt 23 = .ok (.iadd, 1) := by decide +kernel
theorem d_Ro_setInt_24 : decode c_Ro_setInt 24 = .ok (.iload_n 2, 1) := by decide +kernel
theorem d_Ro_setInt_25 : decode c_Ro_setInt 25 = .ok (.bipush 8, 2) := by decide +kernel
theorem d_Ro_setInt_27 : decode c_Ro_setInt 27 = .ok (.iushr, 1) := by decide +kernel
theorem d_Ro_setInt_28 : decode c_Ro_setInt 28 = .ok (.invokevirtual 27, 3) := by decide +kernel
theorem d_Ro_setInt_31 : decode c_Ro_setInt 31 = .ok (.aload_n 0, 1) := by decide +kernel
theorem d_Ro_setInt_32 : decode c_Ro_setInt 32 = .ok (.iload_n 1, 1) := by decide +kernel
theorem d_Ro_setInt_33 : decode c_Ro_setInt 33 = .ok (.iconst 3, 1) := by decide +kernel
theorem d_Ro_setInt_34 : decode c_Ro_setInt 34 = .ok (.iadd, 1) := by decide +kernel
theorem d_Ro_setInt_35 : decode c_Ro_setInt 35 = .ok (.iload_n 2, 1) := by decide +kernel
theorem d_Ro_setInt_36 : decode c_Ro_setInt 36 = .ok (.invokevirtual 27, 3) := by decide +kernel
theorem d_Ro_setInt_39 : decode c_Ro_setInt 39 = .ok (.return_, 1) := by decide +kernel
theorem d_Ro_copy_0 : decode c_Ro_copy 0 = .ok (.aload_n 0, 1) := by decide +kernel
theorem d_Ro_copy_1 : decode c_Ro_copy 1 = .ok (.aload_n 1, 1) := by decide +kernel
theorem d_Ro_copy_2 : decode c_Ro_copy 2 = .ok (.getfield 15, 3) := by decide +kernel
theorem d_Ro_copy_5 : decode c_Ro_copy 5 = .ok (.putfield 15, 3) := by decide +kernel
theorem d_Ro_copy_8 : decode c_Ro_copy 8 = .ok (.aload_n 1, 1) := by decide +kernel
theorem d_Ro_copy_9 : decode c_Ro_copy 9 = .ok (.getfield 9, 3) := by decide +kernel
theorem d_Ro_copy_12 : decode c_Ro_copy 12 = .ok (.iconst 0, 1) := by decide +kernel
theorem d_Ro_copy_13 : decode c_Ro_copy 13 = .ok (.aload_n 0, 1) := by decide +kernel
theorem d_Ro_copy_14 : decode c_Ro_copy 14 = .ok (.getfield 9, 3) := by decide +kernel
theorem d_Ro_copy_17 : decode c_Ro_copy 17 = .ok (.iconst 0, 1) := by decide +kernel
theorem d_Ro_copy_18 : decode c_Ro_copy 18 = .ok (.aload_n 0, 1) := by decide +kernel
theorem d_Ro_copy_19 : decode c_Ro_copy 19 = .ok (.getfield 15, 3) := by decide +kernel
theorem d_Ro_copy_22 : decode c_Ro_copy 22 = .ok (.invokestatic 31, 3) := by decide +kernel
theorem d_Ro_copy_25 : decode c_Ro_copy 25 = .ok (.return_, 1) := by decide +kernel
theorem d_Ro_append_0 : decode c_Ro_append 0 = .ok (.iload_n 2, 1) := by decide +kernel
theorem d_Ro_append_1 : decode c_Ro_append 1 = .ok (.istore 4, 2) := by decide +kernel
theorem d_Ro_append_3 : decode c_Ro_append 3 = .ok (.iload 4, 2) := by decide +kernel
theorem d_Ro_append_5 : decode c_Ro_append 5 = .ok (.ifCond .lt 61, 3) := by decide +kernel
theorem d_Ro_append_8 : decode c_Ro_append 8 = .ok (.iload 4, 2) := by decide +kernel
theorem d_Ro_append_10 : decode c_Ro_append 10 = .ok (.iload_n 2, 1) := by decide +kernel
theorem d_Ro_append_11 : decode c_Ro_append 11 = .ok (.iload_n 3, 1) := by decide +kernel
theorem d_Ro_append_12 : decode c_Ro_append 12 = .ok (.iadd, 1) := by decide +kernel
theorem d_Ro_append_13 : decode c_Ro_append 13 = .ok (.if_icmp .ge 53, 3) := by decide +kernel
theorem d_Ro_append_16 : decode c_Ro_append 16 = .ok (.iload 4, 2) := by decide +kernel
theorem d_Ro_append_18 : decode c_Ro_append 18 = .ok (.aload_n 1, 1) := by decide +kernel
theorem d_Ro_append_19 : decode c_Ro_append 19 = .ok (.getfield 15, 3) := by decide +kernel
theorem d_Ro_append_22 : decode c_Ro_append 22 = .ok (.if_icmp .ge 44, 3) := by decide +kernel
theorem d_Ro_append_25 : decode c_Ro_append 25 = .ok (.aload_n 0, 1) := by decide +kernel
theorem d_Ro_append_26 : decode c_Ro_append 26 = .ok (.getfield 15, 3) := by decide +kernel
theorem d_Ro_append_29 : decode c_Ro_append 29 = .ok (.bipush 48, 2) := by decide +kernel
theorem d_Ro_append_31 : decode c_Ro_append 31 = .ok (.if_icmp .ge 35, 3) := by decide +kernel
theorem d_Ro_append_34 : decode c_Ro_append 34 = .ok (.aload_n 0, 1) := by decide +kernel
theorem d_Ro_append_35 : decode c_Ro_append 35 = .ok (.getfield 9, 3) := by decide +kernel
theorem d_Ro_append_38 : decode c_Ro_append 38 = .ok (.aload_n 0, 1) := by decide +kernel
theorem d_Ro_append_39 : decode c_Ro_append 39 = .ok (.getfield 15, 3) := by decide +kernel
theorem d_Ro_append_42 : decode c_Ro_append 42 = .ok (.aload_n 1, 1) := by decide +kernel
theorem d_Ro_append_43 : decode c_Ro_append 43 = .ok (.getfield 9, 3) := by decide +kernel
theorem d_Ro_append_46 : decode c_Ro_append 46 = .ok (.iload 4, 2) := by decide +kernel
theorem d_Ro_append_48 : decode c_Ro_append 48 = .ok (.iaload, 1) := by decide +kernel
theorem d_Ro_append_49 : decode c_Ro_append 49 = .ok (.iastore, 1) := by decide +kernel
theorem d_Ro_append_50 : decode c_Ro_append 50 = .ok (.aload_n 0, 1) := by decide +kernel
theorem d_Ro_append_51 : decode c_Ro_append 51 = .ok (.dup, 1) := by decide +kernel
theorem d_Ro_append_52 : decode c_Ro_append 52 = .ok (.getfield 15, 3) := by decide +kernel
theorem d_Ro_append_55 : decode c_Ro_append 55 = .ok (.iconst 1, 1) := by decide +kernel
theorem d_Ro_append_56 : decode c_Ro_append 56 = .ok (.iadd, 1) := by decide +kernel
theorem d_Ro_append_57 : decode c_Ro_append 57 = .ok (.putfield 15, 3) := by decide +kernel
theorem d_Ro_append_60 : decode c_Ro_append 60 = .ok (.iinc 4 1, 3) := by decide +kernel
theorem d_Ro_append_63 : decode c_Ro_append 63 = .ok (.goto (-60), 3) := by decide +kernel
theorem d_Ro_append_66 : decode c_Ro_append 66 = .ok (.return_, 1) := by decide +kernel

theorem d_Ma_has_0 : decode c_Ma_has 0 = .ok (.iload_n 1, 1) := by decide +kernel
theorem d_Ma_has_1 : decode c_Ma_has 1 = .ok (.ifCond .lt 15, 3) := by decide +kernel
theorem d_Ma_has_4 : decode c_Ma_has 4 = .ok (.iload_n 1, 1) := by decide +kernel
theorem d_Ma_has_5 : decode c_Ma_has 5 = .ok (.aload_n 0, 1) := by decide +kernel
theorem d_Ma_has_6 : decode c_Ma_has 6 = .ok (.getfield 29, 3) := by decide +kernel
theorem d_Ma_has_9 : decode c_Ma_has 9 = .ok (.if_icmp .ge 7, 3) := by decide +kernel
theorem d_Ma_has_12 : decode c_Ma_has 12 = .ok (.iconst 1, 1) := by decide +kernel
theorem d_Ma_has_13 : decode c_Ma_has 13 = .ok (.goto 4, 3) := by decide +kernel
theorem d_Ma_has_16 : decode c_Ma_has 16 = .ok (.iconst 0, 1) := by decide +kernel
theorem d_Ma_has_17 : decode c_Ma_has 17 = .ok (.ireturn, 1) := by decide +kernel
theorem d_Ma_send_0 : decode c_Ma_send 0 = .ok (.aload_n 0, 1) := by decide +kernel
theorem d_Ma_send_1 : decode c_Ma_send 1 = .ok (.iload_n 1, 1) := by decide +kernel
theorem d_Ma_send_2 : decode c_Ma_send 2 = .ok (.iload_n 2, 1) := by decide +kernel
theorem d_Ma_send_3 : decode c_Ma_send 3 = .ok (.invokevirtual 33, 3) := by decide +kernel
theorem d_Ma_send_6 : decode c_Ma_send 6 = .ok (.aload_n 3, 1) := by decide +kernel
theorem d_Ma_send_7 : decode c_Ma_send 7 = .ok (.invokevirtual 37, 3) := by decide +kernel
theorem d_Ma_send_10 : decode c_Ma_send 10 = .ok (.return_, 1) := by decide +kernel
theorem d_Ma_sendPacket_0 : decode c_Ma_sendPacket 0 = .ok (.aload_n 0, 1) := by decide +kernel
theorem d_Ma_sendPacket_1 : decode c_Ma_sendPacket 1 = .ok (.iload_n 1, 1) := by decide +kernel
theorem d_Ma_sendPacket_2 : decode c_Ma_sendPacket 2 = .ok (.iload_n 2, 1) := by decide +kernel
theorem d_Ma_sendPacket_3 : decode c_Ma_sendPacket 3 = .ok (.invokevirtual 33, 3) := by decide +kernel
theorem d_Ma_sendPacket_6 : decode c_Ma_sendPacket 6 = .ok (.astore 4, 2) := by decide +kernel
theorem d_Ma_sendPacket_8 : decode c_Ma_sendPacket 8 = .ok (.aload 4, 2) := by decide +kernel
theorem d_Ma_sendPacket_10 : decode c_Ma_sendPacket 10 = .ok (.invokevirtual 41, 3) := by decide +kernel
theorem d_Ma_sendPacket_13 : decode c_Ma_sendPacket 13 = .ok (.aload 4, 2) := by decide +kernel
theorem d_Ma_sendPacket_15 : decode c_Ma_sendPacket 15 = .ok (.iconst 0, 1) := by decide +kernel
theorem d_Ma_sendPacket_16 : decode c_Ma_sendPacket 16 = .ok (.invokevirtual 44, 3) := by decide +kernel
theorem d_Ma_sendPacket_19 : decode c_Ma_sendPacket 19 = .ok (.aload 4, 2) := by decide +kernel
theorem d_Ma_sendPacket_21 : decode c_Ma_sendPacket 21 = .ok (.aload_n 3, 1) := by decide +kernel
theorem d_Ma_sendPacket_22 : decode c_Ma_sendPacket 22 = .ok (.iconst 0, 1) := by decide +kernel
theorem d_Ma_sendPacket_23 : decode c_Ma_sendPacket 23 = .ok (.aload_n 3, 1) := by decide +kernel
theorem d_Ma_sendPacket_24 : decode c_Ma_sendPacket 24 = .ok (.getfield 48, 3) := by decide +kernel
theorem d_Ma_sendPacket_27 : decode c_Ma_sendPacket 27 = .ok (.invokevirtual 53, 3) := by decide +kernel
theorem d_Ma_sendPacket_30 : decode c_Ma_sendPacket 30 = .ok (.return_, 1) := by decide +kernel
theorem d_Ma_sendByte_0 : decode c_Ma_sendByte 0 = .ok (.aload_n 0, 1) := by decide +kernel
theorem d_Ma_sendByte_1 : decode c_Ma_sendByte 1 = .ok (.iload_n 1, 1) := by decide +kernel
theorem d_Ma_sendByte_2 : decode c_Ma_sendByte 2 = .ok (.iload_n 2, 1) := by decide +kernel
theorem d_Ma_sendByte_3 : decode c_Ma_sendByte 3 = .ok (.invokevirtual 33, 3) := by decide +kernel
theorem d_Ma_sendByte_6 : decode c_Ma_sendByte 6 = .ok (.astore 4, 2) := by decide +kernel
theorem d_Ma_sendByte_8 : decode c_Ma_sendByte 8 = .ok (.aload 4, 2) := by decide +kernel
theorem d_Ma_sendByte_10 : decode c_Ma_sendByte 10 = .ok (.invokevirtual 41, 3) := by decide +kernel
theorem d_Ma_sendByte_13 : decode c_Ma_sendByte 13 = .ok (.aload 4, 2) := by decide +kernel
theorem d_Ma_sendByte_15 : decode c_Ma_sendByte 15 = .ok (.iload_n 3, 1) := by decide +kernel
theorem d_Ma_sendByte_16 : decode c_Ma_sendByte 16 = .ok (.invokevirtual 44, 3) := by decide +kernel
theorem d_Ma_sendByte_19 : decode c_Ma_sendByte 19 = .ok (.return_, 1) := by decide +kernel
theorem d_Ma_add_0 : decode c_Ma_add 0 = .ok (.aload_n 0, 1) := by decide +kernel
theorem d_Ma_add_1 : decode c_Ma_add 1 = .ok (.getfield 29, 3) := by decide +kernel
theorem d_Ma_add_4 : decode c_Ma_add 4 = .ok (.bipush 40, 2) := by decide +kernel
theorem d_Ma_add_6 : decode c_Ma_add 6 = .ok (.if_icmp .lt 8, 3) := by decide +kernel
theorem d_Ma_add_9 : decode c_Ma_add 9 = .ok (.aload_n 0, 1) := by decide +kernel
theorem d_Ma_add_10 : decode c_Ma_add 10 = .ok (.getfield 25, 3) := by decide +kernel
theorem d_Ma_add_13 : decode c_Ma_add 13 = .ok (.areturn, 1) := by decide +kernel
theorem d_Ma_add_14 : decode c_Ma_add 14 = .ok (.aload_n 0, 1) := by decide +kernel
theorem d_Ma_add_15 : decode c_Ma_add 15 = .ok (.getfield 9, 3) := by decide +kernel
theorem d_Ma_add_18 : decode c_Ma_add 18 = .ok (.aload_n 0, 1) := by decide +kernel
theorem d_Ma_add_19 : decode c_Ma_add 19 = .ok (.getfield 29, 3) := by decide +kernel
theorem d_Ma_add_22 : decode c_Ma_add 22 = .ok (.iload_n 1, 1) := by decide +kernel
theorem d_Ma_add_23 : decode c_Ma_add 23 = .ok (.iastore, 1) := by decide +kernel
theorem d_Ma_add_24 : decode c_Ma_add 24 = .ok (.aload_n 0, 1) := by decide +kernel
theorem d_Ma_add_25 : decode c_Ma_add 25 = .ok (.getfield 15, 3) := by decide +kernel
theorem d_Ma_add_28 : decode c_Ma_add 28 = .ok (.aload_n 0, 1) := by decide +kernel
theorem d_Ma_add_29 : decode c_Ma_add 29 = .ok (.getfield 29, 3) := by decide +kernel
theorem d_Ma_add_32 : decode c_Ma_add 32 = .ok (.iload_n 2, 1) := by decide +kernel
theorem d_Ma_add_33 : decode c_Ma_add 33 = .ok (.iastore, 1) := by decide +kernel
theorem d_Ma_add_34 : decode c_Ma_add 34 = .ok (.aload_n 0, 1) := by decide +kernel
theorem d_Ma_add_35 : decode c_Ma_add 35 = .ok (.dup, 1) := by decide +kernel
theorem d_Ma_add_36 : decode c_Ma_add 36 = .ok (.getfield 29, 3) := by decide +kernel
theorem d_Ma_add_39 : decode c_Ma_add 39 = .ok (.iconst 1, 1) := by decide +kernel
theorem d_Ma_add_40 : decode c_Ma_add 40 = .ok (.iadd, 1) := by decide +kernel
theorem d_Ma_add_41 : decode c_Ma_add 41 = .ok (.putfield 29, 3) := by decide +kernel
theorem d_Ma_add_44 : decode c_Ma_add 44 = .ok (.aload_n 0, 1) := by decide +kernel
theorem d_Ma_add_45 : decode c_Ma_add 45 = .ok (.getfield 20, 3) := by decide +kernel
theorem d_Ma_add_48 : decode c_Ma_add 48 = .ok (.aload_n 0, 1) := by decide +kernel
theorem d_Ma_add_49 : decode c_Ma_add 49 = .ok (.getfield 29, 3) := by decide +kernel
theorem d_Ma_add_52 : decode c_Ma_add 52 = .ok (.iconst 1, 1) := by decide +kernel
theorem d_Ma_add_53 : decode c_Ma_add 53 = .ok (.isub, 1) := by decide +kernel
theorem d_Ma_add_54 : decode c_Ma_add 54 = .ok (.aaload, 1) := by decide +kernel
theorem d_Ma_add_55 : decode c_Ma_add 55 = .ok (.areturn, 1) := by decide +kernel
theorem d_Ma_drop_0 : decode c_Ma_drop 0 = .ok (.aload_n 0, 1) := by decide +kernel
theorem d_Ma_drop_1 : decode c_Ma_drop 1 = .ok (.iload_n 1, 1) := by decide +kernel
theorem d_Ma_drop_2 : decode c_Ma_drop 2 = .ok (.invokevirtual 57, 3) := by decide +kernel
theorem d_Ma_drop_5 : decode c_Ma_drop 5 = .ok (.ifCond .ne 4, 3) := by decide +kernel
theorem d_Ma_drop_8 : decode c_Ma_drop 8 = .ok (.return_, 1) := by decide +kernel
theorem d_Ma_drop_9 : decode c_Ma_drop 9 = .ok (.aload_n 0, 1) := by decide +kernel
theorem d_Ma_drop_10 : decode c_Ma_drop 10 = .ok (.getfield 20, 3) := by decide +kernel
theorem d_Ma_drop_13 : decode c_Ma_drop 13 = .ok (.iload_n 1, 1) := by decide +kernel
theorem d_Ma_drop_14 : decode c_Ma_drop 14 = .ok (.aaload, 1) := by decide +kernel
theorem d_Ma_drop_15 : decode c_Ma_drop 15 = .ok (.astore_n 2, 1) := by decide +kernel
theorem d_Ma_drop_16 : decode c_Ma_drop 16 = .ok (.iload_n 1, 1) := by decide +kernel
theorem d_Ma_drop_17 : decode c_Ma_drop 17 = .ok (.istore_n 3, 1) := by decide +kernel
theorem d_Ma_drop_18 : decode c_Ma_drop 18 = .ok (.iload_n 3, 1) := by decide +kernel
theorem d_Ma_drop_19 : decode c_Ma_drop 19 = .ok (.aload_n 0, 1) := by decide +kernel
theorem d_Ma_drop_20 : decode c_Ma_drop 20 = .ok (.getfield 29, 3) := by decide +kernel
theorem d_Ma_drop_23 : decode c_Ma_drop 23 = .ok (.iconst 1, 1) := by decide +kernel
theorem d_Ma_drop_24 : decode c_Ma_drop 24 = .ok (.isub, 1) := by decide +kernel
theorem d_Ma_drop_25 : decode c_Ma_drop 25 = .ok (.if_icmp .ge 51, 3) := by decide +kernel
theorem d_Ma_drop_28 : decode c_Ma_drop 28 = .ok (.aload_n 0, 1) := by decide +kernel
theorem d_Ma_drop_29 : decode c_Ma_drop 29 = .ok (.getfield 9, 3) := by decide +kernel
theorem d_Ma_drop_32 : decode c_Ma_drop 32 = .ok (.iload_n 3, 1) := by decide +kernel
theorem d_Ma_drop_33 : decode c_Ma_drop 33 = .ok (.aload_n 0, 1) := by decide +kernel
theorem d_Ma_drop_34 : decode c_Ma_drop 34 = .ok (.getfield 9, 3) := by decide +kernel
theorem d_Ma_drop_37 : decode c_Ma_drop 37 = .ok (.iload_n 3, 1) := by decide +kernel
theorem d_Ma_drop_38 : decode c_Ma_drop 38 = .ok (.iconst 1, 1) := by decide +kernel
theorem d_Ma_drop_39 : decode c_Ma_drop 39 = .ok (.iadd, 1) := by decide +kernel
theorem d_Ma_drop_40 : decode c_Ma_drop 40 = .ok (.iaload, 1) := by decide +kernel
theorem d_Ma_drop_41 : decode c_Ma_drop 41 = .ok (.iastore, 1) := by decide +kernel
theorem d_Ma_drop_42 : decode c_Ma_drop 42 = .ok (.aload_n 0, 1) := by decide +kernel
theorem d_Ma_drop_43 : decode c_Ma_drop 43 = .ok (.getfield 15, 3) := by decide +kernel
theorem d_Ma_drop_46 : decode c_Ma_drop 46 = .ok (.iload_n 3, 1) := by decide +kernel
theorem d_Ma_drop_47 : decode c_Ma_drop 47 = .ok (.aload_n 0, 1) := by decide +kernel
theorem d_Ma_drop_48 : decode c_Ma_drop 48 = .ok (.getfield 15, 3) := by decide +kernel
theorem d_Ma_drop_51 : decode c_Ma_drop 51 = .ok (.iload_n 3, 1) := by decide +kernel
theorem d_Ma_drop_52 : decode c_Ma_drop 52 = .ok (.iconst 1, 1) := by decide +kernel
theorem d_Ma_drop_53 : decode c_Ma_drop 53 = .ok (.iadd, 1) := by decide +kernel
theorem d_Ma_drop_54 : decode c_Ma_drop 54 = .ok (.iaload, 1) := by decide +kernel
theorem d_Ma_drop_55 : decode c_Ma_drop 55 = .ok (.iastore, 1) := by decide +kernel
theorem d_Ma_drop_56 : decode c_Ma_drop 56 = .ok (.aload_n 0, 1) := by decide +kernel
theorem d_Ma_drop_57 : decode c_Ma_drop 57 = .ok (.getfield 20, 3) := by decide +kernel
theorem d_Ma_drop_60 : decode c_Ma_drop 60 = .ok (.iload_n 3, 1) := by decide +kernel
theorem d_Ma_drop_61 : decode c_Ma_drop 61 = .ok (.aload_n 0, 1) := by decide +kernel
theorem d_Ma_drop_62 : decode c_Ma_drop 62 = .ok (.getfield 20, 3) := by decide +kernel
theorem d_Ma_drop_65 : decode c_Ma_drop 65 = .ok (.iload_n 3, 1) := by decide +kernel
theorem d_Ma_drop_66 : decode c_Ma_drop 66 = .ok (.iconst 1, 1) := by decide +kernel
theorem d_Ma_drop_67 : decode c_Ma_drop 67 = .ok (.iadd, 1) := by decide +kernel
theorem d_Ma_drop_68 : decode c_Ma_drop 68 = .ok (.aaload, 1) := by decide +kernel
theorem d_Ma_drop_69 : decode c_Ma_drop 69 = .ok (.aastore, 1) := by decide +kernel
theorem d_Ma_drop_70 : decode c_Ma_drop 70 = .ok (.iinc 3 1, 3) := by decide +kernel
theorem d_Ma_drop_73 : decode c_Ma_drop 73 = .ok (.goto (-55), 3) := by decide +kernel
theorem d_Ma_drop_76 : decode c_Ma_drop 76 = .ok (.aload_n 0, 1) := by decide +kernel
theorem d_Ma_drop_77 : decode c_Ma_drop 77 = .ok (.dup, 1) := by decide +kernel
theorem d_Ma_drop_78 : decode c_Ma_drop 78 = .ok (.getfield 29, 3) := by decide +kernel
theorem d_Ma_drop_81 : decode c_Ma_drop 81 = .ok (.iconst 1, 1) := by decide +kernel
theorem d_Ma_drop_82 : decode c_Ma_drop 82 = .ok (.isub, 1) := by decide +kernel
theorem d_Ma_drop_83 : decode c_Ma_drop 83 = .ok (.putfield 29, 3) := by decide +kernel
theorem d_Ma_drop_86 : decode c_Ma_drop 86 = .ok (.aload_n 0, 1) := by decide +kernel
theorem d_Ma_drop_87 : decode c_Ma_drop 87 = .ok (.getfield 20, 3) := by decide +kernel
theorem d_Ma_drop_90 : decode c_Ma_drop 90 = .ok (.aload_n 0, 1) := by decide +kernel
theorem d_Ma_drop_91 : decode c_Ma_drop 91 = .ok (.getfield 29, 3) := by decide +kernel
theorem d_Ma_drop_94 : decode c_Ma_drop 94 = .ok (.aload_n 2, 1) := by decide +kernel
theorem d_Ma_drop_95 : decode c_Ma_drop 95 = .ok (.aastore, 1) := by decide +kernel
theorem d_Ma_drop_96 : decode c_Ma_drop 96 = .ok (.return_, 1) := by decide +kernel

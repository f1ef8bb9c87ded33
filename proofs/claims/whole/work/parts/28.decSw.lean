theorem d_Sw_plug_0 : decode c_Sw_plug 0 = .ok (.aload_n 1, 1) := by decide +kernel
theorem d_Sw_plug_1 : decode c_Sw_plug 1 = .ok (.iconst 1, 1) := by decide +kernel
theorem d_Sw_plug_2 : decode c_Sw_plug 2 = .ok (.putfield 55, 3) := by decide +kernel
theorem d_Sw_plug_5 : decode c_Sw_plug 5 = .ok (.aload_n 0, 1) := by decide +kernel
theorem d_Sw_plug_6 : decode c_Sw_plug 6 = .ok (.aload_n 1, 1) := by decide +kernel
theorem d_Sw_plug_7 : decode c_Sw_plug 7 = .ok (.invokevirtual 59, 3) := by decide +kernel
theorem d_Sw_plug_10 : decode c_Sw_plug 10 = .ok (.return_, 1) := by decide +kernel
theorem d_Sw_unplug_0 : decode c_Sw_unplug 0 = .ok (.aload_n 1, 1) := by decide +kernel
theorem d_Sw_unplug_1 : decode c_Sw_unplug 1 = .ok (.iconst 0, 1) := by decide +kernel
theorem d_Sw_unplug_2 : decode c_Sw_unplug 2 = .ok (.putfield 55, 3) := by decide +kernel
theorem d_Sw_unplug_5 : decode c_Sw_unplug 5 = .ok (.aload_n 0, 1) := by decide +kernel
theorem d_Sw_unplug_6 : decode c_Sw_unplug 6 = .ok (.aload_n 1, 1) := by decide +kernel
theorem d_Sw_unplug_7 : decode c_Sw_unplug 7 = .ok (.invokevirtual 63, 3) := by decide +kernel
theorem d_Sw_unplug_10 : decode c_Sw_unplug 10 = .ok (.aload_n 1, 1) := by decide +kernel
theorem d_Sw_unplug_11 : decode c_Sw_unplug 11 = .ok (.iconst 0, 1) := by decide +kernel
theorem d_Sw_unplug_12 : decode c_Sw_unplug 12 = .ok (.putfield 66, 3) := by decide +kernel
theorem d_Sw_unplug_15 : decode c_Sw_unplug 15 = .ok (.aload_n 1, 1) := by decide +kernel
theorem d_Sw_unplug_16 : decode c_Sw_unplug 16 = .ok (.iconst 0, 1) := by decide +kernel
theorem d_Sw_unplug_17 : decode c_Sw_unplug 17 = .ok (.putfield 69, 3) := by decide +kernel
theorem d_Sw_unplug_20 : decode c_Sw_unplug 20 = .ok (.aload_n 1, 1) := by decide +kernel
theorem d_Sw_unplug_21 : decode c_Sw_unplug 21 = .ok (.iconst 0, 1) := by decide +kernel
theorem d_Sw_unplug_22 : decode c_Sw_unplug 22 = .ok (.putfield 72, 3) := by decide +kernel
theorem d_Sw_unplug_25 : decode c_Sw_unplug 25 = .ok (.return_, 1) := by decide +kernel
theorem d_Sw_begin_0 : decode c_Sw_begin 0 = .ok (.aload_n 1, 1) := by decide +kernel
theorem d_Sw_begin_1 : decode c_Sw_begin 1 = .ok (.iconst 1, 1) := by decide +kernel
theorem d_Sw_begin_2 : decode c_Sw_begin 2 = .ok (.putfield 66, 3) := by decide +kernel
theorem d_Sw_begin_5 : decode c_Sw_begin 5 = .ok (.aload_n 1, 1) := by decide +kernel
theorem d_Sw_begin_6 : decode c_Sw_begin 6 = .ok (.iconst 0, 1) := by decide +kernel
theorem d_Sw_begin_7 : decode c_Sw_begin 7 = .ok (.putfield 69, 3) := by decide +kernel
theorem d_Sw_begin_10 : decode c_Sw_begin 10 = .ok (.aload_n 1, 1) := by decide +kernel
theorem d_Sw_begin_11 : decode c_Sw_begin 11 = .ok (.iconst (-1), 1) := by decide +kernel
theorem d_Sw_begin_12 : decode c_Sw_begin 12 = .ok (.putfield 75, 3) := by decide +kernel
theorem d_Sw_begin_15 : decode c_Sw_begin 15 = .ok (.aload_n 1, 1) := by decide +kernel
theorem d_Sw_begin_16 : decode c_Sw_begin 16 = .ok (.getfield 78, 3) := by decide +kernel
theorem d_Sw_begin_19 : decode c_Sw_begin 19 = .ok (.iconst 1, 1) := by decide +kernel
theorem d_Sw_begin_20 : decode c_Sw_begin 20 = .ok (.aload_n 1, 1) := by decide +kernel
theorem d_Sw_begin_21 : decode c_Sw_begin 21 = .ok (.getfield 81, 3) := by decide +kernel
theorem d_Sw_begin_24 : decode c_Sw_begin 24 = .ok (.iconst 1, 1) := by decide +kernel
theorem d_Sw_begin_25 : decode c_Sw_begin 25 = .ok (.invokevirtual 84, 3) := by decide +kernel
theorem d_Sw_begin_28 : decode c_Sw_begin 28 = .ok (.aload_n 1, 1) := by decide +kernel
theorem d_Sw_begin_29 : decode c_Sw_begin 29 = .ok (.getfield 78, 3) := by decide +kernel
theorem d_Sw_begin_32 : decode c_Sw_begin 32 = .ok (.invokevirtual 88, 3) := by decide +kernel
theorem d_Sw_begin_35 : decode c_Sw_begin 35 = .ok (.aload_n 0, 1) := by decide +kernel
theorem d_Sw_begin_36 : decode c_Sw_begin 36 = .ok (.aload_n 1, 1) := by decide +kernel
theorem d_Sw_begin_37 : decode c_Sw_begin 37 = .ok (.aload_n 1, 1) := by decide +kernel
theorem d_Sw_begin_38 : decode c_Sw_begin 38 = .ok (.getfield 78, 3) := by decide +kernel
theorem d_Sw_begin_41 : decode c_Sw_begin 41 = .ok (.invokevirtual 91, 3) := by decide +kernel
theorem d_Sw_begin_44 : decode c_Sw_begin 44 = .ok (.aload_n 1, 1) := by decide +kernel
theorem d_Sw_begin_45 : decode c_Sw_begin 45 = .ok (.invokevirtual 95, 3) := by decide +kernel
theorem d_Sw_begin_48 : decode c_Sw_begin 48 = .ok (.return_, 1) := by decide +kernel
theorem d_Sw_sendToHost_0 : decode c_Sw_sendToHost 0 = .ok (.aload_n 0, 1) := by decide +kernel
theorem d_Sw_sendToHost_1 : decode c_Sw_sendToHost 1 = .ok (.getfield 42, 3) := by decide +kernel
theorem d_Sw_sendToHost_4 : decode c_Sw_sendToHost 4 = .ok (.iconst 1, 1) := by decide +kernel
theorem d_Sw_sendToHost_5 : decode c_Sw_sendToHost 5 = .ok (.aload_n 1, 1) := by decide +kernel
theorem d_Sw_sendToHost_6 : decode c_Sw_sendToHost 6 = .ok (.getfield 98, 3) := by decide +kernel
theorem d_Sw_sendToHost_9 : decode c_Sw_sendToHost 9 = .ok (.aload_n 2, 1) := by decide +kernel
theorem d_Sw_sendToHost_10 : decode c_Sw_sendToHost 10 = .ok (.invokevirtual 101, 3) := by decide +kernel
theorem d_Sw_sendToHost_13 : decode c_Sw_sendToHost 13 = .ok (.aload_n 1, 1) := by decide +kernel
theorem d_Sw_sendToHost_14 : decode c_Sw_sendToHost 14 = .ok (.aload_n 2, 1) := by decide +kernel
theorem d_Sw_sendToHost_15 : decode c_Sw_sendToHost 15 = .ok (.invokevirtual 107, 3) := by decide +kernel
theorem d_Sw_sendToHost_18 : decode c_Sw_sendToHost 18 = .ok (.iconst 1, 1) := by decide +kernel
theorem d_Sw_sendToHost_19 : decode c_Sw_sendToHost 19 = .ok (.iadd, 1) := by decide +kernel
theorem d_Sw_sendToHost_20 : decode c_Sw_sendToHost 20 = .ok (.sipush 255, 3) := by decide +kernel
theorem d_Sw_sendToHost_23 : decode c_Sw_sendToHost 23 = .ok (.iand, 1) := by decide +kernel
theorem d_Sw_sendToHost_24 : decode c_Sw_sendToHost 24 = .ok (.putfield 81, 3) := by decide +kernel
theorem d_Sw_sendToHost_27 : decode c_Sw_sendToHost 27 = .ok (.return_, 1) := by decide +kernel
theorem d_Sw_close_0 : decode c_Sw_close 0 = .ok (.aload_n 1, 1) := by decide +kernel
theorem d_Sw_close_1 : decode c_Sw_close 1 = .ok (.iconst 0, 1) := by decide +kernel
theorem d_Sw_close_2 : decode c_Sw_close 2 = .ok (.putfield 111, 3) := by decide +kernel
theorem d_Sw_close_5 : decode c_Sw_close 5 = .ok (.iconst 0, 1) := by decide +kernel
theorem d_Sw_close_6 : decode c_Sw_close 6 = .ok (.istore_n 2, 1) := by decide +kernel
theorem d_Sw_close_7 : decode c_Sw_close 7 = .ok (.iload_n 2, 1) := by decide +kernel
theorem d_Sw_close_8 : decode c_Sw_close 8 = .ok (.bipush 8, 2) := by decide +kernel
theorem d_Sw_close_10 : decode c_Sw_close 10 = .ok (.if_icmp .ge 29, 3) := by decide +kernel
theorem d_Sw_close_13 : decode c_Sw_close 13 = .ok (.aload_n 0, 1) := by decide +kernel
theorem d_Sw_close_14 : decode c_Sw_close 14 = .ok (.getfield 17, 3) := by decide +kernel
theorem d_Sw_close_17 : decode c_Sw_close 17 = .ok (.iload_n 2, 1) := by decide +kernel
theorem d_Sw_close_18 : decode c_Sw_close 18 = .ok (.iaload, 1) := by decide +kernel
theorem d_Sw_close_19 : decode c_Sw_close 19 = .ok (.aload_n 1, 1) := by decide +kernel
theorem d_Sw_close_20 : decode c_Sw_close 20 = .ok (.getfield 98, 3) := by decide +kernel
theorem d_Sw_close_23 : decode c_Sw_close 23 = .ok (.if_icmp .ne 10, 3) := by decide +kernel
theorem d_Sw_close_26 : decode c_Sw_close 26 = .ok (.aload_n 0, 1) := by decide +kernel
theorem d_Sw_close_27 : decode c_Sw_close 27 = .ok (.getfield 17, 3) := by decide +kernel
theorem d_Sw_close_30 : decode c_Sw_close 30 = .ok (.iload_n 2, 1) := by decide +kernel
theorem d_Sw_close_31 : decode c_Sw_close 31 = .ok (.iconst (-1), 1) := by decide +kernel
theorem d_Sw_close_32 : decode c_Sw_close 32 = .ok (.iastore, 1) := by decide +kernel
theorem d_Sw_close_33 : decode c_Sw_close 33 = .ok (.iinc 2 1, 3) := by decide +kernel
theorem d_Sw_close_36 : decode c_Sw_close 36 = .ok (.goto (-29), 3) := by decide +kernel
theorem d_Sw_close_39 : decode c_Sw_close 39 = .ok (.return_, 1) := by decide +kernel
theorem d_Sw_fail_0 : decode c_Sw_fail 0 = .ok (.aload_n 0, 1) := by decide +kernel
theorem d_Sw_fail_1 : decode c_Sw_fail 1 = .ok (.aload_n 1, 1) := by decide +kernel
theorem d_Sw_fail_2 : decode c_Sw_fail 2 = .ok (.invokevirtual 63, 3) := by decide +kernel
theorem d_Sw_fail_5 : decode c_Sw_fail 5 = .ok (.aload_n 1, 1) := by decide +kernel
theorem d_Sw_fail_6 : decode c_Sw_fail 6 = .ok (.iconst 4, 1) := by decide +kernel
theorem d_Sw_fail_7 : decode c_Sw_fail 7 = .ok (.putfield 66, 3) := by decide +kernel
theorem d_Sw_fail_10 : decode c_Sw_fail 10 = .ok (.aload_n 1, 1) := by decide +kernel
theorem d_Sw_fail_11 : decode c_Sw_fail 11 = .ok (.iconst 0, 1) := by decide +kernel
theorem d_Sw_fail_12 : decode c_Sw_fail 12 = .ok (.putfield 69, 3) := by decide +kernel
theorem d_Sw_fail_15 : decode c_Sw_fail 15 = .ok (.aload_n 1, 1) := by decide +kernel
theorem d_Sw_fail_16 : decode c_Sw_fail 16 = .ok (.iconst 0, 1) := by decide +kernel
theorem d_Sw_fail_17 : decode c_Sw_fail 17 = .ok (.putfield 72, 3) := by decide +kernel
theorem d_Sw_fail_20 : decode c_Sw_fail 20 = .ok (.aload_n 1, 1) := by decide +kernel
theorem d_Sw_fail_21 : decode c_Sw_fail 21 = .ok (.iconst 0, 1) := by decide +kernel
theorem d_Sw_fail_22 : decode c_Sw_fail 22 = .ok (.putfield 114, 3) := by decide +kernel
theorem d_Sw_fail_25 : decode c_Sw_fail 25 = .ok (.return_, 1) := by decide +kernel
theorem d_Sw_ask_0 : decode c_Sw_ask 0 = .ok (.aload_n 0, 1) := by decide +kernel
theorem d_Sw_ask_1 : decode c_Sw_ask 1 = .ok (.getfield 35, 3) := by decide +kernel
theorem d_Sw_ask_4 : decode c_Sw_ask 4 = .ok (.iconst 1, 1) := by decide +kernel
theorem d_Sw_ask_5 : decode c_Sw_ask 5 = .ok (.aload_n 0, 1) := by decide +kernel
theorem d_Sw_ask_6 : decode c_Sw_ask 6 = .ok (.getfield 117, 3) := by decide +kernel
theorem d_Sw_ask_9 : decode c_Sw_ask 9 = .ok (.sipush 255, 3) := by decide +kernel
theorem d_Sw_ask_12 : decode c_Sw_ask 12 = .ok (.iand, 1) := by decide +kernel
theorem d_Sw_ask_13 : decode c_Sw_ask 13 = .ok (.aload_n 0, 1) := by decide +kernel
theorem d_Sw_ask_14 : decode c_Sw_ask 14 = .ok (.getfield 38, 3) := by decide +kernel
theorem d_Sw_ask_17 : decode c_Sw_ask 17 = .ok (.aload_n 0, 1) := by decide +kernel
theorem d_Sw_ask_18 : decode c_Sw_ask 18 = .ok (.getfield 117, 3) := by decide +kernel
theorem d_Sw_ask_21 : decode c_Sw_ask 21 = .ok (.invokestatic 120, 3) := by decide +kernel
theorem d_Sw_ask_24 : decode c_Sw_ask 24 = .ok (.aload_n 1, 1) := by decide +kernel
theorem d_Sw_ask_25 : decode c_Sw_ask 25 = .ok (.getfield 126, 3) := by decide +kernel
theorem d_Sw_ask_28 : decode c_Sw_ask 28 = .ok (.aload_n 1, 1) := by decide +kernel
theorem d_Sw_ask_29 : decode c_Sw_ask 29 = .ok (.getfield 75, 3) := by decide +kernel
theorem d_Sw_ask_32 : decode c_Sw_ask 32 = .ok (.aload_n 1, 1) := by decide +kernel
theorem d_Sw_ask_33 : decode c_Sw_ask 33 = .ok (.getfield 129, 3) := by decide +kernel
theorem d_Sw_ask_36 : decode c_Sw_ask 36 = .ok (.invokevirtual 132, 3) := by decide +kernel
theorem d_Sw_ask_39 : decode c_Sw_ask 39 = .ok (.aload_n 0, 1) := by decide +kernel
theorem d_Sw_ask_40 : decode c_Sw_ask 40 = .ok (.getfield 35, 3) := by decide +kernel
theorem d_Sw_ask_43 : decode c_Sw_ask 43 = .ok (.aload_n 0, 1) := by decide +kernel
theorem d_Sw_ask_44 : decode c_Sw_ask 44 = .ok (.getfield 38, 3) := by decide +kernel
theorem d_Sw_ask_47 : decode c_Sw_ask 47 = .ok (.invokevirtual 136, 3) := by decide +kernel
theorem d_Sw_ask_50 : decode c_Sw_ask 50 = .ok (.aload_n 0, 1) := by decide +kernel
theorem d_Sw_ask_51 : decode c_Sw_ask 51 = .ok (.dup, 1) := by decide +kernel
theorem d_Sw_ask_52 : decode c_Sw_ask 52 = .ok (.getfield 117, 3) := by decide +kernel
theorem d_Sw_ask_55 : decode c_Sw_ask 55 = .ok (.iconst 1, 1) := by decide +kernel
theorem d_Sw_ask_56 : decode c_Sw_ask 56 = .ok (.iadd, 1) := by decide +kernel
theorem d_Sw_ask_57 : decode c_Sw_ask 57 = .ok (.putfield 117, 3) := by decide +kernel
theorem d_Sw_ask_60 : decode c_Sw_ask 60 = .ok (.aload_n 1, 1) := by decide +kernel
theorem d_Sw_ask_61 : decode c_Sw_ask 61 = .ok (.getfield 139, 3) := by decide +kernel
theorem d_Sw_ask_64 : decode c_Sw_ask 64 = .ok (.aload_n 0, 1) := by decide +kernel
theorem d_Sw_ask_65 : decode c_Sw_ask 65 = .ok (.getfield 35, 3) := by decide +kernel
theorem d_Sw_ask_68 : decode c_Sw_ask 68 = .ok (.getfield 143, 3) := by decide +kernel
theorem d_Sw_ask_71 : decode c_Sw_ask 71 = .ok (.invokevirtual 146, 3) := by decide +kernel
theorem d_Sw_ask_74 : decode c_Sw_ask 74 = .ok (.aload_n 1, 1) := by decide +kernel
theorem d_Sw_ask_75 : decode c_Sw_ask 75 = .ok (.iload_n 2, 1) := by decide +kernel
theorem d_Sw_ask_76 : decode c_Sw_ask 76 = .ok (.putfield 152, 3) := by decide +kernel
theorem d_Sw_ask_79 : decode c_Sw_ask 79 = .ok (.aload_n 1, 1) := by decide +kernel
theorem d_Sw_ask_80 : decode c_Sw_ask 80 = .ok (.iconst 1, 1) := by decide +kernel
theorem d_Sw_ask_81 : decode c_Sw_ask 81 = .ok (.putfield 69, 3) := by decide +kernel
theorem d_Sw_ask_84 : decode c_Sw_ask 84 = .ok (.aload_n 1, 1) := by decide +kernel
theorem d_Sw_ask_85 : decode c_Sw_ask 85 = .ok (.iconst 0, 1) := by decide +kernel
theorem d_Sw_ask_86 : decode c_Sw_ask 86 = .ok (.putfield 114, 3) := by decide +kernel
theorem d_Sw_ask_89 : decode c_Sw_ask 89 = .ok (.aload_n 0, 1) := by decide +kernel
theorem d_Sw_ask_90 : decode c_Sw_ask 90 = .ok (.getfield 42, 3) := by decide +kernel
theorem d_Sw_ask_93 : decode c_Sw_ask 93 = .ok (.iconst 2, 1) := by decide +kernel
theorem d_Sw_ask_94 : decode c_Sw_ask 94 = .ok (.iload_n 2, 1) := by decide +kernel
theorem d_Sw_ask_95 : decode c_Sw_ask 95 = .ok (.aload_n 1, 1) := by decide +kernel
theorem d_Sw_ask_96 : decode c_Sw_ask 96 = .ok (.getfield 139, 3) := by decide +kernel
theorem d_Sw_ask_99 : decode c_Sw_ask 99 = .ok (.invokevirtual 155, 3) := by decide +kernel
theorem d_Sw_ask_102 : decode c_Sw_ask 102 = .ok (.return_, 1) := by decide +kernel
theorem d_Sw_takeFrame_0 : decode c_Sw_takeFrame 0 = .ok (.aload_n 1, 1) := by decide +kernel
theorem d_Sw_takeFrame_1 : decode c_Sw_takeFrame 1 = .ok (.getfield 55, 3) := by decide +kernel
theorem d_Sw_takeFrame_4 : decode c_Sw_takeFrame 4 = .ok (.ifCond .eq 11, 3) := by decide +kernel
theorem d_Sw_takeFrame_7 : decode c_Sw_takeFrame 7 = .ok (.aload_n 1, 1) := by decide +kernel
theorem d_Sw_takeFrame_8 : decode c_Sw_takeFrame 8 = .ok (.getfield 66, 3) := by decide +kernel
theorem d_Sw_takeFrame_11 : decode c_Sw_takeFrame 11 = .ok (.iconst 4, 1) := by decide +kernel
theorem d_Sw_takeFrame_12 : decode c_Sw_takeFrame 12 = .ok (.if_icmp .ne 4, 3) := by decide +kernel
theorem d_Sw_takeFrame_15 : decode c_Sw_takeFrame 15 = .ok (.return_, 1) := by decide +kernel
theorem d_Sw_takeFrame_16 : decode c_Sw_takeFrame 16 = .ok (.aload_n 0, 1) := by decide +kernel
theorem d_Sw_takeFrame_17 : decode c_Sw_takeFrame 17 = .ok (.getfield 24, 3) := by decide +kernel
theorem d_Sw_takeFrame_20 : decode c_Sw_takeFrame 20 = .ok (.aload_n 2, 1) := by decide +kernel
theorem d_Sw_takeFrame_21 : decode c_Sw_takeFrame 21 = .ok (.invokevirtual 159, 3) := by decide +kernel
theorem d_Sw_takeFrame_24 : decode c_Sw_takeFrame 24 = .ok (.tableswitch 57 0 2 #[49, 28, 36], 28) := by decide +kernel
theorem d_Sw_takeFrame_52 : decode c_Sw_takeFrame 52 = .ok (.aload_n 0, 1) := by decide +kernel
theorem d_Sw_takeFrame_53 : decode c_Sw_takeFrame 53 = .ok (.aload_n 1, 1) := by decide +kernel
theorem d_Sw_takeFrame_54 : decode c_Sw_takeFrame 54 = .ok (.invokevirtual 59, 3) := by decide +kernel
theorem d_Sw_takeFrame_57 : decode c_Sw_takeFrame 57 = .ok (.goto 34, 3) := by decide +kernel
theorem d_Sw_takeFrame_60 : decode c_Sw_takeFrame 60 = .ok (.aload_n 0, 1) := by decide +kernel
theorem d_Sw_takeFrame_61 : decode c_Sw_takeFrame 61 = .ok (.aload_n 1, 1) := by decide +kernel
theorem d_Sw_takeFrame_62 : decode c_Sw_takeFrame 62 = .ok (.invokevirtual 63, 3) := by decide +kernel
theorem d_Sw_takeFrame_65 : decode c_Sw_takeFrame 65 = .ok (.aload_n 0, 1) := by decide +kernel
theorem d_Sw_takeFrame_66 : decode c_Sw_takeFrame 66 = .ok (.aload_n 1, 1) := by decide +kernel
theorem d_Sw_takeFrame_67 : decode c_Sw_takeFrame 67 = .ok (.invokevirtual 59, 3) := by decide +kernel
theorem d_Sw_takeFrame_70 : decode c_Sw_takeFrame 70 = .ok (.goto 21, 3) := by decide +kernel
theorem d_Sw_takeFrame_73 : decode c_Sw_takeFrame 73 = .ok (.aload_n 0, 1) := by decide +kernel
theorem d_Sw_takeFrame_74 : decode c_Sw_takeFrame 74 = .ok (.aload_n 1, 1) := by decide +kernel
theorem d_Sw_takeFrame_75 : decode c_Sw_takeFrame 75 = .ok (.invokevirtual 163, 3) := by decide +kernel
theorem d_Sw_takeFrame_78 : decode c_Sw_takeFrame 78 = .ok (.goto 13, 3) := by decide +kernel
theorem d_Sw_takeFrame_81 : decode c_Sw_takeFrame 81 = .ok (.aload_n 0, 1) := by decide +kernel
theorem d_Sw_takeFrame_82 : decode c_Sw_takeFrame 82 = .ok (.dup, 1) := by decide +kernel
theorem d_Sw_takeFrame_83 : decode c_Sw_takeFrame 83 = .ok (.getfield 166, 3) := by decide +kernel
theorem d_Sw_takeFrame_86 : decode c_Sw_takeFrame 86 = .ok (.iconst 1, 1) := by decide +kernel
theorem d_Sw_takeFrame_87 : decode c_Sw_takeFrame 87 = .ok (.iadd, 1) := by decide +kernel
theorem d_Sw_takeFrame_88 : decode c_Sw_takeFrame 88 = .ok (.putfield 166, 3) := by decide +kernel
theorem d_Sw_takeFrame_91 : decode c_Sw_takeFrame 91 = .ok (.return_, 1) := by decide +kernel
theorem d_Sw_takePacket_0 : decode c_Sw_takePacket 0 = .ok (.aload_n 0, 1) := by decide +kernel
theorem d_Sw_takePacket_1 : decode c_Sw_takePacket 1 = .ok (.getfield 24, 3) := by decide +kernel
theorem d_Sw_takePacket_4 : decode c_Sw_takePacket 4 = .ok (.invokevirtual 169, 3) := by decide +kernel
theorem d_Sw_takePacket_7 : decode c_Sw_takePacket 7 = .ok (.iconst 2, 1) := by decide +kernel
theorem d_Sw_takePacket_8 : decode c_Sw_takePacket 8 = .ok (.if_icmp .ne 27, 3) := by decide +kernel
theorem d_Sw_takePacket_11 : decode c_Sw_takePacket 11 = .ok (.aload_n 1, 1) := by decide +kernel
theorem d_Sw_takePacket_12 : decode c_Sw_takePacket 12 = .ok (.getfield 72, 3) := by decide +kernel
theorem d_Sw_takePacket_15 : decode c_Sw_takePacket 15 = .ok (.ifCond .eq 20, 3) := by decide +kernel
theorem d_Sw_takePacket_18 : decode c_Sw_takePacket 18 = .ok (.aload_n 0, 1) := by decide +kernel
theorem d_Sw_takePacket_19 : decode c_Sw_takePacket 19 = .ok (.getfield 24, 3) := by decide +kernel
theorem d_Sw_takePacket_22 : decode c_Sw_takePacket 22 = .ok (.invokevirtual 107, 3) := by decide +kernel
theorem d_Sw_takePacket_25 : decode c_Sw_takePacket 25 = .ok (.aload_n 1, 1) := by decide +kernel
theorem d_Sw_takePacket_26 : decode c_Sw_takePacket 26 = .ok (.getfield 78, 3) := by decide +kernel
theorem d_Sw_takePacket_29 : decode c_Sw_takePacket 29 = .ok (.invokevirtual 107, 3) := by decide +kernel
theorem d_Sw_takePacket_32 : decode c_Sw_takePacket 32 = .ok (.if_icmp .eq 4, 3) := by decide +kernel
theorem d_Sw_takePacket_35 : decode c_Sw_takePacket 35 = .ok (.return_, 1) := by decide +kernel
theorem d_Sw_takePacket_36 : decode c_Sw_takePacket 36 = .ok (.aload_n 1, 1) := by decide +kernel
theorem d_Sw_takePacket_37 : decode c_Sw_takePacket 37 = .ok (.getfield 66, 3) := by decide +kernel
theorem d_Sw_takePacket_40 : decode c_Sw_takePacket 40 = .ok (.iconst 1, 1) := by decide +kernel
theorem d_Sw_takePacket_41 : decode c_Sw_takePacket 41 = .ok (.if_icmp .ne 42, 3) := by decide +kernel
theorem d_Sw_takePacket_44 : decode c_Sw_takePacket 44 = .ok (.aload_n 0, 1) := by decide +kernel
theorem d_Sw_takePacket_45 : decode c_Sw_takePacket 45 = .ok (.getfield 24, 3) := by decide +kernel
theorem d_Sw_takePacket_48 : decode c_Sw_takePacket 48 = .ok (.invokevirtual 172, 3) := by decide +kernel
theorem d_Sw_takePacket_51 : decode c_Sw_takePacket 51 = .ok (.iconst 1, 1) := by decide +kernel
theorem d_Sw_takePacket_52 : decode c_Sw_takePacket 52 = .ok (.if_icmp .ne 14, 3) := by decide +kernel
theorem d_Sw_takePacket_55 : decode c_Sw_takePacket 55 = .ok (.aload_n 0, 1) := by decide +kernel
theorem d_Sw_takePacket_56 : decode c_Sw_takePacket 56 = .ok (.getfield 24, 3) := by decide +kernel
theorem d_Sw_takePacket_59 : decode c_Sw_takePacket 59 = .ok (.invokevirtual 175, 3) := by decide +kernel
theorem d_Sw_takePacket_62 : decode c_Sw_takePacket 62 = .ok (.iconst 1, 1) := by decide +kernel
theorem d_Sw_takePacket_63 : decode c_Sw_takePacket 63 = .ok (.if_icmp .eq 4, 3) := by decide +kernel
theorem d_Sw_takePacket_66 : decode c_Sw_takePacket 66 = .ok (.return_, 1) := by decide +kernel
theorem d_Sw_takePacket_67 : decode c_Sw_takePacket 67 = .ok (.aload_n 1, 1) := by decide +kernel
theorem d_Sw_takePacket_68 : decode c_Sw_takePacket 68 = .ok (.aload_n 0, 1) := by decide +kernel
theorem d_Sw_takePacket_69 : decode c_Sw_takePacket 69 = .ok (.getfield 24, 3) := by decide +kernel
theorem d_Sw_takePacket_72 : decode c_Sw_takePacket 72 = .ok (.invokevirtual 178, 3) := by decide +kernel
theorem d_Sw_takePacket_75 : decode c_Sw_takePacket 75 = .ok (.putfield 126, 3) := by decide +kernel
theorem d_Sw_takePacket_78 : decode c_Sw_takePacket 78 = .ok (.aload_n 1, 1) := by decide +kernel
theorem d_Sw_takePacket_79 : decode c_Sw_takePacket 79 = .ok (.iconst 2, 1) := by decide +kernel
theorem d_Sw_takePacket_80 : decode c_Sw_takePacket 80 = .ok (.putfield 66, 3) := by decide +kernel
theorem d_Sw_takePacket_83 : decode c_Sw_takePacket 83 = .ok (.aload_n 1, 1) := by decide +kernel
theorem d_Sw_takePacket_84 : decode c_Sw_takePacket 84 = .ok (.iconst 0, 1) := by decide +kernel
theorem d_Sw_takePacket_85 : decode c_Sw_takePacket 85 = .ok (.putfield 72, 3) := by decide +kernel
theorem d_Sw_takePacket_88 : decode c_Sw_takePacket 88 = .ok (.aload_n 1, 1) := by decide +kernel
theorem d_Sw_takePacket_89 : decode c_Sw_takePacket 89 = .ok (.getfield 129, 3) := by decide +kernel
theorem d_Sw_takePacket_92 : decode c_Sw_takePacket 92 = .ok (.aload_n 0, 1) := by decide +kernel
theorem d_Sw_takePacket_93 : decode c_Sw_takePacket 93 = .ok (.getfield 24, 3) := by decide +kernel
theorem d_Sw_takePacket_96 : decode c_Sw_takePacket 96 = .ok (.invokevirtual 181, 3) := by decide +kernel
theorem d_Sw_takePacket_99 : decode c_Sw_takePacket 99 = .ok (.aload_n 1, 1) := by decide +kernel
theorem d_Sw_takePacket_100 : decode c_Sw_takePacket 100 = .ok (.iconst 0, 1) := by decide +kernel
theorem d_Sw_takePacket_101 : decode c_Sw_takePacket 101 = .ok (.putfield 182, 3) := by decide +kernel
theorem d_Sw_takePacket_104 : decode c_Sw_takePacket 104 = .ok (.aload_n 0, 1) := by decide +kernel
theorem d_Sw_takePacket_105 : decode c_Sw_takePacket 105 = .ok (.aload_n 1, 1) := by decide +kernel
theorem d_Sw_takePacket_106 : decode c_Sw_takePacket 106 = .ok (.aload_n 0, 1) := by decide +kernel
theorem d_Sw_takePacket_107 : decode c_Sw_takePacket 107 = .ok (.getfield 185, 3) := by decide +kernel
theorem d_Sw_takePacket_110 : decode c_Sw_takePacket 110 = .ok (.invokevirtual 188, 3) := by decide +kernel
theorem d_Sw_takePacket_113 : decode c_Sw_takePacket 113 = .ok (.return_, 1) := by decide +kernel
theorem d_Sw_takeAnswer_0 : decode c_Sw_takeAnswer 0 = .ok (.aload_n 0, 1) := by decide +kernel
theorem d_Sw_takeAnswer_1 : decode c_Sw_takeAnswer 1 = .ok (.getfield 31, 3) := by decide +kernel
theorem d_Sw_takeAnswer_4 : decode c_Sw_takeAnswer 4 = .ok (.aload_n 2, 1) := by decide +kernel
theorem d_Sw_takeAnswer_5 : decode c_Sw_takeAnswer 5 = .ok (.invokevirtual 192, 3) := by decide +kernel
theorem d_Sw_takeAnswer_8 : decode c_Sw_takeAnswer 8 = .ok (.ifCond .eq 18, 3) := by decide +kernel
theorem d_Sw_takeAnswer_11 : decode c_Sw_takeAnswer 11 = .ok (.aload_n 0, 1) := by decide +kernel
theorem d_Sw_takeAnswer_12 : decode c_Sw_takeAnswer 12 = .ok (.iload_n 1, 1) := by decide +kernel
theorem d_Sw_takeAnswer_13 : decode c_Sw_takeAnswer 13 = .ok (.aload_n 0, 1) := by decide +kernel
theorem d_Sw_takeAnswer_14 : decode c_Sw_takeAnswer 14 = .ok (.getfield 31, 3) := by decide +kernel
theorem d_Sw_takeAnswer_17 : decode c_Sw_takeAnswer 17 = .ok (.invokevirtual 196, 3) := by decide +kernel
theorem d_Sw_takeAnswer_20 : decode c_Sw_takeAnswer 20 = .ok (.invokevirtual 197, 3) := by decide +kernel
theorem d_Sw_takeAnswer_23 : decode c_Sw_takeAnswer 23 = .ok (.goto 4, 3) := by decide +kernel
theorem d_Sw_takeAnswer_26 : decode c_Sw_takeAnswer 26 = .ok (.aconst_null, 1) := by decide +kernel
theorem d_Sw_takeAnswer_27 : decode c_Sw_takeAnswer 27 = .ok (.astore_n 3, 1) := by decide +kernel
theorem d_Sw_takeAnswer_28 : decode c_Sw_takeAnswer 28 = .ok (.aload_n 3, 1) := by decide +kernel
theorem d_Sw_takeAnswer_29 : decode c_Sw_takeAnswer 29 = .ok (.ifnull 32, 3) := by decide +kernel
theorem d_Sw_takeAnswer_32 : decode c_Sw_takeAnswer 32 = .ok (.aload_n 0, 1) := by decide +kernel
theorem d_Sw_takeAnswer_33 : decode c_Sw_takeAnswer 33 = .ok (.invokevirtual 201, 3) := by decide +kernel
theorem d_Sw_takeAnswer_36 : decode c_Sw_takeAnswer 36 = .ok (.ifCond .eq 25, 3) := by decide +kernel
theorem d_Sw_takeAnswer_39 : decode c_Sw_takeAnswer 39 = .ok (.aload_n 0, 1) := by decide +kernel
theorem d_Sw_takeAnswer_40 : decode c_Sw_takeAnswer 40 = .ok (.getfield 31, 3) := by decide +kernel
theorem d_Sw_takeAnswer_43 : decode c_Sw_takeAnswer 43 = .ok (.aload_n 0, 1) := by decide +kernel
theorem d_Sw_takeAnswer_44 : decode c_Sw_takeAnswer 44 = .ok (.getfield 38, 3) := by decide +kernel
theorem d_Sw_takeAnswer_47 : decode c_Sw_takeAnswer 47 = .ok (.aload_n 3, 1) := by decide +kernel
theorem d_Sw_takeAnswer_48 : decode c_Sw_takeAnswer 48 = .ok (.getfield 139, 3) := by decide +kernel
theorem d_Sw_takeAnswer_51 : decode c_Sw_takeAnswer 51 = .ok (.iconst 3, 1) := by decide +kernel
theorem d_Sw_takeAnswer_52 : decode c_Sw_takeAnswer 52 = .ok (.invokevirtual 205, 3) := by decide +kernel
theorem d_Sw_takeAnswer_55 : decode c_Sw_takeAnswer 55 = .ok (.invokevirtual 209, 3) := by decide +kernel
theorem d_Sw_takeAnswer_58 : decode c_Sw_takeAnswer 58 = .ok (.ifCond .ne 14, 3) := by decide +kernel
theorem d_Sw_takeAnswer_61 : decode c_Sw_takeAnswer 61 = .ok (.aload_n 0, 1) := by decide +kernel
theorem d_Sw_takeAnswer_62 : decode c_Sw_takeAnswer 62 = .ok (.dup, 1) := by decide +kernel
theorem d_Sw_takeAnswer_63 : decode c_Sw_takeAnswer 63 = .ok (.getfield 166, 3) := by decide +kernel
theorem d_Sw_takeAnswer_66 : decode c_Sw_takeAnswer 66 = .ok (.iconst 1, 1) := by decide +kernel
theorem d_Sw_takeAnswer_67 : decode c_Sw_takeAnswer 67 = .ok (.iadd, 1) := by decide +kernel
theorem d_Sw_takeAnswer_68 : decode c_Sw_takeAnswer 68 = .ok (.putfield 166, 3) := by decide +kernel
theorem d_Sw_takeAnswer_71 : decode c_Sw_takeAnswer 71 = .ok (.return_, 1) := by decide +kernel
theorem d_Sw_takeAnswer_72 : decode c_Sw_takeAnswer 72 = .ok (.aload_n 3, 1) := by decide +kernel
theorem d_Sw_takeAnswer_73 : decode c_Sw_takeAnswer 73 = .ok (.iconst 0, 1) := by decide +kernel
theorem d_Sw_takeAnswer_74 : decode c_Sw_takeAnswer 74 = .ok (.putfield 69, 3) := by decide +kernel
theorem d_Sw_takeAnswer_77 : decode c_Sw_takeAnswer 77 = .ok (.aload_n 0, 1) := by decide +kernel
theorem d_Sw_takeAnswer_78 : decode c_Sw_takeAnswer 78 = .ok (.iload_n 1, 1) := by decide +kernel
theorem d_Sw_takeAnswer_79 : decode c_Sw_takeAnswer 79 = .ok (.putfield 185, 3) := by decide +kernel
theorem d_Sw_takeAnswer_82 : decode c_Sw_takeAnswer 82 = .ok (.aload_n 0, 1) := by decide +kernel
theorem d_Sw_takeAnswer_83 : decode c_Sw_takeAnswer 83 = .ok (.getfield 31, 3) := by decide +kernel
theorem d_Sw_takeAnswer_86 : decode c_Sw_takeAnswer 86 = .ok (.invokevirtual 213, 3) := by decide +kernel
theorem d_Sw_takeAnswer_89 : decode c_Sw_takeAnswer 89 = .ok (.bipush 11, 2) := by decide +kernel
theorem d_Sw_takeAnswer_91 : decode c_Sw_takeAnswer 91 = .ok (.if_icmp .ne 42, 3) := by decide +kernel
theorem d_Sw_takeAnswer_94 : decode c_Sw_takeAnswer 94 = .ok (.aload_n 3, 1) := by decide +kernel
theorem d_Sw_takeAnswer_95 : decode c_Sw_takeAnswer 95 = .ok (.aload_n 0, 1) := by decide +kernel
theorem d_Sw_takeAnswer_96 : decode c_Sw_takeAnswer 96 = .ok (.getfield 31, 3) := by decide +kernel
theorem d_Sw_takeAnswer_99 : decode c_Sw_takeAnswer 99 = .ok (.getfield 214, 3) := by decide +kernel
theorem d_Sw_takeAnswer_102 : decode c_Sw_takeAnswer 102 = .ok (.putfield 75, 3) := by decide +kernel
theorem d_Sw_takeAnswer_105 : decode c_Sw_takeAnswer 105 = .ok (.aload_n 3, 1) := by decide +kernel
theorem d_Sw_takeAnswer_106 : decode c_Sw_takeAnswer 106 = .ok (.getfield 78, 3) := by decide +kernel
theorem d_Sw_takeAnswer_109 : decode c_Sw_takeAnswer 109 = .ok (.aload_n 0, 1) := by decide +kernel
theorem d_Sw_takeAnswer_110 : decode c_Sw_takeAnswer 110 = .ok (.getfield 31, 3) := by decide +kernel
theorem d_Sw_takeAnswer_113 : decode c_Sw_takeAnswer 113 = .ok (.getfield 215, 3) := by decide +kernel
theorem d_Sw_takeAnswer_116 : decode c_Sw_takeAnswer 116 = .ok (.invokevirtual 181, 3) := by decide +kernel
theorem d_Sw_takeAnswer_119 : decode c_Sw_takeAnswer 119 = .ok (.aload_n 0, 1) := by decide +kernel
theorem d_Sw_takeAnswer_120 : decode c_Sw_takeAnswer 120 = .ok (.aload_n 3, 1) := by decide +kernel
theorem d_Sw_takeAnswer_121 : decode c_Sw_takeAnswer 121 = .ok (.aload_n 3, 1) := by decide +kernel
theorem d_Sw_takeAnswer_122 : decode c_Sw_takeAnswer 122 = .ok (.getfield 78, 3) := by decide +kernel
theorem d_Sw_takeAnswer_125 : decode c_Sw_takeAnswer 125 = .ok (.invokevirtual 91, 3) := by decide +kernel
theorem d_Sw_takeAnswer_128 : decode c_Sw_takeAnswer 128 = .ok (.aload_n 3, 1) := by decide +kernel
theorem d_Sw_takeAnswer_129 : decode c_Sw_takeAnswer 129 = .ok (.invokevirtual 95, 3) := by decide +kernel
theorem d_Sw_takeAnswer_132 : decode c_Sw_takeAnswer 132 = .ok (.return_, 1) := by decide +kernel
theorem d_Sw_takeAnswer_133 : decode c_Sw_takeAnswer 133 = .ok (.aload_n 0, 1) := by decide +kernel
theorem d_Sw_takeAnswer_134 : decode c_Sw_takeAnswer 134 = .ok (.aload_n 3, 1) := by decide +kernel
theorem d_Sw_takeAnswer_135 : decode c_Sw_takeAnswer 135 = .ok (.aload_n 0, 1) := by decide +kernel
theorem d_Sw_takeAnswer_136 : decode c_Sw_takeAnswer 136 = .ok (.getfield 31, 3) := by decide +kernel
theorem d_Sw_takeAnswer_139 : decode c_Sw_takeAnswer 139 = .ok (.getfield 215, 3) := by decide +kernel
theorem d_Sw_takeAnswer_142 : decode c_Sw_takeAnswer 142 = .ok (.invokevirtual 91, 3) := by decide +kernel
theorem d_Sw_takeAnswer_145 : decode c_Sw_takeAnswer 145 = .ok (.aload_n 0, 1) := by decide +kernel
theorem d_Sw_takeAnswer_146 : decode c_Sw_takeAnswer 146 = .ok (.getfield 31, 3) := by decide +kernel
theorem d_Sw_takeAnswer_149 : decode c_Sw_takeAnswer 149 = .ok (.invokevirtual 213, 3) := by decide +kernel
theorem d_Sw_takeAnswer_152 : decode c_Sw_takeAnswer 152 = .ok (.iconst 2, 1) := by decide +kernel
theorem d_Sw_takeAnswer_153 : decode c_Sw_takeAnswer 153 = .ok (.if_icmp .ne 11, 3) := by decide +kernel
theorem d_Sw_takeAnswer_156 : decode c_Sw_takeAnswer 156 = .ok (.aload_n 0, 1) := by decide +kernel
theorem d_Sw_takeAnswer_157 : decode c_Sw_takeAnswer 157 = .ok (.aload_n 3, 1) := by decide +kernel
theorem d_Sw_takeAnswer_158 : decode c_Sw_takeAnswer 158 = .ok (.invokevirtual 216, 3) := by decide +kernel
theorem d_Sw_takeAnswer_161 : decode c_Sw_takeAnswer 161 = .ok (.goto 8, 3) := by decide +kernel
theorem d_Sw_takeAnswer_164 : decode c_Sw_takeAnswer 164 = .ok (.aload_n 0, 1) := by decide +kernel
theorem d_Sw_takeAnswer_165 : decode c_Sw_takeAnswer 165 = .ok (.aload_n 3, 1) := by decide +kernel
theorem d_Sw_takeAnswer_166 : decode c_Sw_takeAnswer 166 = .ok (.invokevirtual 219, 3) := by decide +kernel
theorem d_Sw_takeAnswer_169 : decode c_Sw_takeAnswer 169 = .ok (.return_, 1) := by decide +kernel
theorem d_Sw_portAwaiting_0 : decode c_Sw_portAwaiting 0 = .ok (.iconst 0, 1) := by decide +kernel
theorem d_Sw_portAwaiting_1 : decode c_Sw_portAwaiting 1 = .ok (.istore_n 3, 1) := by decide +kernel
theorem d_Sw_portAwaiting_2 : decode c_Sw_portAwaiting 2 = .ok (.iload_n 3, 1) := by decide +kernel
theorem d_Sw_portAwaiting_3 : decode c_Sw_portAwaiting 3 = .ok (.iconst 4, 1) := by decide +kernel
theorem d_Sw_portAwaiting_4 : decode c_Sw_portAwaiting 4 = .ok (.if_icmp .ge 50, 3) := by decide +kernel
theorem d_Sw_portAwaiting_7 : decode c_Sw_portAwaiting 7 = .ok (.aload_n 0, 1) := by decide +kernel
theorem d_Sw_portAwaiting_8 : decode c_Sw_portAwaiting 8 = .ok (.getfield 11, 3) := by decide +kernel
theorem d_Sw_portAwaiting_11 : decode c_Sw_portAwaiting 11 = .ok (.iload_n 3, 1) := by decide +kernel
theorem d_Sw_portAwaiting_12 : decode c_Sw_portAwaiting 12 = .ok (.aaload, 1) := by decide +kernel
theorem d_Sw_portAwaiting_13 : decode c_Sw_portAwaiting 13 = .ok (.astore 4, 2) := by decide +kernel
theorem d_Sw_portAwaiting_15 : decode c_Sw_portAwaiting 15 = .ok (.aload 4, 2) := by decide +kernel
theorem d_Sw_portAwaiting_17 : decode c_Sw_portAwaiting 17 = .ok (.getfield 69, 3) := by decide +kernel
theorem d_Sw_portAwaiting_20 : decode c_Sw_portAwaiting 20 = .ok (.ifCond .le 28, 3) := by decide +kernel
theorem d_Sw_portAwaiting_23 : decode c_Sw_portAwaiting 23 = .ok (.aload 4, 2) := by decide +kernel
theorem d_Sw_portAwaiting_25 : decode c_Sw_portAwaiting 25 = .ok (.getfield 152, 3) := by decide +kernel
theorem d_Sw_portAwaiting_28 : decode c_Sw_portAwaiting 28 = .ok (.iload_n 1, 1) := by decide +kernel
theorem d_Sw_portAwaiting_29 : decode c_Sw_portAwaiting 29 = .ok (.if_icmp .ne 19, 3) := by decide +kernel
theorem d_Sw_portAwaiting_32 : decode c_Sw_portAwaiting 32 = .ok (.aload 4, 2) := by decide +kernel
theorem d_Sw_portAwaiting_34 : decode c_Sw_portAwaiting 34 = .ok (.getfield 139, 3) := by decide +kernel
theorem d_Sw_portAwaiting_37 : decode c_Sw_portAwaiting 37 = .ok (.iconst 1, 1) := by decide +kernel
theorem d_Sw_portAwaiting_38 : decode c_Sw_portAwaiting 38 = .ok (.invokevirtual 222, 3) := by decide +kernel
theorem d_Sw_portAwaiting_41 : decode c_Sw_portAwaiting 41 = .ok (.iload_n 2, 1) := by decide +kernel
theorem d_Sw_portAwaiting_42 : decode c_Sw_portAwaiting 42 = .ok (.if_icmp .ne 6, 3) := by decide +kernel
theorem d_Sw_portAwaiting_45 : decode c_Sw_portAwaiting 45 = .ok (.aload 4, 2) := by decide +kernel
theorem d_Sw_portAwaiting_47 : decode c_Sw_portAwaiting 47 = .ok (.areturn, 1) := by decide +kernel
theorem d_Sw_portAwaiting_48 : decode c_Sw_portAwaiting 48 = .ok (.iinc 3 1, 3) := by decide +kernel
theorem d_Sw_portAwaiting_51 : decode c_Sw_portAwaiting 51 = .ok (.goto (-49), 3) := by decide +kernel
theorem d_Sw_portAwaiting_54 : decode c_Sw_portAwaiting 54 = .ok (.aconst_null, 1) := by decide +kernel
theorem d_Sw_portAwaiting_55 : decode c_Sw_portAwaiting 55 = .ok (.areturn, 1) := by decide +kernel
theorem d_Sw_fits_0 : decode c_Sw_fits 0 = .ok (.aload_n 0, 1) := by decide +kernel
theorem d_Sw_fits_1 : decode c_Sw_fits 1 = .ok (.getfield 31, 3) := by decide +kernel
theorem d_Sw_fits_4 : decode c_Sw_fits 4 = .ok (.getfield 215, 3) := by decide +kernel
theorem d_Sw_fits_7 : decode c_Sw_fits 7 = .ok (.invokevirtual 169, 3) := by decide +kernel
theorem d_Sw_fits_10 : decode c_Sw_fits 10 = .ok (.istore_n 1, 1) := by decide +kernel
theorem d_Sw_fits_11 : decode c_Sw_fits 11 = .ok (.aload_n 0, 1) := by decide +kernel
theorem d_Sw_fits_12 : decode c_Sw_fits 12 = .ok (.getfield 31, 3) := by decide +kernel
theorem d_Sw_fits_15 : decode c_Sw_fits 15 = .ok (.invokevirtual 213, 3) := by decide +kernel
theorem d_Sw_fits_18 : decode c_Sw_fits 18 = .ok (.lookupswitch 67 #[(2, 45), (3, 56), (11, 34)], 34) := by decide +kernel
theorem d_Sw_fits_52 : decode c_Sw_fits 52 = .ok (.iload_n 1, 1) := by decide +kernel
theorem d_Sw_fits_53 : decode c_Sw_fits 53 = .ok (.iconst 1, 1) := by decide +kernel
theorem d_Sw_fits_54 : decode c_Sw_fits 54 = .ok (.if_icmp .ne 7, 3) := by decide +kernel
theorem d_Sw_fits_57 : decode c_Sw_fits 57 = .ok (.iconst 1, 1) := by decide +kernel
theorem d_Sw_fits_58 : decode c_Sw_fits 58 = .ok (.goto 4, 3) := by decide +kernel
theorem d_Sw_fits_61 : decode c_Sw_fits 61 = .ok (.iconst 0, 1) := by decide +kernel
theorem d_Sw_fits_62 : decode c_Sw_fits 62 = .ok (.ireturn, 1) := by decide +kernel
theorem d_Sw_fits_63 : decode c_Sw_fits 63 = .ok (.iload_n 1, 1) := by decide +kernel
theorem d_Sw_fits_64 : decode c_Sw_fits 64 = .ok (.iconst 3, 1) := by decide +kernel
theorem d_Sw_fits_65 : decode c_Sw_fits 65 = .ok (.if_icmp .ne 7, 3) := by decide +kernel
theorem d_Sw_fits_68 : decode c_Sw_fits 68 = .ok (.iconst 1, 1) := by decide +kernel
theorem d_Sw_fits_69 : decode c_Sw_fits 69 = .ok (.goto 4, 3) := by decide +kernel
theorem d_Sw_fits_72 : decode c_Sw_fits 72 = .ok (.iconst 0, 1) := by decide +kernel
theorem d_Sw_fits_73 : decode c_Sw_fits 73 = .ok (.ireturn, 1) := by decide +kernel
theorem d_Sw_fits_74 : decode c_Sw_fits 74 = .ok (.iload_n 1, 1) := by decide +kernel
theorem d_Sw_fits_75 : decode c_Sw_fits 75 = .ok (.iconst 4, 1) := by decide +kernel
theorem d_Sw_fits_76 : decode c_Sw_fits 76 = .ok (.if_icmp .ne 7, 3) := by decide +kernel
theorem d_Sw_fits_79 : decode c_Sw_fits 79 = .ok (.iconst 1, 1) := by decide +kernel
theorem d_Sw_fits_80 : decode c_Sw_fits 80 = .ok (.goto 4, 3) := by decide +kernel
theorem d_Sw_fits_83 : decode c_Sw_fits 83 = .ok (.iconst 0, 1) := by decide +kernel
theorem d_Sw_fits_84 : decode c_Sw_fits 84 = .ok (.ireturn, 1) := by decide +kernel
theorem d_Sw_fits_85 : decode c_Sw_fits 85 = .ok (.iconst 0, 1) := by decide +kernel
theorem d_Sw_fits_86 : decode c_Sw_fits 86 = .ok (.ireturn, 1) := by decide +kernel
theorem d_Sw_admit_0 : decode c_Sw_admit 0 = .ok (.aload_n 1, 1) := by decide +kernel
theorem d_Sw_admit_1 : decode c_Sw_admit 1 = .ok (.iconst 3, 1) := by decide +kernel
theorem d_Sw_admit_2 : decode c_Sw_admit 2 = .ok (.putfield 66, 3) := by decide +kernel
theorem d_Sw_admit_5 : decode c_Sw_admit 5 = .ok (.aload_n 1, 1) := by decide +kernel
theorem d_Sw_admit_6 : decode c_Sw_admit 6 = .ok (.iconst 0, 1) := by decide +kernel
theorem d_Sw_admit_7 : decode c_Sw_admit 7 = .ok (.putfield 114, 3) := by decide +kernel
theorem d_Sw_admit_10 : decode c_Sw_admit 10 = .ok (.aload_n 1, 1) := by decide +kernel
theorem d_Sw_admit_11 : decode c_Sw_admit 11 = .ok (.getfield 111, 3) := by decide +kernel
theorem d_Sw_admit_14 : decode c_Sw_admit 14 = .ok (.ifCond .ne 23, 3) := by decide +kernel
theorem d_Sw_admit_17 : decode c_Sw_admit 17 = .ok (.aload_n 1, 1) := by decide +kernel
theorem d_Sw_admit_18 : decode c_Sw_admit 18 = .ok (.iconst 1, 1) := by decide +kernel
theorem d_Sw_admit_19 : decode c_Sw_admit 19 = .ok (.putfield 111, 3) := by decide +kernel
theorem d_Sw_admit_22 : decode c_Sw_admit 22 = .ok (.aload_n 1, 1) := by decide +kernel
theorem d_Sw_admit_23 : decode c_Sw_admit 23 = .ok (.dup, 1) := by decide +kernel
theorem d_Sw_admit_24 : decode c_Sw_admit 24 = .ok (.getfield 225, 3) := by decide +kernel
theorem d_Sw_admit_27 : decode c_Sw_admit 27 = .ok (.iconst 1, 1) := by decide +kernel
theorem d_Sw_admit_28 : decode c_Sw_admit 28 = .ok (.iadd, 1) := by decide +kernel
theorem d_Sw_admit_29 : decode c_Sw_admit 29 = .ok (.putfield 225, 3) := by decide +kernel
theorem d_Sw_admit_32 : decode c_Sw_admit 32 = .ok (.aload_n 1, 1) := by decide +kernel
theorem d_Sw_admit_33 : decode c_Sw_admit 33 = .ok (.iconst 0, 1) := by decide +kernel
theorem d_Sw_admit_34 : decode c_Sw_admit 34 = .ok (.putfield 228, 3) := by decide +kernel
theorem d_Sw_admit_37 : decode c_Sw_admit 37 = .ok (.return_, 1) := by decide +kernel
theorem d_Sw_pulse_0 : decode c_Sw_pulse 0 = .ok (.aload_n 1, 1) := by decide +kernel
theorem d_Sw_pulse_1 : decode c_Sw_pulse 1 = .ok (.getfield 55, 3) := by decide +kernel
theorem d_Sw_pulse_4 : decode c_Sw_pulse 4 = .ok (.ifCond .ne 4, 3) := by decide +kernel
theorem d_Sw_pulse_7 : decode c_Sw_pulse 7 = .ok (.return_, 1) := by decide +kernel
theorem d_Sw_pulse_8 : decode c_Sw_pulse 8 = .ok (.aload_n 1, 1) := by decide +kernel
theorem d_Sw_pulse_9 : decode c_Sw_pulse 9 = .ok (.dup, 1) := by decide +kernel
theorem d_Sw_pulse_10 : decode c_Sw_pulse 10 = .ok (.getfield 114, 3) := by decide +kernel
theorem d_Sw_pulse_13 : decode c_Sw_pulse 13 = .ok (.iconst 1, 1) := by decide +kernel
theorem d_Sw_pulse_14 : decode c_Sw_pulse 14 = .ok (.iadd, 1) := by decide +kernel
theorem d_Sw_pulse_15 : decode c_Sw_pulse 15 = .ok (.putfield 114, 3) := by decide +kernel
theorem d_Sw_pulse_18 : decode c_Sw_pulse 18 = .ok (.aload_n 1, 1) := by decide +kernel
theorem d_Sw_pulse_19 : decode c_Sw_pulse 19 = .ok (.getfield 72, 3) := by decide +kernel
theorem d_Sw_pulse_22 : decode c_Sw_pulse 22 = .ok (.ifCond .eq 19, 3) := by decide +kernel
theorem d_Sw_pulse_25 : decode c_Sw_pulse 25 = .ok (.aload_n 1, 1) := by decide +kernel
theorem d_Sw_pulse_26 : decode c_Sw_pulse 26 = .ok (.getfield 114, 3) := by decide +kernel
theorem d_Sw_pulse_29 : decode c_Sw_pulse 29 = .ok (.iconst 5, 1) := by decide +kernel
theorem d_Sw_pulse_30 : decode c_Sw_pulse 30 = .ok (.if_icmp .ne 81, 3) := by decide +kernel
theorem d_Sw_pulse_33 : decode c_Sw_pulse 33 = .ok (.aload_n 0, 1) := by decide +kernel
theorem d_Sw_pulse_34 : decode c_Sw_pulse 34 = .ok (.aload_n 1, 1) := by decide +kernel
theorem d_Sw_pulse_35 : decode c_Sw_pulse 35 = .ok (.invokevirtual 231, 3) := by decide +kernel
theorem d_Sw_pulse_38 : decode c_Sw_pulse 38 = .ok (.goto 73, 3) := by decide +kernel
theorem d_Sw_pulse_41 : decode c_Sw_pulse 41 = .ok (.aload_n 1, 1) := by decide +kernel
theorem d_Sw_pulse_42 : decode c_Sw_pulse 42 = .ok (.getfield 69, 3) := by decide +kernel
theorem d_Sw_pulse_45 : decode c_Sw_pulse 45 = .ok (.ifCond .le 19, 3) := by decide +kernel
theorem d_Sw_pulse_48 : decode c_Sw_pulse 48 = .ok (.aload_n 1, 1) := by decide +kernel
theorem d_Sw_pulse_49 : decode c_Sw_pulse 49 = .ok (.getfield 114, 3) := by decide +kernel
theorem d_Sw_pulse_52 : decode c_Sw_pulse 52 = .ok (.iconst 4, 1) := by decide +kernel
theorem d_Sw_pulse_53 : decode c_Sw_pulse 53 = .ok (.if_icmp .ne 58, 3) := by decide +kernel
theorem d_Sw_pulse_56 : decode c_Sw_pulse 56 = .ok (.aload_n 0, 1) := by decide +kernel
theorem d_Sw_pulse_57 : decode c_Sw_pulse 57 = .ok (.aload_n 1, 1) := by decide +kernel
theorem d_Sw_pulse_58 : decode c_Sw_pulse 58 = .ok (.invokevirtual 234, 3) := by decide +kernel
theorem d_Sw_pulse_61 : decode c_Sw_pulse 61 = .ok (.goto 50, 3) := by decide +kernel
theorem d_Sw_pulse_64 : decode c_Sw_pulse 64 = .ok (.aload_n 1, 1) := by decide +kernel
theorem d_Sw_pulse_65 : decode c_Sw_pulse 65 = .ok (.getfield 66, 3) := by decide +kernel
theorem d_Sw_pulse_68 : decode c_Sw_pulse 68 = .ok (.iconst 3, 1) := by decide +kernel
theorem d_Sw_pulse_69 : decode c_Sw_pulse 69 = .ok (.if_icmp .ne 20, 3) := by decide +kernel
theorem d_Sw_pulse_72 : decode c_Sw_pulse 72 = .ok (.aload_n 1, 1) := by decide +kernel
theorem d_Sw_pulse_73 : decode c_Sw_pulse 73 = .ok (.getfield 114, 3) := by decide +kernel
theorem d_Sw_pulse_76 : decode c_Sw_pulse 76 = .ok (.bipush 30, 2) := by decide +kernel
theorem d_Sw_pulse_78 : decode c_Sw_pulse 78 = .ok (.if_icmp .ne 11, 3) := by decide +kernel
theorem d_Sw_pulse_81 : decode c_Sw_pulse 81 = .ok (.aload_n 0, 1) := by decide +kernel
theorem d_Sw_pulse_82 : decode c_Sw_pulse 82 = .ok (.aload_n 1, 1) := by decide +kernel
theorem d_Sw_pulse_83 : decode c_Sw_pulse 83 = .ok (.invokevirtual 59, 3) := by decide +kernel
theorem d_Sw_pulse_86 : decode c_Sw_pulse 86 = .ok (.goto 25, 3) := by decide +kernel
theorem d_Sw_pulse_89 : decode c_Sw_pulse 89 = .ok (.aload_n 1, 1) := by decide +kernel
theorem d_Sw_pulse_90 : decode c_Sw_pulse 90 = .ok (.getfield 66, 3) := by decide +kernel
theorem d_Sw_pulse_93 : decode c_Sw_pulse 93 = .ok (.iconst 4, 1) := by decide +kernel
theorem d_Sw_pulse_94 : decode c_Sw_pulse 94 = .ok (.if_icmp .ne 17, 3) := by decide +kernel
theorem d_Sw_pulse_97 : decode c_Sw_pulse 97 = .ok (.aload_n 1, 1) := by decide +kernel
theorem d_Sw_pulse_98 : decode c_Sw_pulse 98 = .ok (.getfield 114, 3) := by decide +kernel
theorem d_Sw_pulse_101 : decode c_Sw_pulse 101 = .ok (.bipush 6, 2) := by decide +kernel
theorem d_Sw_pulse_103 : decode c_Sw_pulse 103 = .ok (.if_icmp .ne 8, 3) := by decide +kernel
theorem d_Sw_pulse_106 : decode c_Sw_pulse 106 = .ok (.aload_n 0, 1) := by decide +kernel
theorem d_Sw_pulse_107 : decode c_Sw_pulse 107 = .ok (.aload_n 1, 1) := by decide +kernel
theorem d_Sw_pulse_108 : decode c_Sw_pulse 108 = .ok (.invokevirtual 59, 3) := by decide +kernel
theorem d_Sw_pulse_111 : decode c_Sw_pulse 111 = .ok (.return_, 1) := by decide +kernel
theorem d_Sw_resend_0 : decode c_Sw_resend 0 = .ok (.aload_n 1, 1) := by decide +kernel
theorem d_Sw_resend_1 : decode c_Sw_resend 1 = .ok (.getfield 237, 3) := by decide +kernel
theorem d_Sw_resend_4 : decode c_Sw_resend 4 = .ok (.iconst 2, 1) := by decide +kernel
theorem d_Sw_resend_5 : decode c_Sw_resend 5 = .ok (.if_icmp .ge 28, 3) := by decide +kernel
theorem d_Sw_resend_8 : decode c_Sw_resend 8 = .ok (.aload_n 0, 1) := by decide +kernel
theorem d_Sw_resend_9 : decode c_Sw_resend 9 = .ok (.aload_n 1, 1) := by decide +kernel
theorem d_Sw_resend_10 : decode c_Sw_resend 10 = .ok (.aload_n 1, 1) := by decide +kernel
theorem d_Sw_resend_11 : decode c_Sw_resend 11 = .ok (.getfield 78, 3) := by decide +kernel
theorem d_Sw_resend_14 : decode c_Sw_resend 14 = .ok (.invokevirtual 91, 3) := by decide +kernel
theorem d_Sw_resend_17 : decode c_Sw_resend 17 = .ok (.aload_n 1, 1) := by decide +kernel
theorem d_Sw_resend_18 : decode c_Sw_resend 18 = .ok (.iconst 0, 1) := by decide +kernel
theorem d_Sw_resend_19 : decode c_Sw_resend 19 = .ok (.putfield 114, 3) := by decide +kernel
theorem d_Sw_resend_22 : decode c_Sw_resend 22 = .ok (.aload_n 1, 1) := by decide +kernel
theorem d_Sw_resend_23 : decode c_Sw_resend 23 = .ok (.dup, 1) := by decide +kernel
theorem d_Sw_resend_24 : decode c_Sw_resend 24 = .ok (.getfield 237, 3) := by decide +kernel
theorem d_Sw_resend_27 : decode c_Sw_resend 27 = .ok (.iconst 1, 1) := by decide +kernel
theorem d_Sw_resend_28 : decode c_Sw_resend 28 = .ok (.iadd, 1) := by decide +kernel
theorem d_Sw_resend_29 : decode c_Sw_resend 29 = .ok (.putfield 237, 3) := by decide +kernel
theorem d_Sw_resend_32 : decode c_Sw_resend 32 = .ok (.return_, 1) := by decide +kernel
theorem d_Sw_resend_33 : decode c_Sw_resend 33 = .ok (.aload_n 1, 1) := by decide +kernel
theorem d_Sw_resend_34 : decode c_Sw_resend 34 = .ok (.getfield 66, 3) := by decide +kernel
theorem d_Sw_resend_37 : decode c_Sw_resend 37 = .ok (.iconst 2, 1) := by decide +kernel
theorem d_Sw_resend_38 : decode c_Sw_resend 38 = .ok (.if_icmp .ne 8, 3) := by decide +kernel
theorem d_Sw_resend_41 : decode c_Sw_resend 41 = .ok (.aload_n 0, 1) := by decide +kernel
theorem d_Sw_resend_42 : decode c_Sw_resend 42 = .ok (.aload_n 1, 1) := by decide +kernel
theorem d_Sw_resend_43 : decode c_Sw_resend 43 = .ok (.invokevirtual 63, 3) := by decide +kernel
theorem d_Sw_resend_46 : decode c_Sw_resend 46 = .ok (.aload_n 0, 1) := by decide +kernel
theorem d_Sw_resend_47 : decode c_Sw_resend 47 = .ok (.aload_n 1, 1) := by decide +kernel
theorem d_Sw_resend_48 : decode c_Sw_resend 48 = .ok (.invokevirtual 59, 3) := by decide +kernel
theorem d_Sw_resend_51 : decode c_Sw_resend 51 = .ok (.return_, 1) := by decide +kernel
theorem d_Sw_retry_0 : decode c_Sw_retry 0 = .ok (.aload_n 1, 1) := by decide +kernel
theorem d_Sw_retry_1 : decode c_Sw_retry 1 = .ok (.getfield 69, 3) := by decide +kernel
theorem d_Sw_retry_4 : decode c_Sw_retry 4 = .ok (.iconst 1, 1) := by decide +kernel
theorem d_Sw_retry_5 : decode c_Sw_retry 5 = .ok (.if_icmp .ne 32, 3) := by decide +kernel
theorem d_Sw_retry_8 : decode c_Sw_retry 8 = .ok (.aload_n 0, 1) := by decide +kernel
theorem d_Sw_retry_9 : decode c_Sw_retry 9 = .ok (.getfield 42, 3) := by decide +kernel
theorem d_Sw_retry_12 : decode c_Sw_retry 12 = .ok (.iconst 2, 1) := by decide +kernel
theorem d_Sw_retry_13 : decode c_Sw_retry 13 = .ok (.aload_n 1, 1) := by decide +kernel
theorem d_Sw_retry_14 : decode c_Sw_retry 14 = .ok (.getfield 152, 3) := by decide +kernel
theorem d_Sw_retry_17 : decode c_Sw_retry 17 = .ok (.aload_n 1, 1) := by decide +kernel
theorem d_Sw_retry_18 : decode c_Sw_retry 18 = .ok (.getfield 139, 3) := by decide +kernel
theorem d_Sw_retry_21 : decode c_Sw_retry 21 = .ok (.invokevirtual 155, 3) := by decide +kernel
theorem d_Sw_retry_24 : decode c_Sw_retry 24 = .ok (.aload_n 1, 1) := by decide +kernel
theorem d_Sw_retry_25 : decode c_Sw_retry 25 = .ok (.iconst 2, 1) := by decide +kernel
theorem d_Sw_retry_26 : decode c_Sw_retry 26 = .ok (.putfield 69, 3) := by decide +kernel
theorem d_Sw_retry_29 : decode c_Sw_retry 29 = .ok (.aload_n 1, 1) := by decide +kernel
theorem d_Sw_retry_30 : decode c_Sw_retry 30 = .ok (.iconst 0, 1) := by decide +kernel
theorem d_Sw_retry_31 : decode c_Sw_retry 31 = .ok (.putfield 114, 3) := by decide +kernel
theorem d_Sw_retry_34 : decode c_Sw_retry 34 = .ok (.goto 58, 3) := by decide +kernel
theorem d_Sw_retry_37 : decode c_Sw_retry 37 = .ok (.aload_n 1, 1) := by decide +kernel
theorem d_Sw_retry_38 : decode c_Sw_retry 38 = .ok (.getfield 182, 3) := by decide +kernel
theorem d_Sw_retry_41 : decode c_Sw_retry 41 = .ok (.ifCond .ne 22, 3) := by decide +kernel
theorem d_Sw_retry_44 : decode c_Sw_retry 44 = .ok (.aload_n 1, 1) := by decide +kernel
theorem d_Sw_retry_45 : decode c_Sw_retry 45 = .ok (.iconst 1, 1) := by decide +kernel
theorem d_Sw_retry_46 : decode c_Sw_retry 46 = .ok (.putfield 182, 3) := by decide +kernel
theorem d_Sw_retry_49 : decode c_Sw_retry 49 = .ok (.aload_n 0, 1) := by decide +kernel
theorem d_Sw_retry_50 : decode c_Sw_retry 50 = .ok (.aload_n 1, 1) := by decide +kernel
theorem d_Sw_retry_51 : decode c_Sw_retry 51 = .ok (.iconst 1, 1) := by decide +kernel
theorem d_Sw_retry_52 : decode c_Sw_retry 52 = .ok (.aload_n 1, 1) := by decide +kernel
theorem d_Sw_retry_53 : decode c_Sw_retry 53 = .ok (.getfield 152, 3) := by decide +kernel
theorem d_Sw_retry_56 : decode c_Sw_retry 56 = .ok (.isub, 1) := by decide +kernel
theorem d_Sw_retry_57 : decode c_Sw_retry 57 = .ok (.invokevirtual 188, 3) := by decide +kernel
theorem d_Sw_retry_60 : decode c_Sw_retry 60 = .ok (.goto 32, 3) := by decide +kernel
theorem d_Sw_retry_63 : decode c_Sw_retry 63 = .ok (.aload_n 0, 1) := by decide +kernel
theorem d_Sw_retry_64 : decode c_Sw_retry 64 = .ok (.getfield 24, 3) := by decide +kernel
theorem d_Sw_retry_67 : decode c_Sw_retry 67 = .ok (.iconst 4, 1) := by decide +kernel
theorem d_Sw_retry_68 : decode c_Sw_retry 68 = .ok (.aload_n 1, 1) := by decide +kernel
theorem d_Sw_retry_69 : decode c_Sw_retry 69 = .ok (.getfield 78, 3) := by decide +kernel
theorem d_Sw_retry_72 : decode c_Sw_retry 72 = .ok (.invokevirtual 107, 3) := by decide +kernel
theorem d_Sw_retry_75 : decode c_Sw_retry 75 = .ok (.invokevirtual 240, 3) := by decide +kernel
theorem d_Sw_retry_78 : decode c_Sw_retry 78 = .ok (.aload_n 0, 1) := by decide +kernel
theorem d_Sw_retry_79 : decode c_Sw_retry 79 = .ok (.aload_n 1, 1) := by decide +kernel
theorem d_Sw_retry_80 : decode c_Sw_retry 80 = .ok (.aload_n 0, 1) := by decide +kernel
theorem d_Sw_retry_81 : decode c_Sw_retry 81 = .ok (.getfield 24, 3) := by decide +kernel
theorem d_Sw_retry_84 : decode c_Sw_retry 84 = .ok (.invokevirtual 91, 3) := by decide +kernel
theorem d_Sw_retry_87 : decode c_Sw_retry 87 = .ok (.aload_n 0, 1) := by decide +kernel
theorem d_Sw_retry_88 : decode c_Sw_retry 88 = .ok (.aload_n 1, 1) := by decide +kernel
theorem d_Sw_retry_89 : decode c_Sw_retry 89 = .ok (.invokevirtual 219, 3) := by decide +kernel
theorem d_Sw_retry_92 : decode c_Sw_retry 92 = .ok (.return_, 1) := by decide +kernel
theorem d_Sw_carry_0 : decode c_Sw_carry 0 = .ok (.aload_n 1, 1) := by decide +kernel
theorem d_Sw_carry_1 : decode c_Sw_carry 1 = .ok (.getfield 111, 3) := by decide +kernel
theorem d_Sw_carry_4 : decode c_Sw_carry 4 = .ok (.ifCond .ne 5, 3) := by decide +kernel
theorem d_Sw_carry_7 : decode c_Sw_carry 7 = .ok (.iconst 0, 1) := by decide +kernel
theorem d_Sw_carry_8 : decode c_Sw_carry 8 = .ok (.ireturn, 1) := by decide +kernel
theorem d_Sw_carry_9 : decode c_Sw_carry 9 = .ok (.aload_n 0, 1) := by decide +kernel
theorem d_Sw_carry_10 : decode c_Sw_carry 10 = .ok (.getfield 17, 3) := by decide +kernel
theorem d_Sw_carry_13 : decode c_Sw_carry 13 = .ok (.iload_n 2, 1) := by decide +kernel
theorem d_Sw_carry_14 : decode c_Sw_carry 14 = .ok (.aload_n 1, 1) := by decide +kernel
theorem d_Sw_carry_15 : decode c_Sw_carry 15 = .ok (.getfield 98, 3) := by decide +kernel
theorem d_Sw_carry_18 : decode c_Sw_carry 18 = .ok (.iastore, 1) := by decide +kernel
theorem d_Sw_carry_19 : decode c_Sw_carry 19 = .ok (.aload_n 1, 1) := by decide +kernel
theorem d_Sw_carry_20 : decode c_Sw_carry 20 = .ok (.dup, 1) := by decide +kernel
theorem d_Sw_carry_21 : decode c_Sw_carry 21 = .ok (.getfield 228, 3) := by decide +kernel
theorem d_Sw_carry_24 : decode c_Sw_carry 24 = .ok (.iconst 1, 1) := by decide +kernel
theorem d_Sw_carry_25 : decode c_Sw_carry 25 = .ok (.iadd, 1) := by decide +kernel
theorem d_Sw_carry_26 : decode c_Sw_carry 26 = .ok (.putfield 228, 3) := by decide +kernel
theorem d_Sw_carry_29 : decode c_Sw_carry 29 = .ok (.iload_n 3, 1) := by decide +kernel
theorem d_Sw_carry_30 : decode c_Sw_carry 30 = .ok (.bipush 8, 2) := by decide +kernel
theorem d_Sw_carry_32 : decode c_Sw_carry 32 = .ok (.if_icmp .ne 7, 3) := by decide +kernel
theorem d_Sw_carry_35 : decode c_Sw_carry 35 = .ok (.iconst (-1), 1) := by decide +kernel
theorem d_Sw_carry_36 : decode c_Sw_carry 36 = .ok (.goto 9, 3) := by decide +kernel
theorem d_Sw_carry_39 : decode c_Sw_carry 39 = .ok (.aload_n 0, 1) := by decide +kernel
theorem d_Sw_carry_40 : decode c_Sw_carry 40 = .ok (.getfield 17, 3) := by decide +kernel
theorem d_Sw_carry_43 : decode c_Sw_carry 43 = .ok (.iload_n 3, 1) := by decide +kernel
theorem d_Sw_carry_44 : decode c_Sw_carry 44 = .ok (.iaload, 1) := by decide +kernel
theorem d_Sw_carry_45 : decode c_Sw_carry 45 = .ok (.istore 4, 2) := by decide +kernel
theorem d_Sw_carry_47 : decode c_Sw_carry 47 = .ok (.iconst 0, 1) := by decide +kernel
theorem d_Sw_carry_48 : decode c_Sw_carry 48 = .ok (.istore 5, 2) := by decide +kernel
theorem d_Sw_carry_50 : decode c_Sw_carry 50 = .ok (.iconst 0, 1) := by decide +kernel
theorem d_Sw_carry_51 : decode c_Sw_carry 51 = .ok (.istore 6, 2) := by decide +kernel
theorem d_Sw_carry_53 : decode c_Sw_carry 53 = .ok (.iload 6, 2) := by decide +kernel
theorem d_Sw_carry_55 : decode c_Sw_carry 55 = .ok (.iconst 4, 1) := by decide +kernel
theorem d_Sw_carry_56 : decode c_Sw_carry 56 = .ok (.if_icmp .ge 65, 3) := by decide +kernel
theorem d_Sw_carry_59 : decode c_Sw_carry 59 = .ok (.iload 4, 2) := by decide +kernel
theorem d_Sw_carry_61 : decode c_Sw_carry 61 = .ok (.iconst (-1), 1) := by decide +kernel
theorem d_Sw_carry_62 : decode c_Sw_carry 62 = .ok (.if_icmp .eq 10, 3) := by decide +kernel
theorem d_Sw_carry_65 : decode c_Sw_carry 65 = .ok (.iload 4, 2) := by decide +kernel
theorem d_Sw_carry_67 : decode c_Sw_carry 67 = .ok (.iload 6, 2) := by decide +kernel
theorem d_Sw_carry_69 : decode c_Sw_carry 69 = .ok (.if_icmp .ne 7, 3) := by decide +kernel
theorem d_Sw_carry_72 : decode c_Sw_carry 72 = .ok (.iconst 1, 1) := by decide +kernel
theorem d_Sw_carry_73 : decode c_Sw_carry 73 = .ok (.goto 4, 3) := by decide +kernel
theorem d_Sw_carry_76 : decode c_Sw_carry 76 = .ok (.iconst 0, 1) := by decide +kernel
theorem d_Sw_carry_77 : decode c_Sw_carry 77 = .ok (.istore 7, 2) := by decide +kernel
theorem d_Sw_carry_79 : decode c_Sw_carry 79 = .ok (.iload 7, 2) := by decide +kernel
theorem d_Sw_carry_81 : decode c_Sw_carry 81 = .ok (.ifCond .eq 34, 3) := by decide +kernel
theorem d_Sw_carry_84 : decode c_Sw_carry 84 = .ok (.iload 6, 2) := by decide +kernel
theorem d_Sw_carry_86 : decode c_Sw_carry 86 = .ok (.aload_n 1, 1) := by decide +kernel
theorem d_Sw_carry_87 : decode c_Sw_carry 87 = .ok (.getfield 98, 3) := by decide +kernel
theorem d_Sw_carry_90 : decode c_Sw_carry 90 = .ok (.if_icmp .eq 25, 3) := by decide +kernel
theorem d_Sw_carry_93 : decode c_Sw_carry 93 = .ok (.aload_n 0, 1) := by decide +kernel
theorem d_Sw_carry_94 : decode c_Sw_carry 94 = .ok (.getfield 11, 3) := by decide +kernel
theorem d_Sw_carry_97 : decode c_Sw_carry 97 = .ok (.iload 6, 2) := by decide +kernel
theorem d_Sw_carry_99 : decode c_Sw_carry 99 = .ok (.aaload, 1) := by decide +kernel
theorem d_Sw_carry_100 : decode c_Sw_carry 100 = .ok (.getfield 111, 3) := by decide +kernel
theorem d_Sw_carry_103 : decode c_Sw_carry 103 = .ok (.ifCond .eq 12, 3) := by decide +kernel
theorem d_Sw_carry_106 : decode c_Sw_carry 106 = .ok (.iload 5, 2) := by decide +kernel
theorem d_Sw_carry_108 : decode c_Sw_carry 108 = .ok (.iconst 1, 1) := by decide +kernel
theorem d_Sw_carry_109 : decode c_Sw_carry 109 = .ok (.iload 6, 2) := by decide +kernel
theorem d_Sw_carry_111 : decode c_Sw_carry 111 = .ok (.ishl, 1) := by decide +kernel
theorem d_Sw_carry_112 : decode c_Sw_carry 112 = .ok (.ior, 1) := by decide +kernel
theorem d_Sw_carry_113 : decode c_Sw_carry 113 = .ok (.istore 5, 2) := by decide +kernel
theorem d_Sw_carry_115 : decode c_Sw_carry 115 = .ok (.iinc 6 1, 3) := by decide +kernel
theorem d_Sw_carry_118 : decode c_Sw_carry 118 = .ok (.goto (-65), 3) := by decide +kernel
theorem d_Sw_carry_121 : decode c_Sw_carry 121 = .ok (.iload 5, 2) := by decide +kernel
theorem d_Sw_carry_123 : decode c_Sw_carry 123 = .ok (.ireturn, 1) := by decide +kernel

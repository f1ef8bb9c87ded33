theorem d_Us_knows_0 : decode c_Us_knows 0 = .ok (.iload_n 1, 1) := by decide +kernel
theorem d_Us_knows_1 : decode c_Us_knows 1 = .ok (.ifCond .lt 22, 3) := by decide +kernel
theorem d_Us_knows_4 : decode c_Us_knows 4 = .ok (.iload_n 1, 1) := by decide +kernel
theorem d_Us_knows_5 : decode c_Us_knows 5 = .ok (.bipush 8, 2) := by decide +kernel
theorem d_Us_knows_7 : decode c_Us_knows 7 = .ok (.if_icmp .ge 16, 3) := by decide +kernel
theorem d_Us_knows_10 : decode c_Us_knows 10 = .ok (.aload_n 0, 1) := by decide +kernel
theorem d_Us_knows_11 : decode c_Us_knows 11 = .ok (.getfield 15, 3) := by decide +kernel
theorem d_Us_knows_14 : decode c_Us_knows 14 = .ok (.iload_n 1, 1) := by decide +kernel
theorem d_Us_knows_15 : decode c_Us_knows 15 = .ok (.iaload, 1) := by decide +kernel
theorem d_Us_knows_16 : decode c_Us_knows 16 = .ok (.ifCond .eq 7, 3) := by decide +kernel
theorem d_Us_knows_19 : decode c_Us_knows 19 = .ok (.iconst 1, 1) := by decide +kernel
theorem d_Us_knows_20 : decode c_Us_knows 20 = .ok (.goto 4, 3) := by decide +kernel
theorem d_Us_knows_23 : decode c_Us_knows 23 = .ok (.iconst 0, 1) := by decide +kernel
theorem d_Us_knows_24 : decode c_Us_knows 24 = .ok (.ireturn, 1) := by decide +kernel

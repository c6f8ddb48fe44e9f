theorem dX5_lotBlock_5 : decode cX5_lotBlock 5 = .ok (.aload_n 0, 1) := by decide +kernel
theorem dX5_lotBlock_6 : decode cX5_lotBlock 6 = .ok (.getfield 9, 3) := by decide +kernel
theorem dX5_lotBlock_9 : decode cX5_lotBlock 9 = .ok (.if_icmp .ge 29, 3) := by decide +kernel
theorem dX5_lotBlock_12 : decode cX5_lotBlock 12 = .ok (.aload_n 0, 1) := by decide +kernel
theorem dX5_lotBlock_13 : decode cX5_lotBlock 13 = .ok (.getfield 19, 3) := by decide +kernel
theorem dX5_lotBlock_16 : decode cX5_lotBlock 16 = .ok (.iload_n 3, 1) := by decide +kernel
theorem dX5_lotBlock_17 : decode cX5_lotBlock 17 = .ok (.iaload, 1) := by decide +kernel
theorem dX5_lotBlock_18 : decode cX5_lotBlock 18 = .ok (.iconst 4, 1) := by decide +kernel
theorem dX5_lotBlock_19 : decode cX5_lotBlock 19 = .ok (.if_icmp .ne 13, 3) := by decide +kernel
theorem dX5_lotBlock_22 : decode cX5_lotBlock 22 = .ok (.iload_n 2, 1) := by decide +kernel
theorem dX5_lotBlock_23 : decode cX5_lotBlock 23 = .ok (.iload_n 1, 1) := by decide +kernel
theorem dX5_lotBlock_24 : decode cX5_lotBlock 24 = .ok (.if_icmp .ne 5, 3) := by decide +kernel
theorem dX5_lotBlock_27 : decode cX5_lotBlock 27 = .ok (.iload_n 3, 1) := by decide +kernel
theorem dX5_lotBlock_28 : decode cX5_lotBlock 28 = .ok (.ireturn, 1) := by decide +kernel
theorem dX5_lotBlock_29 : decode cX5_lotBlock 29 = .ok (.iinc 2 1, 3) := by decide +kernel
theorem dX5_lotBlock_32 : decode cX5_lotBlock 32 = .ok (.iinc 3 1, 3) := by decide +kernel
theorem dX5_lotBlock_35 : decode cX5_lotBlock 35 = .ok (.goto (-31), 3) := by decide +kernel
theorem dX5_lotBlock_38 : decode cX5_lotBlock 38 = .ok (.iconst (-1), 1) := by decide +kernel
theorem dX5_lotBlock_39 : decode cX5_lotBlock 39 = .ok (.ireturn, 1) := by decide +kernel

theorem dX4_moveOf_61 : decode cX4_moveOf 61 = .ok (.ireturn, 1) := by decide +kernel
theorem dX4_moveOf_62 : decode cX4_moveOf 62 = .ok (.iconst 3, 1) := by decide +kernel
theorem dX4_moveOf_63 : decode cX4_moveOf 63 = .ok (.ireturn, 1) := by decide +kernel
theorem dX4_moveOf_64 : decode cX4_moveOf 64 = .ok (.iconst 4, 1) := by decide +kernel
theorem dX4_moveOf_65 : decode cX4_moveOf 65 = .ok (.ireturn, 1) := by decide +kernel
theorem dX4_moveOf_66 : decode cX4_moveOf 66 = .ok (.iconst (-1), 1) := by decide +kernel
theorem dX4_moveOf_67 : decode cX4_moveOf 67 = .ok (.ireturn, 1) := by decide +kernel

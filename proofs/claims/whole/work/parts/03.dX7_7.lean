theorem dX7_judge_131 : decode cX7_judge 131 = .ok (.iload 9, 2) := by decide +kernel
theorem dX7_judge_133 : decode cX7_judge 133 = .ok (.iaload, 1) := by decide +kernel
theorem dX7_judge_134 : decode cX7_judge 134 = .ok (.if_icmp .eq 6, 3) := by decide +kernel
theorem dX7_judge_137 : decode cX7_judge 137 = .ok (.iload 8, 2) := by decide +kernel
theorem dX7_judge_139 : decode cX7_judge 139 = .ok (.ireturn, 1) := by decide +kernel
theorem dX7_judge_140 : decode cX7_judge 140 = .ok (.iinc 9 1, 3) := by decide +kernel
theorem dX7_judge_143 : decode cX7_judge 143 = .ok (.goto (-37), 3) := by decide +kernel
theorem dX7_judge_146 : decode cX7_judge 146 = .ok (.aload_n 0, 1) := by decide +kernel
theorem dX7_judge_147 : decode cX7_judge 147 = .ok (.iload 8, 2) := by decide +kernel
theorem dX7_judge_149 : decode cX7_judge 149 = .ok (.invokevirtual 246, 3) := by decide +kernel
theorem dX7_judge_152 : decode cX7_judge 152 = .ok (.ifCond .lt 7, 3) := by decide +kernel
theorem dX7_judge_155 : decode cX7_judge 155 = .ok (.iconst 1, 1) := by decide +kernel
theorem dX7_judge_156 : decode cX7_judge 156 = .ok (.goto 4, 3) := by decide +kernel
theorem dX7_judge_159 : decode cX7_judge 159 = .ok (.iconst 0, 1) := by decide +kernel
theorem dX7_judge_160 : decode cX7_judge 160 = .ok (.istore 7, 2) := by decide +kernel
theorem dX7_judge_162 : decode cX7_judge 162 = .ok (.iinc 8 1, 3) := by decide +kernel
theorem dX7_judge_165 : decode cX7_judge 165 = .ok (.goto (-93), 3) := by decide +kernel
theorem dX7_judge_168 : decode cX7_judge 168 = .ok (.bipush (-4), 2) := by decide +kernel
theorem dX7_judge_170 : decode cX7_judge 170 = .ok (.ireturn, 1) := by decide +kernel

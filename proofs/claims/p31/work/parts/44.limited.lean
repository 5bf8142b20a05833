/-! the law's method limited: its rows and words of its calls -/
theorem dL_limited_0 : decode cL_limited 0 = .ok (.iload_n 0, 1) := by decide +kernel
theorem dL_limited_1 : decode cL_limited 1 = .ok (.sipush 500, 3) := by decide +kernel
theorem dL_limited_4 : decode cL_limited 4 = .ok (.if_icmp .le 9, 3) := by decide +kernel
theorem dL_limited_7 : decode cL_limited 7 = .ok (.sipush 500, 3) := by decide +kernel
theorem dL_limited_10 : decode cL_limited 10 = .ok (.goto 17, 3) := by decide +kernel
theorem dL_limited_13 : decode cL_limited 13 = .ok (.iload_n 0, 1) := by decide +kernel
theorem dL_limited_14 : decode cL_limited 14 = .ok (.sipush (-500), 3) := by decide +kernel
theorem dL_limited_17 : decode cL_limited 17 = .ok (.if_icmp .ge 9, 3) := by decide +kernel
theorem dL_limited_20 : decode cL_limited 20 = .ok (.sipush (-500), 3) := by decide +kernel
theorem dL_limited_23 : decode cL_limited 23 = .ok (.goto 4, 3) := by decide +kernel
theorem dL_limited_26 : decode cL_limited 26 = .ok (.iload_n 0, 1) := by decide +kernel
theorem dL_limited_27 : decode cL_limited 27 = .ok (.ireturn, 1) := by decide +kernel

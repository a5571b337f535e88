/-! decode rows (written by program) -/
theorem dX4_steps_0 : decode cX4_steps 0 = .ok (.iload_n 1, 1) := by decide +kernel
theorem dX4_steps_1 : decode cX4_steps 1 = .ok (.ifCond .lt 9, 3) := by decide +kernel
theorem dX4_steps_4 : decode cX4_steps 4 = .ok (.iload_n 1, 1) := by decide +kernel
theorem dX4_steps_5 : decode cX4_steps 5 = .ok (.bipush 50, 2) := by decide +kernel
theorem dX4_steps_7 : decode cX4_steps 7 = .ok (.if_icmp .le 5, 3) := by decide +kernel
theorem dX4_steps_10 : decode cX4_steps 10 = .ok (.iconst (-1), 1) := by decide +kernel
theorem dX4_steps_11 : decode cX4_steps 11 = .ok (.ireturn, 1) := by decide +kernel
theorem dX4_steps_12 : decode cX4_steps 12 = .ok (.iconst 0, 1) := by decide +kernel
theorem dX4_steps_13 : decode cX4_steps 13 = .ok (.istore_n 2, 1) := by decide +kernel
theorem dX4_steps_14 : decode cX4_steps 14 = .ok (.iload_n 2, 1) := by decide +kernel
theorem dX4_steps_15 : decode cX4_steps 15 = .ok (.iload_n 1, 1) := by decide +kernel
theorem dX4_steps_16 : decode cX4_steps 16 = .ok (.if_icmp .ge 16, 3) := by decide +kernel
theorem dX4_steps_19 : decode cX4_steps 19 = .ok (.aload_n 0, 1) := by decide +kernel
theorem dX4_steps_20 : decode cX4_steps 20 = .ok (.invokevirtual 120, 3) := by decide +kernel
theorem dX4_steps_23 : decode cX4_steps 23 = .ok (.ifCond .eq 9, 3) := by decide +kernel
theorem dX4_steps_26 : decode cX4_steps 26 = .ok (.iinc 2 1, 3) := by decide +kernel
theorem dX4_steps_29 : decode cX4_steps 29 = .ok (.goto (-15), 3) := by decide +kernel
theorem dX4_steps_32 : decode cX4_steps 32 = .ok (.iload_n 2, 1) := by decide +kernel
theorem dX4_steps_33 : decode cX4_steps 33 = .ok (.ireturn, 1) := by decide +kernel

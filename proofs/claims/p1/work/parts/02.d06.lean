/-! what each instruction is; laid by program -/
theorem d_Value_setFraction_2 : decode b_Value_setFraction 2 = .ok (.putfield 24, 3) := by decide +kernel
theorem d_Value_setFraction_5 : decode b_Value_setFraction 5 = .ok (.aload_n 0, 1) := by decide +kernel
theorem d_Value_setFraction_6 : decode b_Value_setFraction 6 = .ok (.getfield 9, 3) := by decide +kernel
theorem d_Value_setFraction_9 : decode b_Value_setFraction 9 = .ok (.iconst 0, 1) := by decide +kernel
theorem d_Value_setFraction_10 : decode b_Value_setFraction 10 = .ok (.iload_n 1, 1) := by decide +kernel
theorem d_Value_setFraction_11 : decode b_Value_setFraction 11 = .ok (.ineg, 1) := by decide +kernel
theorem d_Value_setFraction_12 : decode b_Value_setFraction 12 = .ok (.iastore, 1) := by decide +kernel
theorem d_Value_setFraction_13 : decode b_Value_setFraction 13 = .ok (.aload_n 0, 1) := by decide +kernel
theorem d_Value_setFraction_14 : decode b_Value_setFraction 14 = .ok (.getfield 9, 3) := by decide +kernel
theorem d_Value_setFraction_17 : decode b_Value_setFraction 17 = .ok (.iconst 1, 1) := by decide +kernel
theorem d_Value_setFraction_18 : decode b_Value_setFraction 18 = .ok (.iload_n 2, 1) := by decide +kernel
theorem d_Value_setFraction_19 : decode b_Value_setFraction 19 = .ok (.iastore, 1) := by decide +kernel
theorem d_Value_setFraction_20 : decode b_Value_setFraction 20 = .ok (.aload_n 0, 1) := by decide +kernel
theorem d_Value_setFraction_21 : decode b_Value_setFraction 21 = .ok (.invokevirtual 28, 3) := by decide +kernel
theorem d_Value_setFraction_24 : decode b_Value_setFraction 24 = .ok (.return_, 1) := by decide +kernel

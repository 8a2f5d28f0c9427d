theorem dX3_all_42 : decode cX3_all 42 = .ok (.aload_n 0, 1) := by decide +kernel
theorem dX3_all_43 : decode cX3_all 43 = .ok (.getfield 233, 3) := by decide +kernel
theorem dX3_all_46 : decode cX3_all 46 = .ok (.i2l, 1) := by decide +kernel
theorem dX3_all_47 : decode cX3_all 47 = .ok (.lreturn, 1) := by decide +kernel
theorem dX3_all_48 : decode cX3_all 48 = .ok (.aload_n 0, 1) := by decide +kernel
theorem dX3_all_49 : decode cX3_all 49 = .ok (.getfield 222, 3) := by decide +kernel
theorem dX3_all_52 : decode cX3_all 52 = .ok (.i2l, 1) := by decide +kernel
theorem dX3_all_53 : decode cX3_all 53 = .ok (.lreturn, 1) := by decide +kernel
theorem dX3_all_54 : decode cX3_all 54 = .ok (.ldc2_w 186, 3) := by decide +kernel
theorem dX3_all_57 : decode cX3_all 57 = .ok (.lreturn, 1) := by decide +kernel

theorem dX9_allValueAtRisk_36 : decode cX9_allValueAtRisk 36 = .ok (.lload_n 2, 1) := by decide +kernel
theorem dX9_allValueAtRisk_37 : decode cX9_allValueAtRisk 37 = .ok (.lreturn, 1) := by decide +kernel

theorem dX8_bitCount_51 : decode cX8_bitCount 51 = .ok (.iand, 1) := by decide +kernel
theorem dX8_bitCount_52 : decode cX8_bitCount 52 = .ok (.ireturn, 1) := by decide +kernel

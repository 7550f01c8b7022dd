theorem dX1_unlikeMirrored_51 : decode cX1_unlikeMirrored 51 = .ok (.iload_n 3, 1) := by decide +kernel
theorem dX1_unlikeMirrored_52 : decode cX1_unlikeMirrored 52 = .ok (.ireturn, 1) := by decide +kernel

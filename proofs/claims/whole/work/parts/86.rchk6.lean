/-! RIVALS: six villages (by p86.py) -/
theorem ckA_6 : ckA 6 = true := by decide +kernel
theorem ckB_6 : ckB 6 = true := by decide +kernel
theorem ckC_6 : ckC 6 = true := by decide +kernel

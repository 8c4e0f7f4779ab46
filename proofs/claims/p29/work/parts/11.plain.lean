/-! methods of java.lang.Math without a native row -/
theorem pf_34 : plainFor ov_m34.1 = true := by decide +kernel
theorem pf_35 : plainFor ov_m35.1 = true := by decide +kernel
theorem pf_100 : plainFor ov_m100.1 = true := by decide +kernel

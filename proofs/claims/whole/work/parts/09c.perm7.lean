/-! seven days -/
theorem gd7_0 : alN (fun k => gdR 7 (0 + k)) 360 = true := by decide +kernel
theorem gd7_1 : alN (fun k => gdR 7 (360 + k)) 360 = true := by decide +kernel
theorem gd7_2 : alN (fun k => gdR 7 (720 + k)) 360 = true := by decide +kernel
theorem gd7_3 : alN (fun k => gdR 7 (1080 + k)) 360 = true := by decide +kernel
theorem gd7_4 : alN (fun k => gdR 7 (1440 + k)) 360 = true := by decide +kernel
theorem gd7_5 : alN (fun k => gdR 7 (1800 + k)) 360 = true := by decide +kernel
theorem gd7_6 : alN (fun k => gdR 7 (2160 + k)) 360 = true := by decide +kernel
theorem gd7_7 : alN (fun k => gdR 7 (2520 + k)) 360 = true := by decide +kernel
theorem gd7_8 : alN (fun k => gdR 7 (2880 + k)) 360 = true := by decide +kernel
theorem gd7_9 : alN (fun k => gdR 7 (3240 + k)) 360 = true := by decide +kernel
theorem gd7_10 : alN (fun k => gdR 7 (3600 + k)) 360 = true := by decide +kernel
theorem gd7_11 : alN (fun k => gdR 7 (3960 + k)) 360 = true := by decide +kernel
theorem gd7_12 : alN (fun k => gdR 7 (4320 + k)) 360 = true := by decide +kernel
theorem gd7_13 : alN (fun k => gdR 7 (4680 + k)) 360 = true := by decide +kernel

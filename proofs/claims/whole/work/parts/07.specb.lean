theorem s4 : (sh 4).1 = 12 := by decide +kernel
theorem n4 : ln 4 = 6 := by decide +kernel
theorem m4 : Int32.ofNat (ln 4) = 6 := by decide +kernel
theorem s5 : (sh 5).1 = 10 := by decide +kernel
theorem n5 : ln 5 = 8 := by decide +kernel
theorem m5 : Int32.ofNat (ln 5) = 8 := by decide +kernel

/-! HASHES THAT ARE NOT THE ROOT, II -/
theorem z_bad1 : (List.range 98).all (fun i => z_ne (hs_2 (z_fb (158 + i)) 28)) = true := by decide +kernel

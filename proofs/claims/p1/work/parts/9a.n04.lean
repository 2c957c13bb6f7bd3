/-! A NONCE FOR EACH HEADER -/
theorem z_n4 : (List.range 91).all (fun i => z_pr (364 + i)) = true := by decide +kernel

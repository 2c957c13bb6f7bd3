/-! A NONCE FOR EACH HEADER -/
theorem z_n7 : (List.range 91).all (fun i => z_pr (637 + i)) = true := by decide +kernel

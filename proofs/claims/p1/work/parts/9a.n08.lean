/-! A NONCE FOR EACH HEADER -/
theorem z_n8 : (List.range 91).all (fun i => z_pr (728 + i)) = true := by decide +kernel

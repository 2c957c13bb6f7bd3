/-! A NONCE FOR EACH HEADER -/
theorem z_n3 : (List.range 91).all (fun i => z_pr (273 + i)) = true := by decide +kernel

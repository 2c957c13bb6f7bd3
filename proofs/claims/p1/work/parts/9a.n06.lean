/-! A NONCE FOR EACH HEADER -/
theorem z_n6 : (List.range 91).all (fun i => z_pr (546 + i)) = true := by decide +kernel

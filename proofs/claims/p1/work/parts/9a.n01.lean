/-! A NONCE FOR EACH HEADER -/
theorem z_n1 : (List.range 91).all (fun i => z_pr (91 + i)) = true := by decide +kernel

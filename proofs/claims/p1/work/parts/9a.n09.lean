/-! A NONCE FOR EACH HEADER -/
theorem z_n9 : (List.range 91).all (fun i => z_pr (819 + i)) = true := by decide +kernel

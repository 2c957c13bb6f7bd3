/-! HASHES THAT ARE NOT THE ROOT -/
def z_fb (m j : Nat) : Nat := if j = 4 then mn_b (mn_b (mo_xor 0 m)) % 2 ^ 32 else mv_rd 32 z_PB j
def z_ne (St : Nat) : Bool := !(Nat.beq (bk_D St 0) 4294967245 && Nat.beq (bk_D St 1) 53)
theorem z_bad0 : (List.range 98).all (fun i => z_ne (hs_2 (z_fb (60 + i)) 28)) = true := by decide +kernel

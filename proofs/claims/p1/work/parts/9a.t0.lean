/-! THE FRESH WORLD FOR MINE -/
def kX : List Nat := [7, 1]
def kM : List Nat := [3, 2, 5, 0, 6, 7, 8, 9, 10]
def kB : List Nat := [5, 4, 2, 3, 0]
def kS : List Nat := [2, 1, 0, 3, 11, 12, 4, 5, 6, 7, 8, 9, 10]
noncomputable def zm_c (w : mv_T 10) (L : List Nat) : Bool := (((((pr_c (mv_get 10 w (L.getD 0 0)) 0 1 13 && (pr_c (mv_get 10 w (L.getD 1 0)) 0 8 11 && pr_c (mv_get 10 w (L.getD 2 0)) 3 6 40)) && ((pr_c (mv_get 10 w (L.getD 3 0)) 0 9 11 && pr_c (mv_get 10 w (L.getD 4 0)) 1 1 105) && (pr_c (mv_get 10 w (L.getD 5 0)) 1 1 32 && pr_c (mv_get 10 w (L.getD 6 0)) 1 1 128))) && (((pr_c (mv_get 10 w (L.getD 7 0)) 1 1 480 && pr_c (mv_get 10 w (L.getD 8 0)) 1 1 32) && (pr_c (mv_get 10 w (L.getD 9 0)) 1 1 32 && pr_c (mv_get 10 w (L.getD 10 0)) 0 2 13)) && ((pr_c (mv_get 10 w (L.getD 11 0)) 1 1 64 && pr_c (mv_get 10 w (L.getD 12 0)) 1 0 64) && (pr_c (mv_get 10 w (L.getD 13 0)) 1 0 8 && pr_c (mv_get 10 w (L.getD 14 0)) 1 1 32)))) && (((pr_c (mv_get 10 w (L.getD 15 0)) 1 1 32 && (pr_c (mv_get 10 w (L.getD 16 0)) 1 0 8 && pr_c (mv_get 10 w (L.getD 17 0)) 1 0 8)) && ((pr_c (mv_get 10 w (L.getD 18 0)) 1 0 8 && pr_c (mv_get 10 w (L.getD 19 0)) 1 1 64) && ((pr_k (pr_X w (L.getD 0 0)) 7 2 && Nat.beq (pr_p (pr_X w (L.getD 0 0)) 7) (L.getD 1 0)) && (pr_k (pr_X w (L.getD 0 0)) 1 0 && Nat.beq (pr_p (pr_X w (L.getD 0 0)) 1) 0)))) && ((((pr_k (pr_X w (L.getD 1 0)) 3 0 && Nat.beq (pr_p (pr_X w (L.getD 1 0)) 3) 1) && (pr_k (pr_X w (L.getD 1 0)) 2 2 && Nat.beq (pr_p (pr_X w (L.getD 1 0)) 2) (L.getD 2 0))) && ((pr_k (pr_X w (L.getD 1 0)) 5 0 && Nat.beq (pr_p (pr_X w (L.getD 1 0)) 5) 0) && (pr_k (pr_X w (L.getD 1 0)) 0 2 && Nat.beq (pr_p (pr_X w (L.getD 1 0)) 0) (L.getD 10 0)))) && (((pr_k (pr_X w (L.getD 1 0)) 6 2 && Nat.beq (pr_p (pr_X w (L.getD 1 0)) 6) (L.getD 6 0)) && (pr_k (pr_X w (L.getD 1 0)) 7 2 && Nat.beq (pr_p (pr_X w (L.getD 1 0)) 7) (L.getD 7 0))) && ((pr_k (pr_X w (L.getD 1 0)) 8 0 && Nat.blt (pr_p (pr_X w (L.getD 1 0)) 8) 4294967296) && (pr_k (pr_X w (L.getD 1 0)) 9 2 && Nat.beq (pr_p (pr_X w (L.getD 1 0)) 9) (L.getD 8 0))))))) && (((((pr_k (pr_X w (L.getD 1 0)) 10 2 && Nat.beq (pr_p (pr_X w (L.getD 1 0)) 10) (L.getD 9 0)) && ((pr_k (pr_X w (L.getD 3 0)) 5 2 && Nat.beq (pr_p (pr_X w (L.getD 3 0)) 5) (L.getD 5 0)) && (pr_k (pr_X w (L.getD 3 0)) 4 2 && Nat.beq (pr_p (pr_X w (L.getD 3 0)) 4) (L.getD 4 0)))) && (((pr_k (pr_X w (L.getD 3 0)) 2 0 && Nat.beq (pr_p (pr_X w (L.getD 3 0)) 2) 0) && (pr_k (pr_X w (L.getD 3 0)) 3 0 && Nat.beq (pr_p (pr_X w (L.getD 3 0)) 3) 4)) && ((pr_k (pr_X w (L.getD 3 0)) 0 3 && Nat.beq (pr_p (pr_X w (L.getD 3 0)) 0) 0) && (pr_k (pr_X w (L.getD 10 0)) 2 2 && Nat.beq (pr_p (pr_X w (L.getD 10 0)) 2) (L.getD 11 0))))) && ((((pr_k (pr_X w (L.getD 10 0)) 1 2 && Nat.beq (pr_p (pr_X w (L.getD 10 0)) 1) (L.getD 12 0)) && (pr_k (pr_X w (L.getD 10 0)) 0 2 && Nat.beq (pr_p (pr_X w (L.getD 10 0)) 0) (L.getD 13 0))) && ((pr_k (pr_X w (L.getD 10 0)) 3 2 && Nat.beq (pr_p (pr_X w (L.getD 10 0)) 3) (L.getD 14 0)) && (pr_k (pr_X w (L.getD 10 0)) 11 0 && Nat.blt (pr_p (pr_X w (L.getD 10 0)) 11) 64))) && (((pr_k (pr_X w (L.getD 10 0)) 12 0 && Nat.blt (pr_p (pr_X w (L.getD 10 0)) 12) 4294967296) && (pr_k (pr_X w (L.getD 10 0)) 4 2 && Nat.beq (pr_p (pr_X w (L.getD 10 0)) 4) (L.getD 15 0))) && ((pr_k (pr_X w (L.getD 10 0)) 5 2 && Nat.beq (pr_p (pr_X w (L.getD 10 0)) 5) (L.getD 16 0)) && (pr_k (pr_X w (L.getD 10 0)) 6 2 && Nat.beq (pr_p (pr_X w (L.getD 10 0)) 6) (L.getD 17 0)))))) && (((((pr_k (pr_X w (L.getD 10 0)) 7 0 && Nat.beq (pr_p (pr_X w (L.getD 10 0)) 7) 1) && (pr_k (pr_X w (L.getD 10 0)) 8 2 && Nat.beq (pr_p (pr_X w (L.getD 10 0)) 8) (L.getD 18 0))) && ((pr_k (pr_X w (L.getD 10 0)) 9 2 && Nat.beq (pr_p (pr_X w (L.getD 10 0)) 9) (L.getD 19 0)) && (pr_k (pr_X w (L.getD 10 0)) 10 0 && Nat.blt (pr_p (pr_X w (L.getD 10 0)) 10) 4294967296))) && (((List.range 20).all (fun i => (List.range 20).all (fun j => Nat.beq i j || pr_ne (L.getD i 0) (L.getD j 0))) && (List.range 20).all (fun i => Nat.blt (L.getD i 0) 1024)) && (Nat.beq (mv_rd 32 (pr_X w (L.getD 2 0)) 0) ((L.getD 3 0) + 1) && mv_ab (pr_X w (L.getD 4 0)) 0 105))) && (((mv_ab (pr_X w (L.getD 5 0)) 0 32 && mv_ab (pr_X w (L.getD 6 0)) 0 128) && (mv_ab (pr_X w (L.getD 11 0)) 0 64 && mv_ab (pr_X w (L.getD 19 0)) 0 64)) && ((mv_ab (pr_X w (L.getD 15 0)) 0 32 && sb_eq (pr_X w (L.getD 4 0)) 96 0 96 4) && (Nat.beq (mv_rd 32 (pr_X w (L.getD 4 0)) 100) 2 && pr_ne (mv_rd 32 (pr_X w (L.getD 15 0)) 0) (mv_rd 32 (pr_X w (L.getD 5 0)) 0)))))))
noncomputable def zm_r (w : mv_T 10) (M : List Nat) : Bool := ((((((pr_c (mv_get 10 w (M.getD 0 0)) 0 0 107 && pr_c (mv_get 10 w (M.getD 1 0)) 1 1 64) && (pr_c (mv_get 10 w (M.getD 2 0)) 1 0 64 && (pr_c (mv_get 10 w (M.getD 3 0)) 1 0 64 && pr_c (mv_get 10 w (M.getD 4 0)) 1 0 8))) && ((pr_c (mv_get 10 w (M.getD 5 0)) 1 0 8 && pr_c (mv_get 10 w (M.getD 6 0)) 1 0 8) && (pr_c (mv_get 10 w (M.getD 7 0)) 1 1 32 && (pr_c (mv_get 10 w (M.getD 8 0)) 1 1 4200 && pr_c (mv_get 10 w (M.getD 9 0)) 1 1 1280)))) && (((pr_c (mv_get 10 w (M.getD 10 0)) 1 0 40 && pr_c (mv_get 10 w (M.getD 11 0)) 1 0 40) && (pr_c (mv_get 10 w (M.getD 12 0)) 1 0 40 && (pr_c (mv_get 10 w (M.getD 13 0)) 1 0 40 && pr_c (mv_get 10 w (M.getD 14 0)) 1 0 40))) && ((pr_c (mv_get 10 w (M.getD 15 0)) 1 0 40 && pr_c (mv_get 10 w (M.getD 16 0)) 1 0 40) && (pr_c (mv_get 10 w (M.getD 17 0)) 1 1 28 && (pr_c (mv_get 10 w (M.getD 18 0)) 1 0 160 && pr_c (mv_get 10 w (M.getD 19 0)) 1 0 160))))) && ((((pr_c (mv_get 10 w (M.getD 20 0)) 1 0 160 && pr_c (mv_get 10 w (M.getD 21 0)) 1 1 76000) && (pr_c (mv_get 10 w (M.getD 22 0)) 1 1 5120 && (pr_c (mv_get 10 w (M.getD 23 0)) 1 1 600 && pr_c (mv_get 10 w (M.getD 24 0)) 1 0 960))) && ((pr_c (mv_get 10 w (M.getD 25 0)) 1 0 40 && pr_c (mv_get 10 w (M.getD 26 0)) 1 1 3200) && (pr_c (mv_get 10 w (M.getD 27 0)) 1 0 40 && (pr_c (mv_get 10 w (M.getD 28 0)) 1 1 32 && pr_c (mv_get 10 w (M.getD 29 0)) 1 1 2400)))) && (((pr_c (mv_get 10 w (M.getD 30 0)) 1 0 40 && pr_c (mv_get 10 w (M.getD 31 0)) 1 1 20) && ((pr_k (pr_X w (M.getD 0 0)) 0 0 && Nat.blt (pr_p (pr_X w (M.getD 0 0)) 0) 4294967296) && ((pr_k (pr_X w (M.getD 0 0)) 12 2 && Nat.beq (pr_p (pr_X w (M.getD 0 0)) 12) (M.getD 1 0)) && (pr_k (pr_X w (M.getD 0 0)) 7 2 && Nat.beq (pr_p (pr_X w (M.getD 0 0)) 7) (M.getD 2 0))))) && (((pr_k (pr_X w (M.getD 0 0)) 10 2 && Nat.beq (pr_p (pr_X w (M.getD 0 0)) 10) (M.getD 3 0)) && (pr_k (pr_X w (M.getD 0 0)) 11 2 && Nat.beq (pr_p (pr_X w (M.getD 0 0)) 11) (M.getD 4 0))) && ((pr_k (pr_X w (M.getD 0 0)) 9 2 && Nat.beq (pr_p (pr_X w (M.getD 0 0)) 9) (M.getD 5 0)) && ((pr_k (pr_X w (M.getD 0 0)) 8 2 && Nat.beq (pr_p (pr_X w (M.getD 0 0)) 8) (M.getD 6 0)) && (pr_k (pr_X w (M.getD 0 0)) 15 2 && Nat.beq (pr_p (pr_X w (M.getD 0 0)) 15) (M.getD 7 0)))))))) && ((((((pr_k (pr_X w (M.getD 0 0)) 13 0 && Nat.blt (pr_p (pr_X w (M.getD 0 0)) 13) 64) && (pr_k (pr_X w (M.getD 0 0)) 14 1 && Nat.blt (pr_p (pr_X w (M.getD 0 0)) 14) 18446744073709551616)) && ((pr_k (pr_X w (M.getD 0 0)) 37 2 && Nat.beq (pr_p (pr_X w (M.getD 0 0)) 37) (M.getD 8 0)) && ((pr_k (pr_X w (M.getD 0 0)) 38 2 && Nat.beq (pr_p (pr_X w (M.getD 0 0)) 38) (M.getD 9 0)) && (pr_k (pr_X w (M.getD 0 0)) 39 2 && Nat.beq (pr_p (pr_X w (M.getD 0 0)) 39) (M.getD 10 0))))) && (((pr_k (pr_X w (M.getD 0 0)) 40 2 && Nat.beq (pr_p (pr_X w (M.getD 0 0)) 40) (M.getD 11 0)) && (pr_k (pr_X w (M.getD 0 0)) 41 2 && Nat.beq (pr_p (pr_X w (M.getD 0 0)) 41) (M.getD 12 0))) && ((pr_k (pr_X w (M.getD 0 0)) 42 2 && Nat.beq (pr_p (pr_X w (M.getD 0 0)) 42) (M.getD 13 0)) && ((pr_k (pr_X w (M.getD 0 0)) 44 2 && Nat.beq (pr_p (pr_X w (M.getD 0 0)) 44) (M.getD 14 0)) && (pr_k (pr_X w (M.getD 0 0)) 35 2 && Nat.beq (pr_p (pr_X w (M.getD 0 0)) 35) (M.getD 15 0)))))) && ((((pr_k (pr_X w (M.getD 0 0)) 36 2 && Nat.beq (pr_p (pr_X w (M.getD 0 0)) 36) (M.getD 16 0)) && (pr_k (pr_X w (M.getD 0 0)) 57 2 && Nat.beq (pr_p (pr_X w (M.getD 0 0)) 57) (M.getD 17 0))) && ((pr_k (pr_X w (M.getD 0 0)) 31 2 && Nat.beq (pr_p (pr_X w (M.getD 0 0)) 31) (M.getD 18 0)) && ((pr_k (pr_X w (M.getD 0 0)) 32 2 && Nat.beq (pr_p (pr_X w (M.getD 0 0)) 32) (M.getD 19 0)) && (pr_k (pr_X w (M.getD 0 0)) 33 2 && Nat.beq (pr_p (pr_X w (M.getD 0 0)) 33) (M.getD 20 0))))) && (((pr_k (pr_X w (M.getD 0 0)) 30 2 && Nat.beq (pr_p (pr_X w (M.getD 0 0)) 30) (M.getD 21 0)) && (pr_k (pr_X w (M.getD 0 0)) 34 2 && Nat.beq (pr_p (pr_X w (M.getD 0 0)) 34) (M.getD 22 0))) && ((pr_k (pr_X w (M.getD 0 0)) 59 2 && Nat.beq (pr_p (pr_X w (M.getD 0 0)) 59) (M.getD 23 0)) && ((pr_k (pr_X w (M.getD 0 0)) 47 2 && Nat.beq (pr_p (pr_X w (M.getD 0 0)) 47) (M.getD 24 0)) && (pr_k (pr_X w (M.getD 0 0)) 48 2 && Nat.beq (pr_p (pr_X w (M.getD 0 0)) 48) (M.getD 25 0))))))) && (((((pr_k (pr_X w (M.getD 0 0)) 45 2 && Nat.beq (pr_p (pr_X w (M.getD 0 0)) 45) (M.getD 26 0)) && (pr_k (pr_X w (M.getD 0 0)) 46 2 && Nat.beq (pr_p (pr_X w (M.getD 0 0)) 46) (M.getD 27 0))) && ((pr_k (pr_X w (M.getD 0 0)) 18 2 && Nat.beq (pr_p (pr_X w (M.getD 0 0)) 18) (M.getD 28 0)) && ((pr_k (pr_X w (M.getD 0 0)) 58 2 && Nat.beq (pr_p (pr_X w (M.getD 0 0)) 58) (M.getD 29 0)) && (pr_k (pr_X w (M.getD 0 0)) 43 2 && Nat.beq (pr_p (pr_X w (M.getD 0 0)) 43) (M.getD 30 0))))) && (((pr_k (pr_X w (M.getD 0 0)) 54 2 && Nat.beq (pr_p (pr_X w (M.getD 0 0)) 54) (M.getD 31 0)) && (pr_k (pr_X w (M.getD 0 0)) 49 0 && Nat.beq (pr_p (pr_X w (M.getD 0 0)) 49) 1)) && ((pr_k (pr_X w (M.getD 0 0)) 53 0 && Nat.beq (pr_p (pr_X w (M.getD 0 0)) 53) 0) && ((pr_k (pr_X w (M.getD 0 0)) 60 0 && Nat.blt (pr_p (pr_X w (M.getD 0 0)) 60) 4294967296) && (pr_k (pr_X w (M.getD 0 0)) 61 0 && Nat.blt (pr_p (pr_X w (M.getD 0 0)) 61) 4294967296))))) && ((((pr_k (pr_X w (M.getD 0 0)) 17 0 && Nat.beq (pr_p (pr_X w (M.getD 0 0)) 17) 0) && (List.range 32).all (fun i => (List.range 32).all (fun j => Nat.beq i j || pr_ne (M.getD i 0) (M.getD j 0)))) && ((List.range 32).all (fun i => Nat.blt (M.getD i 0) 1024) && (Nat.beq (pr_X w (M.getD 2 0)) mc_K && sb_eq (pr_X w (M.getD 6 0)) 0 hs_S0 0 8))) && ((Nat.beq (mv_rd 32 (pr_X w (M.getD 11 0)) 0) 0 && (Nat.beq (mv_rd 32 (pr_X w (M.getD 12 0)) 0) 0 && Nat.beq (mv_rd 32 (pr_X w (M.getD 13 0)) 0) 2)) && (Nat.beq (mv_rd 32 (pr_X w (M.getD 14 0)) 0) 4 && ((List.range 20).all (fun j => Nat.beq (mv_rd 32 (pr_X w (M.getD 31 0)) j) 4294967295) && sb_eq (pr_X w (M.getD 9 0)) 0 z_H1 0 32)))))))
def zm_x (n : Nat) (L M : List Nat) : Bool := ((List.range 20).all (fun i => (List.range 32).all (fun j => pr_ne (L.getD i 0) (M.getD j 0))) && (((List.range 20).all (fun i => Nat.blt (L.getD i 0) n) && (List.range 32).all (fun j => Nat.blt (M.getD j 0) n)) && Nat.blt (n + 20) 1024))
noncomputable def zm (w : mv_T 10) (n base : Nat) (L M : List Nat) : Bool := (Nat.beq (L.getD 0 0) 0 && Nat.beq (M.getD 0 0) base) && (zm_c w L && (zm_r w M && zm_x n L M))
/-- the places, with those that come -/
def zm_pl (n : Nat) (L : List Nat) (i : Nat) : Nat := if i < 20 then L.getD i 0 else n + (i - 20)
theorem pr_kn {X f : Nat} (h : (pr_k X f 3 && Nat.beq (pr_p X f) 0) = true) : mv_dec (mv_rd 136 X f) = (3, 0, 0) := pr_kp h
set_option maxRecDepth 4000 in
theorem zm_ok {w : mv_T 10} {n base : Nat} {L M : List Nat} (h : zm w n base L M = true) {G : Prop} (K : ∀ (pl : Nat → Nat) (X0 X1 cbs X3 Hd Id Ids Ads Br Dg X10 Sp Sw Ss In Mk Is Os Ks Kp ac su sl kl : Nat) (pr : Nat → Nat) (X0r Pcr Wdr Vvr Str Afr Mir Hdr Bir Bfr Hgr Tmr Bor Wkr Pnr Bsr Mtr Pstr Pplr Pszr Bbr Pidr Sor Fnr Fcr Flr Fsr Our Lyr Nor Bur thr upr lpr scr bar : Nat), (pl 0 = 0) → (wh 30 pl w w [(0, 1, 13, X0), (0, 8, 11, X1), (3, 6, 40, cbs), (0, 9, 11, X3), (1, 1, 105, Hd), (1, 1, 32, Id), (1, 1, 128, Ids), (1, 1, 480, Ads), (1, 1, 32, Br), (1, 1, 32, Dg), (0, 2, 13, X10), (1, 1, 64, Sp), (1, 0, 64, Sw), (1, 0, 8, Ss), (1, 1, 32, In), (1, 1, 32, Mk), (1, 0, 8, Is), (1, 0, 8, Os), (1, 0, 8, Ks), (1, 1, 64, Kp)]) → (fh X0 kX [(2, pl 1, 0), (0, 0, 0)]) → (fh X1 kM [(0, 1, 0), (2, pl 2, 0), (0, 0, 0), (2, pl 10, 0), (2, pl 6, 0), (2, pl 7, 0), (0, ac, 0), (2, pl 8, 0), (2, pl 9, 0)]) → (fh X3 kB [(2, pl 5, 0), (2, pl 4, 0), (0, 0, 0), (0, 4, 0), (3, 0, 0)]) → (fh X10 kS [(2, pl 11, 0), (2, pl 12, 0), (2, pl 13, 0), (2, pl 14, 0), (0, su, 0), (0, sl, 0), (2, pl 15, 0), (2, pl 16, 0), (2, pl 17, 0), (0, 1, 0), (2, pl 18, 0), (2, pl 19, 0), (0, kl, 0)]) → (mv_rd 32 cbs 0 = pl 3 + 1) → (mv_ab Hd 0 105 = true) → (mv_ab Id 0 32 = true) → (mv_ab Ids 0 128 = true) → (mv_ab Sp 0 64 = true) → (mv_ab Kp 0 64 = true) → (mv_ab Mk 0 32 = true) → (∀ j, j < 4 → mv_rd 32 Hd (96 + j) = 0) → (mv_rd 32 Hd 100 = 2) → (mv_rd 32 Mk 0 ≠ mv_rd 32 Id 0) → (su < 64) → (sl < 4294967296) → (ac < 4294967296) → (kl < 4294967296) → (pr 0 = base) → (wh 32 pr w w [(0, 0, 107, X0r), (1, 1, 64, Pcr), (1, 0, 64, mc_K), (1, 0, 64, Wdr), (1, 0, 8, Vvr), (1, 0, 8, Str), (1, 0, 8, Afr), (1, 1, 32, Mir), (1, 1, 4200, Hdr), (1, 1, 1280, Bir), (1, 0, 40, Bfr), (1, 0, 40, Hgr), (1, 0, 40, Tmr), (1, 0, 40, Bor), (1, 0, 40, Wkr), (1, 0, 40, Pnr), (1, 0, 40, Bsr), (1, 1, 28, Mtr), (1, 0, 160, Pstr), (1, 0, 160, Pplr), (1, 0, 160, Pszr), (1, 1, 76000, Bbr), (1, 1, 5120, Pidr), (1, 1, 600, Sor), (1, 0, 960, Fnr), (1, 0, 40, Fcr), (1, 1, 3200, Flr), (1, 0, 40, Fsr), (1, 1, 32, Our), (1, 1, 2400, Lyr), (1, 0, 40, Nor), (1, 1, 20, Bur)]) → (fh X0r jQ [(0, thr, 0), (2, pr 1, 0), (2, pr 2, 0), (2, pr 3, 0), (2, pr 4, 0), (2, pr 5, 0), (2, pr 6, 0), (2, pr 7, 0), (0, upr, 0), (1, lpr, 0), (2, pr 8, 0), (2, pr 9, 0), (2, pr 10, 0), (2, pr 11, 0), (2, pr 12, 0), (2, pr 13, 0), (2, pr 14, 0), (2, pr 15, 0), (2, pr 16, 0), (2, pr 17, 0), (2, pr 18, 0), (2, pr 19, 0), (2, pr 20, 0), (2, pr 21, 0), (2, pr 22, 0), (2, pr 23, 0), (2, pr 24, 0), (2, pr 25, 0), (2, pr 26, 0), (2, pr 27, 0), (2, pr 28, 0), (2, pr 29, 0), (2, pr 30, 0), (2, pr 31, 0), (0, 1, 0), (0, 0, 0), (0, scr, 0), (0, bar, 0), (0, 0, 0)]) → (∀ i, i < 8 → mv_rd 32 Afr i = mv_rd 32 hs_S0 i) → (mv_rd 32 Hgr 0 = 0) → (mv_rd 32 Tmr 0 = 0) → (mv_rd 32 Bor 0 = 2) → (mv_rd 32 Wkr 0 = 4) → (∀ j, j < 20 → mv_rd 32 Bur j = 4294967295) → (∀ j, j < 32 → mv_rd 32 Bir j = mv_rd 32 z_H1 j) → (∀ i j, i < 30 → j < 32 → pl i ≠ pr j) → (∀ i, 20 ≤ i → pl i = n + (i - 20)) → (n + 20 < 1024) → G) : G := by
  unfold zm at h
  have p0 := (zk_a (zk_a h).1).1
  have p1 := (zk_a (zk_a h).1).2
  have kc := (zk_a (zk_a h).2).1
  have kr := (zk_a (zk_a (zk_a h).2).2).1
  have kx := (zk_a (zk_a (zk_a h).2).2).2
  clear h
  unfold zm_c at kc
  unfold zm_r at kr
  unfold zm_x at kx
  have ac0 := (zk_a (zk_a (zk_a (zk_a (zk_a kc).1).1).1).1).1
  have ac1 := (zk_a (zk_a (zk_a (zk_a (zk_a (zk_a kc).1).1).1).1).2).1
  have ac2 := (zk_a (zk_a (zk_a (zk_a (zk_a (zk_a kc).1).1).1).1).2).2
  have ac3 := (zk_a (zk_a (zk_a (zk_a (zk_a (zk_a kc).1).1).1).2).1).1
  have ac4 := (zk_a (zk_a (zk_a (zk_a (zk_a (zk_a kc).1).1).1).2).1).2
  have ac5 := (zk_a (zk_a (zk_a (zk_a (zk_a (zk_a kc).1).1).1).2).2).1
  have ac6 := (zk_a (zk_a (zk_a (zk_a (zk_a (zk_a kc).1).1).1).2).2).2
  have ac7 := (zk_a (zk_a (zk_a (zk_a (zk_a (zk_a kc).1).1).2).1).1).1
  have ac8 := (zk_a (zk_a (zk_a (zk_a (zk_a (zk_a kc).1).1).2).1).1).2
  have ac9 := (zk_a (zk_a (zk_a (zk_a (zk_a (zk_a kc).1).1).2).1).2).1
  have ac10 := (zk_a (zk_a (zk_a (zk_a (zk_a (zk_a kc).1).1).2).1).2).2
  have ac11 := (zk_a (zk_a (zk_a (zk_a (zk_a (zk_a kc).1).1).2).2).1).1
  have ac12 := (zk_a (zk_a (zk_a (zk_a (zk_a (zk_a kc).1).1).2).2).1).2
  have ac13 := (zk_a (zk_a (zk_a (zk_a (zk_a (zk_a kc).1).1).2).2).2).1
  have ac14 := (zk_a (zk_a (zk_a (zk_a (zk_a (zk_a kc).1).1).2).2).2).2
  have ac15 := (zk_a (zk_a (zk_a (zk_a (zk_a kc).1).2).1).1).1
  have ac16 := (zk_a (zk_a (zk_a (zk_a (zk_a (zk_a kc).1).2).1).1).2).1
  have ac17 := (zk_a (zk_a (zk_a (zk_a (zk_a (zk_a kc).1).2).1).1).2).2
  have ac18 := (zk_a (zk_a (zk_a (zk_a (zk_a (zk_a kc).1).2).1).2).1).1
  have ac19 := (zk_a (zk_a (zk_a (zk_a (zk_a (zk_a kc).1).2).1).2).1).2
  have af0_0 := (zk_a (zk_a (zk_a (zk_a (zk_a (zk_a kc).1).2).1).2).2).1
  have af0_1 := (zk_a (zk_a (zk_a (zk_a (zk_a (zk_a kc).1).2).1).2).2).2
  have af1_0 := (zk_a (zk_a (zk_a (zk_a (zk_a (zk_a kc).1).2).2).1).1).1
  have af1_1 := (zk_a (zk_a (zk_a (zk_a (zk_a (zk_a kc).1).2).2).1).1).2
  have af1_2 := (zk_a (zk_a (zk_a (zk_a (zk_a (zk_a kc).1).2).2).1).2).1
  have af1_3 := (zk_a (zk_a (zk_a (zk_a (zk_a (zk_a kc).1).2).2).1).2).2
  have af1_4 := (zk_a (zk_a (zk_a (zk_a (zk_a (zk_a kc).1).2).2).2).1).1
  have af1_5 := (zk_a (zk_a (zk_a (zk_a (zk_a (zk_a kc).1).2).2).2).1).2
  have af1_6 := (zk_a (zk_a (zk_a (zk_a (zk_a (zk_a kc).1).2).2).2).2).1
  have af1_7 := (zk_a (zk_a (zk_a (zk_a (zk_a (zk_a kc).1).2).2).2).2).2
  have af1_8 := (zk_a (zk_a (zk_a (zk_a (zk_a kc).2).1).1).1).1
  have af3_0 := (zk_a (zk_a (zk_a (zk_a (zk_a (zk_a kc).2).1).1).1).2).1
  have af3_1 := (zk_a (zk_a (zk_a (zk_a (zk_a (zk_a kc).2).1).1).1).2).2
  have af3_2 := (zk_a (zk_a (zk_a (zk_a (zk_a (zk_a kc).2).1).1).2).1).1
  have af3_3 := (zk_a (zk_a (zk_a (zk_a (zk_a (zk_a kc).2).1).1).2).1).2
  have af3_4 := (zk_a (zk_a (zk_a (zk_a (zk_a (zk_a kc).2).1).1).2).2).1
  have af10_0 := (zk_a (zk_a (zk_a (zk_a (zk_a (zk_a kc).2).1).1).2).2).2
  have af10_1 := (zk_a (zk_a (zk_a (zk_a (zk_a (zk_a kc).2).1).2).1).1).1
  have af10_2 := (zk_a (zk_a (zk_a (zk_a (zk_a (zk_a kc).2).1).2).1).1).2
  have af10_3 := (zk_a (zk_a (zk_a (zk_a (zk_a (zk_a kc).2).1).2).1).2).1
  have af10_4 := (zk_a (zk_a (zk_a (zk_a (zk_a (zk_a kc).2).1).2).1).2).2
  have af10_5 := (zk_a (zk_a (zk_a (zk_a (zk_a (zk_a kc).2).1).2).2).1).1
  have af10_6 := (zk_a (zk_a (zk_a (zk_a (zk_a (zk_a kc).2).1).2).2).1).2
  have af10_7 := (zk_a (zk_a (zk_a (zk_a (zk_a (zk_a kc).2).1).2).2).2).1
  have af10_8 := (zk_a (zk_a (zk_a (zk_a (zk_a (zk_a kc).2).1).2).2).2).2
  have af10_9 := (zk_a (zk_a (zk_a (zk_a (zk_a (zk_a kc).2).2).1).1).1).1
  have af10_10 := (zk_a (zk_a (zk_a (zk_a (zk_a (zk_a kc).2).2).1).1).1).2
  have af10_11 := (zk_a (zk_a (zk_a (zk_a (zk_a (zk_a kc).2).2).1).1).2).1
  have af10_12 := (zk_a (zk_a (zk_a (zk_a (zk_a (zk_a kc).2).2).1).1).2).2
  have and0 := (zk_a (zk_a (zk_a (zk_a (zk_a (zk_a kc).2).2).1).2).1).1
  have alt := (zk_a (zk_a (zk_a (zk_a (zk_a (zk_a kc).2).2).1).2).1).2
  have hbs := (zk_a (zk_a (zk_a (zk_a (zk_a (zk_a kc).2).2).1).2).2).1
  have hab4 := (zk_a (zk_a (zk_a (zk_a (zk_a (zk_a kc).2).2).1).2).2).2
  have hab5 := (zk_a (zk_a (zk_a (zk_a (zk_a (zk_a kc).2).2).2).1).1).1
  have hab6 := (zk_a (zk_a (zk_a (zk_a (zk_a (zk_a kc).2).2).2).1).1).2
  have hab11 := (zk_a (zk_a (zk_a (zk_a (zk_a (zk_a kc).2).2).2).1).2).1
  have hab19 := (zk_a (zk_a (zk_a (zk_a (zk_a (zk_a kc).2).2).2).1).2).2
  have hab15 := (zk_a (zk_a (zk_a (zk_a (zk_a (zk_a kc).2).2).2).2).1).1
  have ht := (zk_a (zk_a (zk_a (zk_a (zk_a (zk_a kc).2).2).2).2).1).2
  have hd := (zk_a (zk_a (zk_a (zk_a (zk_a (zk_a kc).2).2).2).2).2).1
  have hmk := (zk_a (zk_a (zk_a (zk_a (zk_a (zk_a kc).2).2).2).2).2).2
  have rc0 := (zk_a (zk_a (zk_a (zk_a (zk_a (zk_a kr).1).1).1).1).1).1
  have rc1 := (zk_a (zk_a (zk_a (zk_a (zk_a (zk_a kr).1).1).1).1).1).2
  have rc2 := (zk_a (zk_a (zk_a (zk_a (zk_a (zk_a kr).1).1).1).1).2).1
  have rc3 := (zk_a (zk_a (zk_a (zk_a (zk_a (zk_a (zk_a kr).1).1).1).1).2).2).1
  have rc4 := (zk_a (zk_a (zk_a (zk_a (zk_a (zk_a (zk_a kr).1).1).1).1).2).2).2
  have rc5 := (zk_a (zk_a (zk_a (zk_a (zk_a (zk_a kr).1).1).1).2).1).1
  have rc6 := (zk_a (zk_a (zk_a (zk_a (zk_a (zk_a kr).1).1).1).2).1).2
  have rc7 := (zk_a (zk_a (zk_a (zk_a (zk_a (zk_a kr).1).1).1).2).2).1
  have rc8 := (zk_a (zk_a (zk_a (zk_a (zk_a (zk_a (zk_a kr).1).1).1).2).2).2).1
  have rc9 := (zk_a (zk_a (zk_a (zk_a (zk_a (zk_a (zk_a kr).1).1).1).2).2).2).2
  have rc10 := (zk_a (zk_a (zk_a (zk_a (zk_a (zk_a kr).1).1).2).1).1).1
  have rc11 := (zk_a (zk_a (zk_a (zk_a (zk_a (zk_a kr).1).1).2).1).1).2
  have rc12 := (zk_a (zk_a (zk_a (zk_a (zk_a (zk_a kr).1).1).2).1).2).1
  have rc13 := (zk_a (zk_a (zk_a (zk_a (zk_a (zk_a (zk_a kr).1).1).2).1).2).2).1
  have rc14 := (zk_a (zk_a (zk_a (zk_a (zk_a (zk_a (zk_a kr).1).1).2).1).2).2).2
  have rc15 := (zk_a (zk_a (zk_a (zk_a (zk_a (zk_a kr).1).1).2).2).1).1
  have rc16 := (zk_a (zk_a (zk_a (zk_a (zk_a (zk_a kr).1).1).2).2).1).2
  have rc17 := (zk_a (zk_a (zk_a (zk_a (zk_a (zk_a kr).1).1).2).2).2).1
  have rc18 := (zk_a (zk_a (zk_a (zk_a (zk_a (zk_a (zk_a kr).1).1).2).2).2).2).1
  have rc19 := (zk_a (zk_a (zk_a (zk_a (zk_a (zk_a (zk_a kr).1).1).2).2).2).2).2
  have rc20 := (zk_a (zk_a (zk_a (zk_a (zk_a (zk_a kr).1).2).1).1).1).1
  have rc21 := (zk_a (zk_a (zk_a (zk_a (zk_a (zk_a kr).1).2).1).1).1).2
  have rc22 := (zk_a (zk_a (zk_a (zk_a (zk_a (zk_a kr).1).2).1).1).2).1
  have rc23 := (zk_a (zk_a (zk_a (zk_a (zk_a (zk_a (zk_a kr).1).2).1).1).2).2).1
  have rc24 := (zk_a (zk_a (zk_a (zk_a (zk_a (zk_a (zk_a kr).1).2).1).1).2).2).2
  have rc25 := (zk_a (zk_a (zk_a (zk_a (zk_a (zk_a kr).1).2).1).2).1).1
  have rc26 := (zk_a (zk_a (zk_a (zk_a (zk_a (zk_a kr).1).2).1).2).1).2
  have rc27 := (zk_a (zk_a (zk_a (zk_a (zk_a (zk_a kr).1).2).1).2).2).1
  have rc28 := (zk_a (zk_a (zk_a (zk_a (zk_a (zk_a (zk_a kr).1).2).1).2).2).2).1
  have rc29 := (zk_a (zk_a (zk_a (zk_a (zk_a (zk_a (zk_a kr).1).2).1).2).2).2).2
  have rc30 := (zk_a (zk_a (zk_a (zk_a (zk_a (zk_a kr).1).2).2).1).1).1
  have rc31 := (zk_a (zk_a (zk_a (zk_a (zk_a (zk_a kr).1).2).2).1).1).2
  have rf0_0 := (zk_a (zk_a (zk_a (zk_a (zk_a (zk_a kr).1).2).2).1).2).1
  have rf0_1 := (zk_a (zk_a (zk_a (zk_a (zk_a (zk_a (zk_a kr).1).2).2).1).2).2).1
  have rf0_2 := (zk_a (zk_a (zk_a (zk_a (zk_a (zk_a (zk_a kr).1).2).2).1).2).2).2
  have rf0_3 := (zk_a (zk_a (zk_a (zk_a (zk_a (zk_a kr).1).2).2).2).1).1
  have rf0_4 := (zk_a (zk_a (zk_a (zk_a (zk_a (zk_a kr).1).2).2).2).1).2
  have rf0_5 := (zk_a (zk_a (zk_a (zk_a (zk_a (zk_a kr).1).2).2).2).2).1
  have rf0_6 := (zk_a (zk_a (zk_a (zk_a (zk_a (zk_a (zk_a kr).1).2).2).2).2).2).1
  have rf0_7 := (zk_a (zk_a (zk_a (zk_a (zk_a (zk_a (zk_a kr).1).2).2).2).2).2).2
  have rf0_8 := (zk_a (zk_a (zk_a (zk_a (zk_a (zk_a kr).2).1).1).1).1).1
  have rf0_9 := (zk_a (zk_a (zk_a (zk_a (zk_a (zk_a kr).2).1).1).1).1).2
  have rf0_10 := (zk_a (zk_a (zk_a (zk_a (zk_a (zk_a kr).2).1).1).1).2).1
  have rf0_11 := (zk_a (zk_a (zk_a (zk_a (zk_a (zk_a (zk_a kr).2).1).1).1).2).2).1
  have rf0_12 := (zk_a (zk_a (zk_a (zk_a (zk_a (zk_a (zk_a kr).2).1).1).1).2).2).2
  have rf0_13 := (zk_a (zk_a (zk_a (zk_a (zk_a (zk_a kr).2).1).1).2).1).1
  have rf0_14 := (zk_a (zk_a (zk_a (zk_a (zk_a (zk_a kr).2).1).1).2).1).2
  have rf0_15 := (zk_a (zk_a (zk_a (zk_a (zk_a (zk_a kr).2).1).1).2).2).1
  have rf0_16 := (zk_a (zk_a (zk_a (zk_a (zk_a (zk_a (zk_a kr).2).1).1).2).2).2).1
  have rf0_17 := (zk_a (zk_a (zk_a (zk_a (zk_a (zk_a (zk_a kr).2).1).1).2).2).2).2
  have rf0_18 := (zk_a (zk_a (zk_a (zk_a (zk_a (zk_a kr).2).1).2).1).1).1
  have rf0_19 := (zk_a (zk_a (zk_a (zk_a (zk_a (zk_a kr).2).1).2).1).1).2
  have rf0_20 := (zk_a (zk_a (zk_a (zk_a (zk_a (zk_a kr).2).1).2).1).2).1
  have rf0_21 := (zk_a (zk_a (zk_a (zk_a (zk_a (zk_a (zk_a kr).2).1).2).1).2).2).1
  have rf0_22 := (zk_a (zk_a (zk_a (zk_a (zk_a (zk_a (zk_a kr).2).1).2).1).2).2).2
  have rf0_23 := (zk_a (zk_a (zk_a (zk_a (zk_a (zk_a kr).2).1).2).2).1).1
  have rf0_24 := (zk_a (zk_a (zk_a (zk_a (zk_a (zk_a kr).2).1).2).2).1).2
  have rf0_25 := (zk_a (zk_a (zk_a (zk_a (zk_a (zk_a kr).2).1).2).2).2).1
  have rf0_26 := (zk_a (zk_a (zk_a (zk_a (zk_a (zk_a (zk_a kr).2).1).2).2).2).2).1
  have rf0_27 := (zk_a (zk_a (zk_a (zk_a (zk_a (zk_a (zk_a kr).2).1).2).2).2).2).2
  have rf0_28 := (zk_a (zk_a (zk_a (zk_a (zk_a (zk_a kr).2).2).1).1).1).1
  have rf0_29 := (zk_a (zk_a (zk_a (zk_a (zk_a (zk_a kr).2).2).1).1).1).2
  have rf0_30 := (zk_a (zk_a (zk_a (zk_a (zk_a (zk_a kr).2).2).1).1).2).1
  have rf0_31 := (zk_a (zk_a (zk_a (zk_a (zk_a (zk_a (zk_a kr).2).2).1).1).2).2).1
  have rf0_32 := (zk_a (zk_a (zk_a (zk_a (zk_a (zk_a (zk_a kr).2).2).1).1).2).2).2
  have rf0_33 := (zk_a (zk_a (zk_a (zk_a (zk_a (zk_a kr).2).2).1).2).1).1
  have rf0_34 := (zk_a (zk_a (zk_a (zk_a (zk_a (zk_a kr).2).2).1).2).1).2
  have rf0_35 := (zk_a (zk_a (zk_a (zk_a (zk_a (zk_a kr).2).2).1).2).2).1
  have rf0_36 := (zk_a (zk_a (zk_a (zk_a (zk_a (zk_a (zk_a kr).2).2).1).2).2).2).1
  have rf0_37 := (zk_a (zk_a (zk_a (zk_a (zk_a (zk_a (zk_a kr).2).2).1).2).2).2).2
  have rf0_38 := (zk_a (zk_a (zk_a (zk_a (zk_a (zk_a kr).2).2).2).1).1).1
  have rnd := (zk_a (zk_a (zk_a (zk_a (zk_a (zk_a kr).2).2).2).1).1).2
  have rlt := (zk_a (zk_a (zk_a (zk_a (zk_a (zk_a kr).2).2).2).1).2).1
  have hK := (zk_a (zk_a (zk_a (zk_a (zk_a (zk_a (zk_a kr).2).2).2).1).2).2).1
  have hA := (zk_a (zk_a (zk_a (zk_a (zk_a (zk_a (zk_a kr).2).2).2).1).2).2).2
  have hh0 := (zk_a (zk_a (zk_a (zk_a (zk_a (zk_a kr).2).2).2).2).1).1
  have ht0 := (zk_a (zk_a (zk_a (zk_a (zk_a (zk_a (zk_a kr).2).2).2).2).1).2).1
  have hb00 := (zk_a (zk_a (zk_a (zk_a (zk_a (zk_a (zk_a kr).2).2).2).2).1).2).2
  have hw0 := (zk_a (zk_a (zk_a (zk_a (zk_a (zk_a kr).2).2).2).2).2).1
  have hBu := (zk_a (zk_a (zk_a (zk_a (zk_a (zk_a (zk_a kr).2).2).2).2).2).2).1
  have hId := (zk_a (zk_a (zk_a (zk_a (zk_a (zk_a (zk_a kr).2).2).2).2).2).2).2
  have xd := (zk_a kx).1
  have xn := (zk_a (zk_a kx).2).1
  have xm := (zk_a (zk_a kx).2).2
  clear kc kr kx
  replace xn := zk_a xn
  have eK := Nat.eq_of_beq_eq_true hK
  have xL : ∀ i, i < 20 → L.getD i 0 < n := fun i hi => by have := List.all_eq_true.mp xn.1 i (List.mem_range.mpr hi); simpa using this
  have xM : ∀ i, i < 32 → M.getD i 0 < n := fun i hi => by have := List.all_eq_true.mp xn.2 i (List.mem_range.mpr hi); simpa using this
  have xD : ∀ i j, i < 20 → j < 32 → L.getD i 0 ≠ M.getD j 0 := fun i j hi hj => pr_ne_ok (List.all_eq_true.mp (List.all_eq_true.mp xd i (List.mem_range.mpr hi)) j (List.mem_range.mpr hj))
  have x1024 : n + 20 < 1024 := by simpa using xm
  have nd := zk_nd and0
  have ltL := zk_lt alt
  have pz : ∀ i, i < 20 → zm_pl n L i = L.getD i 0 := fun i hi => if_pos hi
  have pn : ∀ i, 20 ≤ i → zm_pl n L i = n + (i - 20) := fun i hi => if_neg (by omega)
  have hinj : ∀ i j, i < 30 → j < 30 → i ≠ j → zm_pl n L i ≠ zm_pl n L j := by
    intro i j hi hj e
    by_cases hi' : i < 20
    · by_cases hj' : j < 20
      · rw [pz i hi', pz j hj']; exact nd i j hi' hj' e
      · have := xL i hi'
        rw [pz i hi', pn j (by omega)]; omega
    · by_cases hj' : j < 20
      · have := xL j hj'
        rw [pn i (by omega), pz j hj']; omega
      · rw [pn i (by omega), pn j (by omega)]; omega
  have hlt : ∀ i, i < 30 → zm_pl n L i < 1024 := by
    intro i hi
    by_cases hi' : i < 20
    · rw [pz i hi']; exact ltL i hi'
    · rw [pn i (by omega)]; omega
  have hwc : wh 30 (zm_pl n L) w w [(0, 1, 13, (pr_X w (L.getD 0 0))), (0, 8, 11, (pr_X w (L.getD 1 0))), (3, 6, 40, (pr_X w (L.getD 2 0))), (0, 9, 11, (pr_X w (L.getD 3 0))), (1, 1, 105, (pr_X w (L.getD 4 0))), (1, 1, 32, (pr_X w (L.getD 5 0))), (1, 1, 128, (pr_X w (L.getD 6 0))), (1, 1, 480, (pr_X w (L.getD 7 0))), (1, 1, 32, (pr_X w (L.getD 8 0))), (1, 1, 32, (pr_X w (L.getD 9 0))), (0, 2, 13, (pr_X w (L.getD 10 0))), (1, 1, 64, (pr_X w (L.getD 11 0))), (1, 0, 64, (pr_X w (L.getD 12 0))), (1, 0, 8, (pr_X w (L.getD 13 0))), (1, 1, 32, (pr_X w (L.getD 14 0))), (1, 1, 32, (pr_X w (L.getD 15 0))), (1, 0, 8, (pr_X w (L.getD 16 0))), (1, 0, 8, (pr_X w (L.getD 17 0))), (1, 0, 8, (pr_X w (L.getD 18 0))), (1, 1, 64, (pr_X w (L.getD 19 0)))] := by
    refine ⟨fun i c h => ?_, hinj, hlt, (by show 20 ≤ 30; decide), fun _ _ _ => rfl⟩
    match i, h with
    | 0, h => exact Option.some.inj h ▸ pr_cX ac0
    | 1, h => exact Option.some.inj h ▸ pr_cX ac1
    | 2, h => exact Option.some.inj h ▸ pr_cX ac2
    | 3, h => exact Option.some.inj h ▸ pr_cX ac3
    | 4, h => exact Option.some.inj h ▸ pr_cX ac4
    | 5, h => exact Option.some.inj h ▸ pr_cX ac5
    | 6, h => exact Option.some.inj h ▸ pr_cX ac6
    | 7, h => exact Option.some.inj h ▸ pr_cX ac7
    | 8, h => exact Option.some.inj h ▸ pr_cX ac8
    | 9, h => exact Option.some.inj h ▸ pr_cX ac9
    | 10, h => exact Option.some.inj h ▸ pr_cX ac10
    | 11, h => exact Option.some.inj h ▸ pr_cX ac11
    | 12, h => exact Option.some.inj h ▸ pr_cX ac12
    | 13, h => exact Option.some.inj h ▸ pr_cX ac13
    | 14, h => exact Option.some.inj h ▸ pr_cX ac14
    | 15, h => exact Option.some.inj h ▸ pr_cX ac15
    | 16, h => exact Option.some.inj h ▸ pr_cX ac16
    | 17, h => exact Option.some.inj h ▸ pr_cX ac17
    | 18, h => exact Option.some.inj h ▸ pr_cX ac18
    | 19, h => exact Option.some.inj h ▸ pr_cX ac19
    | i + 20, h => exact absurd h (by simp)
  have hf0 : fh (pr_X w (L.getD 0 0)) kX [(2, zm_pl n L 1, 0), (0, 0, 0)] := by
    intro i j v hj hv
    match i, hj, hv with
    | 0, hj, hv => exact Option.some.inj hj ▸ Option.some.inj hv ▸ pr_kp af0_0
    | 1, hj, hv => exact Option.some.inj hj ▸ Option.some.inj hv ▸ pr_kp af0_1
    | i + 2, hj, hv => exact absurd hj (by simp [kX])
  have hf1 : fh (pr_X w (L.getD 1 0)) kM [(0, 1, 0), (2, zm_pl n L 2, 0), (0, 0, 0), (2, zm_pl n L 10, 0), (2, zm_pl n L 6, 0), (2, zm_pl n L 7, 0), (0, (pr_p (pr_X w (L.getD 1 0)) 8), 0), (2, zm_pl n L 8, 0), (2, zm_pl n L 9, 0)] := by
    intro i j v hj hv
    match i, hj, hv with
    | 0, hj, hv => exact Option.some.inj hj ▸ Option.some.inj hv ▸ pr_kp af1_0
    | 1, hj, hv => exact Option.some.inj hj ▸ Option.some.inj hv ▸ pr_kp af1_1
    | 2, hj, hv => exact Option.some.inj hj ▸ Option.some.inj hv ▸ pr_kp af1_2
    | 3, hj, hv => exact Option.some.inj hj ▸ Option.some.inj hv ▸ pr_kp af1_3
    | 4, hj, hv => exact Option.some.inj hj ▸ Option.some.inj hv ▸ pr_kp af1_4
    | 5, hj, hv => exact Option.some.inj hj ▸ Option.some.inj hv ▸ pr_kp af1_5
    | 6, hj, hv => exact Option.some.inj hj ▸ Option.some.inj hv ▸ (pr_kb af1_6).1
    | 7, hj, hv => exact Option.some.inj hj ▸ Option.some.inj hv ▸ pr_kp af1_7
    | 8, hj, hv => exact Option.some.inj hj ▸ Option.some.inj hv ▸ pr_kp af1_8
    | i + 9, hj, hv => exact absurd hj (by simp [kM])
  have hf3 : fh (pr_X w (L.getD 3 0)) kB [(2, zm_pl n L 5, 0), (2, zm_pl n L 4, 0), (0, 0, 0), (0, 4, 0), (3, 0, 0)] := by
    intro i j v hj hv
    match i, hj, hv with
    | 0, hj, hv => exact Option.some.inj hj ▸ Option.some.inj hv ▸ pr_kp af3_0
    | 1, hj, hv => exact Option.some.inj hj ▸ Option.some.inj hv ▸ pr_kp af3_1
    | 2, hj, hv => exact Option.some.inj hj ▸ Option.some.inj hv ▸ pr_kp af3_2
    | 3, hj, hv => exact Option.some.inj hj ▸ Option.some.inj hv ▸ pr_kp af3_3
    | 4, hj, hv => exact Option.some.inj hj ▸ Option.some.inj hv ▸ pr_kn af3_4
    | i + 5, hj, hv => exact absurd hj (by simp [kB])
  have hf10 : fh (pr_X w (L.getD 10 0)) kS [(2, zm_pl n L 11, 0), (2, zm_pl n L 12, 0), (2, zm_pl n L 13, 0), (2, zm_pl n L 14, 0), (0, (pr_p (pr_X w (L.getD 10 0)) 11), 0), (0, (pr_p (pr_X w (L.getD 10 0)) 12), 0), (2, zm_pl n L 15, 0), (2, zm_pl n L 16, 0), (2, zm_pl n L 17, 0), (0, 1, 0), (2, zm_pl n L 18, 0), (2, zm_pl n L 19, 0), (0, (pr_p (pr_X w (L.getD 10 0)) 10), 0)] := by
    intro i j v hj hv
    match i, hj, hv with
    | 0, hj, hv => exact Option.some.inj hj ▸ Option.some.inj hv ▸ pr_kp af10_0
    | 1, hj, hv => exact Option.some.inj hj ▸ Option.some.inj hv ▸ pr_kp af10_1
    | 2, hj, hv => exact Option.some.inj hj ▸ Option.some.inj hv ▸ pr_kp af10_2
    | 3, hj, hv => exact Option.some.inj hj ▸ Option.some.inj hv ▸ pr_kp af10_3
    | 4, hj, hv => exact Option.some.inj hj ▸ Option.some.inj hv ▸ (pr_kb af10_4).1
    | 5, hj, hv => exact Option.some.inj hj ▸ Option.some.inj hv ▸ (pr_kb af10_5).1
    | 6, hj, hv => exact Option.some.inj hj ▸ Option.some.inj hv ▸ pr_kp af10_6
    | 7, hj, hv => exact Option.some.inj hj ▸ Option.some.inj hv ▸ pr_kp af10_7
    | 8, hj, hv => exact Option.some.inj hj ▸ Option.some.inj hv ▸ pr_kp af10_8
    | 9, hj, hv => exact Option.some.inj hj ▸ Option.some.inj hv ▸ pr_kp af10_9
    | 10, hj, hv => exact Option.some.inj hj ▸ Option.some.inj hv ▸ pr_kp af10_10
    | 11, hj, hv => exact Option.some.inj hj ▸ Option.some.inj hv ▸ pr_kp af10_11
    | 12, hj, hv => exact Option.some.inj hj ▸ Option.some.inj hv ▸ (pr_kb af10_12).1
    | i + 13, hj, hv => exact absurd hj (by simp [kS])
  have hwr : wh 32 (fun i => M.getD i 0) w w [(0, 0, 107, (pr_X w (M.getD 0 0))), (1, 1, 64, (pr_X w (M.getD 1 0))), (1, 0, 64, mc_K), (1, 0, 64, (pr_X w (M.getD 3 0))), (1, 0, 8, (pr_X w (M.getD 4 0))), (1, 0, 8, (pr_X w (M.getD 5 0))), (1, 0, 8, (pr_X w (M.getD 6 0))), (1, 1, 32, (pr_X w (M.getD 7 0))), (1, 1, 4200, (pr_X w (M.getD 8 0))), (1, 1, 1280, (pr_X w (M.getD 9 0))), (1, 0, 40, (pr_X w (M.getD 10 0))), (1, 0, 40, (pr_X w (M.getD 11 0))), (1, 0, 40, (pr_X w (M.getD 12 0))), (1, 0, 40, (pr_X w (M.getD 13 0))), (1, 0, 40, (pr_X w (M.getD 14 0))), (1, 0, 40, (pr_X w (M.getD 15 0))), (1, 0, 40, (pr_X w (M.getD 16 0))), (1, 1, 28, (pr_X w (M.getD 17 0))), (1, 0, 160, (pr_X w (M.getD 18 0))), (1, 0, 160, (pr_X w (M.getD 19 0))), (1, 0, 160, (pr_X w (M.getD 20 0))), (1, 1, 76000, (pr_X w (M.getD 21 0))), (1, 1, 5120, (pr_X w (M.getD 22 0))), (1, 1, 600, (pr_X w (M.getD 23 0))), (1, 0, 960, (pr_X w (M.getD 24 0))), (1, 0, 40, (pr_X w (M.getD 25 0))), (1, 1, 3200, (pr_X w (M.getD 26 0))), (1, 0, 40, (pr_X w (M.getD 27 0))), (1, 1, 32, (pr_X w (M.getD 28 0))), (1, 1, 2400, (pr_X w (M.getD 29 0))), (1, 0, 40, (pr_X w (M.getD 30 0))), (1, 1, 20, (pr_X w (M.getD 31 0)))] := by
    refine ⟨fun i c h => ?_, zk_nd rnd, zk_lt rlt, Nat.le_refl 32, fun _ _ _ => rfl⟩
    match i, h with
    | 0, h => exact Option.some.inj h ▸ pr_cX rc0
    | 1, h => exact Option.some.inj h ▸ pr_cX rc1
    | 2, h => exact Option.some.inj h ▸ eK ▸ pr_cX rc2
    | 3, h => exact Option.some.inj h ▸ pr_cX rc3
    | 4, h => exact Option.some.inj h ▸ pr_cX rc4
    | 5, h => exact Option.some.inj h ▸ pr_cX rc5
    | 6, h => exact Option.some.inj h ▸ pr_cX rc6
    | 7, h => exact Option.some.inj h ▸ pr_cX rc7
    | 8, h => exact Option.some.inj h ▸ pr_cX rc8
    | 9, h => exact Option.some.inj h ▸ pr_cX rc9
    | 10, h => exact Option.some.inj h ▸ pr_cX rc10
    | 11, h => exact Option.some.inj h ▸ pr_cX rc11
    | 12, h => exact Option.some.inj h ▸ pr_cX rc12
    | 13, h => exact Option.some.inj h ▸ pr_cX rc13
    | 14, h => exact Option.some.inj h ▸ pr_cX rc14
    | 15, h => exact Option.some.inj h ▸ pr_cX rc15
    | 16, h => exact Option.some.inj h ▸ pr_cX rc16
    | 17, h => exact Option.some.inj h ▸ pr_cX rc17
    | 18, h => exact Option.some.inj h ▸ pr_cX rc18
    | 19, h => exact Option.some.inj h ▸ pr_cX rc19
    | 20, h => exact Option.some.inj h ▸ pr_cX rc20
    | 21, h => exact Option.some.inj h ▸ pr_cX rc21
    | 22, h => exact Option.some.inj h ▸ pr_cX rc22
    | 23, h => exact Option.some.inj h ▸ pr_cX rc23
    | 24, h => exact Option.some.inj h ▸ pr_cX rc24
    | 25, h => exact Option.some.inj h ▸ pr_cX rc25
    | 26, h => exact Option.some.inj h ▸ pr_cX rc26
    | 27, h => exact Option.some.inj h ▸ pr_cX rc27
    | 28, h => exact Option.some.inj h ▸ pr_cX rc28
    | 29, h => exact Option.some.inj h ▸ pr_cX rc29
    | 30, h => exact Option.some.inj h ▸ pr_cX rc30
    | 31, h => exact Option.some.inj h ▸ pr_cX rc31
    | i + 32, h => exact absurd h (by simp)
  have hfr : fh (pr_X w (M.getD 0 0)) jQ [(0, (pr_p (pr_X w (M.getD 0 0)) 0), 0), (2, (fun i => M.getD i 0) 1, 0), (2, (fun i => M.getD i 0) 2, 0), (2, (fun i => M.getD i 0) 3, 0), (2, (fun i => M.getD i 0) 4, 0), (2, (fun i => M.getD i 0) 5, 0), (2, (fun i => M.getD i 0) 6, 0), (2, (fun i => M.getD i 0) 7, 0), (0, (pr_p (pr_X w (M.getD 0 0)) 13), 0), (1, (pr_p (pr_X w (M.getD 0 0)) 14), 0), (2, (fun i => M.getD i 0) 8, 0), (2, (fun i => M.getD i 0) 9, 0), (2, (fun i => M.getD i 0) 10, 0), (2, (fun i => M.getD i 0) 11, 0), (2, (fun i => M.getD i 0) 12, 0), (2, (fun i => M.getD i 0) 13, 0), (2, (fun i => M.getD i 0) 14, 0), (2, (fun i => M.getD i 0) 15, 0), (2, (fun i => M.getD i 0) 16, 0), (2, (fun i => M.getD i 0) 17, 0), (2, (fun i => M.getD i 0) 18, 0), (2, (fun i => M.getD i 0) 19, 0), (2, (fun i => M.getD i 0) 20, 0), (2, (fun i => M.getD i 0) 21, 0), (2, (fun i => M.getD i 0) 22, 0), (2, (fun i => M.getD i 0) 23, 0), (2, (fun i => M.getD i 0) 24, 0), (2, (fun i => M.getD i 0) 25, 0), (2, (fun i => M.getD i 0) 26, 0), (2, (fun i => M.getD i 0) 27, 0), (2, (fun i => M.getD i 0) 28, 0), (2, (fun i => M.getD i 0) 29, 0), (2, (fun i => M.getD i 0) 30, 0), (2, (fun i => M.getD i 0) 31, 0), (0, 1, 0), (0, 0, 0), (0, (pr_p (pr_X w (M.getD 0 0)) 60), 0), (0, (pr_p (pr_X w (M.getD 0 0)) 61), 0), (0, 0, 0)] := by
    intro i j v hj hv
    match i, hj, hv with
    | 0, hj, hv => exact Option.some.inj hj ▸ Option.some.inj hv ▸ (pr_kb rf0_0).1
    | 1, hj, hv => exact Option.some.inj hj ▸ Option.some.inj hv ▸ pr_kp rf0_1
    | 2, hj, hv => exact Option.some.inj hj ▸ Option.some.inj hv ▸ pr_kp rf0_2
    | 3, hj, hv => exact Option.some.inj hj ▸ Option.some.inj hv ▸ pr_kp rf0_3
    | 4, hj, hv => exact Option.some.inj hj ▸ Option.some.inj hv ▸ pr_kp rf0_4
    | 5, hj, hv => exact Option.some.inj hj ▸ Option.some.inj hv ▸ pr_kp rf0_5
    | 6, hj, hv => exact Option.some.inj hj ▸ Option.some.inj hv ▸ pr_kp rf0_6
    | 7, hj, hv => exact Option.some.inj hj ▸ Option.some.inj hv ▸ pr_kp rf0_7
    | 8, hj, hv => exact Option.some.inj hj ▸ Option.some.inj hv ▸ (pr_kb rf0_8).1
    | 9, hj, hv => exact Option.some.inj hj ▸ Option.some.inj hv ▸ (pr_kb rf0_9).1
    | 10, hj, hv => exact Option.some.inj hj ▸ Option.some.inj hv ▸ pr_kp rf0_10
    | 11, hj, hv => exact Option.some.inj hj ▸ Option.some.inj hv ▸ pr_kp rf0_11
    | 12, hj, hv => exact Option.some.inj hj ▸ Option.some.inj hv ▸ pr_kp rf0_12
    | 13, hj, hv => exact Option.some.inj hj ▸ Option.some.inj hv ▸ pr_kp rf0_13
    | 14, hj, hv => exact Option.some.inj hj ▸ Option.some.inj hv ▸ pr_kp rf0_14
    | 15, hj, hv => exact Option.some.inj hj ▸ Option.some.inj hv ▸ pr_kp rf0_15
    | 16, hj, hv => exact Option.some.inj hj ▸ Option.some.inj hv ▸ pr_kp rf0_16
    | 17, hj, hv => exact Option.some.inj hj ▸ Option.some.inj hv ▸ pr_kp rf0_17
    | 18, hj, hv => exact Option.some.inj hj ▸ Option.some.inj hv ▸ pr_kp rf0_18
    | 19, hj, hv => exact Option.some.inj hj ▸ Option.some.inj hv ▸ pr_kp rf0_19
    | 20, hj, hv => exact Option.some.inj hj ▸ Option.some.inj hv ▸ pr_kp rf0_20
    | 21, hj, hv => exact Option.some.inj hj ▸ Option.some.inj hv ▸ pr_kp rf0_21
    | 22, hj, hv => exact Option.some.inj hj ▸ Option.some.inj hv ▸ pr_kp rf0_22
    | 23, hj, hv => exact Option.some.inj hj ▸ Option.some.inj hv ▸ pr_kp rf0_23
    | 24, hj, hv => exact Option.some.inj hj ▸ Option.some.inj hv ▸ pr_kp rf0_24
    | 25, hj, hv => exact Option.some.inj hj ▸ Option.some.inj hv ▸ pr_kp rf0_25
    | 26, hj, hv => exact Option.some.inj hj ▸ Option.some.inj hv ▸ pr_kp rf0_26
    | 27, hj, hv => exact Option.some.inj hj ▸ Option.some.inj hv ▸ pr_kp rf0_27
    | 28, hj, hv => exact Option.some.inj hj ▸ Option.some.inj hv ▸ pr_kp rf0_28
    | 29, hj, hv => exact Option.some.inj hj ▸ Option.some.inj hv ▸ pr_kp rf0_29
    | 30, hj, hv => exact Option.some.inj hj ▸ Option.some.inj hv ▸ pr_kp rf0_30
    | 31, hj, hv => exact Option.some.inj hj ▸ Option.some.inj hv ▸ pr_kp rf0_31
    | 32, hj, hv => exact Option.some.inj hj ▸ Option.some.inj hv ▸ pr_kp rf0_32
    | 33, hj, hv => exact Option.some.inj hj ▸ Option.some.inj hv ▸ pr_kp rf0_33
    | 34, hj, hv => exact Option.some.inj hj ▸ Option.some.inj hv ▸ pr_kp rf0_34
    | 35, hj, hv => exact Option.some.inj hj ▸ Option.some.inj hv ▸ pr_kp rf0_35
    | 36, hj, hv => exact Option.some.inj hj ▸ Option.some.inj hv ▸ (pr_kb rf0_36).1
    | 37, hj, hv => exact Option.some.inj hj ▸ Option.some.inj hv ▸ (pr_kb rf0_37).1
    | 38, hj, hv => exact Option.some.inj hj ▸ Option.some.inj hv ▸ pr_kp rf0_38
    | i + 39, hj, hv => exact absurd hj (by simp [jQ])
  exact K (zm_pl n L) (pr_X w (L.getD 0 0)) (pr_X w (L.getD 1 0)) (pr_X w (L.getD 2 0)) (pr_X w (L.getD 3 0)) (pr_X w (L.getD 4 0)) (pr_X w (L.getD 5 0)) (pr_X w (L.getD 6 0)) (pr_X w (L.getD 7 0)) (pr_X w (L.getD 8 0)) (pr_X w (L.getD 9 0)) (pr_X w (L.getD 10 0)) (pr_X w (L.getD 11 0)) (pr_X w (L.getD 12 0)) (pr_X w (L.getD 13 0)) (pr_X w (L.getD 14 0)) (pr_X w (L.getD 15 0)) (pr_X w (L.getD 16 0)) (pr_X w (L.getD 17 0)) (pr_X w (L.getD 18 0)) (pr_X w (L.getD 19 0)) (pr_p (pr_X w (L.getD 1 0)) 8) (pr_p (pr_X w (L.getD 10 0)) 11) (pr_p (pr_X w (L.getD 10 0)) 12) (pr_p (pr_X w (L.getD 10 0)) 10) (fun i => M.getD i 0) (pr_X w (M.getD 0 0)) (pr_X w (M.getD 1 0)) (pr_X w (M.getD 3 0)) (pr_X w (M.getD 4 0)) (pr_X w (M.getD 5 0)) (pr_X w (M.getD 6 0)) (pr_X w (M.getD 7 0)) (pr_X w (M.getD 8 0)) (pr_X w (M.getD 9 0)) (pr_X w (M.getD 10 0)) (pr_X w (M.getD 11 0)) (pr_X w (M.getD 12 0)) (pr_X w (M.getD 13 0)) (pr_X w (M.getD 14 0)) (pr_X w (M.getD 15 0)) (pr_X w (M.getD 16 0)) (pr_X w (M.getD 17 0)) (pr_X w (M.getD 18 0)) (pr_X w (M.getD 19 0)) (pr_X w (M.getD 20 0)) (pr_X w (M.getD 21 0)) (pr_X w (M.getD 22 0)) (pr_X w (M.getD 23 0)) (pr_X w (M.getD 24 0)) (pr_X w (M.getD 25 0)) (pr_X w (M.getD 26 0)) (pr_X w (M.getD 27 0)) (pr_X w (M.getD 28 0)) (pr_X w (M.getD 29 0)) (pr_X w (M.getD 30 0)) (pr_X w (M.getD 31 0)) (pr_p (pr_X w (M.getD 0 0)) 0) (pr_p (pr_X w (M.getD 0 0)) 13) (pr_p (pr_X w (M.getD 0 0)) 14) (pr_p (pr_X w (M.getD 0 0)) 60) (pr_p (pr_X w (M.getD 0 0)) 61) (Nat.eq_of_beq_eq_true p0) (hwc) (hf0) (hf1) (hf3) (hf10) (Nat.eq_of_beq_eq_true hbs) (hab4) (hab5) (hab6) (hab11) (hab19) (hab15) ((fun j hj => by have := sb_bytes _ ht j hj; rwa [mv_rd_zero] at this)) (Nat.eq_of_beq_eq_true hd) (pr_ne_ok hmk) ((pr_kb af10_4).2) ((pr_kb af10_5).2) ((pr_kb af1_6).2) ((pr_kb af10_12).2) (Nat.eq_of_beq_eq_true p1) (hwr) (hfr) ((fun i hi => by have := sb_bytes 8 hA i hi; rwa [Nat.zero_add] at this)) (Nat.eq_of_beq_eq_true hh0) (Nat.eq_of_beq_eq_true ht0) (Nat.eq_of_beq_eq_true hb00) (Nat.eq_of_beq_eq_true hw0) ((fun j hj => Nat.eq_of_beq_eq_true (List.all_eq_true.mp hBu j (List.mem_range.mpr hj)))) ((fun j hj => by have := sb_bytes _ hId j hj; rwa [Nat.zero_add] at this)) ((fun i j hi hj => by
    by_cases hi2 : i < 20
    · rw [pz i hi2]; exact xD i j hi2 hj
    · have := xM j hj
      rw [pn i (by omega)]; show n + (i - 20) ≠ M.getD j 0; omega)) (pn) (x1024)
noncomputable def zm_ab (a b : mv_R) : Bool := zm b.2.2.1 b.2.1 a.2.1 (zp_L b.2.2.1 0 [(0, 0, 7), (1, 0, 2), (2, 1, 0), (3, 0, 4), (3, 0, 5), (1, 0, 6), (1, 0, 7), (1, 0, 9), (1, 0, 10), (1, 0, 0), (10, 0, 2), (10, 0, 1), (10, 0, 0), (10, 0, 3), (10, 0, 4), (10, 0, 5), (10, 0, 6), (10, 0, 8), (10, 0, 9)]) (zp_L b.2.2.1 a.2.1 [(0, 0, 12), (0, 0, 7), (0, 0, 10), (0, 0, 11), (0, 0, 9), (0, 0, 8), (0, 0, 15), (0, 0, 37), (0, 0, 38), (0, 0, 39), (0, 0, 40), (0, 0, 41), (0, 0, 42), (0, 0, 44), (0, 0, 35), (0, 0, 36), (0, 0, 57), (0, 0, 31), (0, 0, 32), (0, 0, 33), (0, 0, 30), (0, 0, 34), (0, 0, 59), (0, 0, 47), (0, 0, 48), (0, 0, 45), (0, 0, 46), (0, 0, 18), (0, 0, 58), (0, 0, 43), (0, 0, 54)])
noncomputable def zm_all : Bool := match z_c with
  | some a => (match z_m a with
    | some b => zm_ab a b
    | none => false)
  | none => false

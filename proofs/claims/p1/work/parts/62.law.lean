/-! THE LAW'S OWN CODE (method 164): rows over what the small machine stands for -/
/-- what holds at the law's entry; the script's array is 'static table' 7 -/
def lg_C (p : Program) (s : State) (m : MethodId) (args : Array Value) (meth : Method) (c : Code) (D : va_G) (tys : List (ClassId × FieldType)) (A : Nat → Prop) (tb : Nat → Nat) (b0 Ls : Nat) (xs : Nat → Int32) : Prop :=
  (p.tables.exec = Jvm.exec ∧ c.code = tt_mcc 164 ∧ c.maxLocals = tt_mL 164 ∧ s.vm.findClass (tt_my 164).cls = some m.cls ∧ meth.name = (tt_my 164).name ∧ (∀ x ∈ tt_mw, x.before args s = true) ∧ va_K D tt_cl tys s ∧ (∀ q, s.heap.size ≤ q → A q) ∧ mv_E tt_nst tt_aos tt_zs tt_zt tb A s ∧ tys.map Prod.snd = tt_tl) ∧ (va_X b0 Ls xs s s.heap ∧ b0 < s.heap.size ∧ ¬ A b0 ∧ tb 7 = b0 ∧ Ls < 2147483648)
section LG
variable {p : Program} {l : Launch} {e : Env} {R : Room} {s : State} {m : MethodId} {args : Array Value} {below : List Frame} {meth : Method} {c : Code} {D : va_G} {tys : List (ClassId × FieldType)} {A : Nat → Prop} {tb : Nat → Nat} {Q : State → Prop} {b0 Ls : Nat} {xs : Nat → Int32}
def lg_G (p : Program) (l : Launch) (e : Env) (R : Room) (s : State) (m : MethodId) (args : Array Value) (below : List Frame) (meth : Method) (c : Code) (D : va_G) (tys : List (ClassId × FieldType)) (A : Nat → Prop) (tb : Nat → Nat) (Q : State → Prop) (pc : Nat) (ls S : List mv_V) (n : Nat) (w : mv_T 10) (cells slots : Nat) : Prop := ∀ L, sy_L L ls → mv_G p l e R s m args below meth c D tt_cl tys A tb (tt_mL 164) Q 0 (fun k => k) pc L S n w cells slots
variable {pc pc' n n' cells slots dc ds : Nat} {ls ls' S S' : List mv_V} {w w' : mv_T 10}
theorem lg_dec {g len : Nat} {i : Instr} (hc : tt_cd 164 pc = (g, i, len)) (hlen : Nat.blt 0 len = true) : decode (tt_mcc 164) pc = .ok (i, len) := by
  have h := tt_f1 164 pc (by rw [hc]; simpa using hlen)
  rw [hc] at h
  exact h
theorem lg_one (C : lg_C p s m args meth c D tys A tb b0 Ls xs) {g len : Nat} {i : Instr} (hc : tt_cd 164 pc = (g, i, len)) (hlen : Nat.blt 0 len = true) (h : ∀ L, sy_L L ls → ∃ L', sy_L L' ls' ∧ mv_one g (tt_mL 164) (tt_kc 164) (tt_fl 164) (tt_nl 164) (tt_al 164) (tt_sl 164) (tt_ini 164) tt_fty tt_ffin tt_tl tt_cn tt_dpk i len pc L S n w = some (pc', L', S', n', w', dc, ds)) (hc1 : cells + dc ≤ R.cells) (hc2 : slots + ds ≤ R.slots) (kk : lg_G p l e R s m args below meth c D tys A tb Q pc' ls' S' n' w' (cells + dc) (slots + ds)) : lg_G p l e R s m args below meth c D tys A tb Q pc ls S n w cells slots := by
  intro L hL
  obtain ⟨L', h1, h2⟩ := h L hL
  obtain ⟨⟨hx, hb, hml, hown, hname, hts, hK, hA, hE, htl⟩, -⟩ := C
  exact mg_one tt_FX htl hx hb hown hname hts hK hA hE (lg_dec hc hlen) h2 hc1 hc2 (kk L' h1)
theorem lg_sk (C : lg_C p s m args meth c D tys A tb b0 Ls xs) {len : Nat} {i : Instr} (hc : tt_cd 164 pc = (2, i, len)) (hlen : Nat.blt 0 len = true) (h : mv_sk i S = some (len, S')) (h1 : cells ≤ R.cells) (h2 : slots ≤ R.slots) (kk : lg_G p l e R s m args below meth c D tys A tb Q (pc + len) ls S' n w cells slots) : lg_G p l e R s m args below meth c D tys A tb Q pc ls S n w cells slots := by
  refine lg_one C (dc := 0) (ds := 0) hc hlen (fun L hL => ⟨L, hL, ?_⟩) h1 h2 kk
  show (match mv_sk i S with
  | some (q, S') => bif Nat.beq q len then some (Nat.add pc len, L, S', n, w, 0, 0) else none
  | none => none) = _
  rw [h]
  show (bif Nat.beq len len then _ else _) = _
  rw [Nat.beq_refl]
  rfl
theorem lg_ck (C : lg_C p s m args meth c D tys A tb b0 Ls xs) {len : Nat} {i : Instr} (hc : tt_cd 164 pc = (4, i, len)) (hlen : Nat.blt 0 len = true) (h : mv_ck (tt_kc 164) i S = some (len, S')) (h1 : cells ≤ R.cells) (h2 : slots ≤ R.slots) (kk : lg_G p l e R s m args below meth c D tys A tb Q (pc + len) ls S' n w cells slots) : lg_G p l e R s m args below meth c D tys A tb Q pc ls S n w cells slots := by
  refine lg_one C (dc := 0) (ds := 0) hc hlen (fun L hL => ⟨L, hL, ?_⟩) h1 h2 kk
  show (match mv_ck (tt_kc 164) i S with
  | some (q, S') => bif Nat.beq q len then some (Nat.add pc len, L, S', n, w, 0, 0) else none
  | none => none) = _
  rw [h]
  show (bif Nat.beq len len then _ else _) = _
  rw [Nat.beq_refl]
  rfl
theorem lg_lk (C : lg_C p s m args meth c D tys A tb b0 Ls xs) {len : Nat} {i : Instr} (hc : tt_cd 164 pc = (1, i, len)) (hlen : Nat.blt 0 len = true) (h : ∀ L, sy_L L ls → ∃ L', sy_L L' ls' ∧ mv_lk (tt_mL 164) i L S = some (len, L', S')) (h1 : cells ≤ R.cells) (h2 : slots ≤ R.slots) (kk : lg_G p l e R s m args below meth c D tys A tb Q (pc + len) ls' S' n w cells slots) : lg_G p l e R s m args below meth c D tys A tb Q pc ls S n w cells slots := by
  refine lg_one C (dc := 0) (ds := 0) hc hlen (fun L hL => ?_) h1 h2 kk
  obtain ⟨L', g1, g2⟩ := h L hL
  refine ⟨L', g1, ?_⟩
  show (match mv_lk (tt_mL 164) i L S with
  | some (q, L', S') => bif Nat.beq q len then some (Nat.add pc len, L', S', n, w, 0, 0) else none
  | none => none) = _
  rw [g2]
  show (bif Nat.beq len len then _ else _) = _
  rw [Nat.beq_refl]
  rfl
theorem lg_bk (C : lg_C p s m args meth c D tys A tb b0 Ls xs) {len : Nat} {i : Instr} (hc : tt_cd 164 pc = (5, i, len)) (hlen : Nat.blt 0 len = true) (hb : mv_blen i len = true) (h : mv_bk pc i S = some (pc', S')) (h1 : cells ≤ R.cells) (h2 : slots ≤ R.slots) (kk : lg_G p l e R s m args below meth c D tys A tb Q pc' ls S' n w cells slots) : lg_G p l e R s m args below meth c D tys A tb Q pc ls S n w cells slots := by
  refine lg_one C (dc := 0) (ds := 0) hc hlen (fun L hL => ⟨L, hL, ?_⟩) h1 h2 kk
  show (match mv_bk pc i S with
  | some (pc', S') => bif mv_blen i len then some (pc', L, S', n, w, 0, 0) else none
  | none => none) = _
  rw [h]
  show (bif mv_blen i len then _ else _) = _
  rw [hb]
  rfl
theorem lg_tk (C : lg_C p s m args meth c D tys A tb b0 Ls xs) {len : Nat} {i : Instr} (hc : tt_cd 164 pc = (8, i, len)) (hlen : Nat.blt 0 len = true) (h : mv_tk pc i S = some (pc', S')) (h1 : cells ≤ R.cells) (h2 : slots ≤ R.slots) (kk : lg_G p l e R s m args below meth c D tys A tb Q pc' ls S' n w cells slots) : lg_G p l e R s m args below meth c D tys A tb Q pc ls S n w cells slots := by
  refine lg_one C (dc := 0) (ds := 0) hc hlen (fun L hL => ⟨L, hL, ?_⟩) h1 h2 kk
  show (match mv_tk pc i S with
  | some (pc', S') => some (pc', L, S', n, w, 0, 0)
  | none => none) = _
  rw [h]
theorem lg_new (C : lg_C p s m args meth c D tys A tb b0 Ls xs) {j q nf : Nat} (hc : tt_cd 164 pc = (7, .new j, 3)) (hn : tt_nl 164 j = (q + 1, nf)) (hlt : n < 1024) (h1 : cells + 1 ≤ R.cells) (h2 : slots + nf ≤ R.slots) (kk : lg_G p l e R s m args below meth c D tys A tb Q (pc + 3) ls ((2, n, 0) :: S) (n + 1) (mv_set 10 w n (0, q, nf, tt_dpk q)) (cells + 1) (slots + nf)) : lg_G p l e R s m args below meth c D tys A tb Q pc ls S n w cells slots := by
  refine lg_one C hc rfl (fun L hL => ⟨L, hL, ?_⟩) h1 h2 kk
  show (match mv_ak (tt_nl 164) tt_dpk (tt_al 164) (tt_sl 164) (.new j) S n with
  | some (q, S', x, d) => bif Nat.beq q 3 then some (Nat.add pc 3, L, S', mv_n1 n x, mv_w1 n w x, mv_k1 x, d) else none
  | none => none) = _
  have e : mv_ak (tt_nl 164) tt_dpk (tt_al 164) (tt_sl 164) (.new j) S n = some (3, (2, n, 0) :: S, some (0, q, nf, tt_dpk q), nf) := by
    show (bif Nat.blt 0 (tt_nl 164 j).1 && Nat.blt n 1024 then some (3, (2, n, 0) :: S, some (0, (tt_nl 164 j).1 - 1, (tt_nl 164 j).2, tt_dpk ((tt_nl 164 j).1 - 1)), (tt_nl 164 j).2) else none) = _
    rw [hn, show Nat.blt n 1024 = true by simpa using hlt]
    rfl
  rw [e]
  rfl
/-- locals -/
theorem lg_ild (C : lg_C p s m args meth c D tys A tb b0 Ls xs) {jf : Fin 4} {j : Nat} {v : mv_V} (hc : tt_cd 164 pc = (1, .iload_n jf, 1)) (hj : jf.val = j) (hv : ls[j]? = some v) (hk : mv_isI v = true) (h1 : cells ≤ R.cells) (h2 : slots ≤ R.slots) (kk : lg_G p l e R s m args below meth c D tys A tb Q (pc + 1) ls (v :: S) n w cells slots) : lg_G p l e R s m args below meth c D tys A tb Q pc ls S n w cells slots := by
  subst hj
  refine lg_lk C hc rfl (fun L hL => ⟨L, hL, ?_⟩) h1 h2 kk
  show (bif mv_isI (mv_lg L jf.val) then some (1, L, mv_lg L jf.val :: S) else none) = _
  rw [hL jf.val v hv (mv_isI_ne hk), hk]
  rfl
theorem lg_ald (C : lg_C p s m args meth c D tys A tb b0 Ls xs) {jf : Fin 4} {j : Nat} {v : mv_V} (hc : tt_cd 164 pc = (1, .aload_n jf, 1)) (hj : jf.val = j) (hv : ls[j]? = some v) (hk : mv_isA v = true) (h1 : cells ≤ R.cells) (h2 : slots ≤ R.slots) (kk : lg_G p l e R s m args below meth c D tys A tb Q (pc + 1) ls (v :: S) n w cells slots) : lg_G p l e R s m args below meth c D tys A tb Q pc ls S n w cells slots := by
  subst hj
  refine lg_lk C hc rfl (fun L hL => ⟨L, hL, ?_⟩) h1 h2 kk
  show (bif mv_isA (mv_lg L jf.val) then some (1, L, mv_lg L jf.val :: S) else none) = _
  rw [hL jf.val v hv (mv_isA_ne hk), hk]
  rfl
theorem lg_ist (C : lg_C p s m args meth c D tys A tb b0 Ls xs) {jf : Fin 4} {j : Nat} {x : mv_V} (hc : tt_cd 164 pc = (1, .istore_n jf, 1)) (hjf : jf.val = j) (hx : mv_isI x = true) (hok : mv_ok x = true) (hj : Nat.blt j (tt_mL 164) = true) (hnl : sy_nl ls j = true) (h1 : cells ≤ R.cells) (h2 : slots ≤ R.slots) (kk : lg_G p l e R s m args below meth c D tys A tb Q (pc + 1) (ls.set j x) S n w cells slots) : lg_G p l e R s m args below meth c D tys A tb Q pc ls (x :: S) n w cells slots := by
  subst hjf
  refine lg_lk C hc rfl (fun L hL => ⟨mv_ls1 L jf.val x, sy_ls1 hL hnl hok, ?_⟩) h1 h2 kk
  show (bif mv_isI x && (mv_ok x && Nat.blt jf.val (tt_mL 164)) then some (1, mv_ls1 L jf.val x, S) else none) = _
  rw [hx, hok, hj]
  rfl
theorem lg_ast (C : lg_C p s m args meth c D tys A tb b0 Ls xs) {jf : Fin 4} {j : Nat} {x : mv_V} (hc : tt_cd 164 pc = (1, .astore_n jf, 1)) (hjf : jf.val = j) (hx : mv_isA x = true) (hok : mv_ok x = true) (hj : Nat.blt j (tt_mL 164) = true) (hnl : sy_nl ls j = true) (h1 : cells ≤ R.cells) (h2 : slots ≤ R.slots) (kk : lg_G p l e R s m args below meth c D tys A tb Q (pc + 1) (ls.set j x) S n w cells slots) : lg_G p l e R s m args below meth c D tys A tb Q pc ls (x :: S) n w cells slots := by
  subst hjf
  refine lg_lk C hc rfl (fun L hL => ⟨mv_ls1 L jf.val x, sy_ls1 hL hnl hok, ?_⟩) h1 h2 kk
  show (bif mv_isA x && (mv_ok x && Nat.blt jf.val (tt_mL 164)) then some (1, mv_ls1 L jf.val x, S) else none) = _
  rw [hx, hok, hj]
  rfl
theorem lg_inc (C : lg_C p s m args meth c D tys A tb b0 Ls xs) {j a q : Nat} {v : Int} (hc : tt_cd 164 pc = (1, .iinc j v, 3)) (hv : ls[j]? = some (0, a, 0)) (hq : mv_sgn v = q) (hj : Nat.blt j (tt_mL 164) = true) (hnl : sy_nl ls j = true) (h1 : cells ≤ R.cells) (h2 : slots ≤ R.slots) (kk : lg_G p l e R s m args below meth c D tys A tb Q (pc + 3) (ls.set j (0, mo_add a q, 0)) S n w cells slots) : lg_G p l e R s m args below meth c D tys A tb Q pc ls S n w cells slots := by
  refine lg_lk C hc rfl (fun L hL => ⟨mv_ls1 L j (0, mo_add a q, 0), sy_ls1 hL hnl (sy_ok0 (mo_add_lt _ _)), ?_⟩) h1 h2 kk
  show (bif Nat.beq (mv_lg L j).1 0 && (mv_ok (0, ((mv_lg L j).2.1 + mv_sgn v) % 4294967296, 0) && Nat.blt j (tt_mL 164)) then some (3, mv_ls1 L j (0, ((mv_lg L j).2.1 + mv_sgn v) % 4294967296, 0), S) else none) = _
  rw [hL j _ hv (by show (0 : Nat) ≠ 255; decide), hq, hj]
  show (bif Nat.beq 0 0 && (mv_ok (0, mo_add a q, 0) && true) then some (3, mv_ls1 L j (0, mo_add a q, 0), S) else none) = _
  rw [sy_ok0 (mo_add_lt _ _)]
  rfl
/-- the script -/
theorem lg_len (C : lg_C p s m args meth c D tys A tb b0 Ls xs) (hc : tt_cd 164 pc = (3, .arraylength, 1)) (kk : lg_G p l e R s m args below meth c D tys A tb Q (pc + 1) ls ((0, Ls, 0) :: S) n w cells slots) : lg_G p l e R s m args below meth c D tys A tb Q pc ls ((6, 7, 0) :: S) n w cells slots := by
  obtain ⟨⟨hx, hb, hml, hown, hname, hts, hK, hA, hE, htl⟩, hX, hbl, hbA, htb, hLs⟩ := C
  intro L hL ad ws H locs lls vs hn h0 hW hP hD hS hLL hV
  obtain ⟨v, vs1, rfl, hv, hV1⟩ := hV.cons
  have e : v = .ref b0 := by
    have : v = .ref (tb 7) := hv
    rw [this, htb]
  subst e
  exact va_slen hx hb hX hbl hbA hS (lg_dec hc rfl) (kk L hL ad ws H locs lls _ hn h0 hW hP hD hS hLL ⟨rfl, hV1⟩)
theorem lg_scr (C : lg_C p s m args meth c D tys A tb b0 Ls xs) {i j : Nat} {x : mv_V} (hc : tt_cd 164 pc = (3, .iaload, 1)) (hij : i = j) (hi : j < Ls) (hx0 : ∀ (n : Nat) (ad : Nat → Nat), mv_r n ad tb x (.int (xs j))) (kk : lg_G p l e R s m args below meth c D tys A tb Q (pc + 1) ls (x :: S) n w cells slots) : lg_G p l e R s m args below meth c D tys A tb Q pc ls ((0, i, 0) :: (6, 7, 0) :: S) n w cells slots := by
  subst hij
  obtain ⟨⟨hx, hb, hml, hown, hname, hts, hK, hA, hE, htl⟩, hX, hbl, hbA, htb, hLs⟩ := C
  intro L hL ad ws H locs lls vs hn h0 hW hP hD hS hLL hV
  obtain ⟨v1, vs1, rfl, hv1, hV1⟩ := hV.cons
  obtain ⟨v2, vs2, rfl, hv2, hV2⟩ := hV1.cons
  have e2 : v2 = .ref b0 := by
    have : v2 = .ref (tb 7) := hv2
    rw [this, htb]
  subst e2
  have e1 : v1 = .int (nI i) := hv1
  subst e1
  refine va_sld hx hb hX hbl hbA hS (vp_in_nI hi (by omega)) (lg_dec hc rfl) ?_
  rw [nI_clamp (by omega)]
  exact kk L hL ad ws H locs lls _ hn h0 hW hP hD hS hLL ⟨hx0 n ad, hV2⟩
/-- calls -/
theorem lg_call (C : lg_C p s m args meth c D tys A tb b0 Ls xs) {i : Instr} {kd q : Nat} {as S0 : List mv_V} {r : mv_R} (hc : tt_cd 164 pc = (10, i, 3)) (hcal : mv_cal (tt_ml 164) i S = some (kd, q, as, S0)) (h7 : kd ≠ 7) (h8 : kd ≠ 8) (hrc : mv_rcv kd (tt_mci q) as w = true) (hcs : mv_cs S0 ≤ 8) (hM : mv_Met l D tt_cl tys tb (mv_E tt_nst tt_aos tt_zs tt_zt tb) (tt_my q) (Cond.code (tt_my q) (tt_mcc q) (tt_mL q) (tt_mret q) :: tt_mw) as n w r) (hR : r.2.2.2.2.2.1 + 1 ≤ R.frames ∧ 8 + (tt_mL q + 11) + r.2.2.2.2.2.2 ≤ R.locals) (hf : cells + r.2.2.2.1 ≤ R.cells ∧ slots + r.2.2.2.2.1 ≤ R.slots) (kk : lg_G p l e R s m args below meth c D tys A tb Q (pc + 3) ls (r.1 ++ S0) r.2.1 r.2.2.1 (cells + r.2.2.2.1) (slots + r.2.2.2.2.1)) : lg_G p l e R s m args below meth c D tys A tb Q pc ls S n w cells slots := by
  intro L hL
  obtain ⟨⟨hx, hb, hml, hown, hname, hts, hK, hA, hE, htl⟩, -⟩ := C
  exact mv_call_ok tt_FX hx hb hml hown hts hK hA hE (lg_dec hc rfl) rfl hcal h7 h8 hrc hcs hM hR hf (kk L hL)
end LG
/-- a run with the prims is a contract -/
theorem tt_met {l : Launch} {D : va_G} {tys : List (ClassId × FieldType)} {tb : Nat → Nat} (htl : tys.map Prod.snd = tt_tl) {f k n : Nat} {w : mv_T 10} {as : List mv_V} {res : mv_R} (hy : plainName (tt_my k).cls = true) (ho : mv_oks as = true) (hcs : mv_cs as ≤ tt_mL k) (h : tt_run pr_all f k 0 (mv_l0 0 as 0) [] n w = some res) : mv_Met l D tt_cl tys tb (mv_E tt_nst tt_aos tt_zs tt_zt tb) (tt_my k) (Cond.code (tt_my k) (tt_mcc k) (tt_mL k) (tt_mret k) :: tt_mw) as n w res :=
  mv_Met.of hy ho hcs fun p e s m args below meth c A ad0 hx hb hml hr hlocks hown hname hts hK hA hE => (mv_sound (l := l) (D := D) (tb := tb) tt_FX htl (fun _ _ _ _ _ h => pr_met htl h) f k 0 (mv_l0 0 as 0) [] n w 0 0 0 0 res h).2 p e _ s m args below meth c A n ad0 hx hb hml hr hlocks hown hname (fun x hx => hts x (List.mem_cons_of_mem _ hx)) hK hA hE (Nat.le_refl _) (Nat.le_refl _) (Nat.le_refl _) (Nat.le_refl _)

/-! A SMALL MACHINE, VII: fields and arrays -/
theorem mv_W.obj {n : Nat} {ad tb : Nat → Nat} {tys : List (ClassId × FieldType)} {w : mv_T 10} {ws : va_W} {a ci nf pk : Nat} (h : mv_W n ad tb tys w ws) (ha : a < n) (hc : mv_get 10 w a = (0, ci, nf, pk)) : ∃ fs : List Value, ws[a]? = some (ad a, .inr (ci, fs)) ∧ fs.length = nf ∧ ∀ (j : Nat) (v : Value), fs[j]? = some v → mv_r n ad tb (mv_dec (mv_rd 136 pk j)) v := by
  obtain ⟨e, h1, h2⟩ := h.2.2 a ha
  rw [hc] at h2
  obtain ⟨fs, rfl, h3, h4⟩ := h2
  exact ⟨fs, h1, h3, h4⟩
theorem mv_W.ints {n : Nat} {ad tb : Nat → Nat} {tys : List (ClassId × FieldType)} {w : mv_T 10} {ws : va_W} {a t k pk : Nat} (h : mv_W n ad tb tys w ws) (ha : a < n) (hc : mv_get 10 w a = (1, t, k, pk)) : ∃ (cA : ClassId) (ty : FieldType), tys[t]? = some (cA, ty) ∧ ws[a]? = some (ad a, .inl (cA, k, .inl (fun j => nI (mv_rd 32 pk j)))) := by
  obtain ⟨e, h1, h2⟩ := h.2.2 a ha
  rw [hc] at h2
  obtain ⟨cA, ty, h3, rfl⟩ := h2
  exact ⟨cA, ty, h3, h1⟩
theorem mv_W.any {n : Nat} {ad tb : Nat → Nat} {tys : List (ClassId × FieldType)} {w : mv_T 10} {ws : va_W} {a t k pk : Nat} (h : mv_W n ad tb tys w ws) (ha : a < n) (hc : mv_get 10 w a = (4, t, k, pk)) : ∃ (cA : ClassId) (ty : FieldType) (f : Nat → Int32), tys[t]? = some (cA, ty) ∧ ws[a]? = some (ad a, .inl (cA, k, .inl f)) := by
  obtain ⟨e, h1, h2⟩ := h.2.2 a ha
  rw [hc] at h2
  obtain ⟨cA, ty, f, h3, rfl⟩ := h2
  exact ⟨cA, ty, f, h3, h1⟩
theorem mv_W.longs {n : Nat} {ad tb : Nat → Nat} {tys : List (ClassId × FieldType)} {w : mv_T 10} {ws : va_W} {a t k pk : Nat} (h : mv_W n ad tb tys w ws) (ha : a < n) (hc : mv_get 10 w a = (2, t, k, pk)) : ∃ (cA : ClassId) (ty : FieldType), tys[t]? = some (cA, ty) ∧ ws[a]? = some (ad a, .inl (cA, k, .inr (.inl (fun j => lN (mv_rd 64 pk j))))) := by
  obtain ⟨e, h1, h2⟩ := h.2.2 a ha
  rw [hc] at h2
  obtain ⟨cA, ty, h3, rfl⟩ := h2
  exact ⟨cA, ty, h3, h1⟩
theorem mv_W.refs {n : Nat} {ad tb : Nat → Nat} {tys : List (ClassId × FieldType)} {w : mv_T 10} {ws : va_W} {a t k pk : Nat} (h : mv_W n ad tb tys w ws) (ha : a < n) (hc : mv_get 10 w a = (3, t, k, pk)) : ∃ (cA : ClassId) (ty : FieldType), tys[t]? = some (cA, ty) ∧ ws[a]? = some (ad a, .inl (cA, k, .inr (.inr (.inr (.inr (fun j => if mv_rd 32 pk j = 0 then none else some (ad (mv_rd 32 pk j - 1)))))))) ∧ ∀ j : Nat, mv_rd 32 pk j ≤ n := by
  obtain ⟨e, h1, h2⟩ := h.2.2 a ha
  rw [hc] at h2
  obtain ⟨⟨cA, ty, h3, rfl⟩, h4⟩ := h2
  exact ⟨cA, ty, h3, h1, h4⟩
/-- may x stand in a field of this type -/
def mv_fit (ty : FieldType) (x : mv_V) : Bool := match ty with
  | .int => mv_isI x
  | .long => mv_isL x
  | .boolean => Nat.beq x.1 0 && Nat.blt x.2.1 2
  | .object _ => mv_isA x
  | .array _ => mv_isA x
  | _ => false
theorem mv_fit_ok {ty : FieldType} {n : Nat} {ad tb : Nat → Nat} {x : mv_V} {v : Value} (h : mv_r n ad tb x v) (hf : mv_fit ty x = true) : narrow ty v = v ∧ fits ty v = true := by
  cases ty with
  | int => obtain ⟨y, rfl, -⟩ := h.int hf; exact ⟨rfl, rfl⟩
  | long => obtain ⟨y, rfl, -⟩ := h.long hf; exact ⟨rfl, rfl⟩
  | boolean =>
    unfold mv_fit at hf
    simp only [Bool.and_eq_true, Nat.blt_eq] at hf
    have e1 := mv_k0 h hf.1
    subst e1
    have : x.2.1 = 0 ∨ x.2.1 = 1 := by omega
    rcases this with e | e <;> rw [e] <;> exact ⟨by decide, by decide⟩
  | object C => rcases mv_isA_spec h hf with rfl | ⟨a, rfl⟩ <;> exact ⟨rfl, rfl⟩
  | array t => rcases mv_isA_spec h hf with rfl | ⟨a, rfl⟩ <;> exact ⟨rfl, rfl⟩
  | _ => cases hf
/-- an index -/
def mv_ix (x : mv_V) (k : Nat) : Bool := Nat.beq x.1 0 && (Nat.blt x.2.1 k && Nat.ble k 2147483647)
theorem mv_ix_ok {n : Nat} {ad tb : Nat → Nat} {x : mv_V} {v : Value} {k : Nat} (h : mv_r n ad tb x v) (hi : mv_ix x k = true) : v = .int (nI x.2.1) ∧ vp_in (nI x.2.1) k ∧ (nI x.2.1).toNatClampNeg = x.2.1 := by
  unfold mv_ix at hi
  simp only [Bool.and_eq_true, Nat.blt_eq, Nat.ble_eq] at hi
  exact ⟨mv_k0 h hi.1, vp_in_nI hi.2.1 (by omega), nI_clamp (by omega)⟩
theorem mv_up_ints (pk i v : Nat) : (fun j => nI (mv_rd 32 (mv_wr 32 pk i v) j)) = upd (fun j => nI (mv_rd 32 pk j)) i (nI v) := by
  funext j
  unfold upd
  rw [mv_rd_wr]
  by_cases e : j = i
  · rw [if_pos e, if_pos e]; exact mn_mod v
  · rw [if_neg e, if_neg e]
theorem mv_up_longs (pk i v : Nat) : (fun j => lN (mv_rd 64 (mv_wr 64 pk i v) j)) = vp_updL (fun j => lN (mv_rd 64 pk j)) i (lN v) := by
  funext j
  unfold vp_updL
  rw [mv_rd_wr]
  by_cases e : j = i
  · rw [if_pos e, if_pos e]; exact ml_mod v
  · rw [if_neg e, if_neg e]
theorem mv_nar_z {a : Nat} (h : a < 2) : vp_nar .boolean (nI a) = nI a := by
  match a, h with
  | 0, _ => decide
  | 1, _ => decide
  | a + 2, h => exact absurd h (by omega)
theorem mv_p5_nI {y : Int32} {lo : Nat} (h : y.toInt + 2147483648 = (lo : Int)) : y = nI ((lo + 2147483648) % 4294967296) := by
  apply Int32.toInt_inj.mp
  have h1 := mn_toInt ((lo + 2147483648) % 4294967296)
  have hb := Int32.toInt_lt y
  have hb2 := Int32.le_toInt y
  unfold mn_up at h1
  omega
/-- an int of which bounds are known: a point is a number -/
def mv_p5 (lo hi : Nat) : mv_V := bif Nat.beq lo hi then (0, (lo + 2147483648) % 4294967296, 0) else (4, lo, hi)
theorem mv_p5_ok {n : Nat} {ad tb : Nat → Nat} {lo hi : Nat} {y : Int32} (h1 : (lo : Int) ≤ y.toInt + 2147483648) (h2 : y.toInt + 2147483648 ≤ (hi : Int)) : mv_r n ad tb (mv_p5 lo hi) (.int y) := by
  unfold mv_p5
  cases hb : Nat.beq lo hi with
  | false => exact ⟨y, rfl, h1, h2⟩
  | true =>
    have e := Nat.eq_of_beq_eq_true hb
    subst e
    show Value.int y = Value.int (nI ((lo + 2147483648) % 4294967296))
    exact congrArg Value.int (mv_p5_nI (by omega))
theorem mv_nar_b (a : Nat) : vp_nar .byte (nI a) = nI (mn_b a) := by rw [vp_nar_byte, mn_i2b]
section MG
variable {p : Program} {l : Launch} {e : Env} {R : Room} {s : State} {m : MethodId} {args : Array Value} {below : List Frame} {meth : Method} {c : Code} {D : va_G} {cl : List vw_C} {tys : List (ClassId × FieldType)} {A : Nat → Prop} {tb : Nat → Nat} {nL : Nat} {Q : State → Prop} {n0 : Nat} {ad0 : Nat → Nat} {cc : ByteArray} {pc L : Nat} {S S' : List mv_V} {n : Nat} {w : mv_T 10} {cells slots : Nat}
theorem mg_get (hx : p.tables.exec = Jvm.exec) (hb : c.code = cc) {own C : String} {T : u_T} {N ci idx nf pk : Nat} {Ts : List Cond} (hts : ∀ w ∈ Ts, w.before args s = true) (hin : ∀ w ∈ u_ws C T N, w ∈ Ts) (hown : s.vm.findClass own = some m.cls) (hK : va_K D cl tys s) (hc : cl[ci]? = some (C, T, N)) (j : Nat) (hj : j < N) (hlink : (Cond.fieldLink own idx (T j).1 (T j).2.1 (T j).2.2.1).before args s = true) (hdg : decode cc pc = .ok (.getfield idx, 3)) {a b : Nat} (hcell : mv_get 10 w a = (0, ci, nf, pk)) (hnf : j < nf) (k : mv_G p l e R s m args below meth c D cl tys A tb nL Q n0 ad0 (pc + 3) L (mv_dec (mv_rd 136 pk j) :: S) n w cells slots) : mv_G p l e R s m args below meth c D cl tys A tb nL Q n0 ad0 pc L ((2, a, b) :: S) n w cells slots := by
  intro ad ws H locs ls vs hn h0 hW hP hD hS hL hV
  obtain ⟨vx, vs1, rfl, hxx, hV1⟩ := hV.cons
  obtain ⟨ha, rfl⟩ := hxx
  obtain ⟨fs, g1, g2, g3⟩ := hW.obj ha hcell
  have g4 : fs[j]? = some fs[j] := List.getElem?_eq_getElem (by omega)
  exact va_get hx hb hts hin hown hK hP a g1 hc j hj hlink (fun _ h9 => h9) g4 hdg (k ad ws H locs ls _ hn h0 hW hP hD hS hL ⟨g3 j _ g4, hV1⟩)
theorem mg_getN (hx : p.tables.exec = Jvm.exec) (hb : c.code = cc) {host : String} {own C : String} {T : u_T} {N ci idx nf pk : Nat} {Ts : List Cond} (hts : ∀ w ∈ Ts, w.before args s = true) (hin : ∀ w ∈ u_ws C T N, w ∈ Ts) (hown : s.vm.findClass own = some m.cls) (hK : va_K D cl tys s) (hc : cl[ci]? = some (C, T, N)) (j : Nat) (hj : j < N) (hlink : (Cond.fieldLinkNest own idx (T j).1 (T j).2.1 (T j).2.2.1 host).before args s = true) (hdg : decode cc pc = .ok (.getfield idx, 3)) {a b : Nat} (hcell : mv_get 10 w a = (0, ci, nf, pk)) (hnf : j < nf) (k : mv_G p l e R s m args below meth c D cl tys A tb nL Q n0 ad0 (pc + 3) L (mv_dec (mv_rd 136 pk j) :: S) n w cells slots) : mv_G p l e R s m args below meth c D cl tys A tb nL Q n0 ad0 pc L ((2, a, b) :: S) n w cells slots := by
  intro ad ws H locs ls vs hn h0 hW hP hD hS hL hV
  obtain ⟨vx, vs1, rfl, hxx, hV1⟩ := hV.cons
  obtain ⟨ha, rfl⟩ := hxx
  obtain ⟨fs, g1, g2, g3⟩ := hW.obj ha hcell
  have g4 : fs[j]? = some fs[j] := List.getElem?_eq_getElem (by omega)
  exact va_getN hx hb hts hin hown hK hP a g1 hc j hj hlink (fun _ h9 => h9) g4 hdg (k ad ws H locs ls _ hn h0 hW hP hD hS hL ⟨g3 j _ g4, hV1⟩)
theorem mg_put (hx : p.tables.exec = Jvm.exec) (hb : c.code = cc) {own C : String} {T : u_T} {N ci idx nf pk : Nat} {Ts : List Cond} (hts : ∀ w ∈ Ts, w.before args s = true) (hin : ∀ w ∈ u_ws C T N, w ∈ Ts) (hown : s.vm.findClass own = some m.cls) (hK : va_K D cl tys s) (hc : cl[ci]? = some (C, T, N)) (j : Nat) (hj : j < N) (ty0 : Nat → FieldType) (hty : ∀ k, k < N → parseFieldDescriptor (T k).2.2.1 = some (ty0 k)) (hnm : ∀ a, a < N → ∀ b, b < N → a ≠ b → (T a).2.1 ≠ (T b).2.1) (hlink : (Cond.fieldLink own idx (T j).1 (T j).2.1 (T j).2.2.1).before args s = true) (hfin : (T j).2.2.2 = false) (hdg : decode cc pc = .ok (.putfield idx, 3)) {a b : Nat} {x : mv_V} (hok : mv_ok x = true) (hfit : mv_fit (ty0 j) x = true) (hcell : mv_get 10 w a = (0, ci, nf, pk)) (hnf : j < nf) (k : mv_G p l e R s m args below meth c D cl tys A tb nL Q n0 ad0 (pc + 3) L S n (mv_set 10 w a (0, ci, nf, mv_wr 136 pk j (mv_enc x))) cells slots) : mv_G p l e R s m args below meth c D cl tys A tb nL Q n0 ad0 pc L (x :: (2, a, b) :: S) n w cells slots := by
  intro ad ws H locs ls vs hn h0 hW hP hD hS hL hV
  obtain ⟨vv, vs0, rfl, hvv, hV0⟩ := hV.cons
  obtain ⟨vx, vs1, rfl, hxx, hV1⟩ := hV0.cons
  obtain ⟨ha, rfl⟩ := hxx
  obtain ⟨fs, g1, g2, g3⟩ := hW.obj ha hcell
  obtain ⟨f1, f2⟩ := mv_fit_ok hvv hfit
  refine va_put hx hb hts hin ty0 hty hnm hown hK hP hD hS a g1 hc j hj hlink (fun _ h9 => h9) hfin (hty j hj) f1 f2 (by omega) hdg (fun H1 locs1 hP1 hD1 hS1 => k ad _ H1 locs1 ls _ hn h0 (hW.set ha ⟨fs.set j vv, rfl, ?_, ?_⟩) hP1 hD1 hS1 hL hV1)
  · rw [List.length_set]; exact g2
  · intro i v hv
    rw [mv_rd_wr]
    by_cases e1 : i = j
    · subst e1
      rw [List.getElem?_set_self (by omega)] at hv
      cases hv
      rw [if_pos rfl, mv_dec_enc hok]; exact hvv
    · rw [List.getElem?_set_ne (Ne.symm e1)] at hv
      rw [if_neg e1]; exact g3 i v hv
theorem mg_putF (hx : p.tables.exec = Jvm.exec) (hb : c.code = cc) {own C : String} {T : u_T} {N ci idx nf pk : Nat} {Ts : List Cond} (hts : ∀ w ∈ Ts, w.before args s = true) (hin : ∀ w ∈ u_ws C T N, w ∈ Ts) (hown : s.vm.findClass own = some m.cls) (hK : va_K D cl tys s) (hc : cl[ci]? = some (C, T, N)) (j : Nat) (hj : j < N) (ty0 : Nat → FieldType) (hty : ∀ k, k < N → parseFieldDescriptor (T k).2.2.1 = some (ty0 k)) (hnm : ∀ a, a < N → ∀ b, b < N → a ≠ b → (T a).2.1 ≠ (T b).2.1) (hlink : (Cond.fieldLink own idx (T j).1 (T j).2.1 (T j).2.2.1).before args s = true) (hfin : (T j).2.2.2 = true) (hin2 : meth.name = "<init>") (hdecl : (T j).1 = own) (hdg : decode cc pc = .ok (.putfield idx, 3)) {a b : Nat} {x : mv_V} (hok : mv_ok x = true) (hfit : mv_fit (ty0 j) x = true) (hcell : mv_get 10 w a = (0, ci, nf, pk)) (hnf : j < nf) (k : mv_G p l e R s m args below meth c D cl tys A tb nL Q n0 ad0 (pc + 3) L S n (mv_set 10 w a (0, ci, nf, mv_wr 136 pk j (mv_enc x))) cells slots) : mv_G p l e R s m args below meth c D cl tys A tb nL Q n0 ad0 pc L (x :: (2, a, b) :: S) n w cells slots := by
  intro ad ws H locs ls vs hn h0 hW hP hD hS hL hV
  obtain ⟨vv, vs0, rfl, hvv, hV0⟩ := hV.cons
  obtain ⟨vx, vs1, rfl, hxx, hV1⟩ := hV0.cons
  obtain ⟨ha, rfl⟩ := hxx
  obtain ⟨fs, g1, g2, g3⟩ := hW.obj ha hcell
  obtain ⟨f1, f2⟩ := mv_fit_ok hvv hfit
  refine va_putF hx hb hts hin ty0 hty hnm hown hK hP hD hS a g1 hc j hj hlink (fun _ h9 => h9) hfin hin2 hdecl (hty j hj) f1 f2 (by omega) hdg (fun H1 locs1 hP1 hD1 hS1 => k ad _ H1 locs1 ls _ hn h0 (hW.set ha ⟨fs.set j vv, rfl, ?_, ?_⟩) hP1 hD1 hS1 hL hV1)
  · rw [List.length_set]; exact g2
  · intro i v hv
    rw [mv_rd_wr]
    by_cases e1 : i = j
    · subst e1
      rw [List.getElem?_set_self (by omega)] at hv
      cases hv
      rw [if_pos rfl, mv_dec_enc hok]; exact hvv
    · rw [List.getElem?_set_ne (Ne.symm e1)] at hv
      rw [if_neg e1]; exact g3 i v hv
theorem mg_putN (hx : p.tables.exec = Jvm.exec) (hb : c.code = cc) {host : String} {own C : String} {T : u_T} {N ci idx nf pk : Nat} {Ts : List Cond} (hts : ∀ w ∈ Ts, w.before args s = true) (hin : ∀ w ∈ u_ws C T N, w ∈ Ts) (hown : s.vm.findClass own = some m.cls) (hK : va_K D cl tys s) (hc : cl[ci]? = some (C, T, N)) (j : Nat) (hj : j < N) (ty0 : Nat → FieldType) (hty : ∀ k, k < N → parseFieldDescriptor (T k).2.2.1 = some (ty0 k)) (hnm : ∀ a, a < N → ∀ b, b < N → a ≠ b → (T a).2.1 ≠ (T b).2.1) (hlink : (Cond.fieldLinkNest own idx (T j).1 (T j).2.1 (T j).2.2.1 host).before args s = true) (hfin : (T j).2.2.2 = false) (hdg : decode cc pc = .ok (.putfield idx, 3)) {a b : Nat} {x : mv_V} (hok : mv_ok x = true) (hfit : mv_fit (ty0 j) x = true) (hcell : mv_get 10 w a = (0, ci, nf, pk)) (hnf : j < nf) (k : mv_G p l e R s m args below meth c D cl tys A tb nL Q n0 ad0 (pc + 3) L S n (mv_set 10 w a (0, ci, nf, mv_wr 136 pk j (mv_enc x))) cells slots) : mv_G p l e R s m args below meth c D cl tys A tb nL Q n0 ad0 pc L (x :: (2, a, b) :: S) n w cells slots := by
  intro ad ws H locs ls vs hn h0 hW hP hD hS hL hV
  obtain ⟨vv, vs0, rfl, hvv, hV0⟩ := hV.cons
  obtain ⟨vx, vs1, rfl, hxx, hV1⟩ := hV0.cons
  obtain ⟨ha, rfl⟩ := hxx
  obtain ⟨fs, g1, g2, g3⟩ := hW.obj ha hcell
  obtain ⟨f1, f2⟩ := mv_fit_ok hvv hfit
  refine va_putN hx hb hts hin ty0 hty hnm hown hK hP hD hS a g1 hc j hj hlink (fun _ h9 => h9) hfin (hty j hj) f1 f2 (by omega) hdg (fun H1 locs1 hP1 hD1 hS1 => k ad _ H1 locs1 ls _ hn h0 (hW.set ha ⟨fs.set j vv, rfl, ?_, ?_⟩) hP1 hD1 hS1 hL hV1)
  · rw [List.length_set]; exact g2
  · intro i v hv
    rw [mv_rd_wr]
    by_cases e1 : i = j
    · subst e1
      rw [List.getElem?_set_self (by omega)] at hv
      cases hv
      rw [if_pos rfl, mv_dec_enc hok]; exact hvv
    · rw [List.getElem?_set_ne (Ne.symm e1)] at hv
      rw [if_neg e1]; exact g3 i v hv
theorem mg_iald (hx : p.tables.exec = Jvm.exec) (hb : c.code = cc) (hK : va_K D cl tys s) (hdg : decode cc pc = .ok (.iaload, 1)) {a b t q pk : Nat} {i : mv_V} (hcell : mv_get 10 w a = (1, t, q, pk)) (hty : (tys[t]?).map Prod.snd = some .int) (hi : mv_ix i q = true) (k : mv_G p l e R s m args below meth c D cl tys A tb nL Q n0 ad0 (pc + 1) L ((0, mv_rd 32 pk i.2.1, 0) :: S) n w cells slots) : mv_G p l e R s m args below meth c D cl tys A tb nL Q n0 ad0 pc L (i :: (2, a, b) :: S) n w cells slots := by
  intro ad ws H locs ls vs hn h0 hW hP hD hS hL hV
  obtain ⟨vi, vs0, rfl, hvi, hV0⟩ := hV.cons
  obtain ⟨vx, vs1, rfl, hxx, hV1⟩ := hV0.cons
  obtain ⟨ha, rfl⟩ := hxx
  obtain ⟨cA, ty, g1, g2⟩ := hW.ints ha hcell
  rw [g1] at hty
  cases hty
  obtain ⟨rfl, g3, g4⟩ := mv_ix_ok hvi hi
  refine va_iald hx hb hK hP a t g2 g1 g3 hdg ?_
  rw [g4]
  exact k ad ws H locs ls _ hn h0 hW hP hD hS hL ⟨rfl, hV1⟩
theorem mg_iald4 (hx : p.tables.exec = Jvm.exec) (hb : c.code = cc) (hK : va_K D cl tys s) (hdg : decode cc pc = .ok (.iaload, 1)) {a b t q pk : Nat} {i : mv_V} (hcell : mv_get 10 w a = (4, t, q, pk)) (hty : (tys[t]?).map Prod.snd = some .int) (hi : mv_ix i q = true) (k : mv_G p l e R s m args below meth c D cl tys A tb nL Q n0 ad0 (pc + 1) L ((4, 0, 4294967295) :: S) n w cells slots) : mv_G p l e R s m args below meth c D cl tys A tb nL Q n0 ad0 pc L (i :: (2, a, b) :: S) n w cells slots := by
  intro ad ws H locs ls vs hn h0 hW hP hD hS hL hV
  obtain ⟨vi, vs0, rfl, hvi, hV0⟩ := hV.cons
  obtain ⟨vx, vs1, rfl, hxx, hV1⟩ := hV0.cons
  obtain ⟨ha, rfl⟩ := hxx
  obtain ⟨cA, ty, f, g1, g2⟩ := hW.any ha hcell
  rw [g1] at hty
  cases hty
  obtain ⟨rfl, g3, g4⟩ := mv_ix_ok hvi hi
  exact va_iald hx hb hK hP a t g2 g1 g3 hdg (k ad ws H locs ls _ hn h0 hW hP hD hS hL ⟨mv_r.some _, hV1⟩)
theorem mg_bald (hx : p.tables.exec = Jvm.exec) (hb : c.code = cc) (hK : va_K D cl tys s) (hdg : decode cc pc = .ok (.baload, 1)) {a b t q pk : Nat} {i : mv_V} (hcell : mv_get 10 w a = (1, t, q, pk)) (hty : (tys[t]?).map Prod.snd = some .byte) (hi : mv_ix i q = true) (k : mv_G p l e R s m args below meth c D cl tys A tb nL Q n0 ad0 (pc + 1) L ((0, mv_rd 32 pk i.2.1, 0) :: S) n w cells slots) : mv_G p l e R s m args below meth c D cl tys A tb nL Q n0 ad0 pc L (i :: (2, a, b) :: S) n w cells slots := by
  intro ad ws H locs ls vs hn h0 hW hP hD hS hL hV
  obtain ⟨vi, vs0, rfl, hvi, hV0⟩ := hV.cons
  obtain ⟨vx, vs1, rfl, hxx, hV1⟩ := hV0.cons
  obtain ⟨ha, rfl⟩ := hxx
  obtain ⟨cA, ty, g1, g2⟩ := hW.ints ha hcell
  rw [g1] at hty
  cases hty
  obtain ⟨rfl, g3, g4⟩ := mv_ix_ok hvi hi
  refine va_bald hx hb hK hP a t g2 g1 g3 hdg ?_
  rw [g4]
  exact k ad ws H locs ls _ hn h0 hW hP hD hS hL ⟨rfl, hV1⟩
theorem mg_bald4 (hx : p.tables.exec = Jvm.exec) (hb : c.code = cc) (hK : va_K D cl tys s) (hdg : decode cc pc = .ok (.baload, 1)) {a b t q pk : Nat} {i : mv_V} (hcell : mv_get 10 w a = (4, t, q, pk)) (hty : (tys[t]?).map Prod.snd = some .byte) (hi : mv_ix i q = true) (k : mv_G p l e R s m args below meth c D cl tys A tb nL Q n0 ad0 (pc + 1) L ((4, 0, 4294967295) :: S) n w cells slots) : mv_G p l e R s m args below meth c D cl tys A tb nL Q n0 ad0 pc L (i :: (2, a, b) :: S) n w cells slots := by
  intro ad ws H locs ls vs hn h0 hW hP hD hS hL hV
  obtain ⟨vi, vs0, rfl, hvi, hV0⟩ := hV.cons
  obtain ⟨vx, vs1, rfl, hxx, hV1⟩ := hV0.cons
  obtain ⟨ha, rfl⟩ := hxx
  obtain ⟨cA, ty, f, g1, g2⟩ := hW.any ha hcell
  rw [g1] at hty
  cases hty
  obtain ⟨rfl, g3, g4⟩ := mv_ix_ok hvi hi
  exact va_bald hx hb hK hP a t g2 g1 g3 hdg (k ad ws H locs ls _ hn h0 hW hP hD hS hL ⟨mv_r.some _, hV1⟩)
theorem mg_zald (hx : p.tables.exec = Jvm.exec) (hb : c.code = cc) (hK : va_K D cl tys s) (hdg : decode cc pc = .ok (.baload, 1)) {a b t q pk : Nat} {i : mv_V} (hcell : mv_get 10 w a = (1, t, q, pk)) (hty : (tys[t]?).map Prod.snd = some .boolean) (hi : mv_ix i q = true) (k : mv_G p l e R s m args below meth c D cl tys A tb nL Q n0 ad0 (pc + 1) L ((0, mv_rd 32 pk i.2.1, 0) :: S) n w cells slots) : mv_G p l e R s m args below meth c D cl tys A tb nL Q n0 ad0 pc L (i :: (2, a, b) :: S) n w cells slots := by
  intro ad ws H locs ls vs hn h0 hW hP hD hS hL hV
  obtain ⟨vi, vs0, rfl, hvi, hV0⟩ := hV.cons
  obtain ⟨vx, vs1, rfl, hxx, hV1⟩ := hV0.cons
  obtain ⟨ha, rfl⟩ := hxx
  obtain ⟨cA, ty, g1, g2⟩ := hW.ints ha hcell
  rw [g1] at hty
  cases hty
  obtain ⟨rfl, g3, g4⟩ := mv_ix_ok hvi hi
  refine va_zald hx hb hK hP a t g2 g1 g3 hdg ?_
  rw [g4]
  exact k ad ws H locs ls _ hn h0 hW hP hD hS hL ⟨rfl, hV1⟩
theorem mg_zald4 (hx : p.tables.exec = Jvm.exec) (hb : c.code = cc) (hK : va_K D cl tys s) (hdg : decode cc pc = .ok (.baload, 1)) {a b t q pk : Nat} {i : mv_V} (hcell : mv_get 10 w a = (4, t, q, pk)) (hty : (tys[t]?).map Prod.snd = some .boolean) (hi : mv_ix i q = true) (k : mv_G p l e R s m args below meth c D cl tys A tb nL Q n0 ad0 (pc + 1) L ((4, 0, 4294967295) :: S) n w cells slots) : mv_G p l e R s m args below meth c D cl tys A tb nL Q n0 ad0 pc L (i :: (2, a, b) :: S) n w cells slots := by
  intro ad ws H locs ls vs hn h0 hW hP hD hS hL hV
  obtain ⟨vi, vs0, rfl, hvi, hV0⟩ := hV.cons
  obtain ⟨vx, vs1, rfl, hxx, hV1⟩ := hV0.cons
  obtain ⟨ha, rfl⟩ := hxx
  obtain ⟨cA, ty, f, g1, g2⟩ := hW.any ha hcell
  rw [g1] at hty
  cases hty
  obtain ⟨rfl, g3, g4⟩ := mv_ix_ok hvi hi
  exact va_zald hx hb hK hP a t g2 g1 g3 hdg (k ad ws H locs ls _ hn h0 hW hP hD hS hL ⟨mv_r.some _, hV1⟩)
theorem mg_lald (hx : p.tables.exec = Jvm.exec) (hb : c.code = cc) (hK : va_K D cl tys s) (hdg : decode cc pc = .ok (.laload, 1)) {a b t q pk : Nat} {i : mv_V} (hcell : mv_get 10 w a = (2, t, q, pk)) (hty : (tys[t]?).map Prod.snd = some .long) (hi : mv_ix i q = true) (k : mv_G p l e R s m args below meth c D cl tys A tb nL Q n0 ad0 (pc + 1) L ((1, mv_rd 64 pk i.2.1, 0) :: S) n w cells slots) : mv_G p l e R s m args below meth c D cl tys A tb nL Q n0 ad0 pc L (i :: (2, a, b) :: S) n w cells slots := by
  intro ad ws H locs ls vs hn h0 hW hP hD hS hL hV
  obtain ⟨vi, vs0, rfl, hvi, hV0⟩ := hV.cons
  obtain ⟨vx, vs1, rfl, hxx, hV1⟩ := hV0.cons
  obtain ⟨ha, rfl⟩ := hxx
  obtain ⟨cA, ty, g1, g2⟩ := hW.longs ha hcell
  rw [g1] at hty
  cases hty
  obtain ⟨rfl, g3, g4⟩ := mv_ix_ok hvi hi
  refine va_lald hx hb hK hP a t g2 g1 g3 hdg ?_
  rw [g4]
  exact k ad ws H locs ls _ hn h0 hW hP hD hS hL ⟨rfl, hV1⟩
theorem mg_aald (hx : p.tables.exec = Jvm.exec) (hb : c.code = cc) (hK : va_K D cl tys s) (hdg : decode cc pc = .ok (.aaload, 1)) {a b t q pk : Nat} {i : mv_V} {C : String} (hcell : mv_get 10 w a = (3, t, q, pk)) (hty : (tys[t]?).map Prod.snd = some (.object C)) (hi : mv_ix i q = true) (k : mv_G p l e R s m args below meth c D cl tys A tb nL Q n0 ad0 (pc + 1) L ((bif Nat.beq (mv_rd 32 pk i.2.1) 0 then (3, 0, 0) else (2, mv_rd 32 pk i.2.1 - 1, 0)) :: S) n w cells slots) : mv_G p l e R s m args below meth c D cl tys A tb nL Q n0 ad0 pc L (i :: (2, a, b) :: S) n w cells slots := by
  intro ad ws H locs ls vs hn h0 hW hP hD hS hL hV
  obtain ⟨vi, vs0, rfl, hvi, hV0⟩ := hV.cons
  obtain ⟨vx, vs1, rfl, hxx, hV1⟩ := hV0.cons
  obtain ⟨ha, rfl⟩ := hxx
  obtain ⟨cA, ty, g1, g2, g5⟩ := hW.refs ha hcell
  rw [g1] at hty
  cases hty
  obtain ⟨rfl, g3, g4⟩ := mv_ix_ok hvi hi
  refine va_aldq hx hb hK hP a t g2 g1 g3 hdg ?_
  rw [g4]
  refine k ad ws H locs ls _ hn h0 hW hP hD hS hL ⟨?_, hV1⟩
  rw [mv_beq0]
  by_cases hz : mv_rd 32 pk i.2.1 = 0
  · rw [if_pos hz]
    simp only [hz, decide_true, cond_true]
    rfl
  · rw [if_neg hz]
    simp only [hz, decide_false, cond_false]
    exact ⟨by have := g5 i.2.1; show mv_rd 32 pk i.2.1 - 1 < n; omega, rfl⟩
theorem mg_alen (hx : p.tables.exec = Jvm.exec) (hb : c.code = cc) (hK : va_K D cl tys s) (hdg : decode cc pc = .ok (.arraylength, 1)) {a b t q pk kd : Nat} (hcell : mv_get 10 w a = (kd, t, q, pk)) (hkd : kd ≠ 0 ∧ kd ≤ 5) (k : mv_G p l e R s m args below meth c D cl tys A tb nL Q n0 ad0 (pc + 1) L ((0, q, 0) :: S) n w cells slots) : mv_G p l e R s m args below meth c D cl tys A tb nL Q n0 ad0 pc L ((2, a, b) :: S) n w cells slots := by
  intro ad ws H locs ls vs hn h0 hW hP hD hS hL hV
  obtain ⟨vx, vs1, rfl, hxx, hV1⟩ := hV.cons
  obtain ⟨ha, rfl⟩ := hxx
  have key : ∃ (cA : ClassId) (ty : FieldType) (x : vp_A), tys[t]? = some (cA, ty) ∧ ws[a]? = some (ad a, .inl (cA, x)) ∧ x.1 = q := by
    obtain ⟨e1, h1, h2⟩ := hW.2.2 a ha
    rw [hcell] at h2
    unfold mv_c at h2
    dsimp only at h2
    split at h2
    · exact absurd rfl hkd.1
    · obtain ⟨cA, ty, h3, rfl⟩ := h2
      exact ⟨cA, ty, _, h3, h1, rfl⟩
    · obtain ⟨cA, ty, h3, rfl⟩ := h2
      exact ⟨cA, ty, _, h3, h1, rfl⟩
    · obtain ⟨⟨cA, ty, h3, rfl⟩, -⟩ := h2
      exact ⟨cA, ty, _, h3, h1, rfl⟩
    · obtain ⟨cA, ty, f, h3, rfl⟩ := h2
      exact ⟨cA, ty, _, h3, h1, rfl⟩
    · obtain ⟨cA, ty, f, ⟨h3, rfl⟩, -⟩ := h2
      exact ⟨cA, ty, _, h3, h1, rfl⟩
    · omega
    · exact h2.elim
  obtain ⟨cA, ty, x, g1, g2, rfl⟩ := key
  exact va_alen hx hb hK hP a t g2 g1 rfl hdg (k ad ws H locs ls _ hn h0 hW hP hD hS hL ⟨rfl, hV1⟩)
theorem mg_iast (hx : p.tables.exec = Jvm.exec) (hb : c.code = cc) (hK : va_K D cl tys s) (hdg : decode cc pc = .ok (.iastore, 1)) {a b t q pk : Nat} {i x : mv_V} (hcell : mv_get 10 w a = (1, t, q, pk)) (hty : (tys[t]?).map Prod.snd = some .int) (hi : mv_ix i q = true) (h0x : Nat.beq x.1 0 = true) (k : mv_G p l e R s m args below meth c D cl tys A tb nL Q n0 ad0 (pc + 1) L S n (mv_set 10 w a (1, t, q, mv_wr 32 pk i.2.1 x.2.1)) cells slots) : mv_G p l e R s m args below meth c D cl tys A tb nL Q n0 ad0 pc L (x :: i :: (2, a, b) :: S) n w cells slots := by
  intro ad ws H locs ls vs hn h0 hW hP hD hS hL hV
  obtain ⟨vv, vs2, rfl, hvv, hV2⟩ := hV.cons
  obtain ⟨vi, vs0, rfl, hvi, hV0⟩ := hV2.cons
  obtain ⟨vx, vs1, rfl, hxx, hV1⟩ := hV0.cons
  obtain ⟨ha, rfl⟩ := hxx
  obtain ⟨cA, ty, g1, g2⟩ := hW.ints ha hcell
  rw [g1] at hty
  cases hty
  obtain ⟨rfl, g3, g4⟩ := mv_ix_ok hvi hi
  have e1 := mv_k0 hvv h0x
  subst e1
  refine va_iast hx hb hK hP hD hS a t g2 g1 g3 hdg (fun H1 locs1 hP1 hD1 hS1 => k ad _ H1 locs1 ls _ hn h0 (hW.set ha ⟨cA, .int, g1, ?_⟩) hP1 hD1 hS1 hL hV1)
  rw [mv_up_ints, g4]
theorem mg_bast (hx : p.tables.exec = Jvm.exec) (hb : c.code = cc) (hK : va_K D cl tys s) (hdg : decode cc pc = .ok (.bastore, 1)) {a b t q pk : Nat} {i x : mv_V} (hcell : mv_get 10 w a = (1, t, q, pk)) (hty : (tys[t]?).map Prod.snd = some .byte) (hi : mv_ix i q = true) (h0x : Nat.beq x.1 0 = true) (k : mv_G p l e R s m args below meth c D cl tys A tb nL Q n0 ad0 (pc + 1) L S n (mv_set 10 w a (1, t, q, mv_wr 32 pk i.2.1 (mn_b x.2.1))) cells slots) : mv_G p l e R s m args below meth c D cl tys A tb nL Q n0 ad0 pc L (x :: i :: (2, a, b) :: S) n w cells slots := by
  intro ad ws H locs ls vs hn h0 hW hP hD hS hL hV
  obtain ⟨vv, vs2, rfl, hvv, hV2⟩ := hV.cons
  obtain ⟨vi, vs0, rfl, hvi, hV0⟩ := hV2.cons
  obtain ⟨vx, vs1, rfl, hxx, hV1⟩ := hV0.cons
  obtain ⟨ha, rfl⟩ := hxx
  obtain ⟨cA, ty, g1, g2⟩ := hW.ints ha hcell
  rw [g1] at hty
  cases hty
  obtain ⟨rfl, g3, g4⟩ := mv_ix_ok hvi hi
  have e1 := mv_k0 hvv h0x
  subst e1
  refine va_bast hx hb hK hP hD hS a t g2 g1 g3 hdg (fun H1 locs1 hP1 hD1 hS1 => k ad _ H1 locs1 ls _ hn h0 (hW.set ha ⟨cA, .byte, g1, ?_⟩) hP1 hD1 hS1 hL hV1)
  rw [mv_up_ints, g4, mv_nar_b]
theorem mg_zast (hx : p.tables.exec = Jvm.exec) (hb : c.code = cc) (hK : va_K D cl tys s) (hdg : decode cc pc = .ok (.bastore, 1)) {a b t q pk : Nat} {i x : mv_V} (hcell : mv_get 10 w a = (1, t, q, pk)) (hty : (tys[t]?).map Prod.snd = some .boolean) (hi : mv_ix i q = true) (h0x : Nat.beq x.1 0 = true) (h2x : x.2.1 < 2) (k : mv_G p l e R s m args below meth c D cl tys A tb nL Q n0 ad0 (pc + 1) L S n (mv_set 10 w a (1, t, q, mv_wr 32 pk i.2.1 x.2.1)) cells slots) : mv_G p l e R s m args below meth c D cl tys A tb nL Q n0 ad0 pc L (x :: i :: (2, a, b) :: S) n w cells slots := by
  intro ad ws H locs ls vs hn h0 hW hP hD hS hL hV
  obtain ⟨vv, vs2, rfl, hvv, hV2⟩ := hV.cons
  obtain ⟨vi, vs0, rfl, hvi, hV0⟩ := hV2.cons
  obtain ⟨vx, vs1, rfl, hxx, hV1⟩ := hV0.cons
  obtain ⟨ha, rfl⟩ := hxx
  obtain ⟨cA, ty, g1, g2⟩ := hW.ints ha hcell
  rw [g1] at hty
  cases hty
  obtain ⟨rfl, g3, g4⟩ := mv_ix_ok hvi hi
  have e1 := mv_k0 hvv h0x
  subst e1
  refine va_zast hx hb hK hP hD hS a t g2 g1 g3 hdg (fun H1 locs1 hP1 hD1 hS1 => k ad _ H1 locs1 ls _ hn h0 (hW.set ha ⟨cA, .boolean, g1, ?_⟩) hP1 hD1 hS1 hL hV1)
  rw [mv_up_ints, g4, mv_nar_z h2x]
theorem mg_iald5 (hx : p.tables.exec = Jvm.exec) (hb : c.code = cc) (hK : va_K D cl tys s) (hdg : decode cc pc = .ok (.iaload, 1)) {a b t q pk : Nat} {i : mv_V} (hcell : mv_get 10 w a = (5, t, q, pk)) (hty : (tys[t]?).map Prod.snd = some .int) (hi : mv_ix i q = true) (k : mv_G p l e R s m args below meth c D cl tys A tb nL Q n0 ad0 (pc + 1) L (mv_p5 (mv_rd 32 pk (2 * i.2.1)) (mv_rd 32 pk (2 * i.2.1 + 1)) :: S) n w cells slots) : mv_G p l e R s m args below meth c D cl tys A tb nL Q n0 ad0 pc L (i :: (2, a, b) :: S) n w cells slots := by
  intro ad ws H locs ls vs hn h0 hW hP hD hS hL hV
  obtain ⟨vi, vs0, rfl, hvi, hV0⟩ := hV.cons
  obtain ⟨vx, vs1, rfl, hxx, hV1⟩ := hV0.cons
  obtain ⟨ha, rfl⟩ := hxx
  obtain ⟨e1, h1, h2⟩ := hW.2.2 a ha
  rw [hcell] at h2
  obtain ⟨cA, ty, f, ⟨g1, g2⟩, g5⟩ := h2
  dsimp only at g1 g2 g5
  subst g2
  rw [g1] at hty
  cases hty
  have hlt : i.2.1 < q := by
    unfold mv_ix at hi
    simp only [Bool.and_eq_true, Nat.blt_eq] at hi
    exact hi.2.1
  obtain ⟨rfl, g3, g4⟩ := mv_ix_ok hvi hi
  refine va_iald hx hb hK hP a t h1 g1 g3 hdg ?_
  rw [g4]
  refine k ad ws H locs ls _ hn h0 hW hP hD hS hL ⟨?_, hV1⟩
  obtain ⟨q1, q2⟩ := g5 i.2.1 hlt
  exact mv_p5_ok q1 q2
theorem mg_bast4 (hx : p.tables.exec = Jvm.exec) (hb : c.code = cc) (hK : va_K D cl tys s) (hdg : decode cc pc = .ok (.bastore, 1)) {a b t q pk kd : Nat} {i x : mv_V} (hcell : mv_get 10 w a = (kd, t, q, pk)) (hkd : kd = 1 ∨ kd = 4) (hty : (tys[t]?).map Prod.snd = some .byte) (hi : mv_ix i q = true) (h0x : mv_isI x = true) (k : mv_G p l e R s m args below meth c D cl tys A tb nL Q n0 ad0 (pc + 1) L S n (mv_set 10 w a (4, t, q, 0)) cells slots) : mv_G p l e R s m args below meth c D cl tys A tb nL Q n0 ad0 pc L (x :: i :: (2, a, b) :: S) n w cells slots := by
  intro ad ws H locs ls vs hn h0 hW hP hD hS hL hV
  obtain ⟨vv, vs2, rfl, hvv, hV2⟩ := hV.cons
  obtain ⟨vi, vs0, rfl, hvi, hV0⟩ := hV2.cons
  obtain ⟨vx, vs1, rfl, hxx, hV1⟩ := hV0.cons
  obtain ⟨ha, rfl⟩ := hxx
  have key : ∃ (cA : ClassId) (ty : FieldType) (f : Nat → Int32), tys[t]? = some (cA, ty) ∧ ws[a]? = some (ad a, .inl (cA, q, .inl f)) := by
    rcases hkd with rfl | rfl
    · obtain ⟨cA, ty, g1, g2⟩ := hW.ints ha hcell
      exact ⟨cA, ty, _, g1, g2⟩
    · exact hW.any ha hcell
  obtain ⟨cA, ty, f, g1, g2⟩ := key
  rw [g1] at hty
  cases hty
  obtain ⟨rfl, g3, g4⟩ := mv_ix_ok hvi hi
  obtain ⟨y, rfl, -⟩ := hvv.int h0x
  exact va_bast hx hb hK hP hD hS a t g2 g1 g3 hdg (fun H1 locs1 hP1 hD1 hS1 => k ad _ H1 locs1 ls _ hn h0 (hW.set ha ⟨cA, .byte, _, g1, rfl⟩) hP1 hD1 hS1 hL hV1)
theorem mg_last (hx : p.tables.exec = Jvm.exec) (hb : c.code = cc) (hK : va_K D cl tys s) (hdg : decode cc pc = .ok (.lastore, 1)) {a b t q pk : Nat} {i x : mv_V} (hcell : mv_get 10 w a = (2, t, q, pk)) (hty : (tys[t]?).map Prod.snd = some .long) (hi : mv_ix i q = true) (h0x : mv_isN x = true) (k : mv_G p l e R s m args below meth c D cl tys A tb nL Q n0 ad0 (pc + 1) L S n (mv_set 10 w a (2, t, q, mv_wr 64 pk i.2.1 x.2.1)) cells slots) : mv_G p l e R s m args below meth c D cl tys A tb nL Q n0 ad0 pc L (x :: i :: (2, a, b) :: S) n w cells slots := by
  intro ad ws H locs ls vs hn h0 hW hP hD hS hL hV
  obtain ⟨vv, vs2, rfl, hvv, hV2⟩ := hV.cons
  obtain ⟨vi, vs0, rfl, hvi, hV0⟩ := hV2.cons
  obtain ⟨vx, vs1, rfl, hxx, hV1⟩ := hV0.cons
  obtain ⟨ha, rfl⟩ := hxx
  obtain ⟨cA, ty, g1, g2⟩ := hW.longs ha hcell
  rw [g1] at hty
  cases hty
  obtain ⟨rfl, g3, g4⟩ := mv_ix_ok hvi hi
  have e1 := mv_isN_spec hvv h0x
  subst e1
  refine va_last hx hb hK hP hD hS a t g2 g1 g3 hdg (fun H1 locs1 hP1 hD1 hS1 => k ad _ H1 locs1 ls _ hn h0 (hW.set ha ⟨cA, .long, g1, ?_⟩) hP1 hD1 hS1 hL hV1)
  rw [mv_up_longs, g4]
theorem mg_aast (hx : p.tables.exec = Jvm.exec) (hb : c.code = cc) (hK : va_K D cl tys s) (hdg : decode cc pc = .ok (.aastore, 1)) {a b t q pk d b2 ci nf pf : Nat} {i : mv_V} {r : vw_C} (hcell : mv_get 10 w a = (3, t, q, pk)) (hty : (tys[t]?).map Prod.snd = some (.object r.1)) (hc : cl[ci]? = some r) (hobj : mv_get 10 w d = (0, ci, nf, pf)) (hi : mv_ix i q = true) (k : mv_G p l e R s m args below meth c D cl tys A tb nL Q n0 ad0 (pc + 1) L S n (mv_set 10 w a (3, t, q, mv_wr 32 pk i.2.1 (d + 1))) cells slots) : mv_G p l e R s m args below meth c D cl tys A tb nL Q n0 ad0 pc L ((2, d, b2) :: i :: (2, a, b) :: S) n w cells slots := by
  intro ad ws H locs ls vs hn h0 hW hP hD hS hL hV
  obtain ⟨vv, vs2, rfl, hvv, hV2⟩ := hV.cons
  obtain ⟨vi, vs0, rfl, hvi, hV0⟩ := hV2.cons
  obtain ⟨vx, vs1, rfl, hxx, hV1⟩ := hV0.cons
  obtain ⟨ha, rfl⟩ := hxx
  obtain ⟨hd, rfl⟩ := hvv
  obtain ⟨cA, ty, g1, g2, g5⟩ := hW.refs ha hcell
  rw [g1] at hty
  cases hty
  obtain ⟨fs, f1, f2, f3⟩ := hW.obj hd hobj
  obtain ⟨rfl, g3, g4⟩ := mv_ix_ok hvi hi
  have hn1024 := hW.2.1
  dsimp only at ha hd
  have hm : (d + 1) % 2 ^ 32 = d + 1 := Nat.mod_eq_of_lt (by omega)
  refine va_astq hx hb hK hP hD hS a t d ci g2 g1 f1 hc g3 hdg (fun H1 locs1 hP1 hD1 hS1 => k ad _ H1 locs1 ls _ hn h0 (hW.set ha ⟨⟨cA, .object r.1, g1, ?_⟩, ?_⟩) hP1 hD1 hS1 hL hV1)
  · rw [g4]
    refine congrArg (fun f => Sum.inl (cA, q, Sum.inr (Sum.inr (Sum.inr (Sum.inr f))))) (funext fun j => ?_)
    unfold va_up
    rw [mv_rd_wr]
    by_cases e1 : j = i.2.1
    · rw [if_pos e1, if_pos e1, hm, if_neg (by omega)]
      rfl
    · rw [if_neg e1, if_neg e1]
  · intro j
    dsimp only
    rw [mv_rd_wr]
    by_cases e1 : j = i.2.1
    · rw [if_pos e1, hm]; omega
    · rw [if_neg e1]; exact g5 j
end MG

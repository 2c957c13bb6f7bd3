/-! A SMALL MACHINE, II: its values and worlds, and what they stand for in the JVM's heap -/
/-- (kind, a, b): 0 the int a, 1 the long a, 2 the cell at place a, 3 null, 4 some int of a .. b (both with 2^31 added), 5 some long likewise, 6 the static table a; 255: nothing is known -/
abbrev mv_V : Type := Nat × Nat × Nat
def mv_r (n : Nat) (ad tb : Nat → Nat) (x : mv_V) (v : Value) : Prop := match x.1 with
  | 0 => v = .int (nI x.2.1)
  | 1 => v = .long (lN x.2.1)
  | 2 => x.2.1 < n ∧ v = .ref (ad x.2.1)
  | 3 => v = .null
  | 4 => ∃ y : Int32, v = .int y ∧ (x.2.1 : Int) ≤ y.toInt + 2147483648 ∧ y.toInt + 2147483648 ≤ (x.2.2 : Int)
  | 5 => ∃ y : Int64, v = .long y ∧ (x.2.1 : Int) ≤ y.toInt + 2147483648 ∧ y.toInt + 2147483648 ≤ (x.2.2 : Int)
  | 6 => v = .ref (tb x.2.1)
  | _ => False
theorem mv_r.mono {n n' : Nat} {ad ad' tb : Nat → Nat} {x : mv_V} {v : Value} (h : mv_r n ad tb x v) (hn : n ≤ n') (ha : ∀ k, k < n → ad' k = ad k) : mv_r n' ad' tb x v := by
  obtain ⟨k, a, b⟩ := x
  unfold mv_r at h ⊢
  dsimp only at h ⊢
  split at h <;> try exact h
  · exact ⟨Nat.lt_of_lt_of_le h.1 hn, by rw [ha _ h.1]; exact h.2⟩
/-- a value in 136 bits -/
def mv_enc (x : mv_V) : Nat := Nat.add (Nat.add (Nat.add x.1 1) (Nat.mul 256 x.2.1)) (Nat.mul 4722366482869645213696 x.2.2)
def mv_ok (x : mv_V) : Bool := Nat.ble x.1 200 && (Nat.blt x.2.1 18446744073709551616 && Nat.blt x.2.2 18446744073709551616)
def mv_dec (w : Nat) : mv_V := (Nat.mod (Nat.add w 255) 256, Nat.mod (Nat.div w 256) 18446744073709551616, Nat.div w 4722366482869645213696)
theorem mv_ok_spec {x : mv_V} (h : mv_ok x = true) : x.1 ≤ 200 ∧ x.2.1 < 18446744073709551616 ∧ x.2.2 < 18446744073709551616 := by
  unfold mv_ok at h
  simp only [Bool.and_eq_true, Nat.ble_eq, Nat.blt_eq] at h
  exact h
theorem mv_dec_enc {x : mv_V} (h : mv_ok x = true) : mv_dec (mv_enc x % 2 ^ 136) = x := by
  obtain ⟨h1, h2, h3⟩ := mv_ok_spec h
  obtain ⟨k, a, b⟩ := x
  dsimp only at h1 h2 h3
  have e : mv_enc (k, a, b) % 2 ^ 136 = mv_enc (k, a, b) := by
    apply Nat.mod_eq_of_lt
    show k + 1 + 256 * a + 4722366482869645213696 * b < 2 ^ 136
    omega
  rw [e]
  show ((k + 1 + 256 * a + 4722366482869645213696 * b + 255) % 256, (k + 1 + 256 * a + 4722366482869645213696 * b) / 256 % 18446744073709551616, (k + 1 + 256 * a + 4722366482869645213696 * b) / 4722366482869645213696) = (k, a, b)
  refine Prod.ext ?_ (Prod.ext ?_ ?_) <;> dsimp only <;> omega
theorem mv_dec_0 : (mv_dec 0).1 = 255 := by decide
/-- stacks -/
def mv_S (n : Nat) (ad tb : Nat → Nat) : List mv_V → List Value → Prop
  | [], [] => True
  | x :: xs, v :: vs => mv_r n ad tb x v ∧ mv_S n ad tb xs vs
  | _, _ => False
theorem mv_S.mono {n n' : Nat} {ad ad' tb : Nat → Nat} (hn : n ≤ n') (ha : ∀ k, k < n → ad' k = ad k) : ∀ {xs : List mv_V} {vs : List Value}, mv_S n ad tb xs vs → mv_S n' ad' tb xs vs
  | [], [], _ => trivial
  | _ :: _, _ :: _, h => ⟨h.1.mono hn ha, mv_S.mono hn ha h.2⟩
  | [], _ :: _, h => h.elim
  | _ :: _, [], h => h.elim
theorem mv_S.cons {n : Nat} {ad tb : Nat → Nat} {x : mv_V} {xs : List mv_V} {vs : List Value} (h : mv_S n ad tb (x :: xs) vs) : ∃ v vs', vs = v :: vs' ∧ mv_r n ad tb x v ∧ mv_S n ad tb xs vs' := by
  cases vs with
  | nil => exact h.elim
  | cons v vs' => exact ⟨v, vs', rfl, h.1, h.2⟩
theorem mv_S.nil {n : Nat} {ad tb : Nat → Nat} {vs : List Value} (h : mv_S n ad tb [] vs) : vs = [] := by
  cases vs with
  | nil => rfl
  | cons v vs' => exact h.elim
/-- locals -/
def mv_lg (L i : Nat) : mv_V := mv_dec (mv_rd 136 L i)
def mv_L (n : Nat) (ad tb : Nat → Nat) (nL L : Nat) (ls : Array Slot) : Prop := ls.size = nL ∧ lv_wf ls ∧ ∀ i : Nat, (mv_lg L i).1 ≠ 255 → ∃ v, ls[i]? = some (.val v) ∧ mv_r n ad tb (mv_lg L i) v
theorem mv_L.mono {n n' : Nat} {ad ad' tb : Nat → Nat} {nL L : Nat} {ls : Array Slot} (h : mv_L n ad tb nL L ls) (hn : n ≤ n') (ha : ∀ k, k < n → ad' k = ad k) : mv_L n' ad' tb nL L ls :=
  ⟨h.1, h.2.1, fun i hi => by obtain ⟨v, h1, h2⟩ := h.2.2 i hi; exact ⟨v, h1, h2.mono hn ha⟩⟩
def mv_isL (x : mv_V) : Bool := Nat.beq x.1 1 || Nat.beq x.1 5
/-- place i is x; a long that reaches into it is gone -/
def mv_ls1 (L i : Nat) (x : mv_V) : Nat := bif mv_isL (mv_lg L (i - 1)) then mv_wr 136 (mv_wr 136 L (i - 1) 0) i (mv_enc x) else mv_wr 136 L i (mv_enc x)
def mv_ls2 (L i : Nat) (x : mv_V) : Nat := mv_wr 136 (bif mv_isL (mv_lg L (i - 1)) then mv_wr 136 (mv_wr 136 L (i - 1) 0) i (mv_enc x) else mv_wr 136 L i (mv_enc x)) (i + 1) 0
theorem mv_lg_wr (L i w j : Nat) : mv_lg (mv_wr 136 L i w) j = if j = i then mv_dec (w % 2 ^ 136) else mv_lg L j := by
  unfold mv_lg
  rw [mv_rd_wr]
  by_cases h : j = i
  · rw [if_pos h, if_pos h]
  · rw [if_neg h, if_neg h]
theorem mv_lg_0 (L i : Nat) : (mv_lg (mv_wr 136 L i 0) i).1 = 255 := by
  rw [mv_lg_wr, if_pos rfl]; decide
theorem mv_r.cat {n : Nat} {ad tb : Nat → Nat} {x : mv_V} {v : Value} (h : mv_r n ad tb x v) : v.category = 2 ↔ mv_isL x = true := by
  obtain ⟨k, a, b⟩ := x
  unfold mv_r at h
  unfold mv_isL
  dsimp only at h ⊢
  split at h
  · subst h; simp [Value.category]
  · subst h; simp [Value.category]
  · rw [h.2]; simp [Value.category]
  · subst h; simp [Value.category]
  · obtain ⟨y, rfl, -⟩ := h; simp [Value.category]
  · obtain ⟨y, rfl, -⟩ := h; simp [Value.category]
  · subst h; simp [Value.category]
  · exact h.elim
/-- what the kit's list of locals is, for all that is known -/
theorem mv_L.list {n : Nat} {ad tb : Nat → Nat} {nL L : Nat} {ls : Array Slot} (h : mv_L n ad tb nL L ls) : ∃ lv : List (Nat × Value), lv_has ls nL lv ∧ (∀ q ∈ lv, mv_r n ad tb (mv_lg L q.1) q.2) ∧ ∀ i : Nat, (mv_lg L i).1 ≠ 255 → ∃ v, (i, v) ∈ lv := by
  refine ⟨(List.range nL).filterMap (fun i : Nat => match (ls[i]? : Option Slot) with
    | some (Slot.val v) => if (mv_lg L i).1 ≠ 255 then some (i, v) else none
    | _ => none), ⟨h.1, h.2.1, ?_⟩, ?_, ?_⟩
  · intro q hq
    obtain ⟨i, -, hi⟩ := List.mem_filterMap.mp hq
    split at hi
    · rename_i v hv
      split at hi
      · cases hi; exact hv
      · cases hi
    · cases hi
  · intro q hq
    obtain ⟨i, -, hi⟩ := List.mem_filterMap.mp hq
    split at hi
    · rename_i v hv
      split at hi
      · rename_i hne
        cases hi
        obtain ⟨v', h1, h2⟩ := h.2.2 i hne
        rw [hv] at h1
        cases h1
        exact h2
      · cases hi
    · cases hi
  · intro i hi
    obtain ⟨v, h1, h2⟩ := h.2.2 i hi
    refine ⟨v, List.mem_filterMap.mpr ⟨i, List.mem_range.mpr ?_, ?_⟩⟩
    · rw [← h.1]; exact (Array.getElem?_eq_some_iff.mp h1).1
    · rw [h1]
      dsimp only
      rw [if_pos hi]
theorem mv_L.store1 {n : Nat} {ad tb : Nat → Nat} {nL L i : Nat} {ls' : Array Slot} {lv : List (Nat × Value)} {x : mv_V} {v : Value} (hlv : ∀ q ∈ lv, mv_r n ad tb (mv_lg L q.1) q.2) (hall : ∀ i : Nat, (mv_lg L i).1 ≠ 255 → ∃ v, (i, v) ∈ lv) (hx : mv_r n ad tb x v) (hok : mv_ok x = true)
    (h : lv_has ls' nL ((i, v) :: lv.filter (fun q => !(q.1 == i) && !(q.1 + 1 == i && q.2.category == 2)))) : mv_L n ad tb nL (mv_ls1 L i x) ls' := by
  obtain ⟨h1, h2, h3⟩ := h
  refine ⟨h1, h2, fun j hj => ?_⟩
  have self : j = i → ∃ v, ls'[j]? = some (.val v) ∧ mv_r n ad tb x v := fun e => ⟨v, by rw [e]; exact h3 (i, v) List.mem_cons_self, hx⟩
  have other : j ≠ i → (mv_lg L j).1 ≠ 255 → ¬ (j + 1 = i ∧ mv_isL (mv_lg L j) = true) → ∃ v, ls'[j]? = some (.val v) ∧ mv_r n ad tb (mv_lg L j) v := by
    intro e hne hc
    obtain ⟨w, hw⟩ := hall j hne
    have hr := hlv _ hw
    refine ⟨w, h3 (j, w) (List.mem_cons_of_mem _ (List.mem_filter.mpr ⟨hw, ?_⟩)), hr⟩
    dsimp only at hr ⊢
    have e1 : (j == i) = false := by simpa using e
    rw [e1]
    by_cases e2 : j + 1 = i
    · have : ¬ w.category = 2 := fun z => hc ⟨e2, hr.cat.mp z⟩
      simp [this]
    · simp [e2]
  unfold mv_ls1 at hj ⊢
  cases hb : mv_isL (mv_lg L (i - 1)) with
  | false =>
    rw [hb] at hj
    simp only [cond_false] at hj ⊢
    rw [mv_lg_wr] at hj ⊢
    by_cases e : j = i
    · rw [if_pos e, mv_dec_enc hok]; exact self e
    · rw [if_neg e] at hj ⊢
      exact other e hj (fun z => by
        have : j = i - 1 := by omega
        rw [← this, z.2] at hb; cases hb)
  | true =>
    rw [hb] at hj
    simp only [cond_true] at hj ⊢
    rw [mv_lg_wr, mv_lg_wr] at hj ⊢
    by_cases e : j = i
    · rw [if_pos e, mv_dec_enc hok]; exact self e
    · rw [if_neg e] at hj ⊢
      by_cases e2 : j = i - 1
      · rw [if_pos e2] at hj
        exact absurd (by decide) hj
      · rw [if_neg e2] at hj ⊢
        exact other e hj (fun z => e2 (by omega))
theorem mv_L.store2 {n : Nat} {ad tb : Nat → Nat} {nL L i : Nat} {ls' : Array Slot} {lv : List (Nat × Value)} {x : mv_V} {v : Value} (hlv : ∀ q ∈ lv, mv_r n ad tb (mv_lg L q.1) q.2) (hall : ∀ i : Nat, (mv_lg L i).1 ≠ 255 → ∃ v, (i, v) ∈ lv) (hx : mv_r n ad tb x v) (hok : mv_ok x = true)
    (h : lv_has ls' nL ((i, v) :: lv.filter (fun q => !(q.1 == i) && (!(q.1 == i + 1) && !(q.1 + 1 == i && q.2.category == 2))))) : mv_L n ad tb nL (mv_ls2 L i x) ls' := by
  obtain ⟨h1, h2, h3⟩ := h
  refine ⟨h1, h2, fun j hj => ?_⟩
  have self : j = i → ∃ v, ls'[j]? = some (.val v) ∧ mv_r n ad tb x v := fun e => ⟨v, by rw [e]; exact h3 (i, v) List.mem_cons_self, hx⟩
  have other : j ≠ i → j ≠ i + 1 → (mv_lg L j).1 ≠ 255 → ¬ (j + 1 = i ∧ mv_isL (mv_lg L j) = true) → ∃ v, ls'[j]? = some (.val v) ∧ mv_r n ad tb (mv_lg L j) v := by
    intro e e' hne hc
    obtain ⟨w, hw⟩ := hall j hne
    have hr := hlv _ hw
    refine ⟨w, h3 (j, w) (List.mem_cons_of_mem _ (List.mem_filter.mpr ⟨hw, ?_⟩)), hr⟩
    dsimp only at hr ⊢
    have e1 : (j == i) = false := by simpa using e
    have e3 : (j == i + 1) = false := by simpa using e'
    rw [e1, e3]
    by_cases e2 : j + 1 = i
    · have : ¬ w.category = 2 := fun z => hc ⟨e2, hr.cat.mp z⟩
      simp [this]
    · simp [e2]
  unfold mv_ls2 at hj ⊢
  rw [mv_lg_wr] at hj ⊢
  by_cases e' : j = i + 1
  · rw [if_pos e'] at hj
    exact absurd (by decide) hj
  rw [if_neg e'] at hj ⊢
  cases hb : mv_isL (mv_lg L (i - 1)) with
  | false =>
    rw [hb] at hj
    simp only [cond_false] at hj ⊢
    rw [mv_lg_wr] at hj ⊢
    by_cases e : j = i
    · rw [if_pos e, mv_dec_enc hok]; exact self e
    · rw [if_neg e] at hj ⊢
      exact other e e' hj (fun z => by
        have : j = i - 1 := by omega
        rw [← this, z.2] at hb; cases hb)
  | true =>
    rw [hb] at hj
    simp only [cond_true] at hj ⊢
    rw [mv_lg_wr, mv_lg_wr] at hj ⊢
    by_cases e : j = i
    · rw [if_pos e, mv_dec_enc hok]; exact self e
    · rw [if_neg e] at hj ⊢
      by_cases e2 : j = i - 1
      · rw [if_pos e2] at hj
        exact absurd (by decide) hj
      · rw [if_neg e2] at hj ⊢
        exact other e e' hj (fun z => e2 (by omega))
/-- a cell of the small machine, and what it stands for -/
def mv_c (n : Nat) (ad tb : Nat → Nat) (tys : List (ClassId × FieldType)) (x : mv_C) (e : va_E) : Prop := match x.1 with
  | 0 => ∃ vs : List Value, e = .inr (x.2.1, vs) ∧ vs.length = x.2.2.1 ∧ ∀ (j : Nat) (v : Value), vs[j]? = some v → mv_r n ad tb (mv_dec (mv_rd 136 x.2.2.2 j)) v
  | 1 => ∃ (cA : ClassId) (ty : FieldType), tys[x.2.1]? = some (cA, ty) ∧ e = .inl (cA, x.2.2.1, .inl (fun j => nI (mv_rd 32 x.2.2.2 j)))
  | 2 => ∃ (cA : ClassId) (ty : FieldType), tys[x.2.1]? = some (cA, ty) ∧ e = .inl (cA, x.2.2.1, .inr (.inl (fun j => lN (mv_rd 64 x.2.2.2 j))))
  | 3 => (∃ (cA : ClassId) (ty : FieldType), tys[x.2.1]? = some (cA, ty) ∧ e = .inl (cA, x.2.2.1, .inr (.inr (.inr (.inr (fun j => if mv_rd 32 x.2.2.2 j = 0 then none else some (ad (mv_rd 32 x.2.2.2 j - 1)))))))) ∧ ∀ j : Nat, mv_rd 32 x.2.2.2 j ≤ n
  | 4 => ∃ (cA : ClassId) (ty : FieldType) (f : Nat → Int32), tys[x.2.1]? = some (cA, ty) ∧ e = .inl (cA, x.2.2.1, .inl f)
  | 5 => ∃ (cA : ClassId) (ty : FieldType) (f : Nat → Int32), (tys[x.2.1]? = some (cA, ty) ∧ e = .inl (cA, x.2.2.1, .inl f)) ∧ ∀ j, j < x.2.2.1 → ((mv_rd 32 x.2.2.2 (2 * j) : Nat) : Int) ≤ (f j).toInt + 2147483648 ∧ (f j).toInt + 2147483648 ≤ ((mv_rd 32 x.2.2.2 (2 * j + 1) : Nat) : Int)
  | 9 => True
  | _ => False
theorem mv_c.mono {n n' : Nat} {ad ad' tb : Nat → Nat} {tys : List (ClassId × FieldType)} {x : mv_C} {e : va_E} (h : mv_c n ad tb tys x e) (hn : n ≤ n') (ha : ∀ k, k < n → ad' k = ad k) : mv_c n' ad' tb tys x e := by
  obtain ⟨k, t, m, q⟩ := x
  unfold mv_c at h ⊢
  dsimp only at h ⊢
  split at h <;> try exact h
  · obtain ⟨vs, h1, h2, h3⟩ := h
    exact ⟨vs, h1, h2, fun j v hv => (h3 j v hv).mono hn ha⟩
  · obtain ⟨⟨cA, ty, h1, h2⟩, h3⟩ := h
    refine ⟨⟨cA, ty, h1, ?_⟩, fun j => Nat.le_trans (h3 j) hn⟩
    rw [h2]
    refine congrArg (fun f => Sum.inl (cA, m, Sum.inr (Sum.inr (Sum.inr (Sum.inr f))))) (funext fun j => ?_)
    by_cases hz : mv_rd 32 q j = 0
    · rw [if_pos hz, if_pos hz]
    · rw [if_neg hz, if_neg hz, ha _ (by have := h3 j; omega)]
/-- n cells of the tree, at ad, are the kit's world ws -/
def mv_W (n : Nat) (ad tb : Nat → Nat) (tys : List (ClassId × FieldType)) (w : mv_T 10) (ws : va_W) : Prop := ws.length = n ∧ n ≤ 1024 ∧ ∀ k : Nat, k < n → ∃ e, ws[k]? = some (ad k, e) ∧ mv_c n ad tb tys (mv_get 10 w k) e
theorem mv_W.set {n : Nat} {ad tb : Nat → Nat} {tys : List (ClassId × FieldType)} {w : mv_T 10} {ws : va_W} {k : Nat} {x : mv_C} {e : va_E} (h : mv_W n ad tb tys w ws) (hk : k < n) (hx : mv_c n ad tb tys x e) : mv_W n ad tb tys (mv_set 10 w k x) (ws.set k (ad k, e)) := by
  obtain ⟨h1, h2, h3⟩ := h
  refine ⟨by rw [List.length_set]; exact h1, h2, fun j hj => ?_⟩
  rw [mv_get_set 10 w k j x (by omega) (by omega)]
  by_cases e1 : j = k
  · subst e1
    refine ⟨e, List.getElem?_set_self (by omega), ?_⟩
    rw [if_pos rfl]; exact hx
  · obtain ⟨e', h4, h5⟩ := h3 j hj
    refine ⟨e', by rw [List.getElem?_set_ne (Ne.symm e1)]; exact h4, ?_⟩
    rw [if_neg e1]; exact h5
def mv_ad (ad : Nat → Nat) (n q : Nat) : Nat → Nat := fun j => if j = n then q else ad j
theorem mv_ad_old {ad : Nat → Nat} {n q k : Nat} (h : k < n) : mv_ad ad n q k = ad k := if_neg (by omega)
theorem mv_W.push {n : Nat} {ad tb : Nat → Nat} {tys : List (ClassId × FieldType)} {w : mv_T 10} {ws : va_W} {q : Nat} {x : mv_C} {e : va_E} (h : mv_W n ad tb tys w ws) (hn : n < 1024) (hx : mv_c (n + 1) (mv_ad ad n q) tb tys x e) : mv_W (n + 1) (mv_ad ad n q) tb tys (mv_set 10 w n x) (ws ++ [(q, e)]) := by
  obtain ⟨h1, h2, h3⟩ := h
  refine ⟨by simp [h1], hn, fun j hj => ?_⟩
  rw [mv_get_set 10 w n j x (by omega) (by omega)]
  by_cases e1 : j = n
  · subst e1
    refine ⟨e, ?_, ?_⟩
    · rw [List.getElem?_append_right (by omega), h1, Nat.sub_self]
      unfold mv_ad
      rw [if_pos rfl]; rfl
    · rw [if_pos rfl]; exact hx
  · have hj' : j < n := by omega
    obtain ⟨e', h4, h5⟩ := h3 j hj'
    refine ⟨e', ?_, ?_⟩
    · rw [List.getElem?_append_left (by omega), mv_ad_old hj']; exact h4
    · rw [if_neg e1]
      exact h5.mono (Nat.le_succ n) (fun k hk => mv_ad_old hk)

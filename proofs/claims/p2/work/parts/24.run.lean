/-! A SMALL MACHINE, XV: the machine itself -/
def mv_mx (a b : Nat) : Nat := bif Nat.ble a b then b else a
theorem mv_mx_l (a b : Nat) : a ≤ mv_mx a b := by
  unfold mv_mx
  cases h : Nat.ble a b with
  | true => simp only [cond_true]; exact Nat.le_of_ble_eq_true h
  | false => exact Nat.le_refl a
theorem mv_mx_r (a b : Nat) : b ≤ mv_mx a b := by
  unfold mv_mx
  cases h : Nat.ble a b with
  | true => exact Nat.le_refl b
  | false =>
    simp only [cond_false]
    rcases Nat.lt_or_ge b a with z | z
    · omega
    · rw [Nat.ble_eq_true_of_le z] at h; cases h
/-- a call: its kind, the method, the arguments, the rest of the stack -/
def mv_cl (q : Nat × Nat × Nat) (t : Nat) (S : List mv_V) : Option (Nat × Nat × List mv_V × List mv_V) := bif Nat.beq (S.take t).length t then some (q.1, q.2.1, (S.take t).reverse, S.drop t) else none
def mv_cal (ml : Nat → Nat × Nat × Nat) (i : Instr) (S : List mv_V) : Option (Nat × Nat × List mv_V × List mv_V) := match i with
  | .invokestatic j => bif Nat.beq (ml j).1 1 || (Nat.beq (ml j).1 2 || Nat.beq (ml j).1 8) then mv_cl (ml j) (ml j).2.2 S else none
  | .invokevirtual j => bif Nat.beq (ml j).1 3 || Nat.beq (ml j).1 4 then mv_cl (ml j) ((ml j).2.2 + 1) S else none
  | .invokespecial j => bif Nat.beq (ml j).1 5 || (Nat.beq (ml j).1 6 || Nat.beq (ml j).1 7) then mv_cl (ml j) ((ml j).2.2 + 1) S else none
  | _ => none
/-- the receiver -/
noncomputable def mv_rcv (kd ci : Nat) (as : List mv_V) (w : mv_T 10) : Bool := match as with
  | x :: _ => Nat.ble kd 2 || (Nat.beq x.1 2 && (Nat.ble 5 kd || (Nat.beq (mv_get 10 w x.2.1).1 0 && Nat.beq (mv_get 10 w x.2.1).2.1 ci)))
  | [] => Nat.ble kd 2
/-- arraycopy -/
noncomputable def mv_cpa (tl : List FieldType) (stt : Nat → Nat × Nat × Nat) (as : List mv_V) (w : mv_T 10) : Option (mv_T 10) := match as with
  | [x, sp, y, dp, k] => bif Nat.beq y.1 2 then (bif Nat.beq x.1 2 then (mv_cp tl (mv_get 10 w x.2.1) (mv_get 10 w y.2.1) sp dp k).map (fun z => mv_set 10 w y.2.1 z) else bif Nat.beq x.1 6 then (mv_cp tl (1, stt x.2.1) (mv_get 10 w y.2.1) sp dp k).map (fun z => mv_set 10 w y.2.1 z) else none) else none
  | _ => none
/-- a step that is no call, of group g: the next place, locals, stack, cells, tree, new cells, new slots -/
noncomputable def mv_one (g nL : Nat) (kc : Nat → Nat × Nat) (fl : Nat → Nat × Nat × Nat) (nl : Nat → Nat × Nat) (al sl : Nat → Nat) (ini : Bool) (fty : Nat → Nat → FieldType) (ffin : Nat → Nat → Bool) (tl : List FieldType) (cn : List String) (dpk : Nat → Nat) (i : Instr) (len pc L : Nat) (S : List mv_V) (n : Nat) (w : mv_T 10) : Option (Nat × Nat × List mv_V × Nat × mv_T 10 × Nat × Nat) :=
  bif Nat.beq g 1 then (match mv_lk nL i L S with
  | some (q, L', S') => bif Nat.beq q len then some (Nat.add pc len, L', S', n, w, 0, 0) else none
  | none => none)
  else bif Nat.beq g 2 then (match mv_sk i S with
  | some (q, S') => bif Nat.beq q len then some (Nat.add pc len, L, S', n, w, 0, 0) else none
  | none => none)
  else bif Nat.beq g 3 then (match mv_hk fl tl i S w with
  | some (q, S') => bif Nat.beq q len then some (Nat.add pc len, L, S', n, w, 0, 0) else none
  | none => none)
  else bif Nat.beq g 4 then (match mv_ck kc i S with
  | some (q, S') => bif Nat.beq q len then some (Nat.add pc len, L, S', n, w, 0, 0) else none
  | none => none)
  else bif Nat.beq g 5 then (match mv_bk pc i S with
  | some (pc', S') => bif mv_blen i len then some (pc', L, S', n, w, 0, 0) else none
  | none => none)
  else bif Nat.beq g 6 then (match mv_wk fl fty ffin ini tl cn i S w with
  | some (q, S', w') => bif Nat.beq q len then some (Nat.add pc len, L, S', n, w', 0, 0) else none
  | none => none)
  else bif Nat.beq g 7 then (match mv_ak nl dpk al sl i S n with
  | some (q, S', x, d) => bif Nat.beq q len then some (Nat.add pc len, L, S', mv_n1 n x, mv_w1 n w x, mv_k1 x, d) else none
  | none => none)
  else (match mv_tk pc i S with
  | some (pc', S') => some (pc', L, S', n, w, 0, 0)
  | none => none)
/-- Math.min -/
def mv_mn (as : List mv_V) : Option mv_V := match as with
  | [x, y] => bif Nat.beq x.1 0 && Nat.beq y.1 0 then (mv_lt y x).map (fun b => bif b then y else x) else none
  | _ => none
/-- the library's own: arraycopy (0), Math.min (1) -/
noncomputable def mv_c8 (tl : List FieldType) (stt : Nat → Nat × Nat × Nat) (q : Nat) (as S0 : List mv_V) (w : mv_T 10) : Option (List mv_V × mv_T 10) := bif Nat.beq q 0 then (mv_cpa tl stt as w).map (fun w' => (S0, w')) else bif Nat.beq q 1 then (mv_mn as).map (fun v => (v :: S0, w)) else none
/-- a load from a static table -/
def mv_tld (tl : List FieldType) (stt : Nat → Nat × Nat × Nat) (i : Instr) (S : List mv_V) : Option (List mv_V) := match i, S with
  | .iaload, y :: x :: S => bif Nat.beq x.1 6 && (Nat.beq (mv_tc tl[(stt x.2.1).1]?) 1 && mv_ix y (stt x.2.1).2.1) then some ((0, mv_rd 32 (stt x.2.1).2.2 y.2.1, 0) :: S) else none
  | _, _ => none
/-- an array of arrays: nothing is known of them; nl says (0, 101) for bytes, (0, 102) for longs -/
noncomputable def mv_mu (nl : Nat → Nat × Nat) (i : Instr) (S : List mv_V) (n : Nat) (w : mv_T 10) : Option (List mv_V × Nat × Nat × Nat) := match i, S with
  | .multianewarray j 2, x :: y :: S => bif (mv_ln x && mv_ln y) && ((Nat.beq (nl j).2 101 || Nat.beq (nl j).2 102) && (Nat.beq (nl j).1 0 && (Nat.ble (n + (1 + y.2.1)) 1024 && (List.range (1 + y.2.1)).all (fun q => Nat.beq (mv_get 10 w (n + q)).1 9)))) then some ((2, n, 0) :: S, n + (1 + y.2.1), 1 + y.2.1, y.2.1 + y.2.1 * x.2.1) else none
  | _, _ => none
section MR
variable (cd : Nat → Nat → Nat × Instr × Nat) (kc : Nat → Nat → Nat × Nat) (fl : Nat → Nat → Nat × Nat × Nat) (nl : Nat → Nat → Nat × Nat) (al sl : Nat → Nat → Nat) (ml : Nat → Nat → Nat × Nat × Nat) (mL mr : Nat → Nat) (ini : Nat → Bool) (mci : Nat → Nat) (fty : Nat → Nat → FieldType) (ffin : Nat → Nat → Bool) (tl : List FieldType) (cn : List String) (dpk : Nat → Nat) (stt : Nat → Nat × Nat × Nat) (prim : Nat → List mv_V → Nat → mv_T 10 → Option mv_R)
noncomputable def mv_stepf (ih : Nat → Nat → Nat → List mv_V → Nat → mv_T 10 → Nat → Nat → Nat → Nat → Option mv_R) (k pc L : Nat) (S : List mv_V) (n : Nat) (w : mv_T 10) (cells slots fr lo : Nat) : Option mv_R := match cd k pc with
  | (g, i, len) => bif Nat.blt 0 len then
    (bif Nat.beq g 9 then (match mv_rt (mr k) i S with
      | some ret => bif Nat.beq len 1 then some (ret, n, w, cells, slots, fr, lo) else none
      | none => none)
    else bif Nat.beq g 10 then (match mv_cal (ml k) i S with
      | some (kd, q, as, S0) => bif Nat.beq len 3 then
          (bif Nat.beq kd 7 then (match as, S0 with
            | [x], [] => bif Nat.beq x.1 2 then ih k (Nat.add pc 3) L [] n w cells slots (mv_mx fr 1) (mv_mx lo 12) else none
            | _, _ => none)
          else bif Nat.beq kd 8 then (match mv_c8 tl stt q as S0 w with
            | some (S', w') => ih k (Nat.add pc 3) L S' n w' cells slots (mv_mx fr 1) (mv_mx lo (mv_cs S0 + 18))
            | none => none)
          else bif mv_rcv kd (mci q) as w && Nat.ble (mv_cs S0) 8 then (match (match prim q as n w with
              | some r => some r
              | none => bif mv_oks as && Nat.ble (mv_cs as) (mL q) then ih q 0 (mv_l0 0 as 0) [] n w 0 0 0 0 else none) with
            | some r => ih k (Nat.add pc 3) L (r.1 ++ S0) r.2.1 r.2.2.1 (Nat.add cells r.2.2.2.1) (Nat.add slots r.2.2.2.2.1) (mv_mx fr (r.2.2.2.2.2.1 + 1)) (mv_mx lo (8 + (mL q + 11) + r.2.2.2.2.2.2))
            | none => none) else none) else none
      | none => none)
    else bif Nat.beq g 11 then (match mv_tld tl stt i S with
      | some S' => bif Nat.beq len 1 then ih k (Nat.add pc 1) L S' n w cells slots fr lo else none
      | none => none)
    else bif Nat.beq g 12 then (match mv_mu (nl k) i S n w with
      | some (S', n', dc, ds) => bif Nat.beq len 4 then ih k (Nat.add pc 4) L S' n' w (Nat.add cells dc) (Nat.add slots ds) fr lo else none
      | none => none)
    else match mv_one g (mL k) (kc k) (fl k) (nl k) (al k) (sl k) (ini k) fty ffin tl cn dpk i len pc L S n w with
      | some (pc', L', S', n', w', dc, ds) => ih k pc' L' S' n' w' (Nat.add cells dc) (Nat.add slots ds) fr lo
      | none => none)
    else none
noncomputable def mv_run (f : Nat) : Nat → Nat → Nat → List mv_V → Nat → mv_T 10 → Nat → Nat → Nat → Nat → Option mv_R := Nat.rec (motive := fun _ => Nat → Nat → Nat → List mv_V → Nat → mv_T 10 → Nat → Nat → Nat → Nat → Option mv_R) (fun _ _ _ _ _ _ _ _ _ _ => none) (fun _ ih => mv_stepf cd kc fl nl al sl ml mL mr ini mci fty ffin tl cn dpk stt prim ih) f
end MR

/-! FRESH OBJECTS -/
/-- after new PurseHouse(): place 0 -/
noncomputable def z_c : Option mv_R := tt_run pr_all 100000 0 0 (mv_l0 0 [(2, 0, 0)] 0) [] 1 (mv_set 10 (mv_nil 10) 0 (0, 1, 13, tt_dpk 1))
/-- after new PurseHouseModel() behind it, at the first free place -/
noncomputable def z_m (r : mv_R) : Option mv_R := tt_run pr_all 100000 124 0 (mv_l0 0 [(2, r.2.1, 0)] 0) [] (r.2.1 + 1) (mv_set 10 r.2.2.1 r.2.1 (0, 0, 107, tt_dpk 0))
def z_ok (r : mv_R) : Bool := (Nat.ble r.2.2.2.1 900 && Nat.ble r.2.2.2.2.1 1000000) && (Nat.ble r.2.2.2.2.2.1 12 && Nat.ble r.2.2.2.2.2.2 500)
/-- one call on both: the same number -/
def z_same (r q : mv_R) : Bool := match r.1, q.1 with
  | [x], [y] => (Nat.beq x.1 0 && Nat.beq y.1 0) && (Nat.beq x.2.1 y.2.1 && (z_ok r && z_ok q))
  | _, _ => false
noncomputable def z_1 (a b : mv_R) (kx km : Nat) (as : List mv_V) : Bool := ((mv_oks as && (Nat.ble (mv_cs as + 1) (tt_mL kx) && Nat.ble (mv_cs as + 1) (tt_mL km))) && mv_rcv 3 (tt_mci kx) ((2, 0, 0) :: as) b.2.2.1) && (match tt_run pr_all 100000 kx 0 (mv_l0 0 ((2, 0, 0) :: as) 0) [] b.2.1 b.2.2.1 with
  | some r => mv_rcv 3 (tt_mci km) ((2, a.2.1, 0) :: as) r.2.2.1 && (match tt_run pr_all 100000 km 0 (mv_l0 0 ((2, a.2.1, 0) :: as) 0) [] r.2.1 r.2.2.1 with
    | some q => z_same r q
    | none => false)
  | none => false)
noncomputable def z_all (cs : List (Nat × Nat × List (List mv_V))) : Bool := match z_c with
  | some a => (match z_m a with
    | some b => ((z_ok a && z_ok b) && (Nat.blt a.2.1 1000 && (Nat.beq a.1.length 0 && Nat.beq b.1.length 0))) && cs.all (fun c => c.2.2.all (fun as => z_1 a b c.1 c.2.1 as))
    | none => false)
  | none => false

set_option maxHeartbeats 400000
/-! CHANGES: judging and carrying out -/
def iN (x : Int32) : Nat := x.toNatClampNeg
theorem iN_nI {i : Nat} (h : i < 2 ^ 31) : iN (nI i) = i := nI_clamp h
def isP (x : Int32) : Bool := decide (0 ≤ x ∧ x < nI 100)
def isS (x : Int32) : Bool := decide (nI 1 ≤ x ∧ x ≤ nI 30)
def hasM (c : Col) (x : Int32) : Bool := decide (0 ≤ x ∧ x < nI (cn c))
def hasT (c : Col) (x : Int32) : Bool := decide (0 ≤ x ∧ x < nI (ck c))
def jdAdd (c : Col) (a b : Int32) : Nat × Int32 := if isP a = true ∧ isS b = true then (if 9 ≤ cn c then (1, nI 9) else if (mOn c a).isNone = true then (0, 0) else (2, oI (mOn c a))) else (9, 0)
def jdStr (c : Col) (a b : Int32) : Nat × Int32 := if hasM c a = true then (if isS b = true then (0, 0) else (9, 0)) else (8, 0)
def jdDig (c : Col) (a b : Int32) : Nat × Int32 := if hasM c a = true ∧ hasM c b = true then (if a = b then (9, 0) else if (tBet c (iN a) (iN b)).isNone = true then (if ck c < 16 then (0, 0) else (1, nI 16)) else (3, oI (tBet c (iN a) (iN b)))) else (8, 0)
def jdSet (c : Col) : Nat × Int32 := if blkN c (cw c) = 0 then (5, nI (ck c)) else if (bestF c).isNone = true then (4, nI (blkN c (cw c))) else (0, 0)
def jd (c : Col) (k : Nat) (a b : Int32) : Nat × Int32 := match k with
  | 0 => jdAdd c a b
  | 1 => jdStr c a b
  | 2 => if hasM c a = true then (0, 0) else (8, 0)
  | 3 => if isP a = true then (0, 0) else (9, 0)
  | 4 => (0, 0)
  | 5 => jdDig c a b
  | 6 => if hasT c a = true then (0, 0) else (8, 0)
  | _ => jdSet c
/-- what judging keeps -/
def jI (M : Nat → Nat → Int32) (j : Nat × Int32) (M' : Nat → Nat → Int32) : Prop := KP (fun a => inR 7 11 a || a == 13) M M' ∧ (1 ≤ j.1 → j.1 ≤ 5 → M' 13 3 = j.2)
theorem jI.col {M M' : Nat → Nat → Int32} {j : Nat × Int32} {c : Col} {A : Nat} (h : ColAt M A c) (hj : jI M j M') (hA : A + 5 < 7 ∨ 13 < A) : ColAt M' A c := h.kp hj.1 (fun i hi => by unfold inR; simp; omega)
theorem tBet_lt {c : Col} {a b i : Nat} (e : tBet c a b = some i) : i < ck c := by
  rcases fnd_spec (fun j => decide (oEnd c j a = some b)) (ck c) with ⟨h1, _⟩ | ⟨k, h1, h2, _, _⟩
  · exact absurd (h1.symm.trans e) (by intro h; cases h)
  · have h4 := h1.symm.trans e
    cases h4
    exact h2
theorem none_t {α : Type} {r : Option α} (h : r = none) : r.isNone = true := by rw [h]; rfl
theorem none_f {α : Type} {r : Option α} (h : ¬ r = none) : ¬ r.isNone = true := fun q => h (by cases r with | none => rfl | some x => cases q)
section T18
variable {G : gC} {ad : Nat → Nat} {d : Nat} {M : Nat → Nat → Int32} {o : (Nat → Int64) × (Nat → UInt64)} {c : Col}
theorem tBet_o (hw : WF c) {a b : Nat} : oI (tBet c a b) = -1 ↔ tBet c a b = none := oI_ne (fun i e => by have := tBet_lt e; have := hw.k; omega)
theorem best_o (hw : WF c) : oI (bestF c) = -1 ↔ bestF c = none := oI_ne (fun i e => by have := bestF_lt hw e; omega)
theorem c_deny (n : Nat) (x : Int32) : RET G ad d mX0_deny [.ref (ad 13), .int (nI n), .int (x)] (M, o) (some (.int (nI n))) ((up2 M 13 3 x), o) := by
  refine CM_of rfl (by decide) rfl (Nat.le_of_ble_eq_true rfl) rfl ?_
  refine e_aload_n (pc' := 1) dX0_deny_0 rfl rfl rfl ?_
  refine e_iload_n (pc' := 2) dX0_deny_1 rfl rfl rfl ?_
  refine p_pfi (pc' := 5) (a := 13) (k := 3) dX0_deny_2 rfl (rfl) (by decide) (by decide) rfl fl_X0_77 rfl rfl ?_
  refine e_iload_n (pc' := 6) dX0_deny_5 rfl rfl rfl ?_
  exact e_iret dX0_deny_6 rfl (MP.ret rfl rfl) (by decide) (by decide)
theorem c_jAdd (h : ColAt M 1 c) (hw : WF c) (a b : Int32) : RETI G ad (d + 1) mX0_judgeAdding [.ref (ad 13), .int (a), .int (b)] (M, o) (some (.int (nI ((jdAdd c a b).1)))) (fun M' => jI M (jdAdd c a b) M') := by
  refine CM_of rfl (by decide) rfl (Nat.le_of_ble_eq_true rfl) rfl ?_
  have hn := hw.n
  have hk := hw.k
  have hw9 := hw.w9
  refine e_iload_n (pc' := 1) dX0_judgeAdding_0 rfl rfl rfl ?_
  refine r_SN (pc' := 4) (m' := mX8_isPosition) (As := [.int (a)]) (st := []) (c_isPosition (d := d) (a)) dX0_judgeAdding_1 rfl rfl (Nat.le_of_ble_eq_true rfl) (fit_of (by omega) (by decide) (by decide) (by decide)) nl_X0_36 okX8_isPosition rfl rfl ?_
  show EV _ _ _ _ _ 4 _ ([.int (bI (isP (a)))]) _
  refine e_if_eqB (pc' := 7) (tgt := 14) dX0_judgeAdding_4 rfl (by decide) (fun h1 => ?_) (fun h1 => ?_)
  · refine e_bipush (pc' := 16) (v := nI 9) dX0_judgeAdding_14 rfl (by decide) ?_
    exact e_iret dX0_judgeAdding_16 rfl ((by
      have e : jdAdd c a b = (9, 0) := by unfold jdAdd; first | rw [if_neg (fun q => by first | (rw [h1] at q; exact absurd q.1 (by decide)) | (rw [h2] at q; exact absurd q.2 (by decide)))] | (rw [if_pos ⟨h1, h2⟩]; first | rw [if_pos h3] | (rw [if_neg (by omega)]; first | rw [if_pos (none_t ((mOn_o hw).mp h4))] | rw [if_neg (none_f (fun q => h4 ((mOn_o hw).mpr q)))]))
      exact MP.retI (congrArg (fun z => some (Value.int z)) (by rw [e])) ⟨KP.refl, fun q1 q2 => by rw [e] at q2; exact absurd q2 (by decide)⟩)) (by decide) (by decide)
  · refine e_iload_n (pc' := 8) dX0_judgeAdding_7 rfl rfl rfl ?_
    refine r_SN (pc' := 11) (m' := mX8_isStrength) (As := [.int (b)]) (st := []) (c_isStrength (d := d) (b)) dX0_judgeAdding_8 rfl rfl (Nat.le_of_ble_eq_true rfl) (fit_of (by omega) (by decide) (by decide) (by decide)) nl_X0_49 okX8_isStrength rfl rfl ?_
    show EV _ _ _ _ _ 11 _ ([.int (bI (isS (b)))]) _
    refine e_if_neB (pc' := 14) (tgt := 17) dX0_judgeAdding_11 rfl (by decide) (fun h2 => ?_) (fun h2 => ?_)
    · refine e_aload_n (pc' := 18) dX0_judgeAdding_17 rfl rfl rfl ?_
      refine p_gfr (pc' := 21) (a := 13) (k := 0) (t := 1) dX0_judgeAdding_18 rfl rfl (by decide) (by decide) rfl fl_X0_9 ?_
      refine p_gfi (pc' := 24) (a := 1) (k := 0) (x := nI (cn c)) dX0_judgeAdding_21 rfl (rfl) (by decide) (by decide) rfl fl_X0_52 (h.n) ?_
      refine e_bipush (pc' := 26) (v := nI 9) dX0_judgeAdding_24 rfl (by decide) ?_
      refine e_icmp_ltN (pc' := 29) (tgt := 37) dX0_judgeAdding_26 rfl (by decide) (by omega) (by omega) (fun h3 => ?_) (fun h3 => ?_)
      · refine e_aload_n (pc' := 38) dX0_judgeAdding_37 rfl rfl rfl ?_
        refine p_gfr (pc' := 41) (a := 13) (k := 0) (t := 1) dX0_judgeAdding_38 rfl rfl (by decide) (by decide) rfl fl_X0_9 ?_
        refine e_iload_n (pc' := 42) dX0_judgeAdding_41 rfl rfl rfl ?_
        refine r_V (pc' := 45) (m' := mX1_magnetOn) (As := [.int (a)]) (st := []) (c_magnetOn (d := d) h hw (a)) dX0_judgeAdding_42 rfl rfl (Nat.le_of_ble_eq_true rfl) (fit_of (by omega) (by decide) (by decide) (by decide)) ml_X0_59 okX1_magnetOn rfl rfl (by decide) rfl ?_
        show EV _ _ _ _ _ 45 _ ([.int (oI (mOn c (a)))]) _
        refine e_istore_n (pc' := 46) (L' := [some (.ref (ad 13)), some (.int (a)), some (.int (b)), some (.int (oI (mOn c (a))))]) dX0_judgeAdding_45 rfl rfl (by decide) rfl ?_
        refine e_iload_n (pc' := 47) dX0_judgeAdding_46 rfl rfl rfl ?_
        refine e_iconst (pc' := 48) (v := (-1)) dX0_judgeAdding_47 rfl (by decide) ?_
        refine e_icmp_ne (pc' := 51) (tgt := 55) dX0_judgeAdding_48 rfl (by decide) (fun h4 => ?_) (fun h4 => ?_)
        · refine e_aload_n (pc' := 56) dX0_judgeAdding_55 rfl rfl rfl ?_
          refine e_iconst (pc' := 57) (v := nI 2) dX0_judgeAdding_56 rfl (by decide) ?_
          refine e_iload_n (pc' := 58) dX0_judgeAdding_57 rfl rfl rfl ?_
          refine r_V (pc' := 61) (m' := mX0_deny) (As := [.int (nI 2), .int (oI (mOn c (a)))]) (st := []) (c_deny (d := d) (2) (oI (mOn c (a)))) dX0_judgeAdding_58 rfl rfl (Nat.le_of_ble_eq_true rfl) (fit_of (by omega) (by decide) (by decide) (by decide)) ml_X0_56 okX0_deny rfl rfl (by decide) rfl ?_
          show EV _ _ _ _ _ 61 _ ([.int (nI 2)]) _
          exact e_iret dX0_judgeAdding_61 rfl ((by
      have e : jdAdd c a b = (2, oI (mOn c (a))) := by unfold jdAdd; first | rw [if_neg (fun q => by first | (rw [h1] at q; exact absurd q.1 (by decide)) | (rw [h2] at q; exact absurd q.2 (by decide)))] | (rw [if_pos ⟨h1, h2⟩]; first | rw [if_pos h3] | (rw [if_neg (by omega)]; first | rw [if_pos (none_t ((mOn_o hw).mp h4))] | rw [if_neg (none_f (fun q => h4 ((mOn_o hw).mpr q)))]))
      exact MP.retI (congrArg (fun z => some (Value.int z)) (by rw [e])) ⟨(KP.refl.up (by decide)), fun _ _ => by rw [e]; exact up2_s⟩)) (by decide) (by decide)
        · refine e_iconst (pc' := 52) (v := nI 0) dX0_judgeAdding_51 rfl (by decide) ?_
          refine e_goto (tgt := 61) dX0_judgeAdding_52 (by decide) ?_
          exact e_iret dX0_judgeAdding_61 rfl ((by
      have e : jdAdd c a b = (0, 0) := by unfold jdAdd; first | rw [if_neg (fun q => by first | (rw [h1] at q; exact absurd q.1 (by decide)) | (rw [h2] at q; exact absurd q.2 (by decide)))] | (rw [if_pos ⟨h1, h2⟩]; first | rw [if_pos h3] | (rw [if_neg (by omega)]; first | rw [if_pos (none_t ((mOn_o hw).mp h4))] | rw [if_neg (none_f (fun q => h4 ((mOn_o hw).mpr q)))]))
      exact MP.retI (congrArg (fun z => some (Value.int z)) (by rw [e])) ⟨KP.refl, fun q1 q2 => by rw [e] at q1 q2; exact absurd q1 (by decide)⟩)) (by decide) (by decide)
      · refine e_aload_n (pc' := 30) dX0_judgeAdding_29 rfl rfl rfl ?_
        refine e_iconst (pc' := 31) (v := nI 1) dX0_judgeAdding_30 rfl (by decide) ?_
        refine e_bipush (pc' := 33) (v := nI 9) dX0_judgeAdding_31 rfl (by decide) ?_
        refine r_V (pc' := 36) (m' := mX0_deny) (As := [.int (nI 1), .int (nI 9)]) (st := []) (c_deny (d := d) (1) (nI 9)) dX0_judgeAdding_33 rfl rfl (Nat.le_of_ble_eq_true rfl) (fit_of (by omega) (by decide) (by decide) (by decide)) ml_X0_56 okX0_deny rfl rfl (by decide) rfl ?_
        show EV _ _ _ _ _ 36 _ ([.int (nI 1)]) _
        exact e_iret dX0_judgeAdding_36 rfl ((by
      have e : jdAdd c a b = (1, nI 9) := by unfold jdAdd; first | rw [if_neg (fun q => by first | (rw [h1] at q; exact absurd q.1 (by decide)) | (rw [h2] at q; exact absurd q.2 (by decide)))] | (rw [if_pos ⟨h1, h2⟩]; first | rw [if_pos h3] | (rw [if_neg (by omega)]; first | rw [if_pos (none_t ((mOn_o hw).mp h4))] | rw [if_neg (none_f (fun q => h4 ((mOn_o hw).mpr q)))]))
      exact MP.retI (congrArg (fun z => some (Value.int z)) (by rw [e])) ⟨(KP.refl.up (by decide)), fun _ _ => by rw [e]; exact up2_s⟩)) (by decide) (by decide)
    · refine e_bipush (pc' := 16) (v := nI 9) dX0_judgeAdding_14 rfl (by decide) ?_
      exact e_iret dX0_judgeAdding_16 rfl ((by
      have e : jdAdd c a b = (9, 0) := by unfold jdAdd; first | rw [if_neg (fun q => by first | (rw [h1] at q; exact absurd q.1 (by decide)) | (rw [h2] at q; exact absurd q.2 (by decide)))] | (rw [if_pos ⟨h1, h2⟩]; first | rw [if_pos h3] | (rw [if_neg (by omega)]; first | rw [if_pos (none_t ((mOn_o hw).mp h4))] | rw [if_neg (none_f (fun q => h4 ((mOn_o hw).mpr q)))]))
      exact MP.retI (congrArg (fun z => some (Value.int z)) (by rw [e])) ⟨KP.refl, fun q1 q2 => by rw [e] at q2; exact absurd q2 (by decide)⟩)) (by decide) (by decide)
theorem c_jStr (h : ColAt M 1 c) (hw : WF c) (a b : Int32) : RETI G ad (d + 1) mX0_judgeStrength [.ref (ad 13), .int (a), .int (b)] (M, o) (some (.int (nI ((jdStr c a b).1)))) (fun M' => jI M (jdStr c a b) M') := by
  refine CM_of rfl (by decide) rfl (Nat.le_of_ble_eq_true rfl) rfl ?_
  have hn := hw.n
  have hk := hw.k
  have hw9 := hw.w9
  refine e_aload_n (pc' := 1) dX0_judgeStrength_0 rfl rfl rfl ?_
  refine p_gfr (pc' := 4) (a := 13) (k := 0) (t := 1) dX0_judgeStrength_1 rfl rfl (by decide) (by decide) rfl fl_X0_9 ?_
  refine e_iload_n (pc' := 5) dX0_judgeStrength_4 rfl rfl rfl ?_
  refine r_V (pc' := 8) (m' := mX1_hasMagnet) (As := [.int (a)]) (st := []) (c_hasMagnet (d := d) h hw (a)) dX0_judgeStrength_5 rfl rfl (Nat.le_of_ble_eq_true rfl) (fit_of (by omega) (by decide) (by decide) (by decide)) ml_X0_30 okX1_hasMagnet rfl rfl (by decide) rfl ?_
  show EV _ _ _ _ _ 8 _ ([.int (bI (hasM c (a)))]) _
  refine e_if_neB (pc' := 11) (tgt := 14) dX0_judgeStrength_8 rfl (by decide) (fun h1 => ?_) (fun h1 => ?_)
  · refine e_iload_n (pc' := 15) dX0_judgeStrength_14 rfl rfl rfl ?_
    refine r_SN (pc' := 18) (m' := mX8_isStrength) (As := [.int (b)]) (st := []) (c_isStrength (d := d) (b)) dX0_judgeStrength_15 rfl rfl (Nat.le_of_ble_eq_true rfl) (fit_of (by omega) (by decide) (by decide) (by decide)) nl_X0_49 okX8_isStrength rfl rfl ?_
    show EV _ _ _ _ _ 18 _ ([.int (bI (isS (b)))]) _
    refine e_if_eqB (pc' := 21) (tgt := 25) dX0_judgeStrength_18 rfl (by decide) (fun h2 => ?_) (fun h2 => ?_)
    · refine e_bipush (pc' := 27) (v := nI 9) dX0_judgeStrength_25 rfl (by decide) ?_
      exact e_iret dX0_judgeStrength_27 rfl ((by
      have e : jdStr c a b = (9, 0) := by unfold jdStr; first | rw [if_neg (by rw [h1]; decide)] | (rw [if_pos h1]; first | rw [if_pos h2] | rw [if_neg (by rw [h2]; decide)])
      exact MP.retI (congrArg (fun z => some (Value.int z)) (by rw [e])) ⟨KP.refl, fun q1 q2 => by rw [e] at q2; exact absurd q2 (by decide)⟩)) (by decide) (by decide)
    · refine e_iconst (pc' := 22) (v := nI 0) dX0_judgeStrength_21 rfl (by decide) ?_
      refine e_goto (tgt := 27) dX0_judgeStrength_22 (by decide) ?_
      exact e_iret dX0_judgeStrength_27 rfl ((by
      have e : jdStr c a b = (0, 0) := by unfold jdStr; first | rw [if_neg (by rw [h1]; decide)] | (rw [if_pos h1]; first | rw [if_pos h2] | rw [if_neg (by rw [h2]; decide)])
      exact MP.retI (congrArg (fun z => some (Value.int z)) (by rw [e])) ⟨KP.refl, fun q1 q2 => by rw [e] at q1 q2; exact absurd q1 (by decide)⟩)) (by decide) (by decide)
  · refine e_bipush (pc' := 13) (v := nI 8) dX0_judgeStrength_11 rfl (by decide) ?_
    exact e_iret dX0_judgeStrength_13 rfl ((by
      have e : jdStr c a b = (8, 0) := by unfold jdStr; first | rw [if_neg (by rw [h1]; decide)] | (rw [if_pos h1]; first | rw [if_pos h2] | rw [if_neg (by rw [h2]; decide)])
      exact MP.retI (congrArg (fun z => some (Value.int z)) (by rw [e])) ⟨KP.refl, fun q1 q2 => by rw [e] at q2; exact absurd q2 (by decide)⟩)) (by decide) (by decide)
theorem c_jDig (h : ColAt M 1 c) (hw : WF c) (a b : Int32) : RETI G ad (d + 2) mX0_judgeDigging [.ref (ad 13), .int (a), .int (b)] (M, o) (some (.int (nI ((jdDig c a b).1)))) (fun M' => jI M (jdDig c a b) M') := by
  refine CM_of rfl (by decide) rfl (Nat.le_of_ble_eq_true rfl) rfl ?_
  have hn := hw.n
  have hk := hw.k
  have hw9 := hw.w9
  refine e_aload_n (pc' := 1) dX0_judgeDigging_0 rfl rfl rfl ?_
  refine p_gfr (pc' := 4) (a := 13) (k := 0) (t := 1) dX0_judgeDigging_1 rfl rfl (by decide) (by decide) rfl fl_X0_9 ?_
  refine e_iload_n (pc' := 5) dX0_judgeDigging_4 rfl rfl rfl ?_
  refine r_V (pc' := 8) (m' := mX1_hasMagnet) (As := [.int (a)]) (st := []) (c_hasMagnet (d := d) h hw (a)) dX0_judgeDigging_5 rfl rfl (Nat.le_of_ble_eq_true rfl) (fit_of (by omega) (by decide) (by decide) (by decide)) ml_X0_30 okX1_hasMagnet rfl rfl (by decide) rfl ?_
  show EV _ _ _ _ _ 8 _ ([.int (bI (hasM c (a)))]) _
  refine e_if_eqB (pc' := 11) (tgt := 22) dX0_judgeDigging_8 rfl (by decide) (fun h1 => ?_) (fun h1 => ?_)
  · refine e_bipush (pc' := 24) (v := nI 8) dX0_judgeDigging_22 rfl (by decide) ?_
    exact e_iret dX0_judgeDigging_24 rfl ((by
      have e : jdDig c a b = (8, 0) := by unfold jdDig; first | rw [if_neg (fun q => by first | (rw [h1] at q; exact absurd q.1 (by decide)) | (rw [h2] at q; exact absurd q.2 (by decide)))] | (rw [if_pos ⟨h1, h2⟩]; first | rw [if_pos (by rw [h3])] | (rw [if_neg (fun q => h3 ((nI_eq (by omega) (by omega)).mp q)), ei, ej]; first | rw [if_neg (none_f (fun q => h4 ((tBet_o hw).mpr q)))] | (rw [if_pos (none_t ((tBet_o hw).mp h4))]; first | rw [if_pos h5] | rw [if_neg (by omega)])))
      exact MP.retI (congrArg (fun z => some (Value.int z)) (by rw [e])) ⟨KP.refl, fun q1 q2 => by rw [e] at q2; exact absurd q2 (by decide)⟩)) (by decide) (by decide)
  · refine e_aload_n (pc' := 12) dX0_judgeDigging_11 rfl rfl rfl ?_
    refine p_gfr (pc' := 15) (a := 13) (k := 0) (t := 1) dX0_judgeDigging_12 rfl rfl (by decide) (by decide) rfl fl_X0_9 ?_
    refine e_iload_n (pc' := 16) dX0_judgeDigging_15 rfl rfl rfl ?_
    refine r_V (pc' := 19) (m' := mX1_hasMagnet) (As := [.int (b)]) (st := []) (c_hasMagnet (d := d) h hw (b)) dX0_judgeDigging_16 rfl rfl (Nat.le_of_ble_eq_true rfl) (fit_of (by omega) (by decide) (by decide) (by decide)) ml_X0_30 okX1_hasMagnet rfl rfl (by decide) rfl ?_
    show EV _ _ _ _ _ 19 _ ([.int (bI (hasM c (b)))]) _
    refine e_if_neB (pc' := 22) (tgt := 25) dX0_judgeDigging_19 rfl (by decide) (fun h2 => ?_) (fun h2 => ?_)
    · obtain ⟨i, hi, rfl⟩ := in_nI (n := cn c) (by omega) (of_decide_eq_true h1).1 (of_decide_eq_true h1).2
      obtain ⟨j, hj, rfl⟩ := in_nI (n := cn c) (by omega) (of_decide_eq_true h2).1 (of_decide_eq_true h2).2
      have ei : iN (nI i) = i := iN_nI (by omega)
      have ej : iN (nI j) = j := iN_nI (by omega)
      refine e_iload_n (pc' := 26) dX0_judgeDigging_25 rfl rfl rfl ?_
      refine e_iload_n (pc' := 27) dX0_judgeDigging_26 rfl rfl rfl ?_
      refine e_icmp_neN (pc' := 30) (tgt := 33) dX0_judgeDigging_27 rfl (by decide) (by omega) (by omega) (fun h3 => ?_) (fun h3 => ?_)
      · refine e_aload_n (pc' := 34) dX0_judgeDigging_33 rfl rfl rfl ?_
        refine p_gfr (pc' := 37) (a := 13) (k := 0) (t := 1) dX0_judgeDigging_34 rfl rfl (by decide) (by decide) rfl fl_X0_9 ?_
        refine e_iload_n (pc' := 38) dX0_judgeDigging_37 rfl rfl rfl ?_
        refine e_iload_n (pc' := 39) dX0_judgeDigging_38 rfl rfl rfl ?_
        refine r_V (pc' := 42) (m' := mX1_tunnelBetween) (As := [.int (nI i), .int (nI j)]) (st := []) (c_tunnelBetween (d := d) h hw (a := i) (b := j) (by omega) (by omega)) dX0_judgeDigging_39 rfl rfl (Nat.le_of_ble_eq_true rfl) (fit_of (by omega) (by decide) (by decide) (by decide)) ml_X0_63 okX1_tunnelBetween rfl rfl (by decide) rfl ?_
        show EV _ _ _ _ _ 42 _ ([.int (oI (tBet c i j))]) _
        refine e_istore_n (pc' := 43) (L' := [some (.ref (ad 13)), some (.int (nI i)), some (.int (nI j)), some (.int (oI (tBet c i j)))]) dX0_judgeDigging_42 rfl rfl (by decide) rfl ?_
        refine e_iload_n (pc' := 44) dX0_judgeDigging_43 rfl rfl rfl ?_
        refine e_iconst (pc' := 45) (v := (-1)) dX0_judgeDigging_44 rfl (by decide) ?_
        refine e_icmp_eq (pc' := 48) (tgt := 55) dX0_judgeDigging_45 rfl (by decide) (fun h4 => ?_) (fun h4 => ?_)
        · refine e_aload_n (pc' := 56) dX0_judgeDigging_55 rfl rfl rfl ?_
          refine p_gfr (pc' := 59) (a := 13) (k := 0) (t := 1) dX0_judgeDigging_56 rfl rfl (by decide) (by decide) rfl fl_X0_9 ?_
          refine p_gfi (pc' := 62) (a := 1) (k := 5) (x := nI (ck c)) dX0_judgeDigging_59 rfl (rfl) (by decide) (by decide) rfl fl_X0_66 (h.k) ?_
          refine e_bipush (pc' := 64) (v := nI 16) dX0_judgeDigging_62 rfl (by decide) ?_
          refine e_icmp_geN (pc' := 67) (tgt := 71) dX0_judgeDigging_64 rfl (by decide) (by omega) (by omega) (fun h5 => ?_) (fun h5 => ?_)
          · refine e_aload_n (pc' := 72) dX0_judgeDigging_71 rfl rfl rfl ?_
            refine e_iconst (pc' := 73) (v := nI 1) dX0_judgeDigging_72 rfl (by decide) ?_
            refine e_bipush (pc' := 75) (v := nI 16) dX0_judgeDigging_73 rfl (by decide) ?_
            refine r_V (pc' := 78) (m' := mX0_deny) (As := [.int (nI 1), .int (nI 16)]) (st := []) (c_deny (d := d) (1) (nI 16)) dX0_judgeDigging_75 rfl rfl (Nat.le_of_ble_eq_true rfl) (fit_of (by omega) (by decide) (by decide) (by decide)) ml_X0_56 okX0_deny rfl rfl (by decide) rfl ?_
            show EV _ _ _ _ _ 78 _ ([.int (nI 1)]) _
            exact e_iret dX0_judgeDigging_78 rfl ((by
      have e : jdDig c (nI i) (nI j) = (1, nI 16) := by unfold jdDig; first | rw [if_neg (fun q => by first | (rw [h1] at q; exact absurd q.1 (by decide)) | (rw [h2] at q; exact absurd q.2 (by decide)))] | (rw [if_pos ⟨h1, h2⟩]; first | rw [if_pos (by rw [h3])] | (rw [if_neg (fun q => h3 ((nI_eq (by omega) (by omega)).mp q)), ei, ej]; first | rw [if_neg (none_f (fun q => h4 ((tBet_o hw).mpr q)))] | (rw [if_pos (none_t ((tBet_o hw).mp h4))]; first | rw [if_pos h5] | rw [if_neg (by omega)])))
      exact MP.retI (congrArg (fun z => some (Value.int z)) (by rw [e])) ⟨(KP.refl.up (by decide)), fun _ _ => by rw [e]; exact up2_s⟩)) (by decide) (by decide)
          · refine e_iconst (pc' := 68) (v := nI 0) dX0_judgeDigging_67 rfl (by decide) ?_
            refine e_goto (tgt := 78) dX0_judgeDigging_68 (by decide) ?_
            exact e_iret dX0_judgeDigging_78 rfl ((by
      have e : jdDig c (nI i) (nI j) = (0, 0) := by unfold jdDig; first | rw [if_neg (fun q => by first | (rw [h1] at q; exact absurd q.1 (by decide)) | (rw [h2] at q; exact absurd q.2 (by decide)))] | (rw [if_pos ⟨h1, h2⟩]; first | rw [if_pos (by rw [h3])] | (rw [if_neg (fun q => h3 ((nI_eq (by omega) (by omega)).mp q)), ei, ej]; first | rw [if_neg (none_f (fun q => h4 ((tBet_o hw).mpr q)))] | (rw [if_pos (none_t ((tBet_o hw).mp h4))]; first | rw [if_pos h5] | rw [if_neg (by omega)])))
      exact MP.retI (congrArg (fun z => some (Value.int z)) (by rw [e])) ⟨KP.refl, fun q1 q2 => by rw [e] at q1 q2; exact absurd q1 (by decide)⟩)) (by decide) (by decide)
        · refine e_aload_n (pc' := 49) dX0_judgeDigging_48 rfl rfl rfl ?_
          refine e_iconst (pc' := 50) (v := nI 3) dX0_judgeDigging_49 rfl (by decide) ?_
          refine e_iload_n (pc' := 51) dX0_judgeDigging_50 rfl rfl rfl ?_
          refine r_V (pc' := 54) (m' := mX0_deny) (As := [.int (nI 3), .int (oI (tBet c i j))]) (st := []) (c_deny (d := d) (3) (oI (tBet c i j))) dX0_judgeDigging_51 rfl rfl (Nat.le_of_ble_eq_true rfl) (fit_of (by omega) (by decide) (by decide) (by decide)) ml_X0_56 okX0_deny rfl rfl (by decide) rfl ?_
          show EV _ _ _ _ _ 54 _ ([.int (nI 3)]) _
          exact e_iret dX0_judgeDigging_54 rfl ((by
      have e : jdDig c (nI i) (nI j) = (3, oI (tBet c i j)) := by unfold jdDig; first | rw [if_neg (fun q => by first | (rw [h1] at q; exact absurd q.1 (by decide)) | (rw [h2] at q; exact absurd q.2 (by decide)))] | (rw [if_pos ⟨h1, h2⟩]; first | rw [if_pos (by rw [h3])] | (rw [if_neg (fun q => h3 ((nI_eq (by omega) (by omega)).mp q)), ei, ej]; first | rw [if_neg (none_f (fun q => h4 ((tBet_o hw).mpr q)))] | (rw [if_pos (none_t ((tBet_o hw).mp h4))]; first | rw [if_pos h5] | rw [if_neg (by omega)])))
      exact MP.retI (congrArg (fun z => some (Value.int z)) (by rw [e])) ⟨(KP.refl.up (by decide)), fun _ _ => by rw [e]; exact up2_s⟩)) (by decide) (by decide)
      · refine e_bipush (pc' := 32) (v := nI 9) dX0_judgeDigging_30 rfl (by decide) ?_
        exact e_iret dX0_judgeDigging_32 rfl ((by
      have e : jdDig c (nI i) (nI j) = (9, 0) := by unfold jdDig; first | rw [if_neg (fun q => by first | (rw [h1] at q; exact absurd q.1 (by decide)) | (rw [h2] at q; exact absurd q.2 (by decide)))] | (rw [if_pos ⟨h1, h2⟩]; first | rw [if_pos (by rw [h3])] | (rw [if_neg (fun q => h3 ((nI_eq (by omega) (by omega)).mp q)), ei, ej]; first | rw [if_neg (none_f (fun q => h4 ((tBet_o hw).mpr q)))] | (rw [if_pos (none_t ((tBet_o hw).mp h4))]; first | rw [if_pos h5] | rw [if_neg (by omega)])))
      exact MP.retI (congrArg (fun z => some (Value.int z)) (by rw [e])) ⟨KP.refl, fun q1 q2 => by rw [e] at q2; exact absurd q2 (by decide)⟩)) (by decide) (by decide)
    · refine e_bipush (pc' := 24) (v := nI 8) dX0_judgeDigging_22 rfl (by decide) ?_
      exact e_iret dX0_judgeDigging_24 rfl ((by
      have e : jdDig c a b = (8, 0) := by unfold jdDig; first | rw [if_neg (fun q => by first | (rw [h1] at q; exact absurd q.1 (by decide)) | (rw [h2] at q; exact absurd q.2 (by decide)))] | (rw [if_pos ⟨h1, h2⟩]; first | rw [if_pos (by rw [h3])] | (rw [if_neg (fun q => h3 ((nI_eq (by omega) (by omega)).mp q)), ei, ej]; first | rw [if_neg (none_f (fun q => h4 ((tBet_o hw).mpr q)))] | (rw [if_pos (none_t ((tBet_o hw).mp h4))]; first | rw [if_pos h5] | rw [if_neg (by omega)])))
      exact MP.retI (congrArg (fun z => some (Value.int z)) (by rw [e])) ⟨KP.refl, fun q1 q2 => by rw [e] at q2; exact absurd q2 (by decide)⟩)) (by decide) (by decide)
theorem c_jSet (h : ColAt M 1 c) (hw : WF c) : RETI G ad (d + 3) mX0_judgeSettling [.ref (ad 13)] (M, o) (some (.int (nI ((jdSet c).1)))) (fun M' => jI M (jdSet c) M') := by
  refine CM_of rfl (by decide) rfl (Nat.le_of_ble_eq_true rfl) rfl ?_
  have hn := hw.n
  have hk := hw.k
  have hw9 := hw.w9
  refine e_aload_n (pc' := 1) dX0_judgeSettling_0 rfl rfl rfl ?_
  refine p_gfr (pc' := 4) (a := 13) (k := 0) (t := 1) dX0_judgeSettling_1 rfl rfl (by decide) (by decide) rfl fl_X0_9 ?_
  refine r_V (pc' := 7) (m' := mX1_countBlocked) (As := []) (st := []) (c_countBlocked (d := d) h hw) dX0_judgeSettling_4 rfl rfl (Nat.le_of_ble_eq_true rfl) (fit_of (by omega) (by decide) (by decide) (by decide)) ml_X0_69 okX1_countBlocked rfl rfl (by decide) rfl ?_
  show EV _ _ _ _ _ 7 _ ([.int (nI (blkN c (cw c)))]) _
  refine e_istore_n (pc' := 8) (L' := [some (.ref (ad 13)), some (.int (nI (blkN c (cw c))))]) dX0_judgeSettling_7 rfl rfl (by decide) rfl ?_
  refine e_iload_n (pc' := 9) dX0_judgeSettling_8 rfl rfl rfl ?_
  refine e_if_neN (pc' := 12) (tgt := 25) dX0_judgeSettling_9 rfl (by decide) (by first | omega | assumption | exact Nat.lt_of_le_of_lt (blkN_le _) (by omega)) (fun h1 => ?_) (fun h1 => ?_)
  · refine e_aload_n (pc' := 26) dX0_judgeSettling_25 rfl rfl rfl ?_
    refine p_gfr (pc' := 29) (a := 13) (k := 1) (t := 7) dX0_judgeSettling_26 rfl rfl (by decide) (by decide) rfl fl_X0_15 ?_
    refine r_VI (pc' := 32) (m' := mX6_bestTurnSet) (As := []) (st := []) (c_best (d := d) h hw) dX0_judgeSettling_29 rfl rfl (Nat.le_of_ble_eq_true rfl) (fit_of (by omega) (by decide) (by decide) (by decide)) ml_X0_72 okX6_bestTurnSet rfl rfl (by decide) rfl (fun M9 hK9 => ?_)
    show EV _ _ _ _ _ 32 _ ([.int (oI (bestF c))]) _
    refine e_iconst (pc' := 33) (v := (-1)) dX0_judgeSettling_32 rfl (by decide) ?_
    refine e_icmp_ne (pc' := 36) (tgt := 45) dX0_judgeSettling_33 rfl (by decide) (fun h2 => ?_) (fun h2 => ?_)
    · refine e_iconst (pc' := 46) (v := nI 0) dX0_judgeSettling_45 rfl (by decide) ?_
      exact e_iret dX0_judgeSettling_46 rfl ((by
      have e : jdSet c = (0, 0) := by unfold jdSet; first | rw [if_pos h1] | (rw [if_neg h1]; first | rw [if_pos (none_t ((best_o hw).mp h2))] | rw [if_neg (none_f (fun q => h2 ((best_o hw).mpr q)))])
      exact MP.retI (congrArg (fun z => some (Value.int z)) (by rw [e])) ⟨(hK9.wide (fun a ha => by simp at ha; exact ha.1)), fun q1 q2 => by rw [e] at q1 q2; exact absurd q1 (by decide)⟩)) (by decide) (by decide)
    · refine e_aload_n (pc' := 37) dX0_judgeSettling_36 rfl rfl rfl ?_
      refine e_iconst (pc' := 38) (v := nI 4) dX0_judgeSettling_37 rfl (by decide) ?_
      refine e_iload_n (pc' := 39) dX0_judgeSettling_38 rfl rfl rfl ?_
      refine r_V (pc' := 42) (m' := mX0_deny) (As := [.int (nI 4), .int (nI (blkN c (cw c)))]) (st := []) (c_deny (d := d) (4) (nI (blkN c (cw c)))) dX0_judgeSettling_39 rfl rfl (Nat.le_of_ble_eq_true rfl) (fit_of (by omega) (by decide) (by decide) (by decide)) ml_X0_56 okX0_deny rfl rfl (by decide) rfl ?_
      show EV _ _ _ _ _ 42 _ ([.int (nI 4)]) _
      refine e_goto (tgt := 46) dX0_judgeSettling_42 (by decide) ?_
      exact e_iret dX0_judgeSettling_46 rfl ((by
      have e : jdSet c = (4, nI (blkN c (cw c))) := by unfold jdSet; first | rw [if_pos h1] | (rw [if_neg h1]; first | rw [if_pos (none_t ((best_o hw).mp h2))] | rw [if_neg (none_f (fun q => h2 ((best_o hw).mpr q)))])
      exact MP.retI (congrArg (fun z => some (Value.int z)) (by rw [e])) ⟨((hK9.wide (fun a ha => by simp at ha; exact ha.1)).up (by decide)), fun _ _ => by rw [e]; exact up2_s⟩)) (by decide) (by decide)
  · refine e_aload_n (pc' := 13) dX0_judgeSettling_12 rfl rfl rfl ?_
    refine e_iconst (pc' := 14) (v := nI 5) dX0_judgeSettling_13 rfl (by decide) ?_
    refine e_aload_n (pc' := 15) dX0_judgeSettling_14 rfl rfl rfl ?_
    refine p_gfr (pc' := 18) (a := 13) (k := 0) (t := 1) dX0_judgeSettling_15 rfl rfl (by decide) (by decide) rfl fl_X0_9 ?_
    refine p_gfi (pc' := 21) (a := 1) (k := 5) (x := nI (ck c)) dX0_judgeSettling_18 rfl (rfl) (by decide) (by decide) rfl fl_X0_66 (h.k) ?_
    refine r_V (pc' := 24) (m' := mX0_deny) (As := [.int (nI 5), .int (nI (ck c))]) (st := []) (c_deny (d := d) (5) (nI (ck c))) dX0_judgeSettling_21 rfl rfl (Nat.le_of_ble_eq_true rfl) (fit_of (by omega) (by decide) (by decide) (by decide)) ml_X0_56 okX0_deny rfl rfl (by decide) rfl ?_
    show EV _ _ _ _ _ 24 _ ([.int (nI 5)]) _
    exact e_iret dX0_judgeSettling_24 rfl ((by
      have e : jdSet c = (5, nI (ck c)) := by unfold jdSet; first | rw [if_pos h1] | (rw [if_neg h1]; first | rw [if_pos (none_t ((best_o hw).mp h2))] | rw [if_neg (none_f (fun q => h2 ((best_o hw).mpr q)))])
      exact MP.retI (congrArg (fun z => some (Value.int z)) (by rw [e])) ⟨(KP.refl.up (by decide)), fun _ _ => by rw [e]; exact up2_s⟩)) (by decide) (by decide)
theorem c_judge0 (h : ColAt M 1 c) (hw : WF c) (a b : Int32) : RETI G ad (d + 4) mX0_judge [.ref (ad 13), .int (nI 0), .int (a), .int (b)] (M, o) (some (.int (nI ((jd c 0 a b).1)))) (fun M' => jI M (jd c 0 a b) M') := by
  refine CM_of rfl (by decide) rfl (Nat.le_of_ble_eq_true rfl) rfl ?_
  have hn := hw.n
  have hk := hw.k
  have hw9 := hw.w9
  refine e_iload_n (pc' := 1) dX0_judge_0 rfl rfl rfl ?_
  refine e_tableIn (tgt := 48) (off := 47) dX0_judge_1 (by decide) (by decide) (by decide) (by decide) ?_
  refine e_aload_n (pc' := 49) dX0_judge_48 rfl rfl rfl ?_
  refine e_iload_n (pc' := 50) dX0_judge_49 rfl rfl rfl ?_
  refine e_iload_n (pc' := 51) dX0_judge_50 rfl rfl rfl ?_
  refine r_VI (pc' := 54) (m' := mX0_judgeAdding) (As := [.int (a), .int (b)]) (st := []) (c_jAdd (d := d) h hw (a) (b)) dX0_judge_51 rfl rfl (Nat.le_of_ble_eq_true rfl) (fit_of (by omega) (by decide) (by decide) (by decide)) ml_X0_23 okX0_judgeAdding rfl rfl (by decide) rfl (fun MJ1 hJ1 => ?_)
  show EV _ _ _ _ _ 54 _ ([.int (nI ((jdAdd c (a) (b)).1))]) _
  exact e_iret dX0_judge_54 rfl (MP.retI rfl hJ1) (by decide) (by decide)
theorem c_judge1 (h : ColAt M 1 c) (hw : WF c) (a b : Int32) : RETI G ad (d + 4) mX0_judge [.ref (ad 13), .int (nI 1), .int (a), .int (b)] (M, o) (some (.int (nI ((jd c 1 a b).1)))) (fun M' => jI M (jd c 1 a b) M') := by
  refine CM_of rfl (by decide) rfl (Nat.le_of_ble_eq_true rfl) rfl ?_
  have hn := hw.n
  have hk := hw.k
  have hw9 := hw.w9
  refine e_iload_n (pc' := 1) dX0_judge_0 rfl rfl rfl ?_
  refine e_tableIn (tgt := 55) (off := 54) dX0_judge_1 (by decide) (by decide) (by decide) (by decide) ?_
  refine e_aload_n (pc' := 56) dX0_judge_55 rfl rfl rfl ?_
  refine e_iload_n (pc' := 57) dX0_judge_56 rfl rfl rfl ?_
  refine e_iload_n (pc' := 58) dX0_judge_57 rfl rfl rfl ?_
  refine r_VI (pc' := 61) (m' := mX0_judgeStrength) (As := [.int (a), .int (b)]) (st := []) (c_jStr (d := d) h hw (a) (b)) dX0_judge_58 rfl rfl (Nat.le_of_ble_eq_true rfl) (fit_of (by omega) (by decide) (by decide) (by decide)) ml_X0_27 okX0_judgeStrength rfl rfl (by decide) rfl (fun MJ1 hJ1 => ?_)
  show EV _ _ _ _ _ 61 _ ([.int (nI ((jdStr c (a) (b)).1))]) _
  exact e_iret dX0_judge_61 rfl (MP.retI rfl hJ1) (by decide) (by decide)
theorem c_judge2 (h : ColAt M 1 c) (hw : WF c) (a b : Int32) : RETI G ad (d + 4) mX0_judge [.ref (ad 13), .int (nI 2), .int (a), .int (b)] (M, o) (some (.int (nI ((jd c 2 a b).1)))) (fun M' => jI M (jd c 2 a b) M') := by
  refine CM_of rfl (by decide) rfl (Nat.le_of_ble_eq_true rfl) rfl ?_
  have hn := hw.n
  have hk := hw.k
  have hw9 := hw.w9
  refine e_iload_n (pc' := 1) dX0_judge_0 rfl rfl rfl ?_
  refine e_tableIn (tgt := 62) (off := 61) dX0_judge_1 (by decide) (by decide) (by decide) (by decide) ?_
  refine e_aload_n (pc' := 63) dX0_judge_62 rfl rfl rfl ?_
  refine p_gfr (pc' := 66) (a := 13) (k := 0) (t := 1) dX0_judge_63 rfl rfl (by decide) (by decide) rfl fl_X0_9 ?_
  refine e_iload_n (pc' := 67) dX0_judge_66 rfl rfl rfl ?_
  refine r_V (pc' := 70) (m' := mX1_hasMagnet) (As := [.int (a)]) (st := []) (c_hasMagnet (d := d) h hw (a)) dX0_judge_67 rfl rfl (Nat.le_of_ble_eq_true rfl) (fit_of (by omega) (by decide) (by decide) (by decide)) ml_X0_30 okX1_hasMagnet rfl rfl (by decide) rfl ?_
  show EV _ _ _ _ _ 70 _ ([.int (bI (hasM c (a)))]) _
  refine e_if_eqB (pc' := 73) (tgt := 77) dX0_judge_70 rfl (by decide) (fun h1 => ?_) (fun h1 => ?_)
  · refine e_bipush (pc' := 79) (v := nI 8) dX0_judge_77 rfl (by decide) ?_
    exact e_iret dX0_judge_79 rfl ((by
      have e : jd c 2 a b = (8, 0) := if_neg (by rw [h1]; decide)
      exact MP.retI (congrArg (fun z => some (Value.int z)) (by rw [e])) ⟨KP.refl, fun q1 q2 => by rw [e] at q1 q2; first | exact absurd q1 (by decide) | exact absurd q2 (by decide)⟩)) (by decide) (by decide)
  · refine e_iconst (pc' := 74) (v := nI 0) dX0_judge_73 rfl (by decide) ?_
    refine e_goto (tgt := 79) dX0_judge_74 (by decide) ?_
    exact e_iret dX0_judge_79 rfl ((by
      have e : jd c 2 a b = (0, 0) := if_pos h1
      exact MP.retI (congrArg (fun z => some (Value.int z)) (by rw [e])) ⟨KP.refl, fun q1 q2 => by rw [e] at q1 q2; first | exact absurd q1 (by decide) | exact absurd q2 (by decide)⟩)) (by decide) (by decide)
theorem c_judge3 (h : ColAt M 1 c) (hw : WF c) (a b : Int32) : RETI G ad (d + 4) mX0_judge [.ref (ad 13), .int (nI 3), .int (a), .int (b)] (M, o) (some (.int (nI ((jd c 3 a b).1)))) (fun M' => jI M (jd c 3 a b) M') := by
  refine CM_of rfl (by decide) rfl (Nat.le_of_ble_eq_true rfl) rfl ?_
  have hn := hw.n
  have hk := hw.k
  have hw9 := hw.w9
  refine e_iload_n (pc' := 1) dX0_judge_0 rfl rfl rfl ?_
  refine e_tableIn (tgt := 80) (off := 79) dX0_judge_1 (by decide) (by decide) (by decide) (by decide) ?_
  refine e_iload_n (pc' := 81) dX0_judge_80 rfl rfl rfl ?_
  refine r_SN (pc' := 84) (m' := mX8_isPosition) (As := [.int (a)]) (st := []) (c_isPosition (d := d) (a)) dX0_judge_81 rfl rfl (Nat.le_of_ble_eq_true rfl) (fit_of (by omega) (by decide) (by decide) (by decide)) nl_X0_36 okX8_isPosition rfl rfl ?_
  show EV _ _ _ _ _ 84 _ ([.int (bI (isP (a)))]) _
  refine e_if_eqB (pc' := 87) (tgt := 91) dX0_judge_84 rfl (by decide) (fun h1 => ?_) (fun h1 => ?_)
  · refine e_bipush (pc' := 93) (v := nI 9) dX0_judge_91 rfl (by decide) ?_
    exact e_iret dX0_judge_93 rfl ((by
      have e : jd c 3 a b = (9, 0) := if_neg (by rw [h1]; decide)
      exact MP.retI (congrArg (fun z => some (Value.int z)) (by rw [e])) ⟨KP.refl, fun q1 q2 => by rw [e] at q1 q2; first | exact absurd q1 (by decide) | exact absurd q2 (by decide)⟩)) (by decide) (by decide)
  · refine e_iconst (pc' := 88) (v := nI 0) dX0_judge_87 rfl (by decide) ?_
    refine e_goto (tgt := 93) dX0_judge_88 (by decide) ?_
    exact e_iret dX0_judge_93 rfl ((by
      have e : jd c 3 a b = (0, 0) := if_pos h1
      exact MP.retI (congrArg (fun z => some (Value.int z)) (by rw [e])) ⟨KP.refl, fun q1 q2 => by rw [e] at q1 q2; first | exact absurd q1 (by decide) | exact absurd q2 (by decide)⟩)) (by decide) (by decide)
theorem c_judge4 (h : ColAt M 1 c) (hw : WF c) (a b : Int32) : RETI G ad (d + 4) mX0_judge [.ref (ad 13), .int (nI 4), .int (a), .int (b)] (M, o) (some (.int (nI ((jd c 4 a b).1)))) (fun M' => jI M (jd c 4 a b) M') := by
  refine CM_of rfl (by decide) rfl (Nat.le_of_ble_eq_true rfl) rfl ?_
  have hn := hw.n
  have hk := hw.k
  have hw9 := hw.w9
  refine e_iload_n (pc' := 1) dX0_judge_0 rfl rfl rfl ?_
  refine e_tableIn (tgt := 124) (off := 123) dX0_judge_1 (by decide) (by decide) (by decide) (by decide) ?_
  refine e_iconst (pc' := 125) (v := nI 0) dX0_judge_124 rfl (by decide) ?_
  exact e_iret dX0_judge_125 rfl ((by
      have e : jd c 4 a b = (0, 0) := rfl
      exact MP.retI (congrArg (fun z => some (Value.int z)) (by rw [e])) ⟨KP.refl, fun q1 q2 => by rw [e] at q1 q2; first | exact absurd q1 (by decide) | exact absurd q2 (by decide)⟩)) (by decide) (by decide)
theorem c_judge5 (h : ColAt M 1 c) (hw : WF c) (a b : Int32) : RETI G ad (d + 4) mX0_judge [.ref (ad 13), .int (nI 5), .int (a), .int (b)] (M, o) (some (.int (nI ((jd c 5 a b).1)))) (fun M' => jI M (jd c 5 a b) M') := by
  refine CM_of rfl (by decide) rfl (Nat.le_of_ble_eq_true rfl) rfl ?_
  have hn := hw.n
  have hk := hw.k
  have hw9 := hw.w9
  refine e_iload_n (pc' := 1) dX0_judge_0 rfl rfl rfl ?_
  refine e_tableIn (tgt := 94) (off := 93) dX0_judge_1 (by decide) (by decide) (by decide) (by decide) ?_
  refine e_aload_n (pc' := 95) dX0_judge_94 rfl rfl rfl ?_
  refine e_iload_n (pc' := 96) dX0_judge_95 rfl rfl rfl ?_
  refine e_iload_n (pc' := 97) dX0_judge_96 rfl rfl rfl ?_
  refine r_VI (pc' := 100) (m' := mX0_judgeDigging) (As := [.int (a), .int (b)]) (st := []) (c_jDig (d := d) h hw (a) (b)) dX0_judge_97 rfl rfl (Nat.le_of_ble_eq_true rfl) (fit_of (by omega) (by decide) (by decide) (by decide)) ml_X0_39 okX0_judgeDigging rfl rfl (by decide) rfl (fun MJ1 hJ1 => ?_)
  show EV _ _ _ _ _ 100 _ ([.int (nI ((jdDig c (a) (b)).1))]) _
  exact e_iret dX0_judge_100 rfl (MP.retI rfl hJ1) (by decide) (by decide)
theorem c_judge6 (h : ColAt M 1 c) (hw : WF c) (a b : Int32) : RETI G ad (d + 4) mX0_judge [.ref (ad 13), .int (nI 6), .int (a), .int (b)] (M, o) (some (.int (nI ((jd c 6 a b).1)))) (fun M' => jI M (jd c 6 a b) M') := by
  refine CM_of rfl (by decide) rfl (Nat.le_of_ble_eq_true rfl) rfl ?_
  have hn := hw.n
  have hk := hw.k
  have hw9 := hw.w9
  refine e_iload_n (pc' := 1) dX0_judge_0 rfl rfl rfl ?_
  refine e_tableIn (tgt := 101) (off := 100) dX0_judge_1 (by decide) (by decide) (by decide) (by decide) ?_
  refine e_aload_n (pc' := 102) dX0_judge_101 rfl rfl rfl ?_
  refine p_gfr (pc' := 105) (a := 13) (k := 0) (t := 1) dX0_judge_102 rfl rfl (by decide) (by decide) rfl fl_X0_9 ?_
  refine e_iload_n (pc' := 106) dX0_judge_105 rfl rfl rfl ?_
  refine r_V (pc' := 109) (m' := mX1_hasTunnel) (As := [.int (a)]) (st := []) (c_hasTunnel (d := d) h hw (a)) dX0_judge_106 rfl rfl (Nat.le_of_ble_eq_true rfl) (fit_of (by omega) (by decide) (by decide) (by decide)) ml_X0_42 okX1_hasTunnel rfl rfl (by decide) rfl ?_
  show EV _ _ _ _ _ 109 _ ([.int (bI (hasT c (a)))]) _
  refine e_if_eqB (pc' := 112) (tgt := 116) dX0_judge_109 rfl (by decide) (fun h1 => ?_) (fun h1 => ?_)
  · refine e_bipush (pc' := 118) (v := nI 8) dX0_judge_116 rfl (by decide) ?_
    exact e_iret dX0_judge_118 rfl ((by
      have e : jd c 6 a b = (8, 0) := if_neg (by rw [h1]; decide)
      exact MP.retI (congrArg (fun z => some (Value.int z)) (by rw [e])) ⟨KP.refl, fun q1 q2 => by rw [e] at q1 q2; first | exact absurd q1 (by decide) | exact absurd q2 (by decide)⟩)) (by decide) (by decide)
  · refine e_iconst (pc' := 113) (v := nI 0) dX0_judge_112 rfl (by decide) ?_
    refine e_goto (tgt := 118) dX0_judge_113 (by decide) ?_
    exact e_iret dX0_judge_118 rfl ((by
      have e : jd c 6 a b = (0, 0) := if_pos h1
      exact MP.retI (congrArg (fun z => some (Value.int z)) (by rw [e])) ⟨KP.refl, fun q1 q2 => by rw [e] at q1 q2; first | exact absurd q1 (by decide) | exact absurd q2 (by decide)⟩)) (by decide) (by decide)
theorem c_judge7 (h : ColAt M 1 c) (hw : WF c) (a b : Int32) : RETI G ad (d + 4) mX0_judge [.ref (ad 13), .int (nI 7), .int (a), .int (b)] (M, o) (some (.int (nI ((jd c 7 a b).1)))) (fun M' => jI M (jd c 7 a b) M') := by
  refine CM_of rfl (by decide) rfl (Nat.le_of_ble_eq_true rfl) rfl ?_
  have hn := hw.n
  have hk := hw.k
  have hw9 := hw.w9
  refine e_iload_n (pc' := 1) dX0_judge_0 rfl rfl rfl ?_
  refine e_tableIn (tgt := 119) (off := 118) dX0_judge_1 (by decide) (by decide) (by decide) (by decide) ?_
  refine e_aload_n (pc' := 120) dX0_judge_119 rfl rfl rfl ?_
  refine r_VI (pc' := 123) (m' := mX0_judgeSettling) (As := []) (st := []) (c_jSet (d := d) h hw) dX0_judge_120 rfl rfl (Nat.le_of_ble_eq_true rfl) (fit_of (by omega) (by decide) (by decide) (by decide)) ml_X0_45 okX0_judgeSettling rfl rfl (by decide) rfl (fun MJ1 hJ1 => ?_)
  show EV _ _ _ _ _ 123 _ ([.int (nI ((jdSet c).1))]) _
  exact e_iret dX0_judge_123 rfl (MP.retI rfl hJ1) (by decide) (by decide)
theorem c_judge (h : ColAt M 1 c) (hw : WF c) {k : Nat} (hk : k < 8) (a b : Int32) : RETI G ad (d + 4) mX0_judge [.ref (ad 13), .int (nI k), .int a, .int b] (M, o) (some (.int (nI (jd c k a b).1))) (fun M' => jI M (jd c k a b) M') := by
  match k, hk with
  | 0, _ => exact c_judge0 h hw a b
  | 1, _ => exact c_judge1 h hw a b
  | 2, _ => exact c_judge2 h hw a b
  | 3, _ => exact c_judge3 h hw a b
  | 4, _ => exact c_judge4 h hw a b
  | 5, _ => exact c_judge5 h hw a b
  | 6, _ => exact c_judge6 h hw a b
  | 7, _ => exact c_judge7 h hw a b
end T18

set_option maxHeartbeats 400000
/-! THE REFERENCE: what its queries answer -/
/-- a query's trace: the code k; all else stays (the mark of a denial aside) -/
def QR (k : Nat) (M M' : Nat → Nat → Int32) : Prop := M' 96 8 = nI k ∧ (∀ j, j ≠ 7 → j ≠ 8 → M' 96 j = M 96 j) ∧ KP (fun a => a == 96) M M'
theorem QR.f {k : Nat} {M : Nat → Nat → Int32} : QR k M (up2 (up2 M 96 8 (nI k)) 96 7 (nI 0)) := ⟨by rw [up2_k (by decide)]; exact up2_s, fun j h1 h2 => by rw [up2_k h1, up2_k h2], (KP.refl.up (by decide)).up (by decide)⟩
theorem QR.c {k : Nat} {M : Nat → Nat → Int32} : QR k M (up2 M 96 8 (nI k)) := ⟨up2_s, fun j _ h2 => by rw [up2_k h2], KP.refl.up (by decide)⟩
theorem hasM_n {c : Col} {i : Nat} (hw : WF c) (hi : i < cn c) : hasM c (nI i) = true := decide_eq_true (nI_in2 hi (by have := hw.n; omega))
theorem hasT_n {c : Col} {i : Nat} (hw : WF c) (hi : i < ck c) : hasT c (nI i) = true := decide_eq_true (nI_in2 hi (by have := hw.k; omega))
theorem in99 {x : Int32} : decide (nI 0 ≤ x ∧ x ≤ nI 99) = isP x := by
  unfold isP
  apply decide_eq_decide.mpr
  constructor
  · rintro ⟨h1, h2⟩; exact ⟨h1, Int32.lt_of_le_of_lt h2 (by decide)⟩
  · rintro ⟨h1, h2⟩
    obtain ⟨i, hi, rfl⟩ := in_nI (by omega) h1 h2
    exact ⟨h1, (nI_leI (by omega) (by omega)).mpr (by omega)⟩
section T43
variable {G : gC} {ad : Nat → Nat} {d : Nat} {M : Nat → Nat → Int32} {o : (Nat → Int64) × (Nat → UInt64)} {c : Col}
theorem g_magnetCount (r : RowAt M 97 0 c) (hw : WF c) : RETI G ad (d + 3) mX9_magnetCount [.ref (ad 96)] (M, o) (some (.int (nI (cn c)))) (QR 0 M) := by
  refine CM_of rfl (by decide) rfl (Nat.le_of_ble_eq_true rfl) rfl ?_
  have hn := hw.n
  have hk := hw.k
  have hw9 := hw.w9
  refine e_aload_n (pc' := 1) dX9_magnetCount_0 rfl rfl rfl ?_
  refine e_iconst (pc' := 2) (v := nI 0) dX9_magnetCount_1 rfl (by decide) ?_
  refine p_pfi (pc' := 5) (a := 96) (k := 8) dX9_magnetCount_2 rfl (rfl) (by decide) (by decide) rfl fl_X9_36 rfl rfl ?_
  refine e_aload_n (pc' := 6) dX9_magnetCount_5 rfl rfl rfl ?_
  refine p_gfr (pc' := 9) (a := 96) (k := 0) (t := 97) dX9_magnetCount_6 rfl rfl (by decide) (by decide) rfl fl_X9_7 ?_
  refine e_iconst (pc' := 10) (v := nI 0) dX9_magnetCount_9 rfl (by decide) ?_
  refine p_iald (pc' := 11) (a := 97) (k := 0) (x := nI (cn c)) dX9_magnetCount_10 rfl (rfl) (rfl) (by omega) (by decide) (by rw [up2_n (by decide)]; exact r.n) ?_
  exact e_iret dX9_magnetCount_11 rfl (MP.retI (rfl) QR.c) (by decide) (by decide)
theorem g_tunnelCount (r : RowAt M 97 0 c) (hw : WF c) : RETI G ad (d + 3) mX9_tunnelCount [.ref (ad 96)] (M, o) (some (.int (nI (ck c)))) (QR 0 M) := by
  refine CM_of rfl (by decide) rfl (Nat.le_of_ble_eq_true rfl) rfl ?_
  have hn := hw.n
  have hk := hw.k
  have hw9 := hw.w9
  refine e_aload_n (pc' := 1) dX9_tunnelCount_0 rfl rfl rfl ?_
  refine e_iconst (pc' := 2) (v := nI 0) dX9_tunnelCount_1 rfl (by decide) ?_
  refine p_pfi (pc' := 5) (a := 96) (k := 8) dX9_tunnelCount_2 rfl (rfl) (by decide) (by decide) rfl fl_X9_36 rfl rfl ?_
  refine e_aload_n (pc' := 6) dX9_tunnelCount_5 rfl rfl rfl ?_
  refine p_gfr (pc' := 9) (a := 96) (k := 0) (t := 97) dX9_tunnelCount_6 rfl rfl (by decide) (by decide) rfl fl_X9_7 ?_
  refine e_iconst (pc' := 10) (v := nI 1) dX9_tunnelCount_9 rfl (by decide) ?_
  refine p_iald (pc' := 11) (a := 97) (k := 1) (x := nI (ck c)) dX9_tunnelCount_10 rfl (rfl) (rfl) (by omega) (by decide) (by rw [up2_n (by decide)]; exact r.k) ?_
  exact e_iret dX9_tunnelCount_11 rfl (MP.retI (rfl) QR.c) (by decide) (by decide)
theorem g_turnTotal (r : RowAt M 97 0 c) (hw : WF c) : RETI G ad (d + 3) mX9_turnTotal [.ref (ad 96)] (M, o) (some (.int (ctt c))) (QR 0 M) := by
  refine CM_of rfl (by decide) rfl (Nat.le_of_ble_eq_true rfl) rfl ?_
  have hn := hw.n
  have hk := hw.k
  have hw9 := hw.w9
  refine e_aload_n (pc' := 1) dX9_turnTotal_0 rfl rfl rfl ?_
  refine e_iconst (pc' := 2) (v := nI 0) dX9_turnTotal_1 rfl (by decide) ?_
  refine p_pfi (pc' := 5) (a := 96) (k := 8) dX9_turnTotal_2 rfl (rfl) (by decide) (by decide) rfl fl_X9_36 rfl rfl ?_
  refine e_aload_n (pc' := 6) dX9_turnTotal_5 rfl rfl rfl ?_
  refine p_gfr (pc' := 9) (a := 96) (k := 0) (t := 97) dX9_turnTotal_6 rfl rfl (by decide) (by decide) rfl fl_X9_7 ?_
  refine e_iconst (pc' := 10) (v := nI 2) dX9_turnTotal_9 rfl (by decide) ?_
  refine p_iald (pc' := 11) (a := 97) (k := 2) (x := ctt c) dX9_turnTotal_10 rfl (rfl) (rfl) (by omega) (by decide) (by rw [up2_n (by decide)]; exact r.tt) ?_
  exact e_iret dX9_turnTotal_11 rfl (MP.retI (rfl) QR.c) (by decide) (by decide)
theorem g_moved (r : RowAt M 97 0 c) (hw : WF c) : RETI G ad (d + 3) mX9_moved [.ref (ad 96)] (M, o) (some (.int (cmm c))) (QR 0 M) := by
  refine CM_of rfl (by decide) rfl (Nat.le_of_ble_eq_true rfl) rfl ?_
  have hn := hw.n
  have hk := hw.k
  have hw9 := hw.w9
  refine e_aload_n (pc' := 1) dX9_moved_0 rfl rfl rfl ?_
  refine e_iconst (pc' := 2) (v := nI 0) dX9_moved_1 rfl (by decide) ?_
  refine p_pfi (pc' := 5) (a := 96) (k := 8) dX9_moved_2 rfl (rfl) (by decide) (by decide) rfl fl_X9_36 rfl rfl ?_
  refine e_aload_n (pc' := 6) dX9_moved_5 rfl rfl rfl ?_
  refine p_gfr (pc' := 9) (a := 96) (k := 0) (t := 97) dX9_moved_6 rfl rfl (by decide) (by decide) rfl fl_X9_7 ?_
  refine e_iconst (pc' := 10) (v := nI 3) dX9_moved_9 rfl (by decide) ?_
  refine p_iald (pc' := 11) (a := 97) (k := 3) (x := cmm c) dX9_moved_10 rfl (rfl) (rfl) (by omega) (by decide) (by rw [up2_n (by decide)]; exact r.mm) ?_
  exact e_iret dX9_moved_11 rfl (MP.retI (rfl) QR.c) (by decide) (by decide)
theorem g_undoCount  : RETI G ad (d + 3) mX9_undoCount [.ref (ad 96)] (M, o) (some (.int (M 96 5))) (QR 0 M) := by
  refine CM_of rfl (by decide) rfl (Nat.le_of_ble_eq_true rfl) rfl ?_
  refine e_aload_n (pc' := 1) dX9_undoCount_0 rfl rfl rfl ?_
  refine e_iconst (pc' := 2) (v := nI 0) dX9_undoCount_1 rfl (by decide) ?_
  refine p_pfi (pc' := 5) (a := 96) (k := 8) dX9_undoCount_2 rfl (rfl) (by decide) (by decide) rfl fl_X9_36 rfl rfl ?_
  refine e_aload_n (pc' := 6) dX9_undoCount_5 rfl rfl rfl ?_
  refine p_gfi (pc' := 9) (a := 96) (k := 5) (x := M 96 5) dX9_undoCount_6 rfl (rfl) (by decide) (by decide) rfl fl_X9_55 (up2_k (by decide)) ?_
  exact e_iret dX9_undoCount_9 rfl (MP.retI (rfl) QR.c) (by decide) (by decide)
theorem g_position (r : RowAt M 97 0 c) (hw : WF c) {i : Nat} (hi : i < cn c) : RETI G ad (d + 3) mX9_position [.ref (ad 96), .int (nI i)] (M, o) (some (.int (nI (cp c i)))) (QR 0 M) := by
  refine CM_of rfl (by decide) rfl (Nat.le_of_ble_eq_true rfl) rfl ?_
  have hn := hw.n
  have hk := hw.k
  have hw9 := hw.w9
  refine e_aload_n (pc' := 1) dX9_position_0 rfl rfl rfl ?_
  refine e_iload_n (pc' := 2) dX9_position_1 rfl rfl rfl ?_
  refine r_V (pc' := 5) (m' := mX9_isNone) (As := [.int (nI i)]) (st := []) (g_isNone_ok (d := d) r hw (nI i) (hasM_n hw hi)) dX9_position_2 rfl rfl (Nat.le_of_ble_eq_true rfl) (fit_of (by omega) (by decide) (by decide) (by decide)) ml_X9_93 okX9_isNone rfl rfl (by decide) rfl ?_
  show EV _ _ _ _ _ 5 _ ([.int (bI (false))]) _
  refine e_if_eqB (pc' := 8) (tgt := 12) dX9_position_5 rfl (by decide) (fun hz1 => ?_) (fun hz1 => absurd hz1 (by decide))
  refine e_aload_n (pc' := 13) dX9_position_12 rfl rfl rfl ?_
  refine e_iload_n (pc' := 14) dX9_position_13 rfl rfl rfl ?_
  refine e_iconst (pc' := 15) (v := nI 0) dX9_position_14 rfl (by decide) ?_
  have hb1 := hw.p (i := i) (by omega)
  refine r_V (pc' := 18) (m' := mX9_of) (As := [.int (nI i), .int (nI 0)]) (st := []) (g_of0 (d := d) ((r.up (by decide)).up (by decide)) hw (m := i) (by omega)) dX9_position_15 rfl rfl (Nat.le_of_ble_eq_true rfl) (fit_of (by omega) (by decide) (by decide) (by decide)) ml_X9_73 okX9_of rfl rfl (by decide) rfl ?_
  show EV _ _ _ _ _ 18 _ ([.int (nI (cp c (i)))]) _
  exact e_iret dX9_position_18 rfl (MP.retI (rfl) QR.f) (by decide) (by decide)
theorem g_position_no (r : RowAt M 97 0 c) (hw : WF c) (x : Int32) (hx : hasM c x = false) : RETI G ad (d + 3) mX9_position [.ref (ad 96), .int (x)] (M, o) (some (.int (nI 0))) (QR 1 M) := by
  refine CM_of rfl (by decide) rfl (Nat.le_of_ble_eq_true rfl) rfl ?_
  have hn := hw.n
  have hk := hw.k
  have hw9 := hw.w9
  refine e_aload_n (pc' := 1) dX9_position_0 rfl rfl rfl ?_
  refine e_iload_n (pc' := 2) dX9_position_1 rfl rfl rfl ?_
  refine r_V (pc' := 5) (m' := mX9_isNone) (As := [.int (x)]) (st := []) (g_isNone_no (d := d) r hw (x) hx) dX9_position_2 rfl rfl (Nat.le_of_ble_eq_true rfl) (fit_of (by omega) (by decide) (by decide) (by decide)) ml_X9_93 okX9_isNone rfl rfl (by decide) rfl ?_
  show EV _ _ _ _ _ 5 _ ([.int (bI (true))]) _
  refine e_if_eqB (pc' := 8) (tgt := 12) dX9_position_5 rfl (by decide) (fun hz1 => absurd hz1 (by decide)) (fun hz1 => ?_)
  refine e_iconst (pc' := 9) (v := nI 0) dX9_position_8 rfl (by decide) ?_
  refine e_goto (tgt := 18) dX9_position_9 (by decide) ?_
  exact e_iret dX9_position_18 rfl (MP.retI (rfl) QR.f) (by decide) (by decide)
theorem g_strength (r : RowAt M 97 0 c) (hw : WF c) {i : Nat} (hi : i < cn c) : RETI G ad (d + 3) mX9_strength [.ref (ad 96), .int (nI i)] (M, o) (some (.int (nI (cs c i)))) (QR 0 M) := by
  refine CM_of rfl (by decide) rfl (Nat.le_of_ble_eq_true rfl) rfl ?_
  have hn := hw.n
  have hk := hw.k
  have hw9 := hw.w9
  refine e_aload_n (pc' := 1) dX9_strength_0 rfl rfl rfl ?_
  refine e_iload_n (pc' := 2) dX9_strength_1 rfl rfl rfl ?_
  refine r_V (pc' := 5) (m' := mX9_isNone) (As := [.int (nI i)]) (st := []) (g_isNone_ok (d := d) r hw (nI i) (hasM_n hw hi)) dX9_strength_2 rfl rfl (Nat.le_of_ble_eq_true rfl) (fit_of (by omega) (by decide) (by decide) (by decide)) ml_X9_93 okX9_isNone rfl rfl (by decide) rfl ?_
  show EV _ _ _ _ _ 5 _ ([.int (bI (false))]) _
  refine e_if_eqB (pc' := 8) (tgt := 12) dX9_strength_5 rfl (by decide) (fun hz1 => ?_) (fun hz1 => absurd hz1 (by decide))
  refine e_aload_n (pc' := 13) dX9_strength_12 rfl rfl rfl ?_
  refine e_iload_n (pc' := 14) dX9_strength_13 rfl rfl rfl ?_
  refine e_iconst (pc' := 15) (v := nI 1) dX9_strength_14 rfl (by decide) ?_
  have hb1 := hw.s2 (i := i) (by omega)
  have hc1 := hw.s1 (i := i) (by omega)
  refine r_V (pc' := 18) (m' := mX9_of) (As := [.int (nI i), .int (nI 1)]) (st := []) (g_of1 (d := d) ((r.up (by decide)).up (by decide)) hw (m := i) (by omega)) dX9_strength_15 rfl rfl (Nat.le_of_ble_eq_true rfl) (fit_of (by omega) (by decide) (by decide) (by decide)) ml_X9_73 okX9_of rfl rfl (by decide) rfl ?_
  show EV _ _ _ _ _ 18 _ ([.int (nI (cs c (i)))]) _
  exact e_iret dX9_strength_18 rfl (MP.retI (rfl) QR.f) (by decide) (by decide)
theorem g_strength_no (r : RowAt M 97 0 c) (hw : WF c) (x : Int32) (hx : hasM c x = false) : RETI G ad (d + 3) mX9_strength [.ref (ad 96), .int (x)] (M, o) (some (.int (nI 0))) (QR 1 M) := by
  refine CM_of rfl (by decide) rfl (Nat.le_of_ble_eq_true rfl) rfl ?_
  have hn := hw.n
  have hk := hw.k
  have hw9 := hw.w9
  refine e_aload_n (pc' := 1) dX9_strength_0 rfl rfl rfl ?_
  refine e_iload_n (pc' := 2) dX9_strength_1 rfl rfl rfl ?_
  refine r_V (pc' := 5) (m' := mX9_isNone) (As := [.int (x)]) (st := []) (g_isNone_no (d := d) r hw (x) hx) dX9_strength_2 rfl rfl (Nat.le_of_ble_eq_true rfl) (fit_of (by omega) (by decide) (by decide) (by decide)) ml_X9_93 okX9_isNone rfl rfl (by decide) rfl ?_
  show EV _ _ _ _ _ 5 _ ([.int (bI (true))]) _
  refine e_if_eqB (pc' := 8) (tgt := 12) dX9_strength_5 rfl (by decide) (fun hz1 => absurd hz1 (by decide)) (fun hz1 => ?_)
  refine e_iconst (pc' := 9) (v := nI 0) dX9_strength_8 rfl (by decide) ?_
  refine e_goto (tgt := 18) dX9_strength_9 (by decide) ?_
  exact e_iret dX9_strength_18 rfl (MP.retI (rfl) QR.f) (by decide) (by decide)
theorem g_turnsOf (r : RowAt M 97 0 c) (hw : WF c) {i : Nat} (hi : i < cn c) : RETI G ad (d + 3) mX9_turnsOf [.ref (ad 96), .int (nI i)] (M, o) (some (.int (ct c i))) (QR 0 M) := by
  refine CM_of rfl (by decide) rfl (Nat.le_of_ble_eq_true rfl) rfl ?_
  have hn := hw.n
  have hk := hw.k
  have hw9 := hw.w9
  refine e_aload_n (pc' := 1) dX9_turnsOf_0 rfl rfl rfl ?_
  refine e_iload_n (pc' := 2) dX9_turnsOf_1 rfl rfl rfl ?_
  refine r_V (pc' := 5) (m' := mX9_isNone) (As := [.int (nI i)]) (st := []) (g_isNone_ok (d := d) r hw (nI i) (hasM_n hw hi)) dX9_turnsOf_2 rfl rfl (Nat.le_of_ble_eq_true rfl) (fit_of (by omega) (by decide) (by decide) (by decide)) ml_X9_93 okX9_isNone rfl rfl (by decide) rfl ?_
  show EV _ _ _ _ _ 5 _ ([.int (bI (false))]) _
  refine e_if_eqB (pc' := 8) (tgt := 12) dX9_turnsOf_5 rfl (by decide) (fun hz1 => ?_) (fun hz1 => absurd hz1 (by decide))
  refine e_aload_n (pc' := 13) dX9_turnsOf_12 rfl rfl rfl ?_
  refine e_iload_n (pc' := 14) dX9_turnsOf_13 rfl rfl rfl ?_
  refine e_iconst (pc' := 15) (v := nI 3) dX9_turnsOf_14 rfl (by decide) ?_
  refine r_V (pc' := 18) (m' := mX9_of) (As := [.int (nI i), .int (nI 3)]) (st := []) (g_of3 (d := d) ((r.up (by decide)).up (by decide)) hw (m := i) (by omega)) dX9_turnsOf_15 rfl rfl (Nat.le_of_ble_eq_true rfl) (fit_of (by omega) (by decide) (by decide) (by decide)) ml_X9_73 okX9_of rfl rfl (by decide) rfl ?_
  show EV _ _ _ _ _ 18 _ ([.int (ct c (i))]) _
  exact e_iret dX9_turnsOf_18 rfl (MP.retI (rfl) QR.f) (by decide) (by decide)
theorem g_turnsOf_no (r : RowAt M 97 0 c) (hw : WF c) (x : Int32) (hx : hasM c x = false) : RETI G ad (d + 3) mX9_turnsOf [.ref (ad 96), .int (x)] (M, o) (some (.int (nI 0))) (QR 1 M) := by
  refine CM_of rfl (by decide) rfl (Nat.le_of_ble_eq_true rfl) rfl ?_
  have hn := hw.n
  have hk := hw.k
  have hw9 := hw.w9
  refine e_aload_n (pc' := 1) dX9_turnsOf_0 rfl rfl rfl ?_
  refine e_iload_n (pc' := 2) dX9_turnsOf_1 rfl rfl rfl ?_
  refine r_V (pc' := 5) (m' := mX9_isNone) (As := [.int (x)]) (st := []) (g_isNone_no (d := d) r hw (x) hx) dX9_turnsOf_2 rfl rfl (Nat.le_of_ble_eq_true rfl) (fit_of (by omega) (by decide) (by decide) (by decide)) ml_X9_93 okX9_isNone rfl rfl (by decide) rfl ?_
  show EV _ _ _ _ _ 5 _ ([.int (bI (true))]) _
  refine e_if_eqB (pc' := 8) (tgt := 12) dX9_turnsOf_5 rfl (by decide) (fun hz1 => absurd hz1 (by decide)) (fun hz1 => ?_)
  refine e_iconst (pc' := 9) (v := nI 0) dX9_turnsOf_8 rfl (by decide) ?_
  refine e_goto (tgt := 18) dX9_turnsOf_9 (by decide) ?_
  exact e_iret dX9_turnsOf_18 rfl (MP.retI (rfl) QR.f) (by decide) (by decide)
theorem g_pole (r : RowAt M 97 0 c) (hw : WF c) {i : Nat} (hi : i < cn c) : RETI G ad (d + 3) mX9_pole [.ref (ad 96), .int (nI i)] (M, o) (some (.int (nI (sgn c i)))) (QR 0 M) := by
  refine CM_of rfl (by decide) rfl (Nat.le_of_ble_eq_true rfl) rfl ?_
  have hn := hw.n
  have hk := hw.k
  have hw9 := hw.w9
  refine e_aload_n (pc' := 1) dX9_pole_0 rfl rfl rfl ?_
  refine e_iload_n (pc' := 2) dX9_pole_1 rfl rfl rfl ?_
  refine r_V (pc' := 5) (m' := mX9_isNone) (As := [.int (nI i)]) (st := []) (g_isNone_ok (d := d) r hw (nI i) (hasM_n hw hi)) dX9_pole_2 rfl rfl (Nat.le_of_ble_eq_true rfl) (fit_of (by omega) (by decide) (by decide) (by decide)) ml_X9_93 okX9_isNone rfl rfl (by decide) rfl ?_
  show EV _ _ _ _ _ 5 _ ([.int (bI (false))]) _
  refine e_if_eqB (pc' := 8) (tgt := 13) dX9_pole_5 rfl (by decide) (fun hz1 => ?_) (fun hz1 => absurd hz1 (by decide))
  refine e_aload_n (pc' := 14) dX9_pole_13 rfl rfl rfl ?_
  refine e_iload_n (pc' := 15) dX9_pole_14 rfl rfl rfl ?_
  refine r_V (pc' := 18) (m' := mX9_sign) (As := [.int (nI i)]) (st := []) (g_sign (d := d) ((r.up (by decide)).up (by decide)) hw (m := i) (by omega)) dX9_pole_15 rfl rfl (Nat.le_of_ble_eq_true rfl) (fit_of (by omega) (by decide) (by decide) (by decide)) ml_X9_107 okX9_sign rfl rfl (by decide) rfl ?_
  show EV _ _ _ _ _ 18 _ ([.int (nI (sgn c (i)))]) _
  exact e_zret (ty := .char) dX9_pole_18 rfl (by unfold sgn; split <;> rfl) (MP.retI (rfl) QR.f) (by decide) (by decide)
theorem g_pole_no (r : RowAt M 97 0 c) (hw : WF c) (x : Int32) (hx : hasM c x = false) : RETI G ad (d + 3) mX9_pole [.ref (ad 96), .int (x)] (M, o) (some (.int (nI 32))) (QR 1 M) := by
  refine CM_of rfl (by decide) rfl (Nat.le_of_ble_eq_true rfl) rfl ?_
  have hn := hw.n
  have hk := hw.k
  have hw9 := hw.w9
  refine e_aload_n (pc' := 1) dX9_pole_0 rfl rfl rfl ?_
  refine e_iload_n (pc' := 2) dX9_pole_1 rfl rfl rfl ?_
  refine r_V (pc' := 5) (m' := mX9_isNone) (As := [.int (x)]) (st := []) (g_isNone_no (d := d) r hw (x) hx) dX9_pole_2 rfl rfl (Nat.le_of_ble_eq_true rfl) (fit_of (by omega) (by decide) (by decide) (by decide)) ml_X9_93 okX9_isNone rfl rfl (by decide) rfl ?_
  show EV _ _ _ _ _ 5 _ ([.int (bI (true))]) _
  refine e_if_eqB (pc' := 8) (tgt := 13) dX9_pole_5 rfl (by decide) (fun hz1 => absurd hz1 (by decide)) (fun hz1 => ?_)
  refine e_bipush (pc' := 10) (v := nI 32) dX9_pole_8 rfl (by decide) ?_
  refine e_goto (tgt := 18) dX9_pole_10 (by decide) ?_
  exact e_zret (ty := .char) dX9_pole_18 rfl (rfl) (MP.retI (rfl) QR.f) (by decide) (by decide)
theorem g_force (r : RowAt M 97 0 c) (hw : WF c) {i : Nat} (hi : i < cn c) : RETI G ad (d + 3) mX9_force [.ref (ad 96), .int (nI i)] (M, o) (some (.float (frc c i))) (QR 0 M) := by
  refine CM_of rfl (by decide) rfl (Nat.le_of_ble_eq_true rfl) rfl ?_
  have hn := hw.n
  have hk := hw.k
  have hw9 := hw.w9
  refine e_aload_n (pc' := 1) dX9_force_0 rfl rfl rfl ?_
  refine e_iload_n (pc' := 2) dX9_force_1 rfl rfl rfl ?_
  refine r_V (pc' := 5) (m' := mX9_isNone) (As := [.int (nI i)]) (st := []) (g_isNone_ok (d := d) r hw (nI i) (hasM_n hw hi)) dX9_force_2 rfl rfl (Nat.le_of_ble_eq_true rfl) (fit_of (by omega) (by decide) (by decide) (by decide)) ml_X9_93 okX9_isNone rfl rfl (by decide) rfl ?_
  show EV _ _ _ _ _ 5 _ ([.int (bI (false))]) _
  refine e_if_eqB (pc' := 8) (tgt := 12) dX9_force_5 rfl (by decide) (fun hz1 => ?_) (fun hz1 => absurd hz1 (by decide))
  refine e_aload_n (pc' := 13) dX9_force_12 rfl rfl rfl ?_
  refine e_iload_n (pc' := 14) dX9_force_13 rfl rfl rfl ?_
  refine r_V (pc' := 17) (m' := mX9_pull) (As := [.int (nI i)]) (st := []) (g_pull (d := d) ((r.up (by decide)).up (by decide)) hw (m := i) (by omega)) dX9_force_14 rfl rfl (Nat.le_of_ble_eq_true rfl) (fit_of (by omega) (by decide) (by decide) (by decide)) ml_X9_103 okX9_pull rfl rfl (by decide) rfl ?_
  show EV _ _ _ _ _ 17 _ ([.float (frc c (i))]) _
  exact e_fret dX9_force_17 rfl (MP.retI (rfl) QR.f) (by decide) (by decide)
theorem g_force_no (r : RowAt M 97 0 c) (hw : WF c) (x : Int32) (hx : hasM c x = false) : RETI G ad (d + 3) mX9_force [.ref (ad 96), .int (x)] (M, o) (some (.float (FP.fconst0))) (QR 1 M) := by
  refine CM_of rfl (by decide) rfl (Nat.le_of_ble_eq_true rfl) rfl ?_
  have hn := hw.n
  have hk := hw.k
  have hw9 := hw.w9
  refine e_aload_n (pc' := 1) dX9_force_0 rfl rfl rfl ?_
  refine e_iload_n (pc' := 2) dX9_force_1 rfl rfl rfl ?_
  refine r_V (pc' := 5) (m' := mX9_isNone) (As := [.int (x)]) (st := []) (g_isNone_no (d := d) r hw (x) hx) dX9_force_2 rfl rfl (Nat.le_of_ble_eq_true rfl) (fit_of (by omega) (by decide) (by decide) (by decide)) ml_X9_93 okX9_isNone rfl rfl (by decide) rfl ?_
  show EV _ _ _ _ _ 5 _ ([.int (bI (true))]) _
  refine e_if_eqB (pc' := 8) (tgt := 12) dX9_force_5 rfl (by decide) (fun hz1 => absurd hz1 (by decide)) (fun hz1 => ?_)
  refine e_fconst0 (pc' := 9) dX9_force_8 rfl ?_
  refine e_goto (tgt := 17) dX9_force_9 (by decide) ?_
  exact e_fret dX9_force_17 rfl (MP.retI (rfl) QR.f) (by decide) (by decide)
theorem g_whole (r : RowAt M 97 0 c) (hw : WF c) {i : Nat} (hi : i < cn c) : RETI G ad (d + 3) mX9_wholeForce [.ref (ad 96), .int (nI i)] (M, o) (some (.int (FP.f2i (frc c i)))) (QR 0 M) := by
  refine CM_of rfl (by decide) rfl (Nat.le_of_ble_eq_true rfl) rfl ?_
  have hn := hw.n
  have hk := hw.k
  have hw9 := hw.w9
  refine e_aload_n (pc' := 1) dX9_wholeForce_0 rfl rfl rfl ?_
  refine e_iload_n (pc' := 2) dX9_wholeForce_1 rfl rfl rfl ?_
  refine r_V (pc' := 5) (m' := mX9_isNone) (As := [.int (nI i)]) (st := []) (g_isNone_ok (d := d) r hw (nI i) (hasM_n hw hi)) dX9_wholeForce_2 rfl rfl (Nat.le_of_ble_eq_true rfl) (fit_of (by omega) (by decide) (by decide) (by decide)) ml_X9_93 okX9_isNone rfl rfl (by decide) rfl ?_
  show EV _ _ _ _ _ 5 _ ([.int (bI (false))]) _
  refine e_if_eqB (pc' := 8) (tgt := 12) dX9_wholeForce_5 rfl (by decide) (fun hz1 => ?_) (fun hz1 => absurd hz1 (by decide))
  refine e_aload_n (pc' := 13) dX9_wholeForce_12 rfl rfl rfl ?_
  refine e_iload_n (pc' := 14) dX9_wholeForce_13 rfl rfl rfl ?_
  refine r_V (pc' := 17) (m' := mX9_pull) (As := [.int (nI i)]) (st := []) (g_pull (d := d) ((r.up (by decide)).up (by decide)) hw (m := i) (by omega)) dX9_wholeForce_14 rfl rfl (Nat.le_of_ble_eq_true rfl) (fit_of (by omega) (by decide) (by decide) (by decide)) ml_X9_103 okX9_pull rfl rfl (by decide) rfl ?_
  show EV _ _ _ _ _ 17 _ ([.float (frc c (i))]) _
  refine e_f2i (pc' := 18) dX9_wholeForce_17 rfl ?_
  exact e_iret dX9_wholeForce_18 rfl (MP.retI (rfl) QR.f) (by decide) (by decide)
theorem g_whole_no (r : RowAt M 97 0 c) (hw : WF c) (x : Int32) (hx : hasM c x = false) : RETI G ad (d + 3) mX9_wholeForce [.ref (ad 96), .int (x)] (M, o) (some (.int (nI 0))) (QR 1 M) := by
  refine CM_of rfl (by decide) rfl (Nat.le_of_ble_eq_true rfl) rfl ?_
  have hn := hw.n
  have hk := hw.k
  have hw9 := hw.w9
  refine e_aload_n (pc' := 1) dX9_wholeForce_0 rfl rfl rfl ?_
  refine e_iload_n (pc' := 2) dX9_wholeForce_1 rfl rfl rfl ?_
  refine r_V (pc' := 5) (m' := mX9_isNone) (As := [.int (x)]) (st := []) (g_isNone_no (d := d) r hw (x) hx) dX9_wholeForce_2 rfl rfl (Nat.le_of_ble_eq_true rfl) (fit_of (by omega) (by decide) (by decide) (by decide)) ml_X9_93 okX9_isNone rfl rfl (by decide) rfl ?_
  show EV _ _ _ _ _ 5 _ ([.int (bI (true))]) _
  refine e_if_eqB (pc' := 8) (tgt := 12) dX9_wholeForce_5 rfl (by decide) (fun hz1 => absurd hz1 (by decide)) (fun hz1 => ?_)
  refine e_iconst (pc' := 9) (v := nI 0) dX9_wholeForce_8 rfl (by decide) ?_
  refine e_goto (tgt := 18) dX9_wholeForce_9 (by decide) ?_
  exact e_iret dX9_wholeForce_18 rfl (MP.retI (rfl) QR.f) (by decide) (by decide)
theorem isP_n {i : Nat} (hi : i < 100) : isP (nI i) = true := isp_t hi
theorem oI_ge0 {r : Option Nat} (h : ∀ i, r = some i → i < 2 ^ 31) (hn : ¬ r = none) : 0 ≤ oI r := by
  cases r with
  | none => exact absurd rfl hn
  | some i => exact nI_pos' (h i rfl)
theorem mOn_ge {x : Int32} (hw : WF c) (h : ¬ mOn c x = none) : 0 ≤ oI (mOn c x) := oI_ge0 (fun i e => by have := (mOn_lt e).1; have := hw.n; omega) h
theorem none_ge {r : Option Nat} (h : r = none) : ¬ 0 ≤ oI r := by rw [h]; decide
theorem g_fieldP (r : RowAt M 97 0 c) (hw : WF c) {i : Nat} (hi : i < 100) : RETI G ad (d + 3) mX9_field [.ref (ad 96), .int (nI i)] (M, o) (some (.double (fld c i))) (QR 0 M) := by
  refine CM_of rfl (by decide) rfl (Nat.le_of_ble_eq_true rfl) rfl ?_
  have hn := hw.n
  have hk := hw.k
  have hw9 := hw.w9
  refine e_aload_n (pc' := 1) dX9_field_0 rfl rfl rfl ?_
  refine e_iload_n (pc' := 2) dX9_field_1 rfl rfl rfl ?_
  refine e_iconst (pc' := 3) (v := nI 0) dX9_field_2 rfl (by decide) ?_
  refine e_bipush (pc' := 5) (v := nI 99) dX9_field_3 rfl (by decide) ?_
  refine r_S (pc' := 8) (m' := mX9_in) (As := [.int (nI i), .int (nI 0), .int (nI 99)]) (st := [.ref (ad 96)]) (g_in (d := d) (nI i) (nI 0) (nI 99)) dX9_field_5 rfl rfl (Nat.le_of_ble_eq_true rfl) (fit_of (by omega) (by decide) (by decide) (by decide)) ml_X9_62 okX9_in rfl rfl ?_
  show EV _ _ _ _ _ 8 _ ([.int (bI (decide ((nI 0) ≤ (nI i) ∧ (nI i) ≤ (nI 99)))), .ref (ad 96)]) _
  refine e_if_eqB (pc' := 11) (tgt := 15) dX9_field_8 rfl (by decide) (fun hz1 => absurd hz1 (by rw [in99, isP_n hi]; decide)) (fun hz1 => ?_)
  refine e_iconst (pc' := 12) (v := nI 0) dX9_field_11 rfl (by decide) ?_
  refine e_goto (tgt := 16) dX9_field_12 (by decide) ?_
  refine r_V (pc' := 19) (m' := mX9_fails) (As := [.int (nI 0)]) (st := []) (g_fails (d := d) (p := 0) (by omega)) dX9_field_16 rfl rfl (Nat.le_of_ble_eq_true rfl) (fit_of (by omega) (by decide) (by decide) (by decide)) ml_X9_70 okX9_fails rfl rfl (by decide) rfl ?_
  show EV _ _ _ _ _ 19 _ ([.int (bI (decide (0 < 0)))]) _
  refine e_if_eqB (pc' := 22) (tgt := 26) dX9_field_19 rfl (by decide) (fun hz2 => ?_) (fun hz2 => absurd hz2 (by decide))
  refine e_aload_n (pc' := 27) dX9_field_26 rfl rfl rfl ?_
  refine e_iload_n (pc' := 28) dX9_field_27 rfl rfl rfl ?_
  refine r_V (pc' := 31) (m' := mX9_fieldAt) (As := [.int (nI i)]) (st := []) (g_field (d := d) ((r.up (by decide)).up (by decide)) hw (p := i) (by omega)) dX9_field_28 rfl rfl (Nat.le_of_ble_eq_true rfl) (fit_of (by omega) (by decide) (by decide) (by decide)) ml_X9_152 okX9_fieldAt rfl rfl (by decide) rfl ?_
  show EV _ _ _ _ _ 31 _ ([.double (fld c (i))]) _
  exact e_dret dX9_field_31 rfl (MP.retI (rfl) QR.f) (by decide) (by decide)
theorem g_fieldP_no (r : RowAt M 97 0 c) (hw : WF c) (x : Int32) (hx : isP x = false) : RETI G ad (d + 3) mX9_field [.ref (ad 96), .int (x)] (M, o) (some (.double (FP.dconst0))) (QR 1 M) := by
  refine CM_of rfl (by decide) rfl (Nat.le_of_ble_eq_true rfl) rfl ?_
  have hn := hw.n
  have hk := hw.k
  have hw9 := hw.w9
  refine e_aload_n (pc' := 1) dX9_field_0 rfl rfl rfl ?_
  refine e_iload_n (pc' := 2) dX9_field_1 rfl rfl rfl ?_
  refine e_iconst (pc' := 3) (v := nI 0) dX9_field_2 rfl (by decide) ?_
  refine e_bipush (pc' := 5) (v := nI 99) dX9_field_3 rfl (by decide) ?_
  refine r_S (pc' := 8) (m' := mX9_in) (As := [.int (x), .int (nI 0), .int (nI 99)]) (st := [.ref (ad 96)]) (g_in (d := d) (x) (nI 0) (nI 99)) dX9_field_5 rfl rfl (Nat.le_of_ble_eq_true rfl) (fit_of (by omega) (by decide) (by decide) (by decide)) ml_X9_62 okX9_in rfl rfl ?_
  show EV _ _ _ _ _ 8 _ ([.int (bI (decide ((nI 0) ≤ (x) ∧ (x) ≤ (nI 99)))), .ref (ad 96)]) _
  refine e_if_eqB (pc' := 11) (tgt := 15) dX9_field_8 rfl (by decide) (fun hz1 => ?_) (fun hz1 => absurd hz1 (by rw [in99, hx]; decide))
  refine e_iconst (pc' := 16) (v := nI 1) dX9_field_15 rfl (by decide) ?_
  refine r_V (pc' := 19) (m' := mX9_fails) (As := [.int (nI 1)]) (st := []) (g_fails (d := d) (p := 1) (by omega)) dX9_field_16 rfl rfl (Nat.le_of_ble_eq_true rfl) (fit_of (by omega) (by decide) (by decide) (by decide)) ml_X9_70 okX9_fails rfl rfl (by decide) rfl ?_
  show EV _ _ _ _ _ 19 _ ([.int (bI (decide (0 < 1)))]) _
  refine e_if_eqB (pc' := 22) (tgt := 26) dX9_field_19 rfl (by decide) (fun hz2 => absurd hz2 (by decide)) (fun hz2 => ?_)
  refine e_dconst0 (pc' := 23) dX9_field_22 rfl ?_
  refine e_goto (tgt := 31) dX9_field_23 (by decide) ?_
  exact e_dret dX9_field_31 rfl (MP.retI (rfl) QR.f) (by decide) (by decide)
theorem g_magnetAt (r : RowAt M 97 0 c) (hw : WF c) {i : Nat} (hi : i < 100) (hf : ¬ mOn c (nI i) = none) : RETI G ad (d + 3) mX9_magnetAt [.ref (ad 96), .int (nI i)] (M, o) (some (.int (oI (mOn c (nI i))))) (QR 0 M) := by
  refine CM_of rfl (by decide) rfl (Nat.le_of_ble_eq_true rfl) rfl ?_
  have hn := hw.n
  have hk := hw.k
  have hw9 := hw.w9
  refine e_aload_n (pc' := 1) dX9_magnetAt_0 rfl rfl rfl ?_
  refine e_iload_n (pc' := 2) dX9_magnetAt_1 rfl rfl rfl ?_
  refine e_iconst (pc' := 3) (v := nI 0) dX9_magnetAt_2 rfl (by decide) ?_
  refine e_bipush (pc' := 5) (v := nI 99) dX9_magnetAt_3 rfl (by decide) ?_
  refine r_S (pc' := 8) (m' := mX9_in) (As := [.int (nI i), .int (nI 0), .int (nI 99)]) (st := [.ref (ad 96)]) (g_in (d := d) (nI i) (nI 0) (nI 99)) dX9_magnetAt_5 rfl rfl (Nat.le_of_ble_eq_true rfl) (fit_of (by omega) (by decide) (by decide) (by decide)) ml_X9_62 okX9_in rfl rfl ?_
  show EV _ _ _ _ _ 8 _ ([.int (bI (decide ((nI 0) ≤ (nI i) ∧ (nI i) ≤ (nI 99)))), .ref (ad 96)]) _
  refine e_if_neB (pc' := 11) (tgt := 15) dX9_magnetAt_8 rfl (by decide) (fun hz1 => ?_) (fun hz1 => absurd hz1 (by rw [in99, isP_n hi]; decide))
  refine e_aload_n (pc' := 16) dX9_magnetAt_15 rfl rfl rfl ?_
  refine e_iload_n (pc' := 17) dX9_magnetAt_16 rfl rfl rfl ?_
  refine r_V (pc' := 20) (m' := mX9_found) (As := [.int (nI i)]) (st := [.ref (ad 96)]) (g_found (d := d) r hw (nI i)) dX9_magnetAt_17 rfl rfl (Nat.le_of_ble_eq_true rfl) (fit_of (by omega) (by decide) (by decide) (by decide)) ml_X9_81 okX9_found rfl rfl (by decide) rfl ?_
  show EV _ _ _ _ _ 20 _ ([.int (oI (mOn c (nI i))), .ref (ad 96)]) _
  refine e_if_ge (pc' := 23) (tgt := 27) dX9_magnetAt_20 rfl (by decide) (fun hz2 => ?_) (fun hz2 => absurd hz2 (fun q => q (mOn_ge hw hf)))
  refine e_iconst (pc' := 28) (v := nI 0) dX9_magnetAt_27 rfl (by decide) ?_
  refine r_V (pc' := 31) (m' := mX9_fails) (As := [.int (nI 0)]) (st := []) (g_fails (d := d) (p := 0) (by omega)) dX9_magnetAt_28 rfl rfl (Nat.le_of_ble_eq_true rfl) (fit_of (by omega) (by decide) (by decide) (by decide)) ml_X9_70 okX9_fails rfl rfl (by decide) rfl ?_
  show EV _ _ _ _ _ 31 _ ([.int (bI (decide (0 < 0)))]) _
  refine e_if_eqB (pc' := 34) (tgt := 38) dX9_magnetAt_31 rfl (by decide) (fun hz3 => ?_) (fun hz3 => absurd hz3 (by decide))
  refine e_aload_n (pc' := 39) dX9_magnetAt_38 rfl rfl rfl ?_
  refine e_iload_n (pc' := 40) dX9_magnetAt_39 rfl rfl rfl ?_
  refine r_V (pc' := 43) (m' := mX9_found) (As := [.int (nI i)]) (st := []) (g_found (d := d) ((r.up (by decide)).up (by decide)) hw (nI i)) dX9_magnetAt_40 rfl rfl (Nat.le_of_ble_eq_true rfl) (fit_of (by omega) (by decide) (by decide) (by decide)) ml_X9_81 okX9_found rfl rfl (by decide) rfl ?_
  show EV _ _ _ _ _ 43 _ ([.int (oI (mOn c (nI i)))]) _
  exact e_iret dX9_magnetAt_43 rfl (MP.retI (rfl) QR.f) (by decide) (by decide)
theorem g_magnetAt_n (r : RowAt M 97 0 c) (hw : WF c) {i : Nat} (hi : i < 100) (hf : mOn c (nI i) = none) : RETI G ad (d + 3) mX9_magnetAt [.ref (ad 96), .int (nI i)] (M, o) (some (.int (nI 0))) (QR 2 M) := by
  refine CM_of rfl (by decide) rfl (Nat.le_of_ble_eq_true rfl) rfl ?_
  have hn := hw.n
  have hk := hw.k
  have hw9 := hw.w9
  refine e_aload_n (pc' := 1) dX9_magnetAt_0 rfl rfl rfl ?_
  refine e_iload_n (pc' := 2) dX9_magnetAt_1 rfl rfl rfl ?_
  refine e_iconst (pc' := 3) (v := nI 0) dX9_magnetAt_2 rfl (by decide) ?_
  refine e_bipush (pc' := 5) (v := nI 99) dX9_magnetAt_3 rfl (by decide) ?_
  refine r_S (pc' := 8) (m' := mX9_in) (As := [.int (nI i), .int (nI 0), .int (nI 99)]) (st := [.ref (ad 96)]) (g_in (d := d) (nI i) (nI 0) (nI 99)) dX9_magnetAt_5 rfl rfl (Nat.le_of_ble_eq_true rfl) (fit_of (by omega) (by decide) (by decide) (by decide)) ml_X9_62 okX9_in rfl rfl ?_
  show EV _ _ _ _ _ 8 _ ([.int (bI (decide ((nI 0) ≤ (nI i) ∧ (nI i) ≤ (nI 99)))), .ref (ad 96)]) _
  refine e_if_neB (pc' := 11) (tgt := 15) dX9_magnetAt_8 rfl (by decide) (fun hz1 => ?_) (fun hz1 => absurd hz1 (by rw [in99, isP_n hi]; decide))
  refine e_aload_n (pc' := 16) dX9_magnetAt_15 rfl rfl rfl ?_
  refine e_iload_n (pc' := 17) dX9_magnetAt_16 rfl rfl rfl ?_
  refine r_V (pc' := 20) (m' := mX9_found) (As := [.int (nI i)]) (st := [.ref (ad 96)]) (g_found (d := d) r hw (nI i)) dX9_magnetAt_17 rfl rfl (Nat.le_of_ble_eq_true rfl) (fit_of (by omega) (by decide) (by decide) (by decide)) ml_X9_81 okX9_found rfl rfl (by decide) rfl ?_
  show EV _ _ _ _ _ 20 _ ([.int (oI (mOn c (nI i))), .ref (ad 96)]) _
  refine e_if_ge (pc' := 23) (tgt := 27) dX9_magnetAt_20 rfl (by decide) (fun hz2 => absurd hz2 (none_ge hf)) (fun hz2 => ?_)
  refine e_iconst (pc' := 24) (v := nI 2) dX9_magnetAt_23 rfl (by decide) ?_
  refine e_goto (tgt := 28) dX9_magnetAt_24 (by decide) ?_
  refine r_V (pc' := 31) (m' := mX9_fails) (As := [.int (nI 2)]) (st := []) (g_fails (d := d) (p := 2) (by omega)) dX9_magnetAt_28 rfl rfl (Nat.le_of_ble_eq_true rfl) (fit_of (by omega) (by decide) (by decide) (by decide)) ml_X9_70 okX9_fails rfl rfl (by decide) rfl ?_
  show EV _ _ _ _ _ 31 _ ([.int (bI (decide (0 < 2)))]) _
  refine e_if_eqB (pc' := 34) (tgt := 38) dX9_magnetAt_31 rfl (by decide) (fun hz3 => absurd hz3 (by decide)) (fun hz3 => ?_)
  refine e_iconst (pc' := 35) (v := nI 0) dX9_magnetAt_34 rfl (by decide) ?_
  refine e_goto (tgt := 43) dX9_magnetAt_35 (by decide) ?_
  exact e_iret dX9_magnetAt_43 rfl (MP.retI (rfl) QR.f) (by decide) (by decide)
theorem g_magnetAt_no (r : RowAt M 97 0 c) (hw : WF c) (x : Int32) (hx : isP x = false) : RETI G ad (d + 3) mX9_magnetAt [.ref (ad 96), .int (x)] (M, o) (some (.int (nI 0))) (QR 1 M) := by
  refine CM_of rfl (by decide) rfl (Nat.le_of_ble_eq_true rfl) rfl ?_
  have hn := hw.n
  have hk := hw.k
  have hw9 := hw.w9
  refine e_aload_n (pc' := 1) dX9_magnetAt_0 rfl rfl rfl ?_
  refine e_iload_n (pc' := 2) dX9_magnetAt_1 rfl rfl rfl ?_
  refine e_iconst (pc' := 3) (v := nI 0) dX9_magnetAt_2 rfl (by decide) ?_
  refine e_bipush (pc' := 5) (v := nI 99) dX9_magnetAt_3 rfl (by decide) ?_
  refine r_S (pc' := 8) (m' := mX9_in) (As := [.int (x), .int (nI 0), .int (nI 99)]) (st := [.ref (ad 96)]) (g_in (d := d) (x) (nI 0) (nI 99)) dX9_magnetAt_5 rfl rfl (Nat.le_of_ble_eq_true rfl) (fit_of (by omega) (by decide) (by decide) (by decide)) ml_X9_62 okX9_in rfl rfl ?_
  show EV _ _ _ _ _ 8 _ ([.int (bI (decide ((nI 0) ≤ (x) ∧ (x) ≤ (nI 99)))), .ref (ad 96)]) _
  refine e_if_neB (pc' := 11) (tgt := 15) dX9_magnetAt_8 rfl (by decide) (fun hz1 => absurd hz1 (by rw [in99, hx]; decide)) (fun hz1 => ?_)
  refine e_iconst (pc' := 12) (v := nI 1) dX9_magnetAt_11 rfl (by decide) ?_
  refine e_goto (tgt := 28) dX9_magnetAt_12 (by decide) ?_
  refine r_V (pc' := 31) (m' := mX9_fails) (As := [.int (nI 1)]) (st := []) (g_fails (d := d) (p := 1) (by omega)) dX9_magnetAt_28 rfl rfl (Nat.le_of_ble_eq_true rfl) (fit_of (by omega) (by decide) (by decide) (by decide)) ml_X9_70 okX9_fails rfl rfl (by decide) rfl ?_
  show EV _ _ _ _ _ 31 _ ([.int (bI (decide (0 < 1)))]) _
  refine e_if_eqB (pc' := 34) (tgt := 38) dX9_magnetAt_31 rfl (by decide) (fun hz2 => absurd hz2 (by decide)) (fun hz2 => ?_)
  refine e_iconst (pc' := 35) (v := nI 0) dX9_magnetAt_34 rfl (by decide) ?_
  refine e_goto (tgt := 43) dX9_magnetAt_35 (by decide) ?_
  exact e_iret dX9_magnetAt_43 rfl (MP.retI (rfl) QR.f) (by decide) (by decide)
theorem rkP_self {i : Nat} : rkP c i i = false := by unfold rkP; simp
theorem gl_rank (r : RowAt M 97 0 c) (hw : WF c) {P : PM} (x : Int32) {k : Nat} (hk9 : k < cn c) (hfin : ER G ad (d + 2) mX9_magnetByStrength (0, 0) (P) (0, 0) 58 [some (.ref (ad 96)), some (.int (x)), some (.int (nI k)), some (.int (nI (rk c k))), none] [] (M, o)) : ∀ i, i ≤ cn c → ER G ad (d + 2) mX9_magnetByStrength (0, 0) (P) (0, 0) 17 [some (.ref (ad 96)), some (.int (x)), some (.int (nI k)), some (.int (nI (cnt (rkP c k) i))), some (.int (nI i))] [] (M, o) := down (cn c) _ (fun i hi ih  => by
  have hn := hw.n
  have hk := hw.k
  have hw9 := hw.w9
  refine e_iload (pc' := 19) dX9_magnetByStrength_17 rfl rfl ?_
  refine e_aload_n (pc' := 20) dX9_magnetByStrength_19 rfl rfl rfl ?_
  refine p_gfr (pc' := 23) (a := 96) (k := 0) (t := 97) dX9_magnetByStrength_20 rfl rfl (by decide) (by decide) rfl fl_X9_7 ?_
  refine e_iconst (pc' := 24) (v := nI 0) dX9_magnetByStrength_23 rfl (by decide) ?_
  refine p_iald (pc' := 25) (a := 97) (k := 0) (x := nI (cn c)) dX9_magnetByStrength_24 rfl (rfl) (rfl) (by omega) (by decide) (r.n) ?_
  refine e_icmp_geN (pc' := 28) (tgt := 58) dX9_magnetByStrength_25 rfl (by decide) (by omega) (by omega) (fun hz1 => ?_) (fun hz1 => ?_)
  · refine e_fg (i := 4) (L' := [some (.ref (ad 96)), some (.int (x)), some (.int (nI k)), some (.int (nI (cnt (rkP c k) i))), none]) rfl ?_
    obtain rfl : i = cn c := by omega
    exact hfin
  · refine e_iload_n (pc' := 29) dX9_magnetByStrength_28 rfl rfl rfl ?_
    refine e_iload (pc' := 31) dX9_magnetByStrength_29 rfl rfl ?_
    refine e_iload_n (pc' := 32) dX9_magnetByStrength_31 rfl rfl rfl ?_
    refine e_icmp_eqN (pc' := 35) (tgt := 49) dX9_magnetByStrength_32 rfl (by decide) (by omega) (by omega) (fun hs => ?_) (fun hs => ?_)
    · refine e_iconst (pc' := 50) (v := nI 0) dX9_magnetByStrength_49 rfl (by decide) ?_
      refine e_iaddN (pc' := 51) dX9_magnetByStrength_50 rfl ?_
      refine e_istore_n (pc' := 52) (L' := [some (.ref (ad 96)), some (.int (x)), some (.int (nI k)), some (.int (nI ((cnt (rkP c k) i) + 0))), some (.int (nI i))]) dX9_magnetByStrength_51 rfl rfl (by decide) rfl ?_
      refine e_iincN (pc' := 55) (k := 1) (L' := [some (.ref (ad 96)), some (.int (x)), some (.int (nI k)), some (.int (nI ((cnt (rkP c k) i) + 0))), some (.int (nI (i + 1)))]) dX9_magnetByStrength_52 rfl rfl rfl (by decide) rfl ?_
      refine e_goto (tgt := 17) dX9_magnetByStrength_55 (by decide) ?_
      rw [← cnt_0 (P := rkP c k) (by first | exact hz | (rw [hs]; exact rkP_self))]
      exact ih (by omega)
    · refine e_aload_n (pc' := 36) dX9_magnetByStrength_35 rfl rfl rfl ?_
      refine e_iload (pc' := 38) dX9_magnetByStrength_36 rfl rfl ?_
      refine e_iload_n (pc' := 39) dX9_magnetByStrength_38 rfl rfl rfl ?_
      refine r_V (pc' := 42) (m' := mX9_isAhead) (As := [.int (nI i), .int (nI k)]) (st := [.int (nI (cnt (rkP c k) i))]) (g_isAhead (d := d) r hw (a := i) (b := k) (by omega) (by omega)) dX9_magnetByStrength_39 rfl rfl (Nat.le_of_ble_eq_true rfl) (fit_of (by omega) (by decide) (by decide) (by decide)) ml_X9_111 okX9_isAhead rfl rfl (by decide) rfl ?_
      show EV _ _ _ _ _ 42 _ ([.int (bI (rkP c k i)), .int (nI (cnt (rkP c k) i))]) _
      refine e_if_eqB (pc' := 45) (tgt := 49) dX9_magnetByStrength_42 rfl (by decide) (fun hz => ?_) (fun hz => ?_)
      · refine e_iconst (pc' := 50) (v := nI 0) dX9_magnetByStrength_49 rfl (by decide) ?_
        refine e_iaddN (pc' := 51) dX9_magnetByStrength_50 rfl ?_
        refine e_istore_n (pc' := 52) (L' := [some (.ref (ad 96)), some (.int (x)), some (.int (nI k)), some (.int (nI ((cnt (rkP c k) i) + 0))), some (.int (nI i))]) dX9_magnetByStrength_51 rfl rfl (by decide) rfl ?_
        refine e_iincN (pc' := 55) (k := 1) (L' := [some (.ref (ad 96)), some (.int (x)), some (.int (nI k)), some (.int (nI ((cnt (rkP c k) i) + 0))), some (.int (nI (i + 1)))]) dX9_magnetByStrength_52 rfl rfl rfl (by decide) rfl ?_
        refine e_goto (tgt := 17) dX9_magnetByStrength_55 (by decide) ?_
        rw [← cnt_0 (P := rkP c k) (by first | exact hz | (rw [hs]; exact rkP_self))]
        exact ih (by omega)
      · refine e_iconst (pc' := 46) (v := nI 1) dX9_magnetByStrength_45 rfl (by decide) ?_
        refine e_goto (tgt := 50) dX9_magnetByStrength_46 (by decide) ?_
        refine e_iaddN (pc' := 51) dX9_magnetByStrength_50 rfl ?_
        refine e_istore_n (pc' := 52) (L' := [some (.ref (ad 96)), some (.int (x)), some (.int (nI k)), some (.int (nI ((cnt (rkP c k) i) + 1))), some (.int (nI i))]) dX9_magnetByStrength_51 rfl rfl (by decide) rfl ?_
        refine e_iincN (pc' := 55) (k := 1) (L' := [some (.ref (ad 96)), some (.int (x)), some (.int (nI k)), some (.int (nI ((cnt (rkP c k) i) + 1))), some (.int (nI (i + 1)))]) dX9_magnetByStrength_52 rfl rfl rfl (by decide) rfl ?_
        refine e_goto (tgt := 17) dX9_magnetByStrength_55 (by decide) ?_
        rw [← cnt_1 (P := rkP c k) hz]
        exact ih (by omega))
theorem gl_byStr (r : RowAt M 97 0 c) (hw : WF c) (x : Int32) : ∀ i, i ≤ cn c → (∀ j, j < i → ¬ nI (rk c j) = x) → ER G ad (d + 2) mX9_magnetByStrength (0, 0) (PI (some (.int (if mRank c x = none then nI 0 else oI (mRank c x)))) o (QR (if mRank c x = none then 1 else 0) M)) (0, 0) 2 [some (.ref (ad 96)), some (.int (x)), some (.int (nI i)), none, none] [] (M, o) := down (cn c) _ (fun i hi ih hj => by
  have hn := hw.n
  have hk := hw.k
  have hw9 := hw.w9
  refine e_iload_n (pc' := 3) dX9_magnetByStrength_2 rfl rfl rfl ?_
  refine e_aload_n (pc' := 4) dX9_magnetByStrength_3 rfl rfl rfl ?_
  refine p_gfr (pc' := 7) (a := 96) (k := 0) (t := 97) dX9_magnetByStrength_4 rfl rfl (by decide) (by decide) rfl fl_X9_7 ?_
  refine e_iconst (pc' := 8) (v := nI 0) dX9_magnetByStrength_7 rfl (by decide) ?_
  refine p_iald (pc' := 9) (a := 97) (k := 0) (x := nI (cn c)) dX9_magnetByStrength_8 rfl (rfl) (rfl) (by omega) (by decide) (r.n) ?_
  refine e_icmp_geN (pc' := 12) (tgt := 79) dX9_magnetByStrength_9 rfl (by decide) (by omega) (by omega) (fun hz1 => ?_) (fun hz1 => ?_)
  · refine e_aload_n (pc' := 80) dX9_magnetByStrength_79 rfl rfl rfl ?_
    refine e_iconst (pc' := 81) (v := nI 1) dX9_magnetByStrength_80 rfl (by decide) ?_
    refine p_pfi (pc' := 84) (a := 96) (k := 8) dX9_magnetByStrength_81 rfl (rfl) (by decide) (by decide) rfl fl_X9_36 rfl rfl ?_
    refine e_iconst (pc' := 85) (v := nI 0) dX9_magnetByStrength_84 rfl (by decide) ?_
    exact e_iret dX9_magnetByStrength_85 rfl ((by
  have e : mRank c x = none := fnd_none (fun j hj2 => decide_eq_false (hj j (by omega)))
  rw [e]
  exact MP.retI rfl QR.c)) (by decide) (by decide)
  · refine e_iconst (pc' := 13) (v := nI 0) dX9_magnetByStrength_12 rfl (by decide) ?_
    refine e_istore_n (pc' := 14) (L' := [some (.ref (ad 96)), some (.int (x)), some (.int (nI i)), some (.int (nI 0)), none]) dX9_magnetByStrength_13 rfl rfl (by decide) rfl ?_
    refine e_iconst (pc' := 15) (v := nI 0) dX9_magnetByStrength_14 rfl (by decide) ?_
    refine e_istore (pc' := 17) (L' := [some (.ref (ad 96)), some (.int (x)), some (.int (nI i)), some (.int (nI 0)), some (.int (nI 0))]) dX9_magnetByStrength_15 rfl (by decide) rfl ?_
    refine gl_rank r hw x (k := i) (by omega) ?_ 0 (by omega)
    refine e_iload_n (pc' := 59) dX9_magnetByStrength_58 rfl rfl rfl ?_
    refine e_iload_n (pc' := 60) dX9_magnetByStrength_59 rfl rfl rfl ?_
    refine e_icmp_eq (pc' := 63) (tgt := 66) dX9_magnetByStrength_60 rfl (by decide) (fun h1 => ?_) (fun h1 => ?_)
    · refine e_aload_n (pc' := 67) dX9_magnetByStrength_66 rfl rfl rfl ?_
      refine e_iconst (pc' := 68) (v := nI 0) dX9_magnetByStrength_67 rfl (by decide) ?_
      refine p_pfi (pc' := 71) (a := 96) (k := 8) dX9_magnetByStrength_68 rfl (rfl) (by decide) (by decide) rfl fl_X9_36 rfl rfl ?_
      refine e_iload_n (pc' := 72) dX9_magnetByStrength_71 rfl rfl rfl ?_
      exact e_iret dX9_magnetByStrength_72 rfl ((by
  have e : mRank c x = some i := fnd_some (by omega) (fun j hj2 => decide_eq_false (hj j hj2)) (decide_eq_true h1)
  rw [e]
  exact MP.retI rfl QR.c)) (by decide) (by decide)
    · refine e_goto (tgt := 73) dX9_magnetByStrength_63 (by decide) ?_
      refine e_iincN (pc' := 76) (k := 1) (L' := [some (.ref (ad 96)), some (.int (x)), some (.int (nI (i + 1))), some (.int (nI (rk c i))), none]) dX9_magnetByStrength_73 rfl rfl rfl (by decide) rfl ?_
      refine e_goto (tgt := 2) dX9_magnetByStrength_76 (by decide) ?_
      refine e_fg (i := 3) (L' := [some (.ref (ad 96)), some (.int (x)), some (.int (nI (i + 1))), none, none]) rfl ?_
      exact ih (by omega) (fun j hj2 => by by_cases e : j = i; rw [e]; exact h1; exact hj j (by omega)))
theorem g_byStr (r : RowAt M 97 0 c) (hw : WF c) (x : Int32) : RETI G ad (d + 2) mX9_magnetByStrength [.ref (ad 96), .int (x)] (M, o) (some (.int (if mRank c x = none then nI 0 else oI (mRank c x)))) (QR (if mRank c x = none then 1 else 0) M) := by
  refine CM_of rfl (by decide) rfl (Nat.le_of_ble_eq_true rfl) rfl ?_
  have hn := hw.n
  have hk := hw.k
  have hw9 := hw.w9
  refine e_iconst (pc' := 1) (v := nI 0) dX9_magnetByStrength_0 rfl (by decide) ?_
  refine e_istore_n (pc' := 2) (L' := [some (.ref (ad 96)), some (.int (x)), some (.int (nI 0)), none, none]) dX9_magnetByStrength_1 rfl rfl (by decide) rfl ?_
  exact gl_byStr r hw x 0 (by omega) (fun j hj => absurd hj (Nat.not_lt_zero j))
theorem g_isOpen (r : RowAt M 97 0 c) (hw : WF c) {i : Nat} (hi : i < ck c) : RETI G ad (d + 3) mX9_isOpen [.ref (ad 96), .int (nI i)] (M, o) (some (.int (bI (!blk c (cw c) i)))) (QR 0 M) := by
  refine CM_of rfl (by decide) rfl (Nat.le_of_ble_eq_true rfl) rfl ?_
  have hn := hw.n
  have hk := hw.k
  have hw9 := hw.w9
  refine e_aload_n (pc' := 1) dX9_isOpen_0 rfl rfl rfl ?_
  refine e_aload_n (pc' := 2) dX9_isOpen_1 rfl rfl rfl ?_
  refine e_iload_n (pc' := 3) dX9_isOpen_2 rfl rfl rfl ?_
  refine r_V (pc' := 6) (m' := mX9_isTunnel) (As := [.int (nI i)]) (st := [.ref (ad 96)]) (g_isTunnel (d := d) r hw (nI i)) dX9_isOpen_3 rfl rfl (Nat.le_of_ble_eq_true rfl) (fit_of (by omega) (by decide) (by decide) (by decide)) ml_X9_124 okX9_isTunnel rfl rfl (by decide) rfl ?_
  show EV _ _ _ _ _ 6 _ ([.int (bI (hasT c (nI i))), .ref (ad 96)]) _
  refine e_if_eqB (pc' := 9) (tgt := 13) dX9_isOpen_6 rfl (by decide) (fun hz1 => absurd hz1 (by rw [hasT_n hw hi]; decide)) (fun hz1 => ?_)
  refine e_iconst (pc' := 10) (v := nI 0) dX9_isOpen_9 rfl (by decide) ?_
  refine e_goto (tgt := 14) dX9_isOpen_10 (by decide) ?_
  refine r_V (pc' := 17) (m' := mX9_fails) (As := [.int (nI 0)]) (st := []) (g_fails (d := d) (p := 0) (by omega)) dX9_isOpen_14 rfl rfl (Nat.le_of_ble_eq_true rfl) (fit_of (by omega) (by decide) (by decide) (by decide)) ml_X9_70 okX9_fails rfl rfl (by decide) rfl ?_
  show EV _ _ _ _ _ 17 _ ([.int (bI (decide (0 < 0)))]) _
  refine e_if_neB (pc' := 20) (tgt := 33) dX9_isOpen_17 rfl (by decide) (fun hz2 => absurd hz2 (by decide)) (fun hz2 => ?_)
  refine e_aload_n (pc' := 21) dX9_isOpen_20 rfl rfl rfl ?_
  refine e_iload_n (pc' := 22) dX9_isOpen_21 rfl rfl rfl ?_
  refine e_iconst (pc' := 23) (v := nI 0) dX9_isOpen_22 rfl (by decide) ?_
  refine r_V (pc' := 26) (m' := mX9_isFree) (As := [.int (nI i), .int (nI 0)]) (st := []) (g_isFree (d := d) ((r.up (by decide)).up (by decide)) hw (j := i) (w := 0) (by omega) (by omega)) dX9_isOpen_23 rfl rfl (Nat.le_of_ble_eq_true rfl) (fit_of (by omega) (by decide) (by decide) (by decide)) ml_X9_118 okX9_isFree rfl rfl (by decide) rfl ?_
  show EV _ _ _ _ _ 26 _ ([.int (bI (!blk c (cw c ^^^ 0) i))]) _
  refine e_if_eqB (pc' := 29) (tgt := 33) dX9_isOpen_26 rfl (by decide) (fun hz => ?_) (fun hz => ?_)
  · refine e_iconst (pc' := 34) (v := nI 0) dX9_isOpen_33 rfl (by decide) ?_
    exact e_zret (ty := .boolean) dX9_isOpen_34 rfl (by first | rfl | decide) (MP.retI (congrArg (fun z => some (Value.int z)) (by rw [Nat.xor_zero] at hz; first | exact bI1 hz | exact bI0 hz)) QR.f) (by decide) (by decide)
  · refine e_iconst (pc' := 30) (v := nI 1) dX9_isOpen_29 rfl (by decide) ?_
    refine e_goto (tgt := 34) dX9_isOpen_30 (by decide) ?_
    exact e_zret (ty := .boolean) dX9_isOpen_34 rfl (by first | rfl | decide) (MP.retI (congrArg (fun z => some (Value.int z)) (by rw [Nat.xor_zero] at hz; first | exact bI1 hz | exact bI0 hz)) QR.f) (by decide) (by decide)
theorem g_isOpen_no (r : RowAt M 97 0 c) (hw : WF c) (x : Int32) (hx : hasT c x = false) : RETI G ad (d + 3) mX9_isOpen [.ref (ad 96), .int (x)] (M, o) (some (.int (nI 0))) (QR 1 M) := by
  refine CM_of rfl (by decide) rfl (Nat.le_of_ble_eq_true rfl) rfl ?_
  have hn := hw.n
  have hk := hw.k
  have hw9 := hw.w9
  refine e_aload_n (pc' := 1) dX9_isOpen_0 rfl rfl rfl ?_
  refine e_aload_n (pc' := 2) dX9_isOpen_1 rfl rfl rfl ?_
  refine e_iload_n (pc' := 3) dX9_isOpen_2 rfl rfl rfl ?_
  refine r_V (pc' := 6) (m' := mX9_isTunnel) (As := [.int (x)]) (st := [.ref (ad 96)]) (g_isTunnel (d := d) r hw (x)) dX9_isOpen_3 rfl rfl (Nat.le_of_ble_eq_true rfl) (fit_of (by omega) (by decide) (by decide) (by decide)) ml_X9_124 okX9_isTunnel rfl rfl (by decide) rfl ?_
  show EV _ _ _ _ _ 6 _ ([.int (bI (hasT c (x))), .ref (ad 96)]) _
  refine e_if_eqB (pc' := 9) (tgt := 13) dX9_isOpen_6 rfl (by decide) (fun hz1 => ?_) (fun hz1 => absurd hz1 (by rw [hx]; decide))
  refine e_iconst (pc' := 14) (v := nI 1) dX9_isOpen_13 rfl (by decide) ?_
  refine r_V (pc' := 17) (m' := mX9_fails) (As := [.int (nI 1)]) (st := []) (g_fails (d := d) (p := 1) (by omega)) dX9_isOpen_14 rfl rfl (Nat.le_of_ble_eq_true rfl) (fit_of (by omega) (by decide) (by decide) (by decide)) ml_X9_70 okX9_fails rfl rfl (by decide) rfl ?_
  show EV _ _ _ _ _ 17 _ ([.int (bI (decide (0 < 1)))]) _
  refine e_if_neB (pc' := 20) (tgt := 33) dX9_isOpen_17 rfl (by decide) (fun hz2 => ?_) (fun hz2 => absurd hz2 (by decide))
  refine e_iconst (pc' := 34) (v := nI 0) dX9_isOpen_33 rfl (by decide) ?_
  exact e_zret (ty := .boolean) dX9_isOpen_34 rfl (by first | rfl | decide) (MP.retI (rfl) QR.f) (by decide) (by decide)
theorem g_blocked (r : RowAt M 97 0 c) (hw : WF c) : RETI G ad (d + 3) mX9_blocked [.ref (ad 96)] (M, o) (some (.int (nI (blkN c (cw c))))) (QR 0 M) := by
  refine CM_of rfl (by decide) rfl (Nat.le_of_ble_eq_true rfl) rfl ?_
  have hn := hw.n
  have hk := hw.k
  have hw9 := hw.w9
  refine e_aload_n (pc' := 1) dX9_blocked_0 rfl rfl rfl ?_
  refine e_iconst (pc' := 2) (v := nI 0) dX9_blocked_1 rfl (by decide) ?_
  refine p_pfi (pc' := 5) (a := 96) (k := 8) dX9_blocked_2 rfl (rfl) (by decide) (by decide) rfl fl_X9_36 rfl rfl ?_
  refine e_aload_n (pc' := 6) dX9_blocked_5 rfl rfl rfl ?_
  refine e_iconst (pc' := 7) (v := nI 0) dX9_blocked_6 rfl (by decide) ?_
  refine r_V (pc' := 10) (m' := mX9_shut) (As := [.int (nI 0)]) (st := []) (g_shut (d := d) (r.up (by decide)) hw (w := 0) (by omega)) dX9_blocked_7 rfl rfl (Nat.le_of_ble_eq_true rfl) (fit_of (by omega) (by decide) (by decide) (by decide)) ml_X9_100 okX9_shut rfl rfl (by decide) rfl ?_
  show EV _ _ _ _ _ 10 _ ([.int (nI (blkN c (cw c ^^^ 0)))]) _
  exact e_iret dX9_blocked_10 rfl (MP.retI (by rw [Nat.xor_zero]) QR.c) (by decide) (by decide)
theorem g_leastBlocked (r : RowAt M 97 0 c) (hw : WF c) : RETI G ad (d + 4) mX9_leastBlocked [.ref (ad 96)] (M, o) (some (.int (nI (lsF c (2 ^ cn c))))) (QR 0 M) := by
  refine CM_of rfl (by decide) rfl (Nat.le_of_ble_eq_true rfl) rfl ?_
  have hn := hw.n
  have hk := hw.k
  have hw9 := hw.w9
  refine e_aload_n (pc' := 1) dX9_leastBlocked_0 rfl rfl rfl ?_
  refine e_iconst (pc' := 2) (v := nI 0) dX9_leastBlocked_1 rfl (by decide) ?_
  refine p_pfi (pc' := 5) (a := 96) (k := 8) dX9_leastBlocked_2 rfl (rfl) (by decide) (by decide) rfl fl_X9_36 rfl rfl ?_
  refine e_aload_n (pc' := 6) dX9_leastBlocked_5 rfl rfl rfl ?_
  refine r_V (pc' := 9) (m' := mX9_leastShut) (As := []) (st := []) (g_least (d := d) (r.up (by decide)) hw) dX9_leastBlocked_6 rfl rfl (Nat.le_of_ble_eq_true rfl) (fit_of (by omega) (by decide) (by decide) (by decide)) ml_X9_146 okX9_leastShut rfl rfl (by decide) rfl ?_
  show EV _ _ _ _ _ 9 _ ([.int (nI (lsF c (2 ^ cn c)))]) _
  exact e_iret dX9_leastBlocked_9 rfl (MP.retI (rfl) QR.c) (by decide) (by decide)
theorem g_leastBlockedByBounds (r : RowAt M 97 0 c) (hw : WF c) : RETI G ad (d + 4) mX9_leastBlockedByBounds [.ref (ad 96)] (M, o) (some (.int (nI (lsF c (2 ^ cn c))))) (QR 0 M) := by
  refine CM_of rfl (by decide) rfl (Nat.le_of_ble_eq_true rfl) rfl ?_
  have hn := hw.n
  have hk := hw.k
  have hw9 := hw.w9
  refine e_aload_n (pc' := 1) dX9_leastBlockedByBounds_0 rfl rfl rfl ?_
  refine e_iconst (pc' := 2) (v := nI 0) dX9_leastBlockedByBounds_1 rfl (by decide) ?_
  refine p_pfi (pc' := 5) (a := 96) (k := 8) dX9_leastBlockedByBounds_2 rfl (rfl) (by decide) (by decide) rfl fl_X9_36 rfl rfl ?_
  refine e_aload_n (pc' := 6) dX9_leastBlockedByBounds_5 rfl rfl rfl ?_
  refine r_V (pc' := 9) (m' := mX9_leastShut) (As := []) (st := []) (g_least (d := d) (r.up (by decide)) hw) dX9_leastBlockedByBounds_6 rfl rfl (Nat.le_of_ble_eq_true rfl) (fit_of (by omega) (by decide) (by decide) (by decide)) ml_X9_146 okX9_leastShut rfl rfl (by decide) rfl ?_
  show EV _ _ _ _ _ 9 _ ([.int (nI (lsF c (2 ^ cn c)))]) _
  exact e_iret dX9_leastBlockedByBounds_9 rfl (MP.retI (rfl) QR.c) (by decide) (by decide)
theorem mb_ge (hw : WF c) (h : ¬ mbF c (2 ^ cn c) = none) : 0 ≤ oI (mbF c (2 ^ cn c)) := oI_ge0 (fun i e => by have h1 := mbF_lt e; have h2 := p2_le (n := 9) hw.n; omega) h
theorem mb_lt (hw : WF c) : oI (mbF c (2 ^ cn c)) < 0 ↔ mbF c (2 ^ cn c) = none := oI_lt0 (fun i e => by have h1 := mbF_lt e; have h2 := p2_le (n := 9) hw.n; omega)
theorem g_canSettle (r : RowAt M 97 0 c) (hw : WF c) : RETI G ad (d + 4) mX9_canSettle [.ref (ad 96)] (M, o) (some (.int (bI ((mbF c (2 ^ cn c)).isSome)))) (QR 0 M) := by
  refine CM_of rfl (by decide) rfl (Nat.le_of_ble_eq_true rfl) rfl ?_
  have hn := hw.n
  have hk := hw.k
  have hw9 := hw.w9
  refine e_aload_n (pc' := 1) dX9_canSettle_0 rfl rfl rfl ?_
  refine e_iconst (pc' := 2) (v := nI 0) dX9_canSettle_1 rfl (by decide) ?_
  refine p_pfi (pc' := 5) (a := 96) (k := 8) dX9_canSettle_2 rfl (rfl) (by decide) (by decide) rfl fl_X9_36 rfl rfl ?_
  refine e_aload_n (pc' := 6) dX9_canSettle_5 rfl rfl rfl ?_
  refine r_V (pc' := 9) (m' := mX9_best) (As := []) (st := []) (g_best (d := d) (r.up (by decide)) hw) dX9_canSettle_6 rfl rfl (Nat.le_of_ble_eq_true rfl) (fit_of (by omega) (by decide) (by decide) (by decide)) ml_X9_130 okX9_best rfl rfl (by decide) rfl ?_
  show EV _ _ _ _ _ 9 _ ([.int (oI (mbF c (2 ^ cn c)))]) _
  refine e_if_lt (pc' := 12) (tgt := 16) dX9_canSettle_9 rfl (by decide) (fun hz => ?_) (fun hz => ?_)
  · refine e_iconst (pc' := 17) (v := nI 0) dX9_canSettle_16 rfl (by decide) ?_
    exact e_zret (ty := .boolean) dX9_canSettle_17 rfl (by first | rfl | decide) (MP.retI (congrArg (fun z => some (Value.int z)) (by rw [mb_lt hw] at hz; cases e : mbF c (2 ^ cn c) <;> simp_all <;> rfl)) QR.c) (by decide) (by decide)
  · refine e_iconst (pc' := 13) (v := nI 1) dX9_canSettle_12 rfl (by decide) ?_
    refine e_goto (tgt := 17) dX9_canSettle_13 (by decide) ?_
    exact e_zret (ty := .boolean) dX9_canSettle_17 rfl (by first | rfl | decide) (MP.retI (congrArg (fun z => some (Value.int z)) (by rw [mb_lt hw] at hz; cases e : mbF c (2 ^ cn c) <;> simp_all <;> rfl)) QR.c) (by decide) (by decide)
theorem g_canSettleByUnions (r : RowAt M 97 0 c) (hw : WF c) : RETI G ad (d + 4) mX9_canSettleByUnions [.ref (ad 96)] (M, o) (some (.int (bI ((mbF c (2 ^ cn c)).isSome)))) (QR 0 M) := by
  refine CM_of rfl (by decide) rfl (Nat.le_of_ble_eq_true rfl) rfl ?_
  have hn := hw.n
  have hk := hw.k
  have hw9 := hw.w9
  refine e_aload_n (pc' := 1) dX9_canSettleByUnions_0 rfl rfl rfl ?_
  refine e_iconst (pc' := 2) (v := nI 0) dX9_canSettleByUnions_1 rfl (by decide) ?_
  refine p_pfi (pc' := 5) (a := 96) (k := 8) dX9_canSettleByUnions_2 rfl (rfl) (by decide) (by decide) rfl fl_X9_36 rfl rfl ?_
  refine e_aload_n (pc' := 6) dX9_canSettleByUnions_5 rfl rfl rfl ?_
  refine r_V (pc' := 9) (m' := mX9_best) (As := []) (st := []) (g_best (d := d) (r.up (by decide)) hw) dX9_canSettleByUnions_6 rfl rfl (Nat.le_of_ble_eq_true rfl) (fit_of (by omega) (by decide) (by decide) (by decide)) ml_X9_130 okX9_best rfl rfl (by decide) rfl ?_
  show EV _ _ _ _ _ 9 _ ([.int (oI (mbF c (2 ^ cn c)))]) _
  refine e_if_lt (pc' := 12) (tgt := 16) dX9_canSettleByUnions_9 rfl (by decide) (fun hz => ?_) (fun hz => ?_)
  · refine e_iconst (pc' := 17) (v := nI 0) dX9_canSettleByUnions_16 rfl (by decide) ?_
    exact e_zret (ty := .boolean) dX9_canSettleByUnions_17 rfl (by first | rfl | decide) (MP.retI (congrArg (fun z => some (Value.int z)) (by rw [mb_lt hw] at hz; cases e : mbF c (2 ^ cn c) <;> simp_all <;> rfl)) QR.c) (by decide) (by decide)
  · refine e_iconst (pc' := 13) (v := nI 1) dX9_canSettleByUnions_12 rfl (by decide) ?_
    refine e_goto (tgt := 17) dX9_canSettleByUnions_13 (by decide) ?_
    exact e_zret (ty := .boolean) dX9_canSettleByUnions_17 rfl (by first | rfl | decide) (MP.retI (congrArg (fun z => some (Value.int z)) (by rw [mb_lt hw] at hz; cases e : mbF c (2 ^ cn c) <;> simp_all <;> rfl)) QR.c) (by decide) (by decide)
theorem g_fewest (r : RowAt M 97 0 c) (hw : WF c) {b : Nat} (hb : mbF c (2 ^ cn c) = some b) : RETI G ad (d + 4) mX9_fewest [.ref (ad 96)] (M, o) (some (.int (nI (pop b)))) (QR 0 M) := by
  refine CM_of rfl (by decide) rfl (Nat.le_of_ble_eq_true rfl) rfl ?_
  have hn := hw.n
  have hk := hw.k
  have hw9 := hw.w9
  refine e_aload_n (pc' := 1) dX9_fewest_0 rfl rfl rfl ?_
  refine r_V (pc' := 4) (m' := mX9_best) (As := []) (st := []) (g_best (d := d) r hw) dX9_fewest_1 rfl rfl (Nat.le_of_ble_eq_true rfl) (fit_of (by omega) (by decide) (by decide) (by decide)) ml_X9_130 okX9_best rfl rfl (by decide) rfl ?_
  show EV _ _ _ _ _ 4 _ ([.int (oI (mbF c (2 ^ cn c)))]) _
  refine e_istore_n (pc' := 5) (L' := [some (.ref (ad 96)), some (.int (oI (mbF c (2 ^ cn c))))]) dX9_fewest_4 rfl rfl (by decide) rfl ?_
  refine e_aload_n (pc' := 6) dX9_fewest_5 rfl rfl rfl ?_
  refine e_iload_n (pc' := 7) dX9_fewest_6 rfl rfl rfl ?_
  refine e_if_ge (pc' := 10) (tgt := 14) dX9_fewest_7 rfl (by decide) (fun hz1 => ?_) (fun hz1 => absurd hz1 (fun q => q (mb_ge hw (by rw [hb]; intro h; cases h))))
  refine e_iconst (pc' := 15) (v := nI 0) dX9_fewest_14 rfl (by decide) ?_
  refine r_V (pc' := 18) (m' := mX9_fails) (As := [.int (nI 0)]) (st := []) (g_fails (d := d) (p := 0) (by omega)) dX9_fewest_15 rfl rfl (Nat.le_of_ble_eq_true rfl) (fit_of (by omega) (by decide) (by decide) (by decide)) ml_X9_70 okX9_fails rfl rfl (by decide) rfl ?_
  show EV _ _ _ _ _ 18 _ ([.int (bI (decide (0 < 0)))]) _
  refine e_if_eqB (pc' := 21) (tgt := 25) dX9_fewest_18 rfl (by decide) (fun hz2 => ?_) (fun hz2 => absurd hz2 (by decide))
  rw [hb]
  refine e_iload_n (pc' := 26) dX9_fewest_25 rfl rfl rfl ?_
  refine r_S (pc' := 29) (m' := mX9_bits) (As := [.int (nI b)]) (st := []) (g_bits (d := d) (w := b) (by first | omega | exact Nat.lt_of_lt_of_le (mbF_lt hb) (p2_le (n := 9) hw.n))) dX9_fewest_26 rfl rfl (Nat.le_of_ble_eq_true rfl) (fit_of (by omega) (by decide) (by decide) (by decide)) ml_X9_127 okX9_bits rfl rfl ?_
  show EV _ _ _ _ _ 29 _ ([.int (nI (pop (b)))]) _
  exact e_iret dX9_fewest_29 rfl (MP.retI (rfl) QR.f) (by decide) (by decide)
theorem g_fewest_n (r : RowAt M 97 0 c) (hw : WF c) (hb : mbF c (2 ^ cn c) = none) : RETI G ad (d + 4) mX9_fewest [.ref (ad 96)] (M, o) (some (.int (nI 0))) (QR 1 M) := by
  refine CM_of rfl (by decide) rfl (Nat.le_of_ble_eq_true rfl) rfl ?_
  have hn := hw.n
  have hk := hw.k
  have hw9 := hw.w9
  refine e_aload_n (pc' := 1) dX9_fewest_0 rfl rfl rfl ?_
  refine r_V (pc' := 4) (m' := mX9_best) (As := []) (st := []) (g_best (d := d) r hw) dX9_fewest_1 rfl rfl (Nat.le_of_ble_eq_true rfl) (fit_of (by omega) (by decide) (by decide) (by decide)) ml_X9_130 okX9_best rfl rfl (by decide) rfl ?_
  show EV _ _ _ _ _ 4 _ ([.int (oI (mbF c (2 ^ cn c)))]) _
  refine e_istore_n (pc' := 5) (L' := [some (.ref (ad 96)), some (.int (oI (mbF c (2 ^ cn c))))]) dX9_fewest_4 rfl rfl (by decide) rfl ?_
  refine e_aload_n (pc' := 6) dX9_fewest_5 rfl rfl rfl ?_
  refine e_iload_n (pc' := 7) dX9_fewest_6 rfl rfl rfl ?_
  refine e_if_ge (pc' := 10) (tgt := 14) dX9_fewest_7 rfl (by decide) (fun hz1 => absurd hz1 (none_ge hb)) (fun hz1 => ?_)
  refine e_iconst (pc' := 11) (v := nI 1) dX9_fewest_10 rfl (by decide) ?_
  refine e_goto (tgt := 15) dX9_fewest_11 (by decide) ?_
  refine r_V (pc' := 18) (m' := mX9_fails) (As := [.int (nI 1)]) (st := []) (g_fails (d := d) (p := 1) (by omega)) dX9_fewest_15 rfl rfl (Nat.le_of_ble_eq_true rfl) (fit_of (by omega) (by decide) (by decide) (by decide)) ml_X9_70 okX9_fails rfl rfl (by decide) rfl ?_
  show EV _ _ _ _ _ 18 _ ([.int (bI (decide (0 < 1)))]) _
  refine e_if_eqB (pc' := 21) (tgt := 25) dX9_fewest_18 rfl (by decide) (fun hz2 => absurd hz2 (by decide)) (fun hz2 => ?_)
  refine e_iconst (pc' := 22) (v := nI 0) dX9_fewest_21 rfl (by decide) ?_
  refine e_goto (tgt := 29) dX9_fewest_22 (by decide) ?_
  exact e_iret dX9_fewest_29 rfl (MP.retI (rfl) QR.f) (by decide) (by decide)
theorem g_fewestTurns (r : RowAt M 97 0 c) (hw : WF c) {b : Nat} (hb : mbF c (2 ^ cn c) = some b) : RETI G ad (d + 5) mX9_fewestTurns [.ref (ad 96)] (M, o) (some (.int (nI (pop b)))) (QR 0 M) := by
  refine CM_of rfl (by decide) rfl (Nat.le_of_ble_eq_true rfl) rfl ?_
  have hn := hw.n
  have hk := hw.k
  have hw9 := hw.w9
  refine e_aload_n (pc' := 1) dX9_fewestTurns_0 rfl rfl rfl ?_
  refine r_VI (pc' := 4) (m' := mX9_fewest) (As := []) (st := []) (g_fewest (d := d) r hw (b := b) hb) dX9_fewestTurns_1 rfl rfl (Nat.le_of_ble_eq_true rfl) (fit_of (by omega) (by decide) (by decide) (by decide)) ml_X9_143 okX9_fewest rfl rfl (by decide) rfl (fun M1 h1 => ?_)
  show EV _ _ _ _ _ 4 _ ([.int (nI (pop b))]) _
  exact e_iret dX9_fewestTurns_4 rfl (MP.retI rfl h1) (by decide) (by decide)
theorem g_fewestTurns_n (r : RowAt M 97 0 c) (hw : WF c) (hb : mbF c (2 ^ cn c) = none) : RETI G ad (d + 5) mX9_fewestTurns [.ref (ad 96)] (M, o) (some (.int (nI 0))) (QR 1 M) := by
  refine CM_of rfl (by decide) rfl (Nat.le_of_ble_eq_true rfl) rfl ?_
  have hn := hw.n
  have hk := hw.k
  have hw9 := hw.w9
  refine e_aload_n (pc' := 1) dX9_fewestTurns_0 rfl rfl rfl ?_
  refine r_VI (pc' := 4) (m' := mX9_fewest) (As := []) (st := []) (g_fewest_n (d := d) r hw hb) dX9_fewestTurns_1 rfl rfl (Nat.le_of_ble_eq_true rfl) (fit_of (by omega) (by decide) (by decide) (by decide)) ml_X9_143 okX9_fewest rfl rfl (by decide) rfl (fun M1 h1 => ?_)
  show EV _ _ _ _ _ 4 _ ([.int (nI 0)]) _
  exact e_iret dX9_fewestTurns_4 rfl (MP.retI rfl h1) (by decide) (by decide)
theorem g_fewestTurnsBySets (r : RowAt M 97 0 c) (hw : WF c) {b : Nat} (hb : mbF c (2 ^ cn c) = some b) : RETI G ad (d + 5) mX9_fewestTurnsBySets [.ref (ad 96)] (M, o) (some (.int (nI (pop b)))) (QR 0 M) := by
  refine CM_of rfl (by decide) rfl (Nat.le_of_ble_eq_true rfl) rfl ?_
  have hn := hw.n
  have hk := hw.k
  have hw9 := hw.w9
  refine e_aload_n (pc' := 1) dX9_fewestTurnsBySets_0 rfl rfl rfl ?_
  refine r_VI (pc' := 4) (m' := mX9_fewest) (As := []) (st := []) (g_fewest (d := d) r hw (b := b) hb) dX9_fewestTurnsBySets_1 rfl rfl (Nat.le_of_ble_eq_true rfl) (fit_of (by omega) (by decide) (by decide) (by decide)) ml_X9_143 okX9_fewest rfl rfl (by decide) rfl (fun M1 h1 => ?_)
  show EV _ _ _ _ _ 4 _ ([.int (nI (pop b))]) _
  exact e_iret dX9_fewestTurnsBySets_4 rfl (MP.retI rfl h1) (by decide) (by decide)
theorem g_fewestTurnsBySets_n (r : RowAt M 97 0 c) (hw : WF c) (hb : mbF c (2 ^ cn c) = none) : RETI G ad (d + 5) mX9_fewestTurnsBySets [.ref (ad 96)] (M, o) (some (.int (nI 0))) (QR 1 M) := by
  refine CM_of rfl (by decide) rfl (Nat.le_of_ble_eq_true rfl) rfl ?_
  have hn := hw.n
  have hk := hw.k
  have hw9 := hw.w9
  refine e_aload_n (pc' := 1) dX9_fewestTurnsBySets_0 rfl rfl rfl ?_
  refine r_VI (pc' := 4) (m' := mX9_fewest) (As := []) (st := []) (g_fewest_n (d := d) r hw hb) dX9_fewestTurnsBySets_1 rfl rfl (Nat.le_of_ble_eq_true rfl) (fit_of (by omega) (by decide) (by decide) (by decide)) ml_X9_143 okX9_fewest rfl rfl (by decide) rfl (fun M1 h1 => ?_)
  show EV _ _ _ _ _ 4 _ ([.int (nI 0)]) _
  exact e_iret dX9_fewestTurnsBySets_4 rfl (MP.retI rfl h1) (by decide) (by decide)
end T43

set_option maxHeartbeats 400000
/-! THE LAW: its wrappers -/
/-- it answers k, the outs are as F says, the ints as I says -/
def PW (k : Nat) (F : (Nat → Int64) × (Nat → UInt64) → Prop) (I : (Nat → Nat → Int32) → Prop) : PM := fun r S => r = .inl (some (.int (nI k))) ∧ ∃ M1 o1, S = (M1, o1) ∧ F o1 ∧ I M1
abbrev LO (v : Int64) : (Nat → Int64) × (Nat → UInt64) → Prop := fun o => o.1 0 = v
abbrev DO (v : UInt64) : (Nat → Int64) × (Nat → UInt64) → Prop := fun o => o.2 0 = v
abbrev NO : (Nat → Int64) × (Nat → UInt64) → Prop := fun _ => True
theorem vpl_0 {f : Nat → Int64} {x : Int64} : vp_updL f 0 x 0 = x := if_pos rfl
theorem vfl_0 {f : Nat → UInt64} {x : UInt64} : vf_upd f 0 x 0 = x := if_pos rfl
section T63
variable {G : gC} {ad : Nat → Nat} {d : Nat} {M : Nat → Nat → Int32} {o : (Nat → Int64) × (Nat → UInt64)} {I : (Nat → Nat → Int32) → Prop}
theorem wo_addMagnet (x : Int32) (y : Int32) (t : Int32) {v : Int32} (hM : RETI G ad d mX8_addMagnet [.ref (ad 0), .int (x), .int (y), .int (t)] (M, o) (some (.int v)) I) : CM G ad (d + 1) mL_addMagnet (1, 6) [.ref (ad 0), .int (x), .int (y), .int (t), .ref (ad 104)] (M, o) (PW 0 (LO v.toInt64) I) := by
  refine CM_ofH (List.cons_ne_nil _ _) (by decide) rfl (Nat.le_of_ble_eq_true rfl) rfl ?_
  refine e_aload (pc' := 2) dL_addMagnet_0 rfl rfl ?_
  refine e_iconst (pc' := 3) (v := nI 0) dL_addMagnet_2 rfl (by decide) ?_
  refine e_aload_n (pc' := 4) dL_addMagnet_3 rfl rfl rfl ?_
  refine e_iload_n (pc' := 5) dL_addMagnet_4 rfl rfl rfl ?_
  refine e_iload_n (pc' := 6) dL_addMagnet_5 rfl rfl rfl ?_
  refine e_iload_n (pc' := 7) dL_addMagnet_6 rfl rfl rfl ?_
  refine r_VI (pc' := 10) (m' := mX8_addMagnet) (As := [.int (x), .int (y), .int (t)]) (st := [.int (nI 0), .ref (ad 104)]) (hM) dL_addMagnet_7 rfl rfl (Nat.le_of_ble_eq_true rfl) (fit_of (by omega) (by decide) (by decide) (by decide)) ml_L_7 okX8_addMagnet rfl rfl (by decide) rfl (fun M1 hI => ?_)
  show EV _ _ _ _ _ 10 _ ([.int (v), .int (nI 0), .ref (ad 104)]) _
  refine e_i2l (pc' := 11) dL_addMagnet_10 rfl ?_
  refine p_last (pc' := 12) dL_addMagnet_11 rfl ?_
  refine e_goto (tgt := 23) dL_addMagnet_12 (by decide) ?_
  refine e_iconst (pc' := 24) (v := nI 0) dL_addMagnet_23 rfl (by decide) ?_
  exact e_iret dL_addMagnet_24 rfl (⟨(_, _), rfl, rfl, _, _, rfl, (show vp_updL o.1 0 _ 0 = _ from vpl_0), hI⟩) (by decide) (by decide)
theorem wt1_addMagnet (x : Int32) (y : Int32) (t : Int32) (hM : THRI G ad d mX8_addMagnet [.ref (ad 0), .int (x), .int (y), .int (t)] M o "java/lang/IllegalArgumentException" I) : CM G ad (d + 1) mL_addMagnet (1, 6) [.ref (ad 0), .int (x), .int (y), .int (t), .ref (ad 104)] (M, o) (PW 1 NO I) := by
  refine CM_ofH (List.cons_ne_nil _ _) (by decide) rfl (Nat.le_of_ble_eq_true rfl) rfl ?_
  refine e_aload (pc' := 2) dL_addMagnet_0 rfl rfl ?_
  refine e_iconst (pc' := 3) (v := nI 0) dL_addMagnet_2 rfl (by decide) ?_
  refine e_aload_n (pc' := 4) dL_addMagnet_3 rfl rfl rfl ?_
  refine e_iload_n (pc' := 5) dL_addMagnet_4 rfl rfl rfl ?_
  refine e_iload_n (pc' := 6) dL_addMagnet_5 rfl rfl rfl ?_
  refine e_iload_n (pc' := 7) dL_addMagnet_6 rfl rfl rfl ?_
  refine c_V (m' := mX8_addMagnet) (As := [.int (x), .int (y), .int (t)]) (st := [.int (nI 0), .ref (ad 104)]) hM dL_addMagnet_7 rfl rfl (Nat.le_of_ble_eq_true rfl) (fit_of (by omega) (by decide) (by decide) (by decide)) ml_L_7 okX8_addMagnet rfl rfl (by decide) rfl (fun v2 S2 h => by cases h.1) (fun E2 S2 h => ?_)
  obtain ⟨h3, M1, rfl, hI⟩ := h
  cases h3
  refine x_catch [] (0, 12, 15, 13) [(0, 12, 19, 15)] rfl (fun z hz => (by cases hz)) (by decide) (by decide) cl_L_13 ca_IllegalArgumentException (fun q => ?_)
  refine e_astore (pc' := 17) (L' := [some (.ref (ad 0)), some (.int (x)), some (.int (y)), some (.int (t)), some (.ref (ad 104)), some (.ref (q))]) dL_addMagnet_15 rfl (by decide) rfl ?_
  refine e_iconst (pc' := 18) (v := nI 1) dL_addMagnet_17 rfl (by decide) ?_
  exact e_iret dL_addMagnet_18 rfl (⟨(_, _), rfl, rfl, _, _, rfl, trivial, hI⟩) (by decide) (by decide)
theorem wt2_addMagnet (x : Int32) (y : Int32) (t : Int32) (hM : THRI G ad d mX8_addMagnet [.ref (ad 0), .int (x), .int (y), .int (t)] M o "java/lang/UnsupportedOperationException" I) : CM G ad (d + 1) mL_addMagnet (1, 6) [.ref (ad 0), .int (x), .int (y), .int (t), .ref (ad 104)] (M, o) (PW 2 NO I) := by
  refine CM_ofH (List.cons_ne_nil _ _) (by decide) rfl (Nat.le_of_ble_eq_true rfl) rfl ?_
  refine e_aload (pc' := 2) dL_addMagnet_0 rfl rfl ?_
  refine e_iconst (pc' := 3) (v := nI 0) dL_addMagnet_2 rfl (by decide) ?_
  refine e_aload_n (pc' := 4) dL_addMagnet_3 rfl rfl rfl ?_
  refine e_iload_n (pc' := 5) dL_addMagnet_4 rfl rfl rfl ?_
  refine e_iload_n (pc' := 6) dL_addMagnet_5 rfl rfl rfl ?_
  refine e_iload_n (pc' := 7) dL_addMagnet_6 rfl rfl rfl ?_
  refine c_V (m' := mX8_addMagnet) (As := [.int (x), .int (y), .int (t)]) (st := [.int (nI 0), .ref (ad 104)]) hM dL_addMagnet_7 rfl rfl (Nat.le_of_ble_eq_true rfl) (fit_of (by omega) (by decide) (by decide) (by decide)) ml_L_7 okX8_addMagnet rfl rfl (by decide) rfl (fun v2 S2 h => by cases h.1) (fun E2 S2 h => ?_)
  obtain ⟨h3, M1, rfl, hI⟩ := h
  cases h3
  refine x_catch [(0, 12, 15, 13)] (0, 12, 19, 15) [] rfl (fun z hz => (by rcases List.mem_cons.mp hz with rfl | hz; exact ⟨by decide, _, cl_L_13, List.mem_of_getElem? (i := 1) rfl⟩; cases hz)) (by decide) (by decide) cl_L_15 ca_UnsupportedOperationException (fun q => ?_)
  refine e_astore (pc' := 21) (L' := [some (.ref (ad 0)), some (.int (x)), some (.int (y)), some (.int (t)), some (.ref (ad 104)), some (.ref (q))]) dL_addMagnet_19 rfl (by decide) rfl ?_
  refine e_iconst (pc' := 22) (v := nI 2) dL_addMagnet_21 rfl (by decide) ?_
  exact e_iret dL_addMagnet_22 rfl (⟨(_, _), rfl, rfl, _, _, rfl, trivial, hI⟩) (by decide) (by decide)
theorem wo_setStrength (x : Int32) (y : Int32) {v : Int32} (hM : RETI G ad d mX8_setStrength [.ref (ad 0), .int (x), .int (y)] (M, o) (some (.int v)) I) : CM G ad (d + 1) mL_setStrength (1, 6) [.ref (ad 0), .int (x), .int (y), .ref (ad 104)] (M, o) (PW 0 (LO v.toInt64) I) := by
  refine CM_ofH (List.cons_ne_nil _ _) (by decide) rfl (Nat.le_of_ble_eq_true rfl) rfl ?_
  refine e_aload_n (pc' := 1) dL_setStrength_0 rfl rfl rfl ?_
  refine e_iconst (pc' := 2) (v := nI 0) dL_setStrength_1 rfl (by decide) ?_
  refine e_aload_n (pc' := 3) dL_setStrength_2 rfl rfl rfl ?_
  refine e_iload_n (pc' := 4) dL_setStrength_3 rfl rfl rfl ?_
  refine e_iload_n (pc' := 5) dL_setStrength_4 rfl rfl rfl ?_
  refine r_VI (pc' := 8) (m' := mX8_setStrength) (As := [.int (x), .int (y)]) (st := [.int (nI 0), .ref (ad 104)]) (hM) dL_setStrength_5 rfl rfl (Nat.le_of_ble_eq_true rfl) (fit_of (by omega) (by decide) (by decide) (by decide)) ml_L_17 okX8_setStrength rfl rfl (by decide) rfl (fun M1 hI => ?_)
  show EV _ _ _ _ _ 8 _ ([.int (v), .int (nI 0), .ref (ad 104)]) _
  refine e_i2l (pc' := 9) dL_setStrength_8 rfl ?_
  refine p_last (pc' := 10) dL_setStrength_9 rfl ?_
  refine e_goto (tgt := 21) dL_setStrength_10 (by decide) ?_
  refine e_iconst (pc' := 22) (v := nI 0) dL_setStrength_21 rfl (by decide) ?_
  exact e_iret dL_setStrength_22 rfl (⟨(_, _), rfl, rfl, _, _, rfl, (show vp_updL o.1 0 _ 0 = _ from vpl_0), hI⟩) (by decide) (by decide)
theorem wt1_setStrength (x : Int32) (y : Int32) (hM : THRI G ad d mX8_setStrength [.ref (ad 0), .int (x), .int (y)] M o "java/lang/IndexOutOfBoundsException" I) : CM G ad (d + 1) mL_setStrength (1, 6) [.ref (ad 0), .int (x), .int (y), .ref (ad 104)] (M, o) (PW 1 NO I) := by
  refine CM_ofH (List.cons_ne_nil _ _) (by decide) rfl (Nat.le_of_ble_eq_true rfl) rfl ?_
  refine e_aload_n (pc' := 1) dL_setStrength_0 rfl rfl rfl ?_
  refine e_iconst (pc' := 2) (v := nI 0) dL_setStrength_1 rfl (by decide) ?_
  refine e_aload_n (pc' := 3) dL_setStrength_2 rfl rfl rfl ?_
  refine e_iload_n (pc' := 4) dL_setStrength_3 rfl rfl rfl ?_
  refine e_iload_n (pc' := 5) dL_setStrength_4 rfl rfl rfl ?_
  refine c_V (m' := mX8_setStrength) (As := [.int (x), .int (y)]) (st := [.int (nI 0), .ref (ad 104)]) hM dL_setStrength_5 rfl rfl (Nat.le_of_ble_eq_true rfl) (fit_of (by omega) (by decide) (by decide) (by decide)) ml_L_17 okX8_setStrength rfl rfl (by decide) rfl (fun v2 S2 h => by cases h.1) (fun E2 S2 h => ?_)
  obtain ⟨h3, M1, rfl, hI⟩ := h
  cases h3
  refine x_catch [] (0, 10, 13, 21) [(0, 10, 17, 13)] rfl (fun z hz => (by cases hz)) (by decide) (by decide) cl_L_21 ca_IndexOutOfBoundsException (fun q => ?_)
  refine e_astore (pc' := 15) (L' := [some (.ref (ad 0)), some (.int (x)), some (.int (y)), some (.ref (ad 104)), some (.ref (q))]) dL_setStrength_13 rfl (by decide) rfl ?_
  refine e_iconst (pc' := 16) (v := nI 1) dL_setStrength_15 rfl (by decide) ?_
  exact e_iret dL_setStrength_16 rfl (⟨(_, _), rfl, rfl, _, _, rfl, trivial, hI⟩) (by decide) (by decide)
theorem wt2_setStrength (x : Int32) (y : Int32) (hM : THRI G ad d mX8_setStrength [.ref (ad 0), .int (x), .int (y)] M o "java/lang/IllegalArgumentException" I) : CM G ad (d + 1) mL_setStrength (1, 6) [.ref (ad 0), .int (x), .int (y), .ref (ad 104)] (M, o) (PW 2 NO I) := by
  refine CM_ofH (List.cons_ne_nil _ _) (by decide) rfl (Nat.le_of_ble_eq_true rfl) rfl ?_
  refine e_aload_n (pc' := 1) dL_setStrength_0 rfl rfl rfl ?_
  refine e_iconst (pc' := 2) (v := nI 0) dL_setStrength_1 rfl (by decide) ?_
  refine e_aload_n (pc' := 3) dL_setStrength_2 rfl rfl rfl ?_
  refine e_iload_n (pc' := 4) dL_setStrength_3 rfl rfl rfl ?_
  refine e_iload_n (pc' := 5) dL_setStrength_4 rfl rfl rfl ?_
  refine c_V (m' := mX8_setStrength) (As := [.int (x), .int (y)]) (st := [.int (nI 0), .ref (ad 104)]) hM dL_setStrength_5 rfl rfl (Nat.le_of_ble_eq_true rfl) (fit_of (by omega) (by decide) (by decide) (by decide)) ml_L_17 okX8_setStrength rfl rfl (by decide) rfl (fun v2 S2 h => by cases h.1) (fun E2 S2 h => ?_)
  obtain ⟨h3, M1, rfl, hI⟩ := h
  cases h3
  refine x_catch [(0, 10, 13, 21)] (0, 10, 17, 13) [] rfl (fun z hz => (by rcases List.mem_cons.mp hz with rfl | hz; exact ⟨by decide, _, cl_L_21, List.mem_of_getElem? (i := 0) rfl⟩; cases hz)) (by decide) (by decide) cl_L_13 ca_IllegalArgumentException (fun q => ?_)
  refine e_astore (pc' := 19) (L' := [some (.ref (ad 0)), some (.int (x)), some (.int (y)), some (.ref (ad 104)), some (.ref (q))]) dL_setStrength_17 rfl (by decide) rfl ?_
  refine e_iconst (pc' := 20) (v := nI 2) dL_setStrength_19 rfl (by decide) ?_
  exact e_iret dL_setStrength_20 rfl (⟨(_, _), rfl, rfl, _, _, rfl, trivial, hI⟩) (by decide) (by decide)
theorem wo_turn (x : Int32) {v : Int32} (hM : RETI G ad d mX8_turn [.ref (ad 0), .int (x)] (M, o) (some (.int v)) I) : CM G ad (d + 1) mL_turn (1, 6) [.ref (ad 0), .int (x), .ref (ad 104)] (M, o) (PW 0 (LO v.toInt64) I) := by
  refine CM_ofH (List.cons_ne_nil _ _) (by decide) rfl (Nat.le_of_ble_eq_true rfl) rfl ?_
  refine e_aload_n (pc' := 1) dL_turn_0 rfl rfl rfl ?_
  refine e_iconst (pc' := 2) (v := nI 0) dL_turn_1 rfl (by decide) ?_
  refine e_aload_n (pc' := 3) dL_turn_2 rfl rfl rfl ?_
  refine e_iload_n (pc' := 4) dL_turn_3 rfl rfl rfl ?_
  refine r_VI (pc' := 7) (m' := mX8_turn) (As := [.int (x)]) (st := [.int (nI 0), .ref (ad 104)]) (hM) dL_turn_4 rfl rfl (Nat.le_of_ble_eq_true rfl) (fit_of (by omega) (by decide) (by decide) (by decide)) ml_L_23 okX8_turn rfl rfl (by decide) rfl (fun M1 hI => ?_)
  show EV _ _ _ _ _ 7 _ ([.int (v), .int (nI 0), .ref (ad 104)]) _
  refine e_i2l (pc' := 8) dL_turn_7 rfl ?_
  refine p_last (pc' := 9) dL_turn_8 rfl ?_
  refine e_goto (tgt := 15) dL_turn_9 (by decide) ?_
  refine e_iconst (pc' := 16) (v := nI 0) dL_turn_15 rfl (by decide) ?_
  exact e_iret dL_turn_16 rfl (⟨(_, _), rfl, rfl, _, _, rfl, (show vp_updL o.1 0 _ 0 = _ from vpl_0), hI⟩) (by decide) (by decide)
theorem wt1_turn (x : Int32) (hM : THRI G ad d mX8_turn [.ref (ad 0), .int (x)] M o "java/lang/IndexOutOfBoundsException" I) : CM G ad (d + 1) mL_turn (1, 6) [.ref (ad 0), .int (x), .ref (ad 104)] (M, o) (PW 1 NO I) := by
  refine CM_ofH (List.cons_ne_nil _ _) (by decide) rfl (Nat.le_of_ble_eq_true rfl) rfl ?_
  refine e_aload_n (pc' := 1) dL_turn_0 rfl rfl rfl ?_
  refine e_iconst (pc' := 2) (v := nI 0) dL_turn_1 rfl (by decide) ?_
  refine e_aload_n (pc' := 3) dL_turn_2 rfl rfl rfl ?_
  refine e_iload_n (pc' := 4) dL_turn_3 rfl rfl rfl ?_
  refine c_V (m' := mX8_turn) (As := [.int (x)]) (st := [.int (nI 0), .ref (ad 104)]) hM dL_turn_4 rfl rfl (Nat.le_of_ble_eq_true rfl) (fit_of (by omega) (by decide) (by decide) (by decide)) ml_L_23 okX8_turn rfl rfl (by decide) rfl (fun v2 S2 h => by cases h.1) (fun E2 S2 h => ?_)
  obtain ⟨h3, M1, rfl, hI⟩ := h
  cases h3
  refine x_catch [] (0, 9, 12, 21) [] rfl (fun z hz => (by cases hz)) (by decide) (by decide) cl_L_21 ca_IndexOutOfBoundsException (fun q => ?_)
  refine e_astore_n (pc' := 13) (L' := [some (.ref (ad 0)), some (.int (x)), some (.ref (ad 104)), some (.ref (q))]) dL_turn_12 rfl rfl (by decide) rfl ?_
  refine e_iconst (pc' := 14) (v := nI 1) dL_turn_13 rfl (by decide) ?_
  exact e_iret dL_turn_14 rfl (⟨(_, _), rfl, rfl, _, _, rfl, trivial, hI⟩) (by decide) (by decide)
theorem wo_shift (x : Int32) {v : Int32} (hM : RETI G ad d mX8_shift [.ref (ad 0), .int (x)] (M, o) (some (.int v)) I) : CM G ad (d + 1) mL_shift (1, 6) [.ref (ad 0), .int (x), .ref (ad 104)] (M, o) (PW 0 (LO v.toInt64) I) := by
  refine CM_ofH (List.cons_ne_nil _ _) (by decide) rfl (Nat.le_of_ble_eq_true rfl) rfl ?_
  refine e_aload_n (pc' := 1) dL_shift_0 rfl rfl rfl ?_
  refine e_iconst (pc' := 2) (v := nI 0) dL_shift_1 rfl (by decide) ?_
  refine e_aload_n (pc' := 3) dL_shift_2 rfl rfl rfl ?_
  refine e_iload_n (pc' := 4) dL_shift_3 rfl rfl rfl ?_
  refine r_VI (pc' := 7) (m' := mX8_shift) (As := [.int (x)]) (st := [.int (nI 0), .ref (ad 104)]) (hM) dL_shift_4 rfl rfl (Nat.le_of_ble_eq_true rfl) (fit_of (by omega) (by decide) (by decide) (by decide)) ml_L_27 okX8_shift rfl rfl (by decide) rfl (fun M1 hI => ?_)
  show EV _ _ _ _ _ 7 _ ([.int (v), .int (nI 0), .ref (ad 104)]) _
  refine e_i2l (pc' := 8) dL_shift_7 rfl ?_
  refine p_last (pc' := 9) dL_shift_8 rfl ?_
  refine e_goto (tgt := 15) dL_shift_9 (by decide) ?_
  refine e_iconst (pc' := 16) (v := nI 0) dL_shift_15 rfl (by decide) ?_
  exact e_iret dL_shift_16 rfl (⟨(_, _), rfl, rfl, _, _, rfl, (show vp_updL o.1 0 _ 0 = _ from vpl_0), hI⟩) (by decide) (by decide)
theorem wt1_shift (x : Int32) (hM : THRI G ad d mX8_shift [.ref (ad 0), .int (x)] M o "java/lang/IllegalArgumentException" I) : CM G ad (d + 1) mL_shift (1, 6) [.ref (ad 0), .int (x), .ref (ad 104)] (M, o) (PW 1 NO I) := by
  refine CM_ofH (List.cons_ne_nil _ _) (by decide) rfl (Nat.le_of_ble_eq_true rfl) rfl ?_
  refine e_aload_n (pc' := 1) dL_shift_0 rfl rfl rfl ?_
  refine e_iconst (pc' := 2) (v := nI 0) dL_shift_1 rfl (by decide) ?_
  refine e_aload_n (pc' := 3) dL_shift_2 rfl rfl rfl ?_
  refine e_iload_n (pc' := 4) dL_shift_3 rfl rfl rfl ?_
  refine c_V (m' := mX8_shift) (As := [.int (x)]) (st := [.int (nI 0), .ref (ad 104)]) hM dL_shift_4 rfl rfl (Nat.le_of_ble_eq_true rfl) (fit_of (by omega) (by decide) (by decide) (by decide)) ml_L_27 okX8_shift rfl rfl (by decide) rfl (fun v2 S2 h => by cases h.1) (fun E2 S2 h => ?_)
  obtain ⟨h3, M1, rfl, hI⟩ := h
  cases h3
  refine x_catch [] (0, 9, 12, 13) [] rfl (fun z hz => (by cases hz)) (by decide) (by decide) cl_L_13 ca_IllegalArgumentException (fun q => ?_)
  refine e_astore_n (pc' := 13) (L' := [some (.ref (ad 0)), some (.int (x)), some (.ref (ad 104)), some (.ref (q))]) dL_shift_12 rfl rfl (by decide) rfl ?_
  refine e_iconst (pc' := 14) (v := nI 1) dL_shift_13 rfl (by decide) ?_
  exact e_iret dL_shift_14 rfl (⟨(_, _), rfl, rfl, _, _, rfl, trivial, hI⟩) (by decide) (by decide)
theorem wo_position (x : Int32) {v : Int32} (hM : RETI G ad d mX8_position [.ref (ad 0), .int (x)] (M, o) (some (.int v)) I) : CM G ad (d + 1) mL_position (1, 6) [.ref (ad 0), .int (x), .ref (ad 104)] (M, o) (PW 0 (LO v.toInt64) I) := by
  refine CM_ofH (List.cons_ne_nil _ _) (by decide) rfl (Nat.le_of_ble_eq_true rfl) rfl ?_
  refine e_aload_n (pc' := 1) dL_position_0 rfl rfl rfl ?_
  refine e_iconst (pc' := 2) (v := nI 0) dL_position_1 rfl (by decide) ?_
  refine e_aload_n (pc' := 3) dL_position_2 rfl rfl rfl ?_
  refine e_iload_n (pc' := 4) dL_position_3 rfl rfl rfl ?_
  refine r_VI (pc' := 7) (m' := mX8_position) (As := [.int (x)]) (st := [.int (nI 0), .ref (ad 104)]) (hM) dL_position_4 rfl rfl (Nat.le_of_ble_eq_true rfl) (fit_of (by omega) (by decide) (by decide) (by decide)) ml_L_30 okX8_position rfl rfl (by decide) rfl (fun M1 hI => ?_)
  show EV _ _ _ _ _ 7 _ ([.int (v), .int (nI 0), .ref (ad 104)]) _
  refine e_i2l (pc' := 8) dL_position_7 rfl ?_
  refine p_last (pc' := 9) dL_position_8 rfl ?_
  refine e_goto (tgt := 15) dL_position_9 (by decide) ?_
  refine e_iconst (pc' := 16) (v := nI 0) dL_position_15 rfl (by decide) ?_
  exact e_iret dL_position_16 rfl (⟨(_, _), rfl, rfl, _, _, rfl, (show vp_updL o.1 0 _ 0 = _ from vpl_0), hI⟩) (by decide) (by decide)
theorem wt1_position (x : Int32) (hM : THRI G ad d mX8_position [.ref (ad 0), .int (x)] M o "java/lang/IndexOutOfBoundsException" I) : CM G ad (d + 1) mL_position (1, 6) [.ref (ad 0), .int (x), .ref (ad 104)] (M, o) (PW 1 NO I) := by
  refine CM_ofH (List.cons_ne_nil _ _) (by decide) rfl (Nat.le_of_ble_eq_true rfl) rfl ?_
  refine e_aload_n (pc' := 1) dL_position_0 rfl rfl rfl ?_
  refine e_iconst (pc' := 2) (v := nI 0) dL_position_1 rfl (by decide) ?_
  refine e_aload_n (pc' := 3) dL_position_2 rfl rfl rfl ?_
  refine e_iload_n (pc' := 4) dL_position_3 rfl rfl rfl ?_
  refine c_V (m' := mX8_position) (As := [.int (x)]) (st := [.int (nI 0), .ref (ad 104)]) hM dL_position_4 rfl rfl (Nat.le_of_ble_eq_true rfl) (fit_of (by omega) (by decide) (by decide) (by decide)) ml_L_30 okX8_position rfl rfl (by decide) rfl (fun v2 S2 h => by cases h.1) (fun E2 S2 h => ?_)
  obtain ⟨h3, M1, rfl, hI⟩ := h
  cases h3
  refine x_catch [] (0, 9, 12, 21) [] rfl (fun z hz => (by cases hz)) (by decide) (by decide) cl_L_21 ca_IndexOutOfBoundsException (fun q => ?_)
  refine e_astore_n (pc' := 13) (L' := [some (.ref (ad 0)), some (.int (x)), some (.ref (ad 104)), some (.ref (q))]) dL_position_12 rfl rfl (by decide) rfl ?_
  refine e_iconst (pc' := 14) (v := nI 1) dL_position_13 rfl (by decide) ?_
  exact e_iret dL_position_14 rfl (⟨(_, _), rfl, rfl, _, _, rfl, trivial, hI⟩) (by decide) (by decide)
theorem wo_strength (x : Int32) {v : Int32} (hM : RETI G ad d mX8_strength [.ref (ad 0), .int (x)] (M, o) (some (.int v)) I) : CM G ad (d + 1) mL_strength (1, 6) [.ref (ad 0), .int (x), .ref (ad 104)] (M, o) (PW 0 (LO v.toInt64) I) := by
  refine CM_ofH (List.cons_ne_nil _ _) (by decide) rfl (Nat.le_of_ble_eq_true rfl) rfl ?_
  refine e_aload_n (pc' := 1) dL_strength_0 rfl rfl rfl ?_
  refine e_iconst (pc' := 2) (v := nI 0) dL_strength_1 rfl (by decide) ?_
  refine e_aload_n (pc' := 3) dL_strength_2 rfl rfl rfl ?_
  refine e_iload_n (pc' := 4) dL_strength_3 rfl rfl rfl ?_
  refine r_VI (pc' := 7) (m' := mX8_strength) (As := [.int (x)]) (st := [.int (nI 0), .ref (ad 104)]) (hM) dL_strength_4 rfl rfl (Nat.le_of_ble_eq_true rfl) (fit_of (by omega) (by decide) (by decide) (by decide)) ml_L_33 okX8_strength rfl rfl (by decide) rfl (fun M1 hI => ?_)
  show EV _ _ _ _ _ 7 _ ([.int (v), .int (nI 0), .ref (ad 104)]) _
  refine e_i2l (pc' := 8) dL_strength_7 rfl ?_
  refine p_last (pc' := 9) dL_strength_8 rfl ?_
  refine e_goto (tgt := 15) dL_strength_9 (by decide) ?_
  refine e_iconst (pc' := 16) (v := nI 0) dL_strength_15 rfl (by decide) ?_
  exact e_iret dL_strength_16 rfl (⟨(_, _), rfl, rfl, _, _, rfl, (show vp_updL o.1 0 _ 0 = _ from vpl_0), hI⟩) (by decide) (by decide)
theorem wt1_strength (x : Int32) (hM : THRI G ad d mX8_strength [.ref (ad 0), .int (x)] M o "java/lang/IndexOutOfBoundsException" I) : CM G ad (d + 1) mL_strength (1, 6) [.ref (ad 0), .int (x), .ref (ad 104)] (M, o) (PW 1 NO I) := by
  refine CM_ofH (List.cons_ne_nil _ _) (by decide) rfl (Nat.le_of_ble_eq_true rfl) rfl ?_
  refine e_aload_n (pc' := 1) dL_strength_0 rfl rfl rfl ?_
  refine e_iconst (pc' := 2) (v := nI 0) dL_strength_1 rfl (by decide) ?_
  refine e_aload_n (pc' := 3) dL_strength_2 rfl rfl rfl ?_
  refine e_iload_n (pc' := 4) dL_strength_3 rfl rfl rfl ?_
  refine c_V (m' := mX8_strength) (As := [.int (x)]) (st := [.int (nI 0), .ref (ad 104)]) hM dL_strength_4 rfl rfl (Nat.le_of_ble_eq_true rfl) (fit_of (by omega) (by decide) (by decide) (by decide)) ml_L_33 okX8_strength rfl rfl (by decide) rfl (fun v2 S2 h => by cases h.1) (fun E2 S2 h => ?_)
  obtain ⟨h3, M1, rfl, hI⟩ := h
  cases h3
  refine x_catch [] (0, 9, 12, 21) [] rfl (fun z hz => (by cases hz)) (by decide) (by decide) cl_L_21 ca_IndexOutOfBoundsException (fun q => ?_)
  refine e_astore_n (pc' := 13) (L' := [some (.ref (ad 0)), some (.int (x)), some (.ref (ad 104)), some (.ref (q))]) dL_strength_12 rfl rfl (by decide) rfl ?_
  refine e_iconst (pc' := 14) (v := nI 1) dL_strength_13 rfl (by decide) ?_
  exact e_iret dL_strength_14 rfl (⟨(_, _), rfl, rfl, _, _, rfl, trivial, hI⟩) (by decide) (by decide)
theorem wo_pole (x : Int32) {v : Int32} (hM : RETI G ad d mX8_pole [.ref (ad 0), .int (x)] (M, o) (some (.int v)) I) : CM G ad (d + 1) mL_pole (1, 6) [.ref (ad 0), .int (x), .ref (ad 104)] (M, o) (PW 0 (LO v.toInt64) I) := by
  refine CM_ofH (List.cons_ne_nil _ _) (by decide) rfl (Nat.le_of_ble_eq_true rfl) rfl ?_
  refine e_aload_n (pc' := 1) dL_pole_0 rfl rfl rfl ?_
  refine e_iconst (pc' := 2) (v := nI 0) dL_pole_1 rfl (by decide) ?_
  refine e_aload_n (pc' := 3) dL_pole_2 rfl rfl rfl ?_
  refine e_iload_n (pc' := 4) dL_pole_3 rfl rfl rfl ?_
  refine r_VI (pc' := 7) (m' := mX8_pole) (As := [.int (x)]) (st := [.int (nI 0), .ref (ad 104)]) (hM) dL_pole_4 rfl rfl (Nat.le_of_ble_eq_true rfl) (fit_of (by omega) (by decide) (by decide) (by decide)) ml_L_36 okX8_pole rfl rfl (by decide) rfl (fun M1 hI => ?_)
  show EV _ _ _ _ _ 7 _ ([.int (v), .int (nI 0), .ref (ad 104)]) _
  refine e_i2l (pc' := 8) dL_pole_7 rfl ?_
  refine p_last (pc' := 9) dL_pole_8 rfl ?_
  refine e_goto (tgt := 15) dL_pole_9 (by decide) ?_
  refine e_iconst (pc' := 16) (v := nI 0) dL_pole_15 rfl (by decide) ?_
  exact e_iret dL_pole_16 rfl (⟨(_, _), rfl, rfl, _, _, rfl, (show vp_updL o.1 0 _ 0 = _ from vpl_0), hI⟩) (by decide) (by decide)
theorem wt1_pole (x : Int32) (hM : THRI G ad d mX8_pole [.ref (ad 0), .int (x)] M o "java/lang/IndexOutOfBoundsException" I) : CM G ad (d + 1) mL_pole (1, 6) [.ref (ad 0), .int (x), .ref (ad 104)] (M, o) (PW 1 NO I) := by
  refine CM_ofH (List.cons_ne_nil _ _) (by decide) rfl (Nat.le_of_ble_eq_true rfl) rfl ?_
  refine e_aload_n (pc' := 1) dL_pole_0 rfl rfl rfl ?_
  refine e_iconst (pc' := 2) (v := nI 0) dL_pole_1 rfl (by decide) ?_
  refine e_aload_n (pc' := 3) dL_pole_2 rfl rfl rfl ?_
  refine e_iload_n (pc' := 4) dL_pole_3 rfl rfl rfl ?_
  refine c_V (m' := mX8_pole) (As := [.int (x)]) (st := [.int (nI 0), .ref (ad 104)]) hM dL_pole_4 rfl rfl (Nat.le_of_ble_eq_true rfl) (fit_of (by omega) (by decide) (by decide) (by decide)) ml_L_36 okX8_pole rfl rfl (by decide) rfl (fun v2 S2 h => by cases h.1) (fun E2 S2 h => ?_)
  obtain ⟨h3, M1, rfl, hI⟩ := h
  cases h3
  refine x_catch [] (0, 9, 12, 21) [] rfl (fun z hz => (by cases hz)) (by decide) (by decide) cl_L_21 ca_IndexOutOfBoundsException (fun q => ?_)
  refine e_astore_n (pc' := 13) (L' := [some (.ref (ad 0)), some (.int (x)), some (.ref (ad 104)), some (.ref (q))]) dL_pole_12 rfl rfl (by decide) rfl ?_
  refine e_iconst (pc' := 14) (v := nI 1) dL_pole_13 rfl (by decide) ?_
  exact e_iret dL_pole_14 rfl (⟨(_, _), rfl, rfl, _, _, rfl, trivial, hI⟩) (by decide) (by decide)
theorem wo_magnetAt (x : Int32) {v : Int32} (hM : RETI G ad d mX8_magnetAt [.ref (ad 0), .int (x)] (M, o) (some (.int v)) I) : CM G ad (d + 1) mL_magnetAt (1, 6) [.ref (ad 0), .int (x), .ref (ad 104)] (M, o) (PW 0 (LO v.toInt64) I) := by
  refine CM_ofH (List.cons_ne_nil _ _) (by decide) rfl (Nat.le_of_ble_eq_true rfl) rfl ?_
  refine e_aload_n (pc' := 1) dL_magnetAt_0 rfl rfl rfl ?_
  refine e_iconst (pc' := 2) (v := nI 0) dL_magnetAt_1 rfl (by decide) ?_
  refine e_aload_n (pc' := 3) dL_magnetAt_2 rfl rfl rfl ?_
  refine e_iload_n (pc' := 4) dL_magnetAt_3 rfl rfl rfl ?_
  refine r_VI (pc' := 7) (m' := mX8_magnetAt) (As := [.int (x)]) (st := [.int (nI 0), .ref (ad 104)]) (hM) dL_magnetAt_4 rfl rfl (Nat.le_of_ble_eq_true rfl) (fit_of (by omega) (by decide) (by decide) (by decide)) ml_L_40 okX8_magnetAt rfl rfl (by decide) rfl (fun M1 hI => ?_)
  show EV _ _ _ _ _ 7 _ ([.int (v), .int (nI 0), .ref (ad 104)]) _
  refine e_i2l (pc' := 8) dL_magnetAt_7 rfl ?_
  refine p_last (pc' := 9) dL_magnetAt_8 rfl ?_
  refine e_goto (tgt := 18) dL_magnetAt_9 (by decide) ?_
  refine e_iconst (pc' := 19) (v := nI 0) dL_magnetAt_18 rfl (by decide) ?_
  exact e_iret dL_magnetAt_19 rfl (⟨(_, _), rfl, rfl, _, _, rfl, (show vp_updL o.1 0 _ 0 = _ from vpl_0), hI⟩) (by decide) (by decide)
theorem wt1_magnetAt (x : Int32) (hM : THRI G ad d mX8_magnetAt [.ref (ad 0), .int (x)] M o "java/lang/IllegalArgumentException" I) : CM G ad (d + 1) mL_magnetAt (1, 6) [.ref (ad 0), .int (x), .ref (ad 104)] (M, o) (PW 1 NO I) := by
  refine CM_ofH (List.cons_ne_nil _ _) (by decide) rfl (Nat.le_of_ble_eq_true rfl) rfl ?_
  refine e_aload_n (pc' := 1) dL_magnetAt_0 rfl rfl rfl ?_
  refine e_iconst (pc' := 2) (v := nI 0) dL_magnetAt_1 rfl (by decide) ?_
  refine e_aload_n (pc' := 3) dL_magnetAt_2 rfl rfl rfl ?_
  refine e_iload_n (pc' := 4) dL_magnetAt_3 rfl rfl rfl ?_
  refine c_V (m' := mX8_magnetAt) (As := [.int (x)]) (st := [.int (nI 0), .ref (ad 104)]) hM dL_magnetAt_4 rfl rfl (Nat.le_of_ble_eq_true rfl) (fit_of (by omega) (by decide) (by decide) (by decide)) ml_L_40 okX8_magnetAt rfl rfl (by decide) rfl (fun v2 S2 h => by cases h.1) (fun E2 S2 h => ?_)
  obtain ⟨h3, M1, rfl, hI⟩ := h
  cases h3
  refine x_catch [] (0, 9, 12, 13) [(0, 9, 15, 43)] rfl (fun z hz => (by cases hz)) (by decide) (by decide) cl_L_13 ca_IllegalArgumentException (fun q => ?_)
  refine e_astore_n (pc' := 13) (L' := [some (.ref (ad 0)), some (.int (x)), some (.ref (ad 104)), some (.ref (q))]) dL_magnetAt_12 rfl rfl (by decide) rfl ?_
  refine e_iconst (pc' := 14) (v := nI 1) dL_magnetAt_13 rfl (by decide) ?_
  exact e_iret dL_magnetAt_14 rfl (⟨(_, _), rfl, rfl, _, _, rfl, trivial, hI⟩) (by decide) (by decide)
theorem wt2_magnetAt (x : Int32) (hM : THRI G ad d mX8_magnetAt [.ref (ad 0), .int (x)] M o "java/util/NoSuchElementException" I) : CM G ad (d + 1) mL_magnetAt (1, 6) [.ref (ad 0), .int (x), .ref (ad 104)] (M, o) (PW 2 NO I) := by
  refine CM_ofH (List.cons_ne_nil _ _) (by decide) rfl (Nat.le_of_ble_eq_true rfl) rfl ?_
  refine e_aload_n (pc' := 1) dL_magnetAt_0 rfl rfl rfl ?_
  refine e_iconst (pc' := 2) (v := nI 0) dL_magnetAt_1 rfl (by decide) ?_
  refine e_aload_n (pc' := 3) dL_magnetAt_2 rfl rfl rfl ?_
  refine e_iload_n (pc' := 4) dL_magnetAt_3 rfl rfl rfl ?_
  refine c_V (m' := mX8_magnetAt) (As := [.int (x)]) (st := [.int (nI 0), .ref (ad 104)]) hM dL_magnetAt_4 rfl rfl (Nat.le_of_ble_eq_true rfl) (fit_of (by omega) (by decide) (by decide) (by decide)) ml_L_40 okX8_magnetAt rfl rfl (by decide) rfl (fun v2 S2 h => by cases h.1) (fun E2 S2 h => ?_)
  obtain ⟨h3, M1, rfl, hI⟩ := h
  cases h3
  refine x_catch [(0, 9, 12, 13)] (0, 9, 15, 43) [] rfl (fun z hz => (by rcases List.mem_cons.mp hz with rfl | hz; exact ⟨by decide, _, cl_L_13, List.mem_of_getElem? (i := 3) rfl⟩; cases hz)) (by decide) (by decide) cl_L_43 ca_NoSuchElementException (fun q => ?_)
  refine e_astore_n (pc' := 16) (L' := [some (.ref (ad 0)), some (.int (x)), some (.ref (ad 104)), some (.ref (q))]) dL_magnetAt_15 rfl rfl (by decide) rfl ?_
  refine e_iconst (pc' := 17) (v := nI 2) dL_magnetAt_16 rfl (by decide) ?_
  exact e_iret dL_magnetAt_17 rfl (⟨(_, _), rfl, rfl, _, _, rfl, trivial, hI⟩) (by decide) (by decide)
theorem wo_magnetByStrength (x : Int32) {v : Int32} (hM : RETI G ad d mX8_magnetByStrength [.ref (ad 0), .int (x)] (M, o) (some (.int v)) I) : CM G ad (d + 1) mL_magnetByStrength (1, 6) [.ref (ad 0), .int (x), .ref (ad 104)] (M, o) (PW 0 (LO v.toInt64) I) := by
  refine CM_ofH (List.cons_ne_nil _ _) (by decide) rfl (Nat.le_of_ble_eq_true rfl) rfl ?_
  refine e_aload_n (pc' := 1) dL_magnetByStrength_0 rfl rfl rfl ?_
  refine e_iconst (pc' := 2) (v := nI 0) dL_magnetByStrength_1 rfl (by decide) ?_
  refine e_aload_n (pc' := 3) dL_magnetByStrength_2 rfl rfl rfl ?_
  refine e_iload_n (pc' := 4) dL_magnetByStrength_3 rfl rfl rfl ?_
  refine r_VI (pc' := 7) (m' := mX8_magnetByStrength) (As := [.int (x)]) (st := [.int (nI 0), .ref (ad 104)]) (hM) dL_magnetByStrength_4 rfl rfl (Nat.le_of_ble_eq_true rfl) (fit_of (by omega) (by decide) (by decide) (by decide)) ml_L_45 okX8_magnetByStrength rfl rfl (by decide) rfl (fun M1 hI => ?_)
  show EV _ _ _ _ _ 7 _ ([.int (v), .int (nI 0), .ref (ad 104)]) _
  refine e_i2l (pc' := 8) dL_magnetByStrength_7 rfl ?_
  refine p_last (pc' := 9) dL_magnetByStrength_8 rfl ?_
  refine e_goto (tgt := 15) dL_magnetByStrength_9 (by decide) ?_
  refine e_iconst (pc' := 16) (v := nI 0) dL_magnetByStrength_15 rfl (by decide) ?_
  exact e_iret dL_magnetByStrength_16 rfl (⟨(_, _), rfl, rfl, _, _, rfl, (show vp_updL o.1 0 _ 0 = _ from vpl_0), hI⟩) (by decide) (by decide)
theorem wt1_magnetByStrength (x : Int32) (hM : THRI G ad d mX8_magnetByStrength [.ref (ad 0), .int (x)] M o "java/util/NoSuchElementException" I) : CM G ad (d + 1) mL_magnetByStrength (1, 6) [.ref (ad 0), .int (x), .ref (ad 104)] (M, o) (PW 1 NO I) := by
  refine CM_ofH (List.cons_ne_nil _ _) (by decide) rfl (Nat.le_of_ble_eq_true rfl) rfl ?_
  refine e_aload_n (pc' := 1) dL_magnetByStrength_0 rfl rfl rfl ?_
  refine e_iconst (pc' := 2) (v := nI 0) dL_magnetByStrength_1 rfl (by decide) ?_
  refine e_aload_n (pc' := 3) dL_magnetByStrength_2 rfl rfl rfl ?_
  refine e_iload_n (pc' := 4) dL_magnetByStrength_3 rfl rfl rfl ?_
  refine c_V (m' := mX8_magnetByStrength) (As := [.int (x)]) (st := [.int (nI 0), .ref (ad 104)]) hM dL_magnetByStrength_4 rfl rfl (Nat.le_of_ble_eq_true rfl) (fit_of (by omega) (by decide) (by decide) (by decide)) ml_L_45 okX8_magnetByStrength rfl rfl (by decide) rfl (fun v2 S2 h => by cases h.1) (fun E2 S2 h => ?_)
  obtain ⟨h3, M1, rfl, hI⟩ := h
  cases h3
  refine x_catch [] (0, 9, 12, 43) [] rfl (fun z hz => (by cases hz)) (by decide) (by decide) cl_L_43 ca_NoSuchElementException (fun q => ?_)
  refine e_astore_n (pc' := 13) (L' := [some (.ref (ad 0)), some (.int (x)), some (.ref (ad 104)), some (.ref (q))]) dL_magnetByStrength_12 rfl rfl (by decide) rfl ?_
  refine e_iconst (pc' := 14) (v := nI 1) dL_magnetByStrength_13 rfl (by decide) ?_
  exact e_iret dL_magnetByStrength_14 rfl (⟨(_, _), rfl, rfl, _, _, rfl, trivial, hI⟩) (by decide) (by decide)
theorem wo_dig (x : Int32) (y : Int32) {v : Int32} (hM : RETI G ad d mX8_dig [.ref (ad 0), .int (x), .int (y)] (M, o) (some (.int v)) I) : CM G ad (d + 1) mL_dig (1, 6) [.ref (ad 0), .int (x), .int (y), .ref (ad 104)] (M, o) (PW 0 (LO v.toInt64) I) := by
  refine CM_ofH (List.cons_ne_nil _ _) (by decide) rfl (Nat.le_of_ble_eq_true rfl) rfl ?_
  refine e_aload_n (pc' := 1) dL_dig_0 rfl rfl rfl ?_
  refine e_iconst (pc' := 2) (v := nI 0) dL_dig_1 rfl (by decide) ?_
  refine e_aload_n (pc' := 3) dL_dig_2 rfl rfl rfl ?_
  refine e_iload_n (pc' := 4) dL_dig_3 rfl rfl rfl ?_
  refine e_iload_n (pc' := 5) dL_dig_4 rfl rfl rfl ?_
  refine r_VI (pc' := 8) (m' := mX8_dig) (As := [.int (x), .int (y)]) (st := [.int (nI 0), .ref (ad 104)]) (hM) dL_dig_5 rfl rfl (Nat.le_of_ble_eq_true rfl) (fit_of (by omega) (by decide) (by decide) (by decide)) ml_L_48 okX8_dig rfl rfl (by decide) rfl (fun M1 hI => ?_)
  show EV _ _ _ _ _ 8 _ ([.int (v), .int (nI 0), .ref (ad 104)]) _
  refine e_i2l (pc' := 9) dL_dig_8 rfl ?_
  refine p_last (pc' := 10) dL_dig_9 rfl ?_
  refine e_goto (tgt := 25) dL_dig_10 (by decide) ?_
  refine e_iconst (pc' := 26) (v := nI 0) dL_dig_25 rfl (by decide) ?_
  exact e_iret dL_dig_26 rfl (⟨(_, _), rfl, rfl, _, _, rfl, (show vp_updL o.1 0 _ 0 = _ from vpl_0), hI⟩) (by decide) (by decide)
theorem wt1_dig (x : Int32) (y : Int32) (hM : THRI G ad d mX8_dig [.ref (ad 0), .int (x), .int (y)] M o "java/lang/IndexOutOfBoundsException" I) : CM G ad (d + 1) mL_dig (1, 6) [.ref (ad 0), .int (x), .int (y), .ref (ad 104)] (M, o) (PW 1 NO I) := by
  refine CM_ofH (List.cons_ne_nil _ _) (by decide) rfl (Nat.le_of_ble_eq_true rfl) rfl ?_
  refine e_aload_n (pc' := 1) dL_dig_0 rfl rfl rfl ?_
  refine e_iconst (pc' := 2) (v := nI 0) dL_dig_1 rfl (by decide) ?_
  refine e_aload_n (pc' := 3) dL_dig_2 rfl rfl rfl ?_
  refine e_iload_n (pc' := 4) dL_dig_3 rfl rfl rfl ?_
  refine e_iload_n (pc' := 5) dL_dig_4 rfl rfl rfl ?_
  refine c_V (m' := mX8_dig) (As := [.int (x), .int (y)]) (st := [.int (nI 0), .ref (ad 104)]) hM dL_dig_5 rfl rfl (Nat.le_of_ble_eq_true rfl) (fit_of (by omega) (by decide) (by decide) (by decide)) ml_L_48 okX8_dig rfl rfl (by decide) rfl (fun v2 S2 h => by cases h.1) (fun E2 S2 h => ?_)
  obtain ⟨h3, M1, rfl, hI⟩ := h
  cases h3
  refine x_catch [] (0, 10, 13, 21) [(0, 10, 17, 13), (0, 10, 21, 15)] rfl (fun z hz => (by cases hz)) (by decide) (by decide) cl_L_21 ca_IndexOutOfBoundsException (fun q => ?_)
  refine e_astore (pc' := 15) (L' := [some (.ref (ad 0)), some (.int (x)), some (.int (y)), some (.ref (ad 104)), some (.ref (q))]) dL_dig_13 rfl (by decide) rfl ?_
  refine e_iconst (pc' := 16) (v := nI 1) dL_dig_15 rfl (by decide) ?_
  exact e_iret dL_dig_16 rfl (⟨(_, _), rfl, rfl, _, _, rfl, trivial, hI⟩) (by decide) (by decide)
theorem wt2_dig (x : Int32) (y : Int32) (hM : THRI G ad d mX8_dig [.ref (ad 0), .int (x), .int (y)] M o "java/lang/IllegalArgumentException" I) : CM G ad (d + 1) mL_dig (1, 6) [.ref (ad 0), .int (x), .int (y), .ref (ad 104)] (M, o) (PW 2 NO I) := by
  refine CM_ofH (List.cons_ne_nil _ _) (by decide) rfl (Nat.le_of_ble_eq_true rfl) rfl ?_
  refine e_aload_n (pc' := 1) dL_dig_0 rfl rfl rfl ?_
  refine e_iconst (pc' := 2) (v := nI 0) dL_dig_1 rfl (by decide) ?_
  refine e_aload_n (pc' := 3) dL_dig_2 rfl rfl rfl ?_
  refine e_iload_n (pc' := 4) dL_dig_3 rfl rfl rfl ?_
  refine e_iload_n (pc' := 5) dL_dig_4 rfl rfl rfl ?_
  refine c_V (m' := mX8_dig) (As := [.int (x), .int (y)]) (st := [.int (nI 0), .ref (ad 104)]) hM dL_dig_5 rfl rfl (Nat.le_of_ble_eq_true rfl) (fit_of (by omega) (by decide) (by decide) (by decide)) ml_L_48 okX8_dig rfl rfl (by decide) rfl (fun v2 S2 h => by cases h.1) (fun E2 S2 h => ?_)
  obtain ⟨h3, M1, rfl, hI⟩ := h
  cases h3
  refine x_catch [(0, 10, 13, 21)] (0, 10, 17, 13) [(0, 10, 21, 15)] rfl (fun z hz => (by rcases List.mem_cons.mp hz with rfl | hz; exact ⟨by decide, _, cl_L_21, List.mem_of_getElem? (i := 0) rfl⟩; cases hz)) (by decide) (by decide) cl_L_13 ca_IllegalArgumentException (fun q => ?_)
  refine e_astore (pc' := 19) (L' := [some (.ref (ad 0)), some (.int (x)), some (.int (y)), some (.ref (ad 104)), some (.ref (q))]) dL_dig_17 rfl (by decide) rfl ?_
  refine e_iconst (pc' := 20) (v := nI 2) dL_dig_19 rfl (by decide) ?_
  exact e_iret dL_dig_20 rfl (⟨(_, _), rfl, rfl, _, _, rfl, trivial, hI⟩) (by decide) (by decide)
theorem wt3_dig (x : Int32) (y : Int32) (hM : THRI G ad d mX8_dig [.ref (ad 0), .int (x), .int (y)] M o "java/lang/UnsupportedOperationException" I) : CM G ad (d + 1) mL_dig (1, 6) [.ref (ad 0), .int (x), .int (y), .ref (ad 104)] (M, o) (PW 3 NO I) := by
  refine CM_ofH (List.cons_ne_nil _ _) (by decide) rfl (Nat.le_of_ble_eq_true rfl) rfl ?_
  refine e_aload_n (pc' := 1) dL_dig_0 rfl rfl rfl ?_
  refine e_iconst (pc' := 2) (v := nI 0) dL_dig_1 rfl (by decide) ?_
  refine e_aload_n (pc' := 3) dL_dig_2 rfl rfl rfl ?_
  refine e_iload_n (pc' := 4) dL_dig_3 rfl rfl rfl ?_
  refine e_iload_n (pc' := 5) dL_dig_4 rfl rfl rfl ?_
  refine c_V (m' := mX8_dig) (As := [.int (x), .int (y)]) (st := [.int (nI 0), .ref (ad 104)]) hM dL_dig_5 rfl rfl (Nat.le_of_ble_eq_true rfl) (fit_of (by omega) (by decide) (by decide) (by decide)) ml_L_48 okX8_dig rfl rfl (by decide) rfl (fun v2 S2 h => by cases h.1) (fun E2 S2 h => ?_)
  obtain ⟨h3, M1, rfl, hI⟩ := h
  cases h3
  refine x_catch [(0, 10, 13, 21), (0, 10, 17, 13)] (0, 10, 21, 15) [] rfl (fun z hz => (by rcases List.mem_cons.mp hz with rfl | hz; exact ⟨by decide, _, cl_L_21, List.mem_of_getElem? (i := 2) rfl⟩; rcases List.mem_cons.mp hz with rfl | hz; exact ⟨by decide, _, cl_L_13, List.mem_of_getElem? (i := 1) rfl⟩; cases hz)) (by decide) (by decide) cl_L_15 ca_UnsupportedOperationException (fun q => ?_)
  refine e_astore (pc' := 23) (L' := [some (.ref (ad 0)), some (.int (x)), some (.int (y)), some (.ref (ad 104)), some (.ref (q))]) dL_dig_21 rfl (by decide) rfl ?_
  refine e_iconst (pc' := 24) (v := nI 3) dL_dig_23 rfl (by decide) ?_
  exact e_iret dL_dig_24 rfl (⟨(_, _), rfl, rfl, _, _, rfl, trivial, hI⟩) (by decide) (by decide)
theorem wo_fill (x : Int32) {v : Int32} (hM : RETI G ad d mX8_fill [.ref (ad 0), .int (x)] (M, o) (some (.int v)) I) : CM G ad (d + 1) mL_fill (1, 6) [.ref (ad 0), .int (x), .ref (ad 104)] (M, o) (PW 0 (LO v.toInt64) I) := by
  refine CM_ofH (List.cons_ne_nil _ _) (by decide) rfl (Nat.le_of_ble_eq_true rfl) rfl ?_
  refine e_aload_n (pc' := 1) dL_fill_0 rfl rfl rfl ?_
  refine e_iconst (pc' := 2) (v := nI 0) dL_fill_1 rfl (by decide) ?_
  refine e_aload_n (pc' := 3) dL_fill_2 rfl rfl rfl ?_
  refine e_iload_n (pc' := 4) dL_fill_3 rfl rfl rfl ?_
  refine r_VI (pc' := 7) (m' := mX8_fill) (As := [.int (x)]) (st := [.int (nI 0), .ref (ad 104)]) (hM) dL_fill_4 rfl rfl (Nat.le_of_ble_eq_true rfl) (fit_of (by omega) (by decide) (by decide) (by decide)) ml_L_51 okX8_fill rfl rfl (by decide) rfl (fun M1 hI => ?_)
  show EV _ _ _ _ _ 7 _ ([.int (v), .int (nI 0), .ref (ad 104)]) _
  refine e_i2l (pc' := 8) dL_fill_7 rfl ?_
  refine p_last (pc' := 9) dL_fill_8 rfl ?_
  refine e_goto (tgt := 15) dL_fill_9 (by decide) ?_
  refine e_iconst (pc' := 16) (v := nI 0) dL_fill_15 rfl (by decide) ?_
  exact e_iret dL_fill_16 rfl (⟨(_, _), rfl, rfl, _, _, rfl, (show vp_updL o.1 0 _ 0 = _ from vpl_0), hI⟩) (by decide) (by decide)
theorem wt1_fill (x : Int32) (hM : THRI G ad d mX8_fill [.ref (ad 0), .int (x)] M o "java/lang/IndexOutOfBoundsException" I) : CM G ad (d + 1) mL_fill (1, 6) [.ref (ad 0), .int (x), .ref (ad 104)] (M, o) (PW 1 NO I) := by
  refine CM_ofH (List.cons_ne_nil _ _) (by decide) rfl (Nat.le_of_ble_eq_true rfl) rfl ?_
  refine e_aload_n (pc' := 1) dL_fill_0 rfl rfl rfl ?_
  refine e_iconst (pc' := 2) (v := nI 0) dL_fill_1 rfl (by decide) ?_
  refine e_aload_n (pc' := 3) dL_fill_2 rfl rfl rfl ?_
  refine e_iload_n (pc' := 4) dL_fill_3 rfl rfl rfl ?_
  refine c_V (m' := mX8_fill) (As := [.int (x)]) (st := [.int (nI 0), .ref (ad 104)]) hM dL_fill_4 rfl rfl (Nat.le_of_ble_eq_true rfl) (fit_of (by omega) (by decide) (by decide) (by decide)) ml_L_51 okX8_fill rfl rfl (by decide) rfl (fun v2 S2 h => by cases h.1) (fun E2 S2 h => ?_)
  obtain ⟨h3, M1, rfl, hI⟩ := h
  cases h3
  refine x_catch [] (0, 9, 12, 21) [] rfl (fun z hz => (by cases hz)) (by decide) (by decide) cl_L_21 ca_IndexOutOfBoundsException (fun q => ?_)
  refine e_astore_n (pc' := 13) (L' := [some (.ref (ad 0)), some (.int (x)), some (.ref (ad 104)), some (.ref (q))]) dL_fill_12 rfl rfl (by decide) rfl ?_
  refine e_iconst (pc' := 14) (v := nI 1) dL_fill_13 rfl (by decide) ?_
  exact e_iret dL_fill_14 rfl (⟨(_, _), rfl, rfl, _, _, rfl, trivial, hI⟩) (by decide) (by decide)
theorem wo_settle {v : Int32} (hM : RETI G ad d mX8_settle [.ref (ad 0)] (M, o) (some (.int v)) I) : CM G ad (d + 1) mL_settle (1, 6) [.ref (ad 0), .ref (ad 104)] (M, o) (PW 0 (LO v.toInt64) I) := by
  refine CM_ofH (List.cons_ne_nil _ _) (by decide) rfl (Nat.le_of_ble_eq_true rfl) rfl ?_
  refine e_aload_n (pc' := 1) dL_settle_0 rfl rfl rfl ?_
  refine e_iconst (pc' := 2) (v := nI 0) dL_settle_1 rfl (by decide) ?_
  refine e_aload_n (pc' := 3) dL_settle_2 rfl rfl rfl ?_
  refine r_VI (pc' := 6) (m' := mX8_settle) (As := []) (st := [.int (nI 0), .ref (ad 104)]) (hM) dL_settle_3 rfl rfl (Nat.le_of_ble_eq_true rfl) (fit_of (by omega) (by decide) (by decide) (by decide)) ml_L_54 okX8_settle rfl rfl (by decide) rfl (fun M1 hI => ?_)
  show EV _ _ _ _ _ 6 _ ([.int (v), .int (nI 0), .ref (ad 104)]) _
  refine e_i2l (pc' := 7) dL_settle_6 rfl ?_
  refine p_last (pc' := 8) dL_settle_7 rfl ?_
  refine e_goto (tgt := 14) dL_settle_8 (by decide) ?_
  refine e_iconst (pc' := 15) (v := nI 0) dL_settle_14 rfl (by decide) ?_
  exact e_iret dL_settle_15 rfl (⟨(_, _), rfl, rfl, _, _, rfl, (show vp_updL o.1 0 _ 0 = _ from vpl_0), hI⟩) (by decide) (by decide)
theorem wt1_settle (hM : THRI G ad d mX8_settle [.ref (ad 0)] M o "java/lang/UnsupportedOperationException" I) : CM G ad (d + 1) mL_settle (1, 6) [.ref (ad 0), .ref (ad 104)] (M, o) (PW 1 NO I) := by
  refine CM_ofH (List.cons_ne_nil _ _) (by decide) rfl (Nat.le_of_ble_eq_true rfl) rfl ?_
  refine e_aload_n (pc' := 1) dL_settle_0 rfl rfl rfl ?_
  refine e_iconst (pc' := 2) (v := nI 0) dL_settle_1 rfl (by decide) ?_
  refine e_aload_n (pc' := 3) dL_settle_2 rfl rfl rfl ?_
  refine c_V (m' := mX8_settle) (As := []) (st := [.int (nI 0), .ref (ad 104)]) hM dL_settle_3 rfl rfl (Nat.le_of_ble_eq_true rfl) (fit_of (by omega) (by decide) (by decide) (by decide)) ml_L_54 okX8_settle rfl rfl (by decide) rfl (fun v2 S2 h => by cases h.1) (fun E2 S2 h => ?_)
  obtain ⟨h3, M1, rfl, hI⟩ := h
  cases h3
  refine x_catch [] (0, 8, 11, 15) [] rfl (fun z hz => (by cases hz)) (by decide) (by decide) cl_L_15 ca_UnsupportedOperationException (fun q => ?_)
  refine e_astore_n (pc' := 12) (L' := [some (.ref (ad 0)), some (.ref (ad 104)), some (.ref (q))]) dL_settle_11 rfl rfl (by decide) rfl ?_
  refine e_iconst (pc' := 13) (v := nI 1) dL_settle_12 rfl (by decide) ?_
  exact e_iret dL_settle_13 rfl (⟨(_, _), rfl, rfl, _, _, rfl, trivial, hI⟩) (by decide) (by decide)
theorem wo_isOpen (x : Int32) {v : Bool} (hM : RETI G ad d mX8_isOpen [.ref (ad 0), .int (x)] (M, o) (some (.int (bI v))) I) : CM G ad (d + 1) mL_isOpen (1, 6) [.ref (ad 0), .int (x), .ref (ad 104)] (M, o) (PW 0 (LO (if v then 1 else 0)) I) := by
  refine CM_ofH (List.cons_ne_nil _ _) (by decide) rfl (Nat.le_of_ble_eq_true rfl) rfl ?_
  refine e_aload_n (pc' := 1) dL_isOpen_0 rfl rfl rfl ?_
  refine e_iconst (pc' := 2) (v := nI 0) dL_isOpen_1 rfl (by decide) ?_
  refine e_aload_n (pc' := 3) dL_isOpen_2 rfl rfl rfl ?_
  refine e_iload_n (pc' := 4) dL_isOpen_3 rfl rfl rfl ?_
  refine r_VI (pc' := 7) (m' := mX8_isOpen) (As := [.int (x)]) (st := [.int (nI 0), .ref (ad 104)]) (hM) dL_isOpen_4 rfl rfl (Nat.le_of_ble_eq_true rfl) (fit_of (by omega) (by decide) (by decide) (by decide)) ml_L_58 okX8_isOpen rfl rfl (by decide) rfl (fun M1 hI => ?_)
  show EV _ _ _ _ _ 7 _ ([.int (bI (v)), .int (nI 0), .ref (ad 104)]) _
  refine e_if_eqB (pc' := 10) (tgt := 14) dL_isOpen_7 rfl (by decide) (fun hz1 => ?_) (fun hz1 => ?_)
  · refine e_lconst (pc' := 15) (v := 0) dL_isOpen_14 rfl (by decide) ?_
    refine p_last (pc' := 16) dL_isOpen_15 rfl ?_
    refine e_goto (tgt := 22) dL_isOpen_16 (by decide) ?_
    refine e_iconst (pc' := 23) (v := nI 0) dL_isOpen_22 rfl (by decide) ?_
    exact e_iret dL_isOpen_23 rfl (⟨(_, _), rfl, rfl, _, _, rfl, (show vp_updL o.1 0 _ 0 = _ from vpl_0.trans (by cases v <;> first | rfl | (simp at hz1; done))), hI⟩) (by decide) (by decide)
  · refine e_lconst (pc' := 11) (v := 1) dL_isOpen_10 rfl (by decide) ?_
    refine e_goto (tgt := 15) dL_isOpen_11 (by decide) ?_
    refine p_last (pc' := 16) dL_isOpen_15 rfl ?_
    refine e_goto (tgt := 22) dL_isOpen_16 (by decide) ?_
    refine e_iconst (pc' := 23) (v := nI 0) dL_isOpen_22 rfl (by decide) ?_
    exact e_iret dL_isOpen_23 rfl (⟨(_, _), rfl, rfl, _, _, rfl, (show vp_updL o.1 0 _ 0 = _ from vpl_0.trans (by cases v <;> first | rfl | (simp at hz1; done))), hI⟩) (by decide) (by decide)
theorem wt1_isOpen (x : Int32) (hM : THRI G ad d mX8_isOpen [.ref (ad 0), .int (x)] M o "java/lang/IndexOutOfBoundsException" I) : CM G ad (d + 1) mL_isOpen (1, 6) [.ref (ad 0), .int (x), .ref (ad 104)] (M, o) (PW 1 NO I) := by
  refine CM_ofH (List.cons_ne_nil _ _) (by decide) rfl (Nat.le_of_ble_eq_true rfl) rfl ?_
  refine e_aload_n (pc' := 1) dL_isOpen_0 rfl rfl rfl ?_
  refine e_iconst (pc' := 2) (v := nI 0) dL_isOpen_1 rfl (by decide) ?_
  refine e_aload_n (pc' := 3) dL_isOpen_2 rfl rfl rfl ?_
  refine e_iload_n (pc' := 4) dL_isOpen_3 rfl rfl rfl ?_
  refine c_V (m' := mX8_isOpen) (As := [.int (x)]) (st := [.int (nI 0), .ref (ad 104)]) hM dL_isOpen_4 rfl rfl (Nat.le_of_ble_eq_true rfl) (fit_of (by omega) (by decide) (by decide) (by decide)) ml_L_58 okX8_isOpen rfl rfl (by decide) rfl (fun v2 S2 h => by cases h.1) (fun E2 S2 h => ?_)
  obtain ⟨h3, M1, rfl, hI⟩ := h
  cases h3
  refine x_catch [] (0, 16, 19, 21) [] rfl (fun z hz => (by cases hz)) (by decide) (by decide) cl_L_21 ca_IndexOutOfBoundsException (fun q => ?_)
  refine e_astore_n (pc' := 20) (L' := [some (.ref (ad 0)), some (.int (x)), some (.ref (ad 104)), some (.ref (q))]) dL_isOpen_19 rfl rfl (by decide) rfl ?_
  refine e_iconst (pc' := 21) (v := nI 1) dL_isOpen_20 rfl (by decide) ?_
  exact e_iret dL_isOpen_21 rfl (⟨(_, _), rfl, rfl, _, _, rfl, trivial, hI⟩) (by decide) (by decide)
theorem wo_walk (x : Int32) (y : Int32) {v : Int32} (hM : RETI G ad d mX8_walk [.ref (ad 0), .int (x), .int (y)] (M, o) (some (.int v)) I) : CM G ad (d + 1) mL_walk (1, 6) [.ref (ad 0), .int (x), .int (y), .ref (ad 104)] (M, o) (PW 0 (LO v.toInt64) I) := by
  refine CM_ofH (List.cons_ne_nil _ _) (by decide) rfl (Nat.le_of_ble_eq_true rfl) rfl ?_
  refine e_aload_n (pc' := 1) dL_walk_0 rfl rfl rfl ?_
  refine e_iconst (pc' := 2) (v := nI 0) dL_walk_1 rfl (by decide) ?_
  refine e_aload_n (pc' := 3) dL_walk_2 rfl rfl rfl ?_
  refine e_iload_n (pc' := 4) dL_walk_3 rfl rfl rfl ?_
  refine e_iload_n (pc' := 5) dL_walk_4 rfl rfl rfl ?_
  refine r_VI (pc' := 8) (m' := mX8_walk) (As := [.int (x), .int (y)]) (st := [.int (nI 0), .ref (ad 104)]) (hM) dL_walk_5 rfl rfl (Nat.le_of_ble_eq_true rfl) (fit_of (by omega) (by decide) (by decide) (by decide)) ml_L_62 okX8_walk rfl rfl (by decide) rfl (fun M1 hI => ?_)
  show EV _ _ _ _ _ 8 _ ([.int (v), .int (nI 0), .ref (ad 104)]) _
  refine e_i2l (pc' := 9) dL_walk_8 rfl ?_
  refine p_last (pc' := 10) dL_walk_9 rfl ?_
  refine e_goto (tgt := 21) dL_walk_10 (by decide) ?_
  refine e_iconst (pc' := 22) (v := nI 0) dL_walk_21 rfl (by decide) ?_
  exact e_iret dL_walk_22 rfl (⟨(_, _), rfl, rfl, _, _, rfl, (show vp_updL o.1 0 _ 0 = _ from vpl_0), hI⟩) (by decide) (by decide)
theorem wt1_walk (x : Int32) (y : Int32) (hM : THRI G ad d mX8_walk [.ref (ad 0), .int (x), .int (y)] M o "java/lang/IndexOutOfBoundsException" I) : CM G ad (d + 1) mL_walk (1, 6) [.ref (ad 0), .int (x), .int (y), .ref (ad 104)] (M, o) (PW 1 NO I) := by
  refine CM_ofH (List.cons_ne_nil _ _) (by decide) rfl (Nat.le_of_ble_eq_true rfl) rfl ?_
  refine e_aload_n (pc' := 1) dL_walk_0 rfl rfl rfl ?_
  refine e_iconst (pc' := 2) (v := nI 0) dL_walk_1 rfl (by decide) ?_
  refine e_aload_n (pc' := 3) dL_walk_2 rfl rfl rfl ?_
  refine e_iload_n (pc' := 4) dL_walk_3 rfl rfl rfl ?_
  refine e_iload_n (pc' := 5) dL_walk_4 rfl rfl rfl ?_
  refine c_V (m' := mX8_walk) (As := [.int (x), .int (y)]) (st := [.int (nI 0), .ref (ad 104)]) hM dL_walk_5 rfl rfl (Nat.le_of_ble_eq_true rfl) (fit_of (by omega) (by decide) (by decide) (by decide)) ml_L_62 okX8_walk rfl rfl (by decide) rfl (fun v2 S2 h => by cases h.1) (fun E2 S2 h => ?_)
  obtain ⟨h3, M1, rfl, hI⟩ := h
  cases h3
  refine x_catch [] (0, 10, 13, 21) [(0, 10, 17, 43)] rfl (fun z hz => (by cases hz)) (by decide) (by decide) cl_L_21 ca_IndexOutOfBoundsException (fun q => ?_)
  refine e_astore (pc' := 15) (L' := [some (.ref (ad 0)), some (.int (x)), some (.int (y)), some (.ref (ad 104)), some (.ref (q))]) dL_walk_13 rfl (by decide) rfl ?_
  refine e_iconst (pc' := 16) (v := nI 1) dL_walk_15 rfl (by decide) ?_
  exact e_iret dL_walk_16 rfl (⟨(_, _), rfl, rfl, _, _, rfl, trivial, hI⟩) (by decide) (by decide)
theorem wt2_walk (x : Int32) (y : Int32) (hM : THRI G ad d mX8_walk [.ref (ad 0), .int (x), .int (y)] M o "java/util/NoSuchElementException" I) : CM G ad (d + 1) mL_walk (1, 6) [.ref (ad 0), .int (x), .int (y), .ref (ad 104)] (M, o) (PW 2 NO I) := by
  refine CM_ofH (List.cons_ne_nil _ _) (by decide) rfl (Nat.le_of_ble_eq_true rfl) rfl ?_
  refine e_aload_n (pc' := 1) dL_walk_0 rfl rfl rfl ?_
  refine e_iconst (pc' := 2) (v := nI 0) dL_walk_1 rfl (by decide) ?_
  refine e_aload_n (pc' := 3) dL_walk_2 rfl rfl rfl ?_
  refine e_iload_n (pc' := 4) dL_walk_3 rfl rfl rfl ?_
  refine e_iload_n (pc' := 5) dL_walk_4 rfl rfl rfl ?_
  refine c_V (m' := mX8_walk) (As := [.int (x), .int (y)]) (st := [.int (nI 0), .ref (ad 104)]) hM dL_walk_5 rfl rfl (Nat.le_of_ble_eq_true rfl) (fit_of (by omega) (by decide) (by decide) (by decide)) ml_L_62 okX8_walk rfl rfl (by decide) rfl (fun v2 S2 h => by cases h.1) (fun E2 S2 h => ?_)
  obtain ⟨h3, M1, rfl, hI⟩ := h
  cases h3
  refine x_catch [(0, 10, 13, 21)] (0, 10, 17, 43) [] rfl (fun z hz => (by rcases List.mem_cons.mp hz with rfl | hz; exact ⟨by decide, _, cl_L_21, List.mem_of_getElem? (i := 4) rfl⟩; cases hz)) (by decide) (by decide) cl_L_43 ca_NoSuchElementException (fun q => ?_)
  refine e_astore (pc' := 19) (L' := [some (.ref (ad 0)), some (.int (x)), some (.int (y)), some (.ref (ad 104)), some (.ref (q))]) dL_walk_17 rfl (by decide) rfl ?_
  refine e_iconst (pc' := 20) (v := nI 2) dL_walk_19 rfl (by decide) ?_
  exact e_iret dL_walk_20 rfl (⟨(_, _), rfl, rfl, _, _, rfl, trivial, hI⟩) (by decide) (by decide)
theorem wo_fewestTurns {v : Int32} (hM : RETI G ad d mX8_fewestTurns [.ref (ad 0)] (M, o) (some (.int v)) I) : CM G ad (d + 1) mL_fewestTurns (1, 6) [.ref (ad 0), .ref (ad 104)] (M, o) (PW 0 (LO v.toInt64) I) := by
  refine CM_ofH (List.cons_ne_nil _ _) (by decide) rfl (Nat.le_of_ble_eq_true rfl) rfl ?_
  refine e_aload_n (pc' := 1) dL_fewestTurns_0 rfl rfl rfl ?_
  refine e_iconst (pc' := 2) (v := nI 0) dL_fewestTurns_1 rfl (by decide) ?_
  refine e_aload_n (pc' := 3) dL_fewestTurns_2 rfl rfl rfl ?_
  refine r_VI (pc' := 6) (m' := mX8_fewestTurns) (As := []) (st := [.int (nI 0), .ref (ad 104)]) (hM) dL_fewestTurns_3 rfl rfl (Nat.le_of_ble_eq_true rfl) (fit_of (by omega) (by decide) (by decide) (by decide)) ml_L_65 okX8_fewestTurns rfl rfl (by decide) rfl (fun M1 hI => ?_)
  show EV _ _ _ _ _ 6 _ ([.int (v), .int (nI 0), .ref (ad 104)]) _
  refine e_i2l (pc' := 7) dL_fewestTurns_6 rfl ?_
  refine p_last (pc' := 8) dL_fewestTurns_7 rfl ?_
  refine e_goto (tgt := 14) dL_fewestTurns_8 (by decide) ?_
  refine e_iconst (pc' := 15) (v := nI 0) dL_fewestTurns_14 rfl (by decide) ?_
  exact e_iret dL_fewestTurns_15 rfl (⟨(_, _), rfl, rfl, _, _, rfl, (show vp_updL o.1 0 _ 0 = _ from vpl_0), hI⟩) (by decide) (by decide)
theorem wt1_fewestTurns (hM : THRI G ad d mX8_fewestTurns [.ref (ad 0)] M o "java/util/NoSuchElementException" I) : CM G ad (d + 1) mL_fewestTurns (1, 6) [.ref (ad 0), .ref (ad 104)] (M, o) (PW 1 NO I) := by
  refine CM_ofH (List.cons_ne_nil _ _) (by decide) rfl (Nat.le_of_ble_eq_true rfl) rfl ?_
  refine e_aload_n (pc' := 1) dL_fewestTurns_0 rfl rfl rfl ?_
  refine e_iconst (pc' := 2) (v := nI 0) dL_fewestTurns_1 rfl (by decide) ?_
  refine e_aload_n (pc' := 3) dL_fewestTurns_2 rfl rfl rfl ?_
  refine c_V (m' := mX8_fewestTurns) (As := []) (st := [.int (nI 0), .ref (ad 104)]) hM dL_fewestTurns_3 rfl rfl (Nat.le_of_ble_eq_true rfl) (fit_of (by omega) (by decide) (by decide) (by decide)) ml_L_65 okX8_fewestTurns rfl rfl (by decide) rfl (fun v2 S2 h => by cases h.1) (fun E2 S2 h => ?_)
  obtain ⟨h3, M1, rfl, hI⟩ := h
  cases h3
  refine x_catch [] (0, 8, 11, 43) [] rfl (fun z hz => (by cases hz)) (by decide) (by decide) cl_L_43 ca_NoSuchElementException (fun q => ?_)
  refine e_astore_n (pc' := 12) (L' := [some (.ref (ad 0)), some (.ref (ad 104)), some (.ref (q))]) dL_fewestTurns_11 rfl rfl (by decide) rfl ?_
  refine e_iconst (pc' := 13) (v := nI 1) dL_fewestTurns_12 rfl (by decide) ?_
  exact e_iret dL_fewestTurns_13 rfl (⟨(_, _), rfl, rfl, _, _, rfl, trivial, hI⟩) (by decide) (by decide)
theorem wo_fewestTurnsBySets {v : Int32} (hM : RETI G ad d mX8_fewestTurnsBySets [.ref (ad 0)] (M, o) (some (.int v)) I) : CM G ad (d + 1) mL_fewestTurnsBySets (1, 6) [.ref (ad 0), .ref (ad 104)] (M, o) (PW 0 (LO v.toInt64) I) := by
  refine CM_ofH (List.cons_ne_nil _ _) (by decide) rfl (Nat.le_of_ble_eq_true rfl) rfl ?_
  refine e_aload_n (pc' := 1) dL_fewestTurnsBySets_0 rfl rfl rfl ?_
  refine e_iconst (pc' := 2) (v := nI 0) dL_fewestTurnsBySets_1 rfl (by decide) ?_
  refine e_aload_n (pc' := 3) dL_fewestTurnsBySets_2 rfl rfl rfl ?_
  refine r_VI (pc' := 6) (m' := mX8_fewestTurnsBySets) (As := []) (st := [.int (nI 0), .ref (ad 104)]) (hM) dL_fewestTurnsBySets_3 rfl rfl (Nat.le_of_ble_eq_true rfl) (fit_of (by omega) (by decide) (by decide) (by decide)) ml_L_68 okX8_fewestTurnsBySets rfl rfl (by decide) rfl (fun M1 hI => ?_)
  show EV _ _ _ _ _ 6 _ ([.int (v), .int (nI 0), .ref (ad 104)]) _
  refine e_i2l (pc' := 7) dL_fewestTurnsBySets_6 rfl ?_
  refine p_last (pc' := 8) dL_fewestTurnsBySets_7 rfl ?_
  refine e_goto (tgt := 14) dL_fewestTurnsBySets_8 (by decide) ?_
  refine e_iconst (pc' := 15) (v := nI 0) dL_fewestTurnsBySets_14 rfl (by decide) ?_
  exact e_iret dL_fewestTurnsBySets_15 rfl (⟨(_, _), rfl, rfl, _, _, rfl, (show vp_updL o.1 0 _ 0 = _ from vpl_0), hI⟩) (by decide) (by decide)
theorem wt1_fewestTurnsBySets (hM : THRI G ad d mX8_fewestTurnsBySets [.ref (ad 0)] M o "java/util/NoSuchElementException" I) : CM G ad (d + 1) mL_fewestTurnsBySets (1, 6) [.ref (ad 0), .ref (ad 104)] (M, o) (PW 1 NO I) := by
  refine CM_ofH (List.cons_ne_nil _ _) (by decide) rfl (Nat.le_of_ble_eq_true rfl) rfl ?_
  refine e_aload_n (pc' := 1) dL_fewestTurnsBySets_0 rfl rfl rfl ?_
  refine e_iconst (pc' := 2) (v := nI 0) dL_fewestTurnsBySets_1 rfl (by decide) ?_
  refine e_aload_n (pc' := 3) dL_fewestTurnsBySets_2 rfl rfl rfl ?_
  refine c_V (m' := mX8_fewestTurnsBySets) (As := []) (st := [.int (nI 0), .ref (ad 104)]) hM dL_fewestTurnsBySets_3 rfl rfl (Nat.le_of_ble_eq_true rfl) (fit_of (by omega) (by decide) (by decide) (by decide)) ml_L_68 okX8_fewestTurnsBySets rfl rfl (by decide) rfl (fun v2 S2 h => by cases h.1) (fun E2 S2 h => ?_)
  obtain ⟨h3, M1, rfl, hI⟩ := h
  cases h3
  refine x_catch [] (0, 8, 11, 43) [] rfl (fun z hz => (by cases hz)) (by decide) (by decide) cl_L_43 ca_NoSuchElementException (fun q => ?_)
  refine e_astore_n (pc' := 12) (L' := [some (.ref (ad 0)), some (.ref (ad 104)), some (.ref (q))]) dL_fewestTurnsBySets_11 rfl rfl (by decide) rfl ?_
  refine e_iconst (pc' := 13) (v := nI 1) dL_fewestTurnsBySets_12 rfl (by decide) ?_
  exact e_iret dL_fewestTurnsBySets_13 rfl (⟨(_, _), rfl, rfl, _, _, rfl, trivial, hI⟩) (by decide) (by decide)
theorem wo_force (x : Int32) {v : UInt32} (hf : vf_n64 (FP.f2d v)) (hM : RETI G ad d mX8_force [.ref (ad 0), .int (x)] (M, o) (some (.float v)) I) : CM G ad (d + 1) mL_force (1, 6) [.ref (ad 0), .int (x), .ref (ad 105)] (M, o) (PW 0 (DO (FP.f2d v)) I) := by
  refine CM_ofH (List.cons_ne_nil _ _) (by decide) rfl (Nat.le_of_ble_eq_true rfl) rfl ?_
  refine e_aload_n (pc' := 1) dL_force_0 rfl rfl rfl ?_
  refine e_iconst (pc' := 2) (v := nI 0) dL_force_1 rfl (by decide) ?_
  refine e_aload_n (pc' := 3) dL_force_2 rfl rfl rfl ?_
  refine e_iload_n (pc' := 4) dL_force_3 rfl rfl rfl ?_
  refine r_VI (pc' := 7) (m' := mX8_force) (As := [.int (x)]) (st := [.int (nI 0), .ref (ad 105)]) (hM) dL_force_4 rfl rfl (Nat.le_of_ble_eq_true rfl) (fit_of (by omega) (by decide) (by decide) (by decide)) ml_L_71 okX8_force rfl rfl (by decide) rfl (fun M1 hI => ?_)
  show EV _ _ _ _ _ 7 _ ([.float (v), .int (nI 0), .ref (ad 105)]) _
  refine e_f2d (pc' := 8) dL_force_7 rfl (hf) ?_
  refine p_dast (pc' := 9) dL_force_8 rfl ?_
  refine e_goto (tgt := 15) dL_force_9 (by decide) ?_
  refine e_iconst (pc' := 16) (v := nI 0) dL_force_15 rfl (by decide) ?_
  exact e_iret dL_force_16 rfl (⟨(_, _), rfl, rfl, _, _, rfl, (show vf_upd o.2 0 _ 0 = _ from vfl_0), hI⟩) (by decide) (by decide)
theorem wt1_force (x : Int32) (hM : THRI G ad d mX8_force [.ref (ad 0), .int (x)] M o "java/lang/IndexOutOfBoundsException" I) : CM G ad (d + 1) mL_force (1, 6) [.ref (ad 0), .int (x), .ref (ad 105)] (M, o) (PW 1 NO I) := by
  refine CM_ofH (List.cons_ne_nil _ _) (by decide) rfl (Nat.le_of_ble_eq_true rfl) rfl ?_
  refine e_aload_n (pc' := 1) dL_force_0 rfl rfl rfl ?_
  refine e_iconst (pc' := 2) (v := nI 0) dL_force_1 rfl (by decide) ?_
  refine e_aload_n (pc' := 3) dL_force_2 rfl rfl rfl ?_
  refine e_iload_n (pc' := 4) dL_force_3 rfl rfl rfl ?_
  refine c_V (m' := mX8_force) (As := [.int (x)]) (st := [.int (nI 0), .ref (ad 105)]) hM dL_force_4 rfl rfl (Nat.le_of_ble_eq_true rfl) (fit_of (by omega) (by decide) (by decide) (by decide)) ml_L_71 okX8_force rfl rfl (by decide) rfl (fun v2 S2 h => by cases h.1) (fun E2 S2 h => ?_)
  obtain ⟨h3, M1, rfl, hI⟩ := h
  cases h3
  refine x_catch [] (0, 9, 12, 21) [] rfl (fun z hz => (by cases hz)) (by decide) (by decide) cl_L_21 ca_IndexOutOfBoundsException (fun q => ?_)
  refine e_astore_n (pc' := 13) (L' := [some (.ref (ad 0)), some (.int (x)), some (.ref (ad 105)), some (.ref (q))]) dL_force_12 rfl rfl (by decide) rfl ?_
  refine e_iconst (pc' := 14) (v := nI 1) dL_force_13 rfl (by decide) ?_
  exact e_iret dL_force_14 rfl (⟨(_, _), rfl, rfl, _, _, rfl, trivial, hI⟩) (by decide) (by decide)
theorem wo_wholeForce (x : Int32) {v : Int32} (hM : RETI G ad d mX8_wholeForce [.ref (ad 0), .int (x)] (M, o) (some (.int v)) I) : CM G ad (d + 1) mL_wholeForce (1, 6) [.ref (ad 0), .int (x), .ref (ad 104)] (M, o) (PW 0 (LO v.toInt64) I) := by
  refine CM_ofH (List.cons_ne_nil _ _) (by decide) rfl (Nat.le_of_ble_eq_true rfl) rfl ?_
  refine e_aload_n (pc' := 1) dL_wholeForce_0 rfl rfl rfl ?_
  refine e_iconst (pc' := 2) (v := nI 0) dL_wholeForce_1 rfl (by decide) ?_
  refine e_aload_n (pc' := 3) dL_wholeForce_2 rfl rfl rfl ?_
  refine e_iload_n (pc' := 4) dL_wholeForce_3 rfl rfl rfl ?_
  refine r_VI (pc' := 7) (m' := mX8_wholeForce) (As := [.int (x)]) (st := [.int (nI 0), .ref (ad 104)]) (hM) dL_wholeForce_4 rfl rfl (Nat.le_of_ble_eq_true rfl) (fit_of (by omega) (by decide) (by decide) (by decide)) ml_L_75 okX8_wholeForce rfl rfl (by decide) rfl (fun M1 hI => ?_)
  show EV _ _ _ _ _ 7 _ ([.int (v), .int (nI 0), .ref (ad 104)]) _
  refine e_i2l (pc' := 8) dL_wholeForce_7 rfl ?_
  refine p_last (pc' := 9) dL_wholeForce_8 rfl ?_
  refine e_goto (tgt := 15) dL_wholeForce_9 (by decide) ?_
  refine e_iconst (pc' := 16) (v := nI 0) dL_wholeForce_15 rfl (by decide) ?_
  exact e_iret dL_wholeForce_16 rfl (⟨(_, _), rfl, rfl, _, _, rfl, (show vp_updL o.1 0 _ 0 = _ from vpl_0), hI⟩) (by decide) (by decide)
theorem wt1_wholeForce (x : Int32) (hM : THRI G ad d mX8_wholeForce [.ref (ad 0), .int (x)] M o "java/lang/IndexOutOfBoundsException" I) : CM G ad (d + 1) mL_wholeForce (1, 6) [.ref (ad 0), .int (x), .ref (ad 104)] (M, o) (PW 1 NO I) := by
  refine CM_ofH (List.cons_ne_nil _ _) (by decide) rfl (Nat.le_of_ble_eq_true rfl) rfl ?_
  refine e_aload_n (pc' := 1) dL_wholeForce_0 rfl rfl rfl ?_
  refine e_iconst (pc' := 2) (v := nI 0) dL_wholeForce_1 rfl (by decide) ?_
  refine e_aload_n (pc' := 3) dL_wholeForce_2 rfl rfl rfl ?_
  refine e_iload_n (pc' := 4) dL_wholeForce_3 rfl rfl rfl ?_
  refine c_V (m' := mX8_wholeForce) (As := [.int (x)]) (st := [.int (nI 0), .ref (ad 104)]) hM dL_wholeForce_4 rfl rfl (Nat.le_of_ble_eq_true rfl) (fit_of (by omega) (by decide) (by decide) (by decide)) ml_L_75 okX8_wholeForce rfl rfl (by decide) rfl (fun v2 S2 h => by cases h.1) (fun E2 S2 h => ?_)
  obtain ⟨h3, M1, rfl, hI⟩ := h
  cases h3
  refine x_catch [] (0, 9, 12, 21) [] rfl (fun z hz => (by cases hz)) (by decide) (by decide) cl_L_21 ca_IndexOutOfBoundsException (fun q => ?_)
  refine e_astore_n (pc' := 13) (L' := [some (.ref (ad 0)), some (.int (x)), some (.ref (ad 104)), some (.ref (q))]) dL_wholeForce_12 rfl rfl (by decide) rfl ?_
  refine e_iconst (pc' := 14) (v := nI 1) dL_wholeForce_13 rfl (by decide) ?_
  exact e_iret dL_wholeForce_14 rfl (⟨(_, _), rfl, rfl, _, _, rfl, trivial, hI⟩) (by decide) (by decide)
theorem wo_field (x : Int32) {v : UInt64} (hM : RETI G ad d mX8_field [.ref (ad 0), .int (x)] (M, o) (some (.double v)) I) : CM G ad (d + 1) mL_field (1, 6) [.ref (ad 0), .int (x), .ref (ad 105)] (M, o) (PW 0 (DO v) I) := by
  refine CM_ofH (List.cons_ne_nil _ _) (by decide) rfl (Nat.le_of_ble_eq_true rfl) rfl ?_
  refine e_aload_n (pc' := 1) dL_field_0 rfl rfl rfl ?_
  refine e_iconst (pc' := 2) (v := nI 0) dL_field_1 rfl (by decide) ?_
  refine e_aload_n (pc' := 3) dL_field_2 rfl rfl rfl ?_
  refine e_iload_n (pc' := 4) dL_field_3 rfl rfl rfl ?_
  refine r_VI (pc' := 7) (m' := mX8_field) (As := [.int (x)]) (st := [.int (nI 0), .ref (ad 105)]) (hM) dL_field_4 rfl rfl (Nat.le_of_ble_eq_true rfl) (fit_of (by omega) (by decide) (by decide) (by decide)) ml_L_78 okX8_field rfl rfl (by decide) rfl (fun M1 hI => ?_)
  show EV _ _ _ _ _ 7 _ ([.double (v), .int (nI 0), .ref (ad 105)]) _
  refine p_dast (pc' := 8) dL_field_7 rfl ?_
  refine e_goto (tgt := 14) dL_field_8 (by decide) ?_
  refine e_iconst (pc' := 15) (v := nI 0) dL_field_14 rfl (by decide) ?_
  exact e_iret dL_field_15 rfl (⟨(_, _), rfl, rfl, _, _, rfl, (show vf_upd o.2 0 _ 0 = _ from vfl_0), hI⟩) (by decide) (by decide)
theorem wt1_field (x : Int32) (hM : THRI G ad d mX8_field [.ref (ad 0), .int (x)] M o "java/lang/IllegalArgumentException" I) : CM G ad (d + 1) mL_field (1, 6) [.ref (ad 0), .int (x), .ref (ad 105)] (M, o) (PW 1 NO I) := by
  refine CM_ofH (List.cons_ne_nil _ _) (by decide) rfl (Nat.le_of_ble_eq_true rfl) rfl ?_
  refine e_aload_n (pc' := 1) dL_field_0 rfl rfl rfl ?_
  refine e_iconst (pc' := 2) (v := nI 0) dL_field_1 rfl (by decide) ?_
  refine e_aload_n (pc' := 3) dL_field_2 rfl rfl rfl ?_
  refine e_iload_n (pc' := 4) dL_field_3 rfl rfl rfl ?_
  refine c_V (m' := mX8_field) (As := [.int (x)]) (st := [.int (nI 0), .ref (ad 105)]) hM dL_field_4 rfl rfl (Nat.le_of_ble_eq_true rfl) (fit_of (by omega) (by decide) (by decide) (by decide)) ml_L_78 okX8_field rfl rfl (by decide) rfl (fun v2 S2 h => by cases h.1) (fun E2 S2 h => ?_)
  obtain ⟨h3, M1, rfl, hI⟩ := h
  cases h3
  refine x_catch [] (0, 8, 11, 13) [] rfl (fun z hz => (by cases hz)) (by decide) (by decide) cl_L_13 ca_IllegalArgumentException (fun q => ?_)
  refine e_astore_n (pc' := 12) (L' := [some (.ref (ad 0)), some (.int (x)), some (.ref (ad 105)), some (.ref (q))]) dL_field_11 rfl rfl (by decide) rfl ?_
  refine e_iconst (pc' := 13) (v := nI 1) dL_field_12 rfl (by decide) ?_
  exact e_iret dL_field_13 rfl (⟨(_, _), rfl, rfl, _, _, rfl, trivial, hI⟩) (by decide) (by decide)
theorem wo_strongestPosition {v : Int32} (hM : RETI G ad d mX8_strongestPosition [.ref (ad 0)] (M, o) (some (.int v)) I) : CM G ad (d + 1) mL_strongestPosition (1, 6) [.ref (ad 0), .ref (ad 104)] (M, o) (PW 0 (LO v.toInt64) I) := by
  refine CM_ofH (List.cons_ne_nil _ _) (by decide) rfl (Nat.le_of_ble_eq_true rfl) rfl ?_
  refine e_aload_n (pc' := 1) dL_strongestPosition_0 rfl rfl rfl ?_
  refine e_iconst (pc' := 2) (v := nI 0) dL_strongestPosition_1 rfl (by decide) ?_
  refine e_aload_n (pc' := 3) dL_strongestPosition_2 rfl rfl rfl ?_
  refine r_VI (pc' := 6) (m' := mX8_strongestPosition) (As := []) (st := [.int (nI 0), .ref (ad 104)]) (hM) dL_strongestPosition_3 rfl rfl (Nat.le_of_ble_eq_true rfl) (fit_of (by omega) (by decide) (by decide) (by decide)) ml_L_82 okX8_strongestPosition rfl rfl (by decide) rfl (fun M1 hI => ?_)
  show EV _ _ _ _ _ 6 _ ([.int (v), .int (nI 0), .ref (ad 104)]) _
  refine e_i2l (pc' := 7) dL_strongestPosition_6 rfl ?_
  refine p_last (pc' := 8) dL_strongestPosition_7 rfl ?_
  refine e_goto (tgt := 14) dL_strongestPosition_8 (by decide) ?_
  refine e_iconst (pc' := 15) (v := nI 0) dL_strongestPosition_14 rfl (by decide) ?_
  exact e_iret dL_strongestPosition_15 rfl (⟨(_, _), rfl, rfl, _, _, rfl, (show vp_updL o.1 0 _ 0 = _ from vpl_0), hI⟩) (by decide) (by decide)
theorem wt1_strongestPosition (hM : THRI G ad d mX8_strongestPosition [.ref (ad 0)] M o "java/util/NoSuchElementException" I) : CM G ad (d + 1) mL_strongestPosition (1, 6) [.ref (ad 0), .ref (ad 104)] (M, o) (PW 1 NO I) := by
  refine CM_ofH (List.cons_ne_nil _ _) (by decide) rfl (Nat.le_of_ble_eq_true rfl) rfl ?_
  refine e_aload_n (pc' := 1) dL_strongestPosition_0 rfl rfl rfl ?_
  refine e_iconst (pc' := 2) (v := nI 0) dL_strongestPosition_1 rfl (by decide) ?_
  refine e_aload_n (pc' := 3) dL_strongestPosition_2 rfl rfl rfl ?_
  refine c_V (m' := mX8_strongestPosition) (As := []) (st := [.int (nI 0), .ref (ad 104)]) hM dL_strongestPosition_3 rfl rfl (Nat.le_of_ble_eq_true rfl) (fit_of (by omega) (by decide) (by decide) (by decide)) ml_L_82 okX8_strongestPosition rfl rfl (by decide) rfl (fun v2 S2 h => by cases h.1) (fun E2 S2 h => ?_)
  obtain ⟨h3, M1, rfl, hI⟩ := h
  cases h3
  refine x_catch [] (0, 8, 11, 43) [] rfl (fun z hz => (by cases hz)) (by decide) (by decide) cl_L_43 ca_NoSuchElementException (fun q => ?_)
  refine e_astore_n (pc' := 12) (L' := [some (.ref (ad 0)), some (.ref (ad 104)), some (.ref (q))]) dL_strongestPosition_11 rfl rfl (by decide) rfl ?_
  refine e_iconst (pc' := 13) (v := nI 1) dL_strongestPosition_12 rfl (by decide) ?_
  exact e_iret dL_strongestPosition_13 rfl (⟨(_, _), rfl, rfl, _, _, rfl, trivial, hI⟩) (by decide) (by decide)
theorem wo_queen {v : Int32} (hM : RETI G ad d mX8_queen [.ref (ad 0)] (M, o) (some (.int v)) I) : CM G ad (d + 1) mL_queen (1, 6) [.ref (ad 0), .ref (ad 104)] (M, o) (PW 0 (LO v.toInt64) I) := by
  refine CM_ofH (List.cons_ne_nil _ _) (by decide) rfl (Nat.le_of_ble_eq_true rfl) rfl ?_
  refine e_aload_n (pc' := 1) dL_queen_0 rfl rfl rfl ?_
  refine e_iconst (pc' := 2) (v := nI 0) dL_queen_1 rfl (by decide) ?_
  refine e_aload_n (pc' := 3) dL_queen_2 rfl rfl rfl ?_
  refine r_VI (pc' := 6) (m' := mX8_queen) (As := []) (st := [.int (nI 0), .ref (ad 104)]) (hM) dL_queen_3 rfl rfl (Nat.le_of_ble_eq_true rfl) (fit_of (by omega) (by decide) (by decide) (by decide)) ml_L_85 okX8_queen rfl rfl (by decide) rfl (fun M1 hI => ?_)
  show EV _ _ _ _ _ 6 _ ([.int (v), .int (nI 0), .ref (ad 104)]) _
  refine e_i2l (pc' := 7) dL_queen_6 rfl ?_
  refine p_last (pc' := 8) dL_queen_7 rfl ?_
  refine e_goto (tgt := 14) dL_queen_8 (by decide) ?_
  refine e_iconst (pc' := 15) (v := nI 0) dL_queen_14 rfl (by decide) ?_
  exact e_iret dL_queen_15 rfl (⟨(_, _), rfl, rfl, _, _, rfl, (show vp_updL o.1 0 _ 0 = _ from vpl_0), hI⟩) (by decide) (by decide)
theorem wt1_queen (hM : THRI G ad d mX8_queen [.ref (ad 0)] M o "java/util/NoSuchElementException" I) : CM G ad (d + 1) mL_queen (1, 6) [.ref (ad 0), .ref (ad 104)] (M, o) (PW 1 NO I) := by
  refine CM_ofH (List.cons_ne_nil _ _) (by decide) rfl (Nat.le_of_ble_eq_true rfl) rfl ?_
  refine e_aload_n (pc' := 1) dL_queen_0 rfl rfl rfl ?_
  refine e_iconst (pc' := 2) (v := nI 0) dL_queen_1 rfl (by decide) ?_
  refine e_aload_n (pc' := 3) dL_queen_2 rfl rfl rfl ?_
  refine c_V (m' := mX8_queen) (As := []) (st := [.int (nI 0), .ref (ad 104)]) hM dL_queen_3 rfl rfl (Nat.le_of_ble_eq_true rfl) (fit_of (by omega) (by decide) (by decide) (by decide)) ml_L_85 okX8_queen rfl rfl (by decide) rfl (fun v2 S2 h => by cases h.1) (fun E2 S2 h => ?_)
  obtain ⟨h3, M1, rfl, hI⟩ := h
  cases h3
  refine x_catch [] (0, 8, 11, 43) [] rfl (fun z hz => (by cases hz)) (by decide) (by decide) cl_L_43 ca_NoSuchElementException (fun q => ?_)
  refine e_astore_n (pc' := 12) (L' := [some (.ref (ad 0)), some (.ref (ad 104)), some (.ref (q))]) dL_queen_11 rfl rfl (by decide) rfl ?_
  refine e_iconst (pc' := 13) (v := nI 1) dL_queen_12 rfl (by decide) ?_
  exact e_iret dL_queen_13 rfl (⟨(_, _), rfl, rfl, _, _, rfl, trivial, hI⟩) (by decide) (by decide)
theorem wo_meanStrength {v : UInt64} (hM : RETI G ad d mX8_meanStrength [.ref (ad 0)] (M, o) (some (.double v)) I) : CM G ad (d + 1) mL_meanStrength (1, 6) [.ref (ad 0), .ref (ad 105)] (M, o) (PW 0 (DO v) I) := by
  refine CM_ofH (List.cons_ne_nil _ _) (by decide) rfl (Nat.le_of_ble_eq_true rfl) rfl ?_
  refine e_aload_n (pc' := 1) dL_meanStrength_0 rfl rfl rfl ?_
  refine e_iconst (pc' := 2) (v := nI 0) dL_meanStrength_1 rfl (by decide) ?_
  refine e_aload_n (pc' := 3) dL_meanStrength_2 rfl rfl rfl ?_
  refine r_VI (pc' := 6) (m' := mX8_meanStrength) (As := []) (st := [.int (nI 0), .ref (ad 105)]) (hM) dL_meanStrength_3 rfl rfl (Nat.le_of_ble_eq_true rfl) (fit_of (by omega) (by decide) (by decide) (by decide)) ml_L_88 okX8_meanStrength rfl rfl (by decide) rfl (fun M1 hI => ?_)
  show EV _ _ _ _ _ 6 _ ([.double (v), .int (nI 0), .ref (ad 105)]) _
  refine p_dast (pc' := 7) dL_meanStrength_6 rfl ?_
  refine e_goto (tgt := 13) dL_meanStrength_7 (by decide) ?_
  refine e_iconst (pc' := 14) (v := nI 0) dL_meanStrength_13 rfl (by decide) ?_
  exact e_iret dL_meanStrength_14 rfl (⟨(_, _), rfl, rfl, _, _, rfl, (show vf_upd o.2 0 _ 0 = _ from vfl_0), hI⟩) (by decide) (by decide)
theorem wt1_meanStrength (hM : THRI G ad d mX8_meanStrength [.ref (ad 0)] M o "java/lang/ArithmeticException" I) : CM G ad (d + 1) mL_meanStrength (1, 6) [.ref (ad 0), .ref (ad 105)] (M, o) (PW 1 NO I) := by
  refine CM_ofH (List.cons_ne_nil _ _) (by decide) rfl (Nat.le_of_ble_eq_true rfl) rfl ?_
  refine e_aload_n (pc' := 1) dL_meanStrength_0 rfl rfl rfl ?_
  refine e_iconst (pc' := 2) (v := nI 0) dL_meanStrength_1 rfl (by decide) ?_
  refine e_aload_n (pc' := 3) dL_meanStrength_2 rfl rfl rfl ?_
  refine c_V (m' := mX8_meanStrength) (As := []) (st := [.int (nI 0), .ref (ad 105)]) hM dL_meanStrength_3 rfl rfl (Nat.le_of_ble_eq_true rfl) (fit_of (by omega) (by decide) (by decide) (by decide)) ml_L_88 okX8_meanStrength rfl rfl (by decide) rfl (fun v2 S2 h => by cases h.1) (fun E2 S2 h => ?_)
  obtain ⟨h3, M1, rfl, hI⟩ := h
  cases h3
  refine x_catch [] (0, 7, 10, 92) [] rfl (fun z hz => (by cases hz)) (by decide) (by decide) cl_L_92 ca_ArithmeticException (fun q => ?_)
  refine e_astore_n (pc' := 11) (L' := [some (.ref (ad 0)), some (.ref (ad 105)), some (.ref (q))]) dL_meanStrength_10 rfl rfl (by decide) rfl ?_
  refine e_iconst (pc' := 12) (v := nI 1) dL_meanStrength_11 rfl (by decide) ?_
  exact e_iret dL_meanStrength_12 rfl (⟨(_, _), rfl, rfl, _, _, rfl, trivial, hI⟩) (by decide) (by decide)
theorem wo_openShare {v : UInt32} (hf : vf_n64 (FP.f2d v)) (hM : RETI G ad d mX8_openShare [.ref (ad 0)] (M, o) (some (.float v)) I) : CM G ad (d + 1) mL_openShare (1, 6) [.ref (ad 0), .ref (ad 105)] (M, o) (PW 0 (DO (FP.f2d v)) I) := by
  refine CM_ofH (List.cons_ne_nil _ _) (by decide) rfl (Nat.le_of_ble_eq_true rfl) rfl ?_
  refine e_aload_n (pc' := 1) dL_openShare_0 rfl rfl rfl ?_
  refine e_iconst (pc' := 2) (v := nI 0) dL_openShare_1 rfl (by decide) ?_
  refine e_aload_n (pc' := 3) dL_openShare_2 rfl rfl rfl ?_
  refine r_VI (pc' := 6) (m' := mX8_openShare) (As := []) (st := [.int (nI 0), .ref (ad 105)]) (hM) dL_openShare_3 rfl rfl (Nat.le_of_ble_eq_true rfl) (fit_of (by omega) (by decide) (by decide) (by decide)) ml_L_94 okX8_openShare rfl rfl (by decide) rfl (fun M1 hI => ?_)
  show EV _ _ _ _ _ 6 _ ([.float (v), .int (nI 0), .ref (ad 105)]) _
  refine e_f2d (pc' := 7) dL_openShare_6 rfl (hf) ?_
  refine p_dast (pc' := 8) dL_openShare_7 rfl ?_
  refine e_goto (tgt := 14) dL_openShare_8 (by decide) ?_
  refine e_iconst (pc' := 15) (v := nI 0) dL_openShare_14 rfl (by decide) ?_
  exact e_iret dL_openShare_15 rfl (⟨(_, _), rfl, rfl, _, _, rfl, (show vf_upd o.2 0 _ 0 = _ from vfl_0), hI⟩) (by decide) (by decide)
theorem wt1_openShare (hM : THRI G ad d mX8_openShare [.ref (ad 0)] M o "java/lang/ArithmeticException" I) : CM G ad (d + 1) mL_openShare (1, 6) [.ref (ad 0), .ref (ad 105)] (M, o) (PW 1 NO I) := by
  refine CM_ofH (List.cons_ne_nil _ _) (by decide) rfl (Nat.le_of_ble_eq_true rfl) rfl ?_
  refine e_aload_n (pc' := 1) dL_openShare_0 rfl rfl rfl ?_
  refine e_iconst (pc' := 2) (v := nI 0) dL_openShare_1 rfl (by decide) ?_
  refine e_aload_n (pc' := 3) dL_openShare_2 rfl rfl rfl ?_
  refine c_V (m' := mX8_openShare) (As := []) (st := [.int (nI 0), .ref (ad 105)]) hM dL_openShare_3 rfl rfl (Nat.le_of_ble_eq_true rfl) (fit_of (by omega) (by decide) (by decide) (by decide)) ml_L_94 okX8_openShare rfl rfl (by decide) rfl (fun v2 S2 h => by cases h.1) (fun E2 S2 h => ?_)
  obtain ⟨h3, M1, rfl, hI⟩ := h
  cases h3
  refine x_catch [] (0, 8, 11, 92) [] rfl (fun z hz => (by cases hz)) (by decide) (by decide) cl_L_92 ca_ArithmeticException (fun q => ?_)
  refine e_astore_n (pc' := 12) (L' := [some (.ref (ad 0)), some (.ref (ad 105)), some (.ref (q))]) dL_openShare_11 rfl rfl (by decide) rfl ?_
  refine e_iconst (pc' := 13) (v := nI 1) dL_openShare_12 rfl (by decide) ?_
  exact e_iret dL_openShare_13 rfl (⟨(_, _), rfl, rfl, _, _, rfl, trivial, hI⟩) (by decide) (by decide)
theorem wo_turnsOf (x : Int32) {v : Int32} (hM : RETI G ad d mX8_turnsOf [.ref (ad 0), .int (x)] (M, o) (some (.int v)) I) : CM G ad (d + 1) mL_turnsOf (1, 6) [.ref (ad 0), .int (x), .ref (ad 104)] (M, o) (PW 0 (LO v.toInt64) I) := by
  refine CM_ofH (List.cons_ne_nil _ _) (by decide) rfl (Nat.le_of_ble_eq_true rfl) rfl ?_
  refine e_aload_n (pc' := 1) dL_turnsOf_0 rfl rfl rfl ?_
  refine e_iconst (pc' := 2) (v := nI 0) dL_turnsOf_1 rfl (by decide) ?_
  refine e_aload_n (pc' := 3) dL_turnsOf_2 rfl rfl rfl ?_
  refine e_iload_n (pc' := 4) dL_turnsOf_3 rfl rfl rfl ?_
  refine r_VI (pc' := 7) (m' := mX8_turnsOf) (As := [.int (x)]) (st := [.int (nI 0), .ref (ad 104)]) (hM) dL_turnsOf_4 rfl rfl (Nat.le_of_ble_eq_true rfl) (fit_of (by omega) (by decide) (by decide) (by decide)) ml_L_98 okX8_turnsOf rfl rfl (by decide) rfl (fun M1 hI => ?_)
  show EV _ _ _ _ _ 7 _ ([.int (v), .int (nI 0), .ref (ad 104)]) _
  refine e_i2l (pc' := 8) dL_turnsOf_7 rfl ?_
  refine p_last (pc' := 9) dL_turnsOf_8 rfl ?_
  refine e_goto (tgt := 15) dL_turnsOf_9 (by decide) ?_
  refine e_iconst (pc' := 16) (v := nI 0) dL_turnsOf_15 rfl (by decide) ?_
  exact e_iret dL_turnsOf_16 rfl (⟨(_, _), rfl, rfl, _, _, rfl, (show vp_updL o.1 0 _ 0 = _ from vpl_0), hI⟩) (by decide) (by decide)
theorem wt1_turnsOf (x : Int32) (hM : THRI G ad d mX8_turnsOf [.ref (ad 0), .int (x)] M o "java/lang/IndexOutOfBoundsException" I) : CM G ad (d + 1) mL_turnsOf (1, 6) [.ref (ad 0), .int (x), .ref (ad 104)] (M, o) (PW 1 NO I) := by
  refine CM_ofH (List.cons_ne_nil _ _) (by decide) rfl (Nat.le_of_ble_eq_true rfl) rfl ?_
  refine e_aload_n (pc' := 1) dL_turnsOf_0 rfl rfl rfl ?_
  refine e_iconst (pc' := 2) (v := nI 0) dL_turnsOf_1 rfl (by decide) ?_
  refine e_aload_n (pc' := 3) dL_turnsOf_2 rfl rfl rfl ?_
  refine e_iload_n (pc' := 4) dL_turnsOf_3 rfl rfl rfl ?_
  refine c_V (m' := mX8_turnsOf) (As := [.int (x)]) (st := [.int (nI 0), .ref (ad 104)]) hM dL_turnsOf_4 rfl rfl (Nat.le_of_ble_eq_true rfl) (fit_of (by omega) (by decide) (by decide) (by decide)) ml_L_98 okX8_turnsOf rfl rfl (by decide) rfl (fun v2 S2 h => by cases h.1) (fun E2 S2 h => ?_)
  obtain ⟨h3, M1, rfl, hI⟩ := h
  cases h3
  refine x_catch [] (0, 9, 12, 21) [] rfl (fun z hz => (by cases hz)) (by decide) (by decide) cl_L_21 ca_IndexOutOfBoundsException (fun q => ?_)
  refine e_astore_n (pc' := 13) (L' := [some (.ref (ad 0)), some (.int (x)), some (.ref (ad 104)), some (.ref (q))]) dL_turnsOf_12 rfl rfl (by decide) rfl ?_
  refine e_iconst (pc' := 14) (v := nI 1) dL_turnsOf_13 rfl (by decide) ?_
  exact e_iret dL_turnsOf_14 rfl (⟨(_, _), rfl, rfl, _, _, rfl, trivial, hI⟩) (by decide) (by decide)
theorem wo_feed (x : Int32) {v : Int32} (hM : RETI G ad d mX8_feed [.ref (ad 0), .int (x)] (M, o) (some (.int v)) I) : CM G ad (d + 1) mL_feed (1, 6) [.ref (ad 0), .int (x), .ref (ad 104)] (M, o) (PW 0 (LO v.toInt64) I) := by
  refine CM_ofH (List.cons_ne_nil _ _) (by decide) rfl (Nat.le_of_ble_eq_true rfl) rfl ?_
  refine e_aload_n (pc' := 1) dL_feed_0 rfl rfl rfl ?_
  refine e_iconst (pc' := 2) (v := nI 0) dL_feed_1 rfl (by decide) ?_
  refine e_aload_n (pc' := 3) dL_feed_2 rfl rfl rfl ?_
  refine e_iload_n (pc' := 4) dL_feed_3 rfl rfl rfl ?_
  refine r_VI (pc' := 7) (m' := mX8_feed) (As := [.int (x)]) (st := [.int (nI 0), .ref (ad 104)]) (hM) dL_feed_4 rfl rfl (Nat.le_of_ble_eq_true rfl) (fit_of (by omega) (by decide) (by decide) (by decide)) ml_L_101 okX8_feed rfl rfl (by decide) rfl (fun M1 hI => ?_)
  show EV _ _ _ _ _ 7 _ ([.int (v), .int (nI 0), .ref (ad 104)]) _
  refine e_i2l (pc' := 8) dL_feed_7 rfl ?_
  refine p_last (pc' := 9) dL_feed_8 rfl ?_
  refine e_goto (tgt := 15) dL_feed_9 (by decide) ?_
  refine e_iconst (pc' := 16) (v := nI 0) dL_feed_15 rfl (by decide) ?_
  exact e_iret dL_feed_16 rfl (⟨(_, _), rfl, rfl, _, _, rfl, (show vp_updL o.1 0 _ 0 = _ from vpl_0), hI⟩) (by decide) (by decide)
theorem wt1_feed (x : Int32) (hM : THRI G ad d mX8_feed [.ref (ad 0), .int (x)] M o "java/lang/IllegalStateException" I) : CM G ad (d + 1) mL_feed (1, 6) [.ref (ad 0), .int (x), .ref (ad 104)] (M, o) (PW 1 NO I) := by
  refine CM_ofH (List.cons_ne_nil _ _) (by decide) rfl (Nat.le_of_ble_eq_true rfl) rfl ?_
  refine e_aload_n (pc' := 1) dL_feed_0 rfl rfl rfl ?_
  refine e_iconst (pc' := 2) (v := nI 0) dL_feed_1 rfl (by decide) ?_
  refine e_aload_n (pc' := 3) dL_feed_2 rfl rfl rfl ?_
  refine e_iload_n (pc' := 4) dL_feed_3 rfl rfl rfl ?_
  refine c_V (m' := mX8_feed) (As := [.int (x)]) (st := [.int (nI 0), .ref (ad 104)]) hM dL_feed_4 rfl rfl (Nat.le_of_ble_eq_true rfl) (fit_of (by omega) (by decide) (by decide) (by decide)) ml_L_101 okX8_feed rfl rfl (by decide) rfl (fun v2 S2 h => by cases h.1) (fun E2 S2 h => ?_)
  obtain ⟨h3, M1, rfl, hI⟩ := h
  cases h3
  refine x_catch [] (0, 9, 12, 105) [] rfl (fun z hz => (by cases hz)) (by decide) (by decide) cl_L_105 ca_IllegalStateException (fun q => ?_)
  refine e_astore_n (pc' := 13) (L' := [some (.ref (ad 0)), some (.int (x)), some (.ref (ad 104)), some (.ref (q))]) dL_feed_12 rfl rfl (by decide) rfl ?_
  refine e_iconst (pc' := 14) (v := nI 1) dL_feed_13 rfl (by decide) ?_
  exact e_iret dL_feed_14 rfl (⟨(_, _), rfl, rfl, _, _, rfl, trivial, hI⟩) (by decide) (by decide)
theorem wo_execute {v : Int32} (hM : RETI G ad d mX8_execute [.ref (ad 0)] (M, o) (some (.int v)) I) : CM G ad (d + 1) mL_execute (1, 6) [.ref (ad 0), .ref (ad 104)] (M, o) (PW 0 (LO v.toInt64) I) := by
  refine CM_ofH (List.cons_ne_nil _ _) (by decide) rfl (Nat.le_of_ble_eq_true rfl) rfl ?_
  refine e_aload_n (pc' := 1) dL_execute_0 rfl rfl rfl ?_
  refine e_iconst (pc' := 2) (v := nI 0) dL_execute_1 rfl (by decide) ?_
  refine e_aload_n (pc' := 3) dL_execute_2 rfl rfl rfl ?_
  refine r_VI (pc' := 6) (m' := mX8_execute) (As := []) (st := [.int (nI 0), .ref (ad 104)]) (hM) dL_execute_3 rfl rfl (Nat.le_of_ble_eq_true rfl) (fit_of (by omega) (by decide) (by decide) (by decide)) ml_L_107 okX8_execute rfl rfl (by decide) rfl (fun M1 hI => ?_)
  show EV _ _ _ _ _ 6 _ ([.int (v), .int (nI 0), .ref (ad 104)]) _
  refine e_i2l (pc' := 7) dL_execute_6 rfl ?_
  refine p_last (pc' := 8) dL_execute_7 rfl ?_
  refine e_goto (tgt := 17) dL_execute_8 (by decide) ?_
  refine e_iconst (pc' := 18) (v := nI 0) dL_execute_17 rfl (by decide) ?_
  exact e_iret dL_execute_18 rfl (⟨(_, _), rfl, rfl, _, _, rfl, (show vp_updL o.1 0 _ 0 = _ from vpl_0), hI⟩) (by decide) (by decide)
theorem wt1_execute (hM : THRI G ad d mX8_execute [.ref (ad 0)] M o "java/lang/IllegalArgumentException" I) : CM G ad (d + 1) mL_execute (1, 6) [.ref (ad 0), .ref (ad 104)] (M, o) (PW 1 NO I) := by
  refine CM_ofH (List.cons_ne_nil _ _) (by decide) rfl (Nat.le_of_ble_eq_true rfl) rfl ?_
  refine e_aload_n (pc' := 1) dL_execute_0 rfl rfl rfl ?_
  refine e_iconst (pc' := 2) (v := nI 0) dL_execute_1 rfl (by decide) ?_
  refine e_aload_n (pc' := 3) dL_execute_2 rfl rfl rfl ?_
  refine c_V (m' := mX8_execute) (As := []) (st := [.int (nI 0), .ref (ad 104)]) hM dL_execute_3 rfl rfl (Nat.le_of_ble_eq_true rfl) (fit_of (by omega) (by decide) (by decide) (by decide)) ml_L_107 okX8_execute rfl rfl (by decide) rfl (fun v2 S2 h => by cases h.1) (fun E2 S2 h => ?_)
  obtain ⟨h3, M1, rfl, hI⟩ := h
  cases h3
  refine x_catch [] (0, 8, 11, 13) [(0, 8, 14, 15)] rfl (fun z hz => (by cases hz)) (by decide) (by decide) cl_L_13 ca_IllegalArgumentException (fun q => ?_)
  refine e_astore_n (pc' := 12) (L' := [some (.ref (ad 0)), some (.ref (ad 104)), some (.ref (q))]) dL_execute_11 rfl rfl (by decide) rfl ?_
  refine e_iconst (pc' := 13) (v := nI 1) dL_execute_12 rfl (by decide) ?_
  exact e_iret dL_execute_13 rfl (⟨(_, _), rfl, rfl, _, _, rfl, trivial, hI⟩) (by decide) (by decide)
theorem wt2_execute (hM : THRI G ad d mX8_execute [.ref (ad 0)] M o "java/lang/UnsupportedOperationException" I) : CM G ad (d + 1) mL_execute (1, 6) [.ref (ad 0), .ref (ad 104)] (M, o) (PW 2 NO I) := by
  refine CM_ofH (List.cons_ne_nil _ _) (by decide) rfl (Nat.le_of_ble_eq_true rfl) rfl ?_
  refine e_aload_n (pc' := 1) dL_execute_0 rfl rfl rfl ?_
  refine e_iconst (pc' := 2) (v := nI 0) dL_execute_1 rfl (by decide) ?_
  refine e_aload_n (pc' := 3) dL_execute_2 rfl rfl rfl ?_
  refine c_V (m' := mX8_execute) (As := []) (st := [.int (nI 0), .ref (ad 104)]) hM dL_execute_3 rfl rfl (Nat.le_of_ble_eq_true rfl) (fit_of (by omega) (by decide) (by decide) (by decide)) ml_L_107 okX8_execute rfl rfl (by decide) rfl (fun v2 S2 h => by cases h.1) (fun E2 S2 h => ?_)
  obtain ⟨h3, M1, rfl, hI⟩ := h
  cases h3
  refine x_catch [(0, 8, 11, 13)] (0, 8, 14, 15) [] rfl (fun z hz => (by rcases List.mem_cons.mp hz with rfl | hz; exact ⟨by decide, _, cl_L_13, List.mem_of_getElem? (i := 1) rfl⟩; cases hz)) (by decide) (by decide) cl_L_15 ca_UnsupportedOperationException (fun q => ?_)
  refine e_astore_n (pc' := 15) (L' := [some (.ref (ad 0)), some (.ref (ad 104)), some (.ref (q))]) dL_execute_14 rfl rfl (by decide) rfl ?_
  refine e_iconst (pc' := 16) (v := nI 2) dL_execute_15 rfl (by decide) ?_
  exact e_iret dL_execute_16 rfl (⟨(_, _), rfl, rfl, _, _, rfl, trivial, hI⟩) (by decide) (by decide)
theorem wo_faultPosition {v : Int32} (hM : RETI G ad d mX8_faultPosition [.ref (ad 0)] (M, o) (some (.int v)) I) : CM G ad (d + 1) mL_faultPosition (1, 6) [.ref (ad 0), .ref (ad 104)] (M, o) (PW 0 (LO v.toInt64) I) := by
  refine CM_ofH (List.cons_ne_nil _ _) (by decide) rfl (Nat.le_of_ble_eq_true rfl) rfl ?_
  refine e_aload_n (pc' := 1) dL_faultPosition_0 rfl rfl rfl ?_
  refine e_iconst (pc' := 2) (v := nI 0) dL_faultPosition_1 rfl (by decide) ?_
  refine e_aload_n (pc' := 3) dL_faultPosition_2 rfl rfl rfl ?_
  refine r_VI (pc' := 6) (m' := mX8_faultPosition) (As := []) (st := [.int (nI 0), .ref (ad 104)]) (hM) dL_faultPosition_3 rfl rfl (Nat.le_of_ble_eq_true rfl) (fit_of (by omega) (by decide) (by decide) (by decide)) ml_L_110 okX8_faultPosition rfl rfl (by decide) rfl (fun M1 hI => ?_)
  show EV _ _ _ _ _ 6 _ ([.int (v), .int (nI 0), .ref (ad 104)]) _
  refine e_i2l (pc' := 7) dL_faultPosition_6 rfl ?_
  refine p_last (pc' := 8) dL_faultPosition_7 rfl ?_
  refine e_goto (tgt := 14) dL_faultPosition_8 (by decide) ?_
  refine e_iconst (pc' := 15) (v := nI 0) dL_faultPosition_14 rfl (by decide) ?_
  exact e_iret dL_faultPosition_15 rfl (⟨(_, _), rfl, rfl, _, _, rfl, (show vp_updL o.1 0 _ 0 = _ from vpl_0), hI⟩) (by decide) (by decide)
theorem wt1_faultPosition (hM : THRI G ad d mX8_faultPosition [.ref (ad 0)] M o "java/util/NoSuchElementException" I) : CM G ad (d + 1) mL_faultPosition (1, 6) [.ref (ad 0), .ref (ad 104)] (M, o) (PW 1 NO I) := by
  refine CM_ofH (List.cons_ne_nil _ _) (by decide) rfl (Nat.le_of_ble_eq_true rfl) rfl ?_
  refine e_aload_n (pc' := 1) dL_faultPosition_0 rfl rfl rfl ?_
  refine e_iconst (pc' := 2) (v := nI 0) dL_faultPosition_1 rfl (by decide) ?_
  refine e_aload_n (pc' := 3) dL_faultPosition_2 rfl rfl rfl ?_
  refine c_V (m' := mX8_faultPosition) (As := []) (st := [.int (nI 0), .ref (ad 104)]) hM dL_faultPosition_3 rfl rfl (Nat.le_of_ble_eq_true rfl) (fit_of (by omega) (by decide) (by decide) (by decide)) ml_L_110 okX8_faultPosition rfl rfl (by decide) rfl (fun v2 S2 h => by cases h.1) (fun E2 S2 h => ?_)
  obtain ⟨h3, M1, rfl, hI⟩ := h
  cases h3
  refine x_catch [] (0, 8, 11, 43) [] rfl (fun z hz => (by cases hz)) (by decide) (by decide) cl_L_43 ca_NoSuchElementException (fun q => ?_)
  refine e_astore_n (pc' := 12) (L' := [some (.ref (ad 0)), some (.ref (ad 104)), some (.ref (q))]) dL_faultPosition_11 rfl rfl (by decide) rfl ?_
  refine e_iconst (pc' := 13) (v := nI 1) dL_faultPosition_12 rfl (by decide) ?_
  exact e_iret dL_faultPosition_13 rfl (⟨(_, _), rfl, rfl, _, _, rfl, trivial, hI⟩) (by decide) (by decide)
theorem wo_writeMagnet (x : Int32) {v : Int32} (hM : RETI G ad d mX8_writeMagnet [.ref (ad 0), .int (x)] (M, o) (some (.int v)) I) : CM G ad (d + 1) mL_writeMagnet (1, 6) [.ref (ad 0), .int (x), .ref (ad 104)] (M, o) (PW 0 (LO v.toInt64) I) := by
  refine CM_ofH (List.cons_ne_nil _ _) (by decide) rfl (Nat.le_of_ble_eq_true rfl) rfl ?_
  refine e_aload_n (pc' := 1) dL_writeMagnet_0 rfl rfl rfl ?_
  refine e_iconst (pc' := 2) (v := nI 0) dL_writeMagnet_1 rfl (by decide) ?_
  refine e_aload_n (pc' := 3) dL_writeMagnet_2 rfl rfl rfl ?_
  refine e_iload_n (pc' := 4) dL_writeMagnet_3 rfl rfl rfl ?_
  refine r_VI (pc' := 7) (m' := mX8_writeMagnet) (As := [.int (x)]) (st := [.int (nI 0), .ref (ad 104)]) (hM) dL_writeMagnet_4 rfl rfl (Nat.le_of_ble_eq_true rfl) (fit_of (by omega) (by decide) (by decide) (by decide)) ml_L_113 okX8_writeMagnet rfl rfl (by decide) rfl (fun M1 hI => ?_)
  show EV _ _ _ _ _ 7 _ ([.int (v), .int (nI 0), .ref (ad 104)]) _
  refine e_i2l (pc' := 8) dL_writeMagnet_7 rfl ?_
  refine p_last (pc' := 9) dL_writeMagnet_8 rfl ?_
  refine e_goto (tgt := 15) dL_writeMagnet_9 (by decide) ?_
  refine e_iconst (pc' := 16) (v := nI 0) dL_writeMagnet_15 rfl (by decide) ?_
  exact e_iret dL_writeMagnet_16 rfl (⟨(_, _), rfl, rfl, _, _, rfl, (show vp_updL o.1 0 _ 0 = _ from vpl_0), hI⟩) (by decide) (by decide)
theorem wt1_writeMagnet (x : Int32) (hM : THRI G ad d mX8_writeMagnet [.ref (ad 0), .int (x)] M o "java/lang/IndexOutOfBoundsException" I) : CM G ad (d + 1) mL_writeMagnet (1, 6) [.ref (ad 0), .int (x), .ref (ad 104)] (M, o) (PW 1 NO I) := by
  refine CM_ofH (List.cons_ne_nil _ _) (by decide) rfl (Nat.le_of_ble_eq_true rfl) rfl ?_
  refine e_aload_n (pc' := 1) dL_writeMagnet_0 rfl rfl rfl ?_
  refine e_iconst (pc' := 2) (v := nI 0) dL_writeMagnet_1 rfl (by decide) ?_
  refine e_aload_n (pc' := 3) dL_writeMagnet_2 rfl rfl rfl ?_
  refine e_iload_n (pc' := 4) dL_writeMagnet_3 rfl rfl rfl ?_
  refine c_V (m' := mX8_writeMagnet) (As := [.int (x)]) (st := [.int (nI 0), .ref (ad 104)]) hM dL_writeMagnet_4 rfl rfl (Nat.le_of_ble_eq_true rfl) (fit_of (by omega) (by decide) (by decide) (by decide)) ml_L_113 okX8_writeMagnet rfl rfl (by decide) rfl (fun v2 S2 h => by cases h.1) (fun E2 S2 h => ?_)
  obtain ⟨h3, M1, rfl, hI⟩ := h
  cases h3
  refine x_catch [] (0, 9, 12, 21) [] rfl (fun z hz => (by cases hz)) (by decide) (by decide) cl_L_21 ca_IndexOutOfBoundsException (fun q => ?_)
  refine e_astore_n (pc' := 13) (L' := [some (.ref (ad 0)), some (.int (x)), some (.ref (ad 104)), some (.ref (q))]) dL_writeMagnet_12 rfl rfl (by decide) rfl ?_
  refine e_iconst (pc' := 14) (v := nI 1) dL_writeMagnet_13 rfl (by decide) ?_
  exact e_iret dL_writeMagnet_14 rfl (⟨(_, _), rfl, rfl, _, _, rfl, trivial, hI⟩) (by decide) (by decide)
theorem wo_lineCharacter (x : Int32) {v : Int32} (hM : RETI G ad d mX8_lineCharacter [.ref (ad 0), .int (x)] (M, o) (some (.int v)) I) : CM G ad (d + 1) mL_lineCharacter (1, 6) [.ref (ad 0), .int (x), .ref (ad 104)] (M, o) (PW 0 (LO v.toInt64) I) := by
  refine CM_ofH (List.cons_ne_nil _ _) (by decide) rfl (Nat.le_of_ble_eq_true rfl) rfl ?_
  refine e_aload_n (pc' := 1) dL_lineCharacter_0 rfl rfl rfl ?_
  refine e_iconst (pc' := 2) (v := nI 0) dL_lineCharacter_1 rfl (by decide) ?_
  refine e_aload_n (pc' := 3) dL_lineCharacter_2 rfl rfl rfl ?_
  refine e_iload_n (pc' := 4) dL_lineCharacter_3 rfl rfl rfl ?_
  refine r_VI (pc' := 7) (m' := mX8_lineCharacter) (As := [.int (x)]) (st := [.int (nI 0), .ref (ad 104)]) (hM) dL_lineCharacter_4 rfl rfl (Nat.le_of_ble_eq_true rfl) (fit_of (by omega) (by decide) (by decide) (by decide)) ml_L_116 okX8_lineCharacter rfl rfl (by decide) rfl (fun M1 hI => ?_)
  show EV _ _ _ _ _ 7 _ ([.int (v), .int (nI 0), .ref (ad 104)]) _
  refine e_i2l (pc' := 8) dL_lineCharacter_7 rfl ?_
  refine p_last (pc' := 9) dL_lineCharacter_8 rfl ?_
  refine e_goto (tgt := 15) dL_lineCharacter_9 (by decide) ?_
  refine e_iconst (pc' := 16) (v := nI 0) dL_lineCharacter_15 rfl (by decide) ?_
  exact e_iret dL_lineCharacter_16 rfl (⟨(_, _), rfl, rfl, _, _, rfl, (show vp_updL o.1 0 _ 0 = _ from vpl_0), hI⟩) (by decide) (by decide)
theorem wt1_lineCharacter (x : Int32) (hM : THRI G ad d mX8_lineCharacter [.ref (ad 0), .int (x)] M o "java/lang/IndexOutOfBoundsException" I) : CM G ad (d + 1) mL_lineCharacter (1, 6) [.ref (ad 0), .int (x), .ref (ad 104)] (M, o) (PW 1 NO I) := by
  refine CM_ofH (List.cons_ne_nil _ _) (by decide) rfl (Nat.le_of_ble_eq_true rfl) rfl ?_
  refine e_aload_n (pc' := 1) dL_lineCharacter_0 rfl rfl rfl ?_
  refine e_iconst (pc' := 2) (v := nI 0) dL_lineCharacter_1 rfl (by decide) ?_
  refine e_aload_n (pc' := 3) dL_lineCharacter_2 rfl rfl rfl ?_
  refine e_iload_n (pc' := 4) dL_lineCharacter_3 rfl rfl rfl ?_
  refine c_V (m' := mX8_lineCharacter) (As := [.int (x)]) (st := [.int (nI 0), .ref (ad 104)]) hM dL_lineCharacter_4 rfl rfl (Nat.le_of_ble_eq_true rfl) (fit_of (by omega) (by decide) (by decide) (by decide)) ml_L_116 okX8_lineCharacter rfl rfl (by decide) rfl (fun v2 S2 h => by cases h.1) (fun E2 S2 h => ?_)
  obtain ⟨h3, M1, rfl, hI⟩ := h
  cases h3
  refine x_catch [] (0, 9, 12, 21) [] rfl (fun z hz => (by cases hz)) (by decide) (by decide) cl_L_21 ca_IndexOutOfBoundsException (fun q => ?_)
  refine e_astore_n (pc' := 13) (L' := [some (.ref (ad 0)), some (.int (x)), some (.ref (ad 104)), some (.ref (q))]) dL_lineCharacter_12 rfl rfl (by decide) rfl ?_
  refine e_iconst (pc' := 14) (v := nI 1) dL_lineCharacter_13 rfl (by decide) ?_
  exact e_iret dL_lineCharacter_14 rfl (⟨(_, _), rfl, rfl, _, _, rfl, trivial, hI⟩) (by decide) (by decide)
theorem wo_denial {v : Int32} (hM : RETI G ad d mX8_denial [.ref (ad 0)] (M, o) (some (.int v)) I) : CM G ad (d + 1) mL_denial (1, 6) [.ref (ad 0), .ref (ad 104)] (M, o) (PW 0 (LO v.toInt64) I) := by
  refine CM_ofH (List.cons_ne_nil _ _) (by decide) rfl (Nat.le_of_ble_eq_true rfl) rfl ?_
  refine e_aload_n (pc' := 1) dL_denial_0 rfl rfl rfl ?_
  refine e_iconst (pc' := 2) (v := nI 0) dL_denial_1 rfl (by decide) ?_
  refine e_aload_n (pc' := 3) dL_denial_2 rfl rfl rfl ?_
  refine r_VI (pc' := 6) (m' := mX8_denial) (As := []) (st := [.int (nI 0), .ref (ad 104)]) (hM) dL_denial_3 rfl rfl (Nat.le_of_ble_eq_true rfl) (fit_of (by omega) (by decide) (by decide) (by decide)) ml_L_119 okX8_denial rfl rfl (by decide) rfl (fun M1 hI => ?_)
  show EV _ _ _ _ _ 6 _ ([.int (v), .int (nI 0), .ref (ad 104)]) _
  refine e_i2l (pc' := 7) dL_denial_6 rfl ?_
  refine p_last (pc' := 8) dL_denial_7 rfl ?_
  refine e_goto (tgt := 14) dL_denial_8 (by decide) ?_
  refine e_iconst (pc' := 15) (v := nI 0) dL_denial_14 rfl (by decide) ?_
  exact e_iret dL_denial_15 rfl (⟨(_, _), rfl, rfl, _, _, rfl, (show vp_updL o.1 0 _ 0 = _ from vpl_0), hI⟩) (by decide) (by decide)
theorem wt1_denial (hM : THRI G ad d mX8_denial [.ref (ad 0)] M o "java/util/NoSuchElementException" I) : CM G ad (d + 1) mL_denial (1, 6) [.ref (ad 0), .ref (ad 104)] (M, o) (PW 1 NO I) := by
  refine CM_ofH (List.cons_ne_nil _ _) (by decide) rfl (Nat.le_of_ble_eq_true rfl) rfl ?_
  refine e_aload_n (pc' := 1) dL_denial_0 rfl rfl rfl ?_
  refine e_iconst (pc' := 2) (v := nI 0) dL_denial_1 rfl (by decide) ?_
  refine e_aload_n (pc' := 3) dL_denial_2 rfl rfl rfl ?_
  refine c_V (m' := mX8_denial) (As := []) (st := [.int (nI 0), .ref (ad 104)]) hM dL_denial_3 rfl rfl (Nat.le_of_ble_eq_true rfl) (fit_of (by omega) (by decide) (by decide) (by decide)) ml_L_119 okX8_denial rfl rfl (by decide) rfl (fun v2 S2 h => by cases h.1) (fun E2 S2 h => ?_)
  obtain ⟨h3, M1, rfl, hI⟩ := h
  cases h3
  refine x_catch [] (0, 8, 11, 43) [] rfl (fun z hz => (by cases hz)) (by decide) (by decide) cl_L_43 ca_NoSuchElementException (fun q => ?_)
  refine e_astore_n (pc' := 12) (L' := [some (.ref (ad 0)), some (.ref (ad 104)), some (.ref (q))]) dL_denial_11 rfl rfl (by decide) rfl ?_
  refine e_iconst (pc' := 13) (v := nI 1) dL_denial_12 rfl (by decide) ?_
  exact e_iret dL_denial_13 rfl (⟨(_, _), rfl, rfl, _, _, rfl, trivial, hI⟩) (by decide) (by decide)
theorem wo_denialDetail {v : Int32} (hM : RETI G ad d mX8_denialDetail [.ref (ad 0)] (M, o) (some (.int v)) I) : CM G ad (d + 1) mL_denialDetail (1, 6) [.ref (ad 0), .ref (ad 104)] (M, o) (PW 0 (LO v.toInt64) I) := by
  refine CM_ofH (List.cons_ne_nil _ _) (by decide) rfl (Nat.le_of_ble_eq_true rfl) rfl ?_
  refine e_aload_n (pc' := 1) dL_denialDetail_0 rfl rfl rfl ?_
  refine e_iconst (pc' := 2) (v := nI 0) dL_denialDetail_1 rfl (by decide) ?_
  refine e_aload_n (pc' := 3) dL_denialDetail_2 rfl rfl rfl ?_
  refine r_VI (pc' := 6) (m' := mX8_denialDetail) (As := []) (st := [.int (nI 0), .ref (ad 104)]) (hM) dL_denialDetail_3 rfl rfl (Nat.le_of_ble_eq_true rfl) (fit_of (by omega) (by decide) (by decide) (by decide)) ml_L_122 okX8_denialDetail rfl rfl (by decide) rfl (fun M1 hI => ?_)
  show EV _ _ _ _ _ 6 _ ([.int (v), .int (nI 0), .ref (ad 104)]) _
  refine e_i2l (pc' := 7) dL_denialDetail_6 rfl ?_
  refine p_last (pc' := 8) dL_denialDetail_7 rfl ?_
  refine e_goto (tgt := 14) dL_denialDetail_8 (by decide) ?_
  refine e_iconst (pc' := 15) (v := nI 0) dL_denialDetail_14 rfl (by decide) ?_
  exact e_iret dL_denialDetail_15 rfl (⟨(_, _), rfl, rfl, _, _, rfl, (show vp_updL o.1 0 _ 0 = _ from vpl_0), hI⟩) (by decide) (by decide)
theorem wt1_denialDetail (hM : THRI G ad d mX8_denialDetail [.ref (ad 0)] M o "java/util/NoSuchElementException" I) : CM G ad (d + 1) mL_denialDetail (1, 6) [.ref (ad 0), .ref (ad 104)] (M, o) (PW 1 NO I) := by
  refine CM_ofH (List.cons_ne_nil _ _) (by decide) rfl (Nat.le_of_ble_eq_true rfl) rfl ?_
  refine e_aload_n (pc' := 1) dL_denialDetail_0 rfl rfl rfl ?_
  refine e_iconst (pc' := 2) (v := nI 0) dL_denialDetail_1 rfl (by decide) ?_
  refine e_aload_n (pc' := 3) dL_denialDetail_2 rfl rfl rfl ?_
  refine c_V (m' := mX8_denialDetail) (As := []) (st := [.int (nI 0), .ref (ad 104)]) hM dL_denialDetail_3 rfl rfl (Nat.le_of_ble_eq_true rfl) (fit_of (by omega) (by decide) (by decide) (by decide)) ml_L_122 okX8_denialDetail rfl rfl (by decide) rfl (fun v2 S2 h => by cases h.1) (fun E2 S2 h => ?_)
  obtain ⟨h3, M1, rfl, hI⟩ := h
  cases h3
  refine x_catch [] (0, 8, 11, 43) [] rfl (fun z hz => (by cases hz)) (by decide) (by decide) cl_L_43 ca_NoSuchElementException (fun q => ?_)
  refine e_astore_n (pc' := 12) (L' := [some (.ref (ad 0)), some (.ref (ad 104)), some (.ref (q))]) dL_denialDetail_11 rfl rfl (by decide) rfl ?_
  refine e_iconst (pc' := 13) (v := nI 1) dL_denialDetail_12 rfl (by decide) ?_
  exact e_iret dL_denialDetail_13 rfl (⟨(_, _), rfl, rfl, _, _, rfl, trivial, hI⟩) (by decide) (by decide)
theorem wo_denialCause {v : Int32} (hM : RETI G ad d mX8_denialCause [.ref (ad 0)] (M, o) (some (.int v)) I) : CM G ad (d + 1) mL_denialCause (1, 6) [.ref (ad 0), .ref (ad 104)] (M, o) (PW 0 (LO v.toInt64) I) := by
  refine CM_ofH (List.cons_ne_nil _ _) (by decide) rfl (Nat.le_of_ble_eq_true rfl) rfl ?_
  refine e_aload_n (pc' := 1) dL_denialCause_0 rfl rfl rfl ?_
  refine e_iconst (pc' := 2) (v := nI 0) dL_denialCause_1 rfl (by decide) ?_
  refine e_aload_n (pc' := 3) dL_denialCause_2 rfl rfl rfl ?_
  refine r_VI (pc' := 6) (m' := mX8_denialCause) (As := []) (st := [.int (nI 0), .ref (ad 104)]) (hM) dL_denialCause_3 rfl rfl (Nat.le_of_ble_eq_true rfl) (fit_of (by omega) (by decide) (by decide) (by decide)) ml_L_125 okX8_denialCause rfl rfl (by decide) rfl (fun M1 hI => ?_)
  show EV _ _ _ _ _ 6 _ ([.int (v), .int (nI 0), .ref (ad 104)]) _
  refine e_i2l (pc' := 7) dL_denialCause_6 rfl ?_
  refine p_last (pc' := 8) dL_denialCause_7 rfl ?_
  refine e_goto (tgt := 14) dL_denialCause_8 (by decide) ?_
  refine e_iconst (pc' := 15) (v := nI 0) dL_denialCause_14 rfl (by decide) ?_
  exact e_iret dL_denialCause_15 rfl (⟨(_, _), rfl, rfl, _, _, rfl, (show vp_updL o.1 0 _ 0 = _ from vpl_0), hI⟩) (by decide) (by decide)
theorem wt1_denialCause (hM : THRI G ad d mX8_denialCause [.ref (ad 0)] M o "java/util/NoSuchElementException" I) : CM G ad (d + 1) mL_denialCause (1, 6) [.ref (ad 0), .ref (ad 104)] (M, o) (PW 1 NO I) := by
  refine CM_ofH (List.cons_ne_nil _ _) (by decide) rfl (Nat.le_of_ble_eq_true rfl) rfl ?_
  refine e_aload_n (pc' := 1) dL_denialCause_0 rfl rfl rfl ?_
  refine e_iconst (pc' := 2) (v := nI 0) dL_denialCause_1 rfl (by decide) ?_
  refine e_aload_n (pc' := 3) dL_denialCause_2 rfl rfl rfl ?_
  refine c_V (m' := mX8_denialCause) (As := []) (st := [.int (nI 0), .ref (ad 104)]) hM dL_denialCause_3 rfl rfl (Nat.le_of_ble_eq_true rfl) (fit_of (by omega) (by decide) (by decide) (by decide)) ml_L_125 okX8_denialCause rfl rfl (by decide) rfl (fun v2 S2 h => by cases h.1) (fun E2 S2 h => ?_)
  obtain ⟨h3, M1, rfl, hI⟩ := h
  cases h3
  refine x_catch [] (0, 8, 11, 43) [] rfl (fun z hz => (by cases hz)) (by decide) (by decide) cl_L_43 ca_NoSuchElementException (fun q => ?_)
  refine e_astore_n (pc' := 12) (L' := [some (.ref (ad 0)), some (.ref (ad 104)), some (.ref (q))]) dL_denialCause_11 rfl rfl (by decide) rfl ?_
  refine e_iconst (pc' := 13) (v := nI 1) dL_denialCause_12 rfl (by decide) ?_
  exact e_iret dL_denialCause_13 rfl (⟨(_, _), rfl, rfl, _, _, rfl, trivial, hI⟩) (by decide) (by decide)
theorem wo_undo {v : Int32} (hM : RETI G ad d mX8_undo [.ref (ad 0)] (M, o) (some (.int v)) I) : CM G ad (d + 1) mL_undo (1, 6) [.ref (ad 0), .ref (ad 104)] (M, o) (PW 0 (LO v.toInt64) I) := by
  refine CM_ofH (List.cons_ne_nil _ _) (by decide) rfl (Nat.le_of_ble_eq_true rfl) rfl ?_
  refine e_aload_n (pc' := 1) dL_undo_0 rfl rfl rfl ?_
  refine e_iconst (pc' := 2) (v := nI 0) dL_undo_1 rfl (by decide) ?_
  refine e_aload_n (pc' := 3) dL_undo_2 rfl rfl rfl ?_
  refine r_VI (pc' := 6) (m' := mX8_undo) (As := []) (st := [.int (nI 0), .ref (ad 104)]) (hM) dL_undo_3 rfl rfl (Nat.le_of_ble_eq_true rfl) (fit_of (by omega) (by decide) (by decide) (by decide)) ml_L_128 okX8_undo rfl rfl (by decide) rfl (fun M1 hI => ?_)
  show EV _ _ _ _ _ 6 _ ([.int (v), .int (nI 0), .ref (ad 104)]) _
  refine e_i2l (pc' := 7) dL_undo_6 rfl ?_
  refine p_last (pc' := 8) dL_undo_7 rfl ?_
  refine e_goto (tgt := 14) dL_undo_8 (by decide) ?_
  refine e_iconst (pc' := 15) (v := nI 0) dL_undo_14 rfl (by decide) ?_
  exact e_iret dL_undo_15 rfl (⟨(_, _), rfl, rfl, _, _, rfl, (show vp_updL o.1 0 _ 0 = _ from vpl_0), hI⟩) (by decide) (by decide)
theorem wt1_undo (hM : THRI G ad d mX8_undo [.ref (ad 0)] M o "java/lang/IllegalStateException" I) : CM G ad (d + 1) mL_undo (1, 6) [.ref (ad 0), .ref (ad 104)] (M, o) (PW 1 NO I) := by
  refine CM_ofH (List.cons_ne_nil _ _) (by decide) rfl (Nat.le_of_ble_eq_true rfl) rfl ?_
  refine e_aload_n (pc' := 1) dL_undo_0 rfl rfl rfl ?_
  refine e_iconst (pc' := 2) (v := nI 0) dL_undo_1 rfl (by decide) ?_
  refine e_aload_n (pc' := 3) dL_undo_2 rfl rfl rfl ?_
  refine c_V (m' := mX8_undo) (As := []) (st := [.int (nI 0), .ref (ad 104)]) hM dL_undo_3 rfl rfl (Nat.le_of_ble_eq_true rfl) (fit_of (by omega) (by decide) (by decide) (by decide)) ml_L_128 okX8_undo rfl rfl (by decide) rfl (fun v2 S2 h => by cases h.1) (fun E2 S2 h => ?_)
  obtain ⟨h3, M1, rfl, hI⟩ := h
  cases h3
  refine x_catch [] (0, 8, 11, 105) [] rfl (fun z hz => (by cases hz)) (by decide) (by decide) cl_L_105 ca_IllegalStateException (fun q => ?_)
  refine e_astore_n (pc' := 12) (L' := [some (.ref (ad 0)), some (.ref (ad 104)), some (.ref (q))]) dL_undo_11 rfl rfl (by decide) rfl ?_
  refine e_iconst (pc' := 13) (v := nI 1) dL_undo_12 rfl (by decide) ?_
  exact e_iret dL_undo_13 rfl (⟨(_, _), rfl, rfl, _, _, rfl, trivial, hI⟩) (by decide) (by decide)
theorem wo_restoreSnapshot {v : Int32} (hM : RETI G ad d mX8_restoreSnapshot [.ref (ad 0)] (M, o) (some (.int v)) I) : CM G ad (d + 1) mL_restoreSnapshot (1, 6) [.ref (ad 0), .ref (ad 104)] (M, o) (PW 0 (LO v.toInt64) I) := by
  refine CM_ofH (List.cons_ne_nil _ _) (by decide) rfl (Nat.le_of_ble_eq_true rfl) rfl ?_
  refine e_aload_n (pc' := 1) dL_restoreSnapshot_0 rfl rfl rfl ?_
  refine e_iconst (pc' := 2) (v := nI 0) dL_restoreSnapshot_1 rfl (by decide) ?_
  refine e_aload_n (pc' := 3) dL_restoreSnapshot_2 rfl rfl rfl ?_
  refine r_VI (pc' := 6) (m' := mX8_restoreSnapshot) (As := []) (st := [.int (nI 0), .ref (ad 104)]) (hM) dL_restoreSnapshot_3 rfl rfl (Nat.le_of_ble_eq_true rfl) (fit_of (by omega) (by decide) (by decide) (by decide)) ml_L_131 okX8_restoreSnapshot rfl rfl (by decide) rfl (fun M1 hI => ?_)
  show EV _ _ _ _ _ 6 _ ([.int (v), .int (nI 0), .ref (ad 104)]) _
  refine e_i2l (pc' := 7) dL_restoreSnapshot_6 rfl ?_
  refine p_last (pc' := 8) dL_restoreSnapshot_7 rfl ?_
  refine e_goto (tgt := 14) dL_restoreSnapshot_8 (by decide) ?_
  refine e_iconst (pc' := 15) (v := nI 0) dL_restoreSnapshot_14 rfl (by decide) ?_
  exact e_iret dL_restoreSnapshot_15 rfl (⟨(_, _), rfl, rfl, _, _, rfl, (show vp_updL o.1 0 _ 0 = _ from vpl_0), hI⟩) (by decide) (by decide)
theorem wt1_restoreSnapshot (hM : THRI G ad d mX8_restoreSnapshot [.ref (ad 0)] M o "java/lang/IllegalStateException" I) : CM G ad (d + 1) mL_restoreSnapshot (1, 6) [.ref (ad 0), .ref (ad 104)] (M, o) (PW 1 NO I) := by
  refine CM_ofH (List.cons_ne_nil _ _) (by decide) rfl (Nat.le_of_ble_eq_true rfl) rfl ?_
  refine e_aload_n (pc' := 1) dL_restoreSnapshot_0 rfl rfl rfl ?_
  refine e_iconst (pc' := 2) (v := nI 0) dL_restoreSnapshot_1 rfl (by decide) ?_
  refine e_aload_n (pc' := 3) dL_restoreSnapshot_2 rfl rfl rfl ?_
  refine c_V (m' := mX8_restoreSnapshot) (As := []) (st := [.int (nI 0), .ref (ad 104)]) hM dL_restoreSnapshot_3 rfl rfl (Nat.le_of_ble_eq_true rfl) (fit_of (by omega) (by decide) (by decide) (by decide)) ml_L_131 okX8_restoreSnapshot rfl rfl (by decide) rfl (fun v2 S2 h => by cases h.1) (fun E2 S2 h => ?_)
  obtain ⟨h3, M1, rfl, hI⟩ := h
  cases h3
  refine x_catch [] (0, 8, 11, 105) [] rfl (fun z hz => (by cases hz)) (by decide) (by decide) cl_L_105 ca_IllegalStateException (fun q => ?_)
  refine e_astore_n (pc' := 12) (L' := [some (.ref (ad 0)), some (.ref (ad 104)), some (.ref (q))]) dL_restoreSnapshot_11 rfl rfl (by decide) rfl ?_
  refine e_iconst (pc' := 13) (v := nI 1) dL_restoreSnapshot_12 rfl (by decide) ?_
  exact e_iret dL_restoreSnapshot_13 rfl (⟨(_, _), rfl, rfl, _, _, rfl, trivial, hI⟩) (by decide) (by decide)
end T63

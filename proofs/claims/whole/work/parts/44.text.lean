set_option maxHeartbeats 400000
/-! THE REFERENCE: text, denials, undo, snapshots -/
/-- the reference's text -/
def TxR (M : Nat → Nat → Int32) (l : List Nat) : Prop := M 96 13 = nI l.length ∧ ∀ i, i < l.length → M 101 i = nI (l.getD i 0)
/-- the reference's line -/
def LnR (M : Nat → Nat → Int32) (l : List Nat) : Prop := M 96 16 = nI l.length ∧ ∀ i, i < l.length → M 102 i = nI (l.getD i 0)
/-- the reference's kept rows -/
def KtR (M : Nat → Nat → Int32) (hs : Nat → Col) (sz : Nat) : Prop := M 96 5 = nI sz ∧ sz ≤ 8 ∧ ∀ k, k < sz → RowAt M 98 (72 * k) (hs k)
/-- a copied row -/
theorem RowAt.cpy {M M' : Nat → Nat → Int32} {R p Q q : Nat} {c : Col} (h : RowAt M R p c) (hw : WF c) (hc : ∀ k, k < 72 → M' Q (q + k) = M R (p + k)) : RowAt M' Q q c := by
  have hn := hw.n
  have hk := hw.k
  obtain ⟨h1, h2, h3, h4, h5, h6⟩ := h
  exact ⟨(hc 0 (by decide)).trans h1, (hc 1 (by decide)).trans h2, (hc 2 (by decide)).trans h3, (hc 3 (by decide)).trans h4, fun i hi => ⟨(hc _ (by omega)).trans (h5 i hi).1, (hc _ (by omega)).trans (h5 i hi).2.1, (hc _ (by omega)).trans (h5 i hi).2.2.1, (hc _ (by omega)).trans (h5 i hi).2.2.2⟩, fun j hj => ⟨(hc _ (by omega)).trans (h6 j hj).1, (hc _ (by omega)).trans (h6 j hj).2⟩⟩
/-- a row in a part of a cell that stays -/
theorem RowAt.part {M M' : Nat → Nat → Int32} {R p : Nat} {c : Col} (h : RowAt M R p c) (hw : WF c) (hc : ∀ k, p ≤ k → k < p + 72 → M' R k = M R k) : RowAt M' R p c := h.cpy hw (fun k hk => hc _ (by omega) (by omega))
theorem KtR.kp {M M' : Nat → Nat → Int32} {hs : Nat → Col} {sz : Nat} (h : KtR M hs sz) (h5 : M' 96 5 = M 96 5) (h98 : M' 98 = M 98) : KtR M' hs sz := by
  refine ⟨h5.trans h.1, h.2.1, fun k hk => ?_⟩
  have := h.2.2 k hk
  unfold RowAt at this ⊢
  rw [h98]; exact this
section T44
variable {G : gC} {ad : Nat → Nat} {d : Nat} {M : Nat → Nat → Int32} {o : (Nat → Int64) × (Nat → UInt64)} {c : Col} {hs : Nat → Col} {sz : Nat} {l : List Nat}
theorem TxR.add (hT : TxR M l) {v : Nat} {M' : Nat → Nat → Int32} (h0 : M' 96 13 = nI (l.length + 1)) (h1 : ∀ i, M' 101 i = up2 M 101 l.length (nI v) 101 i) : TxR M' (l ++ [v]) := by
  refine ⟨by rw [h0, List.length_append]; rfl, fun i hi => ?_⟩
  rw [List.length_append] at hi
  have hi : i < l.length + 1 := hi
  rw [h1]
  by_cases e : i = l.length
  · subst e
    rw [up2_s, List.getD_eq_getElem?_getD, List.getElem?_append_right (Nat.le_refl _), Nat.sub_self]; rfl
  · rw [up2_k e, hT.2 i (by omega), List.getD_eq_getElem?_getD, List.getD_eq_getElem?_getD, List.getElem?_append_left (by omega)]
theorem g_feed (hT : TxR M l) (hl : l.length < 60) {v : Nat} (hv : v < 65536) : RETI G ad (d + 1) mX9_feed [.ref (ad 96), .int (nI v)] (M, o) (some (.int (nI (l.length + 1)))) (fun M' => M' 96 8 = nI 0 ∧ TxR M' (l ++ [v]) ∧ (∀ j, j ≠ 7 → j ≠ 8 → j ≠ 13 → M' 96 j = M 96 j) ∧ KP (fun a => a == 96 || a == 101) M M') := by
  refine CM_of rfl (by decide) rfl (Nat.le_of_ble_eq_true rfl) rfl ?_
  refine e_aload_n (pc' := 1) dX9_feed_0 rfl rfl rfl ?_
  refine e_aload_n (pc' := 2) dX9_feed_1 rfl rfl rfl ?_
  refine p_gfi (pc' := 5) (a := 96) (k := 13) (x := nI (l.length)) dX9_feed_2 rfl (rfl) (by decide) (by decide) rfl fl_X9_160 (hT.1) ?_
  refine e_bipush (pc' := 7) (v := nI 60) dX9_feed_5 rfl (by decide) ?_
  refine e_icmp_neN (pc' := 10) (tgt := 14) dX9_feed_7 rfl (by decide) (by omega) (by omega) (fun hz1 => ?_) (fun hz1 => absurd hz1 (by omega))
  refine e_iconst (pc' := 15) (v := nI 0) dX9_feed_14 rfl (by decide) ?_
  refine r_V (pc' := 18) (m' := mX9_fails) (As := [.int (nI 0)]) (st := []) (g_fails (d := d) (p := 0) (by omega)) dX9_feed_15 rfl rfl (Nat.le_of_ble_eq_true rfl) (fit_of (by omega) (by decide) (by decide) (by decide)) ml_X9_70 okX9_fails rfl rfl (by decide) rfl ?_
  show EV _ _ _ _ _ 18 _ ([.int (bI (decide (0 < 0)))]) _
  refine e_if_eqB (pc' := 21) (tgt := 23) dX9_feed_18 rfl (by decide) (fun hz2 => ?_) (fun hz2 => absurd hz2 (by decide))
  refine e_aload_n (pc' := 24) dX9_feed_23 rfl rfl rfl ?_
  refine p_gfr (pc' := 27) (a := 96) (k := 12) (t := 101) dX9_feed_24 rfl rfl (by decide) (by decide) rfl fl_X9_22 ?_
  refine e_aload_n (pc' := 28) dX9_feed_27 rfl rfl rfl ?_
  refine p_gfi (pc' := 31) (a := 96) (k := 13) (x := nI (l.length)) dX9_feed_28 rfl (rfl) (by decide) (by decide) rfl fl_X9_160 (by rw [up2_k (by decide)]; exact by rw [up2_k (by decide)]; exact hT.1) ?_
  refine e_iload_n (pc' := 32) dX9_feed_31 rfl rfl rfl ?_
  refine p_iast (pc' := 33) (a := 101) (k := l.length) dX9_feed_32 rfl (rfl) (rfl) (by omega) (by decide) ?_
  refine e_aload_n (pc' := 34) dX9_feed_33 rfl rfl rfl ?_
  refine e_dup (pc' := 35) dX9_feed_34 rfl rfl ?_
  refine p_gfi (pc' := 38) (a := 96) (k := 13) (x := nI (l.length)) dX9_feed_35 rfl (rfl) (by decide) (by decide) rfl fl_X9_160 (by rw [up2_n (by decide)]; exact by rw [up2_k (by decide)]; exact by rw [up2_k (by decide)]; exact hT.1) ?_
  refine e_iconst (pc' := 39) (v := nI 1) dX9_feed_38 rfl (by decide) ?_
  refine e_iaddN (pc' := 40) dX9_feed_39 rfl ?_
  refine p_pfi (pc' := 43) (a := 96) (k := 13) dX9_feed_40 rfl (rfl) (by decide) (by decide) rfl fl_X9_160 rfl rfl ?_
  refine e_aload_n (pc' := 44) dX9_feed_43 rfl rfl rfl ?_
  refine p_gfi (pc' := 47) (a := 96) (k := 13) (x := nI (l.length + 1)) dX9_feed_44 rfl (rfl) (by decide) (by decide) rfl fl_X9_160 (up2_s) ?_
  exact e_iret dX9_feed_47 rfl (MP.retI rfl ⟨by rw [up2_k (by decide), up2_n (by decide), up2_k (by decide)]; exact up2_s, hT.add up2_s (fun i => by
      rw [up2_n (show (101 : Nat) ≠ 96 by decide)]
      by_cases e : i = l.length
      · subst e; rw [up2_s, up2_s]
      · rw [up2_k e, up2_k e, up2_n (show (101 : Nat) ≠ 96 by decide), up2_n (show (101 : Nat) ≠ 96 by decide)]), fun j h1 h2 h3 => by rw [up2_k h3, up2_n (by decide), up2_k h1, up2_k h2], (((KP.refl.up (by decide)).up (by decide)).up (by decide)).up (by decide)⟩) (by decide) (by decide)
theorem g_feed_no (hT : TxR M l) (hl : l.length = 60) (v : Nat) : RETI G ad (d + 1) mX9_feed [.ref (ad 96), .int (nI v)] (M, o) (some (.int (nI 0))) (QR 1 M) := by
  refine CM_of rfl (by decide) rfl (Nat.le_of_ble_eq_true rfl) rfl ?_
  refine e_aload_n (pc' := 1) dX9_feed_0 rfl rfl rfl ?_
  refine e_aload_n (pc' := 2) dX9_feed_1 rfl rfl rfl ?_
  refine p_gfi (pc' := 5) (a := 96) (k := 13) (x := nI (l.length)) dX9_feed_2 rfl (rfl) (by decide) (by decide) rfl fl_X9_160 (hT.1) ?_
  refine e_bipush (pc' := 7) (v := nI 60) dX9_feed_5 rfl (by decide) ?_
  refine e_icmp_neN (pc' := 10) (tgt := 14) dX9_feed_7 rfl (by decide) (by omega) (by omega) (fun hz1 => absurd hz1 (by omega)) (fun hz1 => ?_)
  refine e_iconst (pc' := 11) (v := nI 1) dX9_feed_10 rfl (by decide) ?_
  refine e_goto (tgt := 15) dX9_feed_11 (by decide) ?_
  refine r_V (pc' := 18) (m' := mX9_fails) (As := [.int (nI 1)]) (st := []) (g_fails (d := d) (p := 1) (by omega)) dX9_feed_15 rfl rfl (Nat.le_of_ble_eq_true rfl) (fit_of (by omega) (by decide) (by decide) (by decide)) ml_X9_70 okX9_fails rfl rfl (by decide) rfl ?_
  show EV _ _ _ _ _ 18 _ ([.int (bI (decide (0 < 1)))]) _
  refine e_if_eqB (pc' := 21) (tgt := 23) dX9_feed_18 rfl (by decide) (fun hz2 => absurd hz2 (by decide)) (fun hz2 => ?_)
  refine e_iconst (pc' := 22) (v := nI 0) dX9_feed_21 rfl (by decide) ?_
  exact e_iret dX9_feed_22 rfl (MP.retI (rfl) QR.f) (by decide) (by decide)
theorem g_denial (hx : ¬ M 96 9 = 0) : RETI G ad (d + 1) mX9_denial [.ref (ad 96)] (M, o) (some (.int (M 96 9))) (QR 0 M) := by
  refine CM_of rfl (by decide) rfl (Nat.le_of_ble_eq_true rfl) rfl ?_
  refine e_aload_n (pc' := 1) dX9_denial_0 rfl rfl rfl ?_
  refine e_aload_n (pc' := 2) dX9_denial_1 rfl rfl rfl ?_
  refine p_gfi (pc' := 5) (a := 96) (k := 9) (x := M 96 9) dX9_denial_2 rfl (rfl) (by decide) (by decide) rfl fl_X9_43 (rfl) ?_
  refine e_if_ne (pc' := 8) (tgt := 12) dX9_denial_5 rfl (by decide) (fun hz1 => ?_) (fun hz1 => absurd hz1 (hx))
  refine e_iconst (pc' := 13) (v := nI 0) dX9_denial_12 rfl (by decide) ?_
  refine r_V (pc' := 16) (m' := mX9_fails) (As := [.int (nI 0)]) (st := []) (g_fails (d := d) (p := 0) (by omega)) dX9_denial_13 rfl rfl (Nat.le_of_ble_eq_true rfl) (fit_of (by omega) (by decide) (by decide) (by decide)) ml_X9_70 okX9_fails rfl rfl (by decide) rfl ?_
  show EV _ _ _ _ _ 16 _ ([.int (bI (decide (0 < 0)))]) _
  refine e_if_eqB (pc' := 19) (tgt := 23) dX9_denial_16 rfl (by decide) (fun hz2 => ?_) (fun hz2 => absurd hz2 (by decide))
  refine e_aload_n (pc' := 24) dX9_denial_23 rfl rfl rfl ?_
  refine p_gfi (pc' := 27) (a := 96) (k := 9) (x := M 96 9) dX9_denial_24 rfl (rfl) (by decide) (by decide) rfl fl_X9_43 (by rw [up2_k (by decide)]; exact by rw [up2_k (by decide)]) ?_
  exact e_iret dX9_denial_27 rfl (MP.retI (rfl) QR.f) (by decide) (by decide)
theorem g_denial_no (hx : M 96 9 = 0) : RETI G ad (d + 1) mX9_denial [.ref (ad 96)] (M, o) (some (.int (nI 0))) (QR 1 M) := by
  refine CM_of rfl (by decide) rfl (Nat.le_of_ble_eq_true rfl) rfl ?_
  refine e_aload_n (pc' := 1) dX9_denial_0 rfl rfl rfl ?_
  refine e_aload_n (pc' := 2) dX9_denial_1 rfl rfl rfl ?_
  refine p_gfi (pc' := 5) (a := 96) (k := 9) (x := M 96 9) dX9_denial_2 rfl (rfl) (by decide) (by decide) rfl fl_X9_43 (rfl) ?_
  refine e_if_ne (pc' := 8) (tgt := 12) dX9_denial_5 rfl (by decide) (fun hz1 => absurd hz1 (not_not_intro hx)) (fun hz1 => ?_)
  refine e_iconst (pc' := 9) (v := nI 1) dX9_denial_8 rfl (by decide) ?_
  refine e_goto (tgt := 13) dX9_denial_9 (by decide) ?_
  refine r_V (pc' := 16) (m' := mX9_fails) (As := [.int (nI 1)]) (st := []) (g_fails (d := d) (p := 1) (by omega)) dX9_denial_13 rfl rfl (Nat.le_of_ble_eq_true rfl) (fit_of (by omega) (by decide) (by decide) (by decide)) ml_X9_70 okX9_fails rfl rfl (by decide) rfl ?_
  show EV _ _ _ _ _ 16 _ ([.int (bI (decide (0 < 1)))]) _
  refine e_if_eqB (pc' := 19) (tgt := 23) dX9_denial_16 rfl (by decide) (fun hz2 => absurd hz2 (by decide)) (fun hz2 => ?_)
  refine e_iconst (pc' := 20) (v := nI 0) dX9_denial_19 rfl (by decide) ?_
  refine e_goto (tgt := 27) dX9_denial_20 (by decide) ?_
  exact e_iret dX9_denial_27 rfl (MP.retI (rfl) QR.f) (by decide) (by decide)
theorem g_denialDetail (hx : ¬ M 96 9 = 0) : RETI G ad (d + 1) mX9_denialDetail [.ref (ad 96)] (M, o) (some (.int (M 96 10))) (QR 0 M) := by
  refine CM_of rfl (by decide) rfl (Nat.le_of_ble_eq_true rfl) rfl ?_
  refine e_aload_n (pc' := 1) dX9_denialDetail_0 rfl rfl rfl ?_
  refine e_aload_n (pc' := 2) dX9_denialDetail_1 rfl rfl rfl ?_
  refine p_gfi (pc' := 5) (a := 96) (k := 9) (x := M 96 9) dX9_denialDetail_2 rfl (rfl) (by decide) (by decide) rfl fl_X9_43 (rfl) ?_
  refine e_if_ne (pc' := 8) (tgt := 12) dX9_denialDetail_5 rfl (by decide) (fun hz1 => ?_) (fun hz1 => absurd hz1 (hx))
  refine e_iconst (pc' := 13) (v := nI 0) dX9_denialDetail_12 rfl (by decide) ?_
  refine r_V (pc' := 16) (m' := mX9_fails) (As := [.int (nI 0)]) (st := []) (g_fails (d := d) (p := 0) (by omega)) dX9_denialDetail_13 rfl rfl (Nat.le_of_ble_eq_true rfl) (fit_of (by omega) (by decide) (by decide) (by decide)) ml_X9_70 okX9_fails rfl rfl (by decide) rfl ?_
  show EV _ _ _ _ _ 16 _ ([.int (bI (decide (0 < 0)))]) _
  refine e_if_eqB (pc' := 19) (tgt := 23) dX9_denialDetail_16 rfl (by decide) (fun hz2 => ?_) (fun hz2 => absurd hz2 (by decide))
  refine e_aload_n (pc' := 24) dX9_denialDetail_23 rfl rfl rfl ?_
  refine p_gfi (pc' := 27) (a := 96) (k := 10) (x := M 96 10) dX9_denialDetail_24 rfl (rfl) (by decide) (by decide) rfl fl_X9_46 (by rw [up2_k (by decide)]; exact by rw [up2_k (by decide)]) ?_
  exact e_iret dX9_denialDetail_27 rfl (MP.retI (rfl) QR.f) (by decide) (by decide)
theorem g_denialDetail_no (hx : M 96 9 = 0) : RETI G ad (d + 1) mX9_denialDetail [.ref (ad 96)] (M, o) (some (.int (nI 0))) (QR 1 M) := by
  refine CM_of rfl (by decide) rfl (Nat.le_of_ble_eq_true rfl) rfl ?_
  refine e_aload_n (pc' := 1) dX9_denialDetail_0 rfl rfl rfl ?_
  refine e_aload_n (pc' := 2) dX9_denialDetail_1 rfl rfl rfl ?_
  refine p_gfi (pc' := 5) (a := 96) (k := 9) (x := M 96 9) dX9_denialDetail_2 rfl (rfl) (by decide) (by decide) rfl fl_X9_43 (rfl) ?_
  refine e_if_ne (pc' := 8) (tgt := 12) dX9_denialDetail_5 rfl (by decide) (fun hz1 => absurd hz1 (not_not_intro hx)) (fun hz1 => ?_)
  refine e_iconst (pc' := 9) (v := nI 1) dX9_denialDetail_8 rfl (by decide) ?_
  refine e_goto (tgt := 13) dX9_denialDetail_9 (by decide) ?_
  refine r_V (pc' := 16) (m' := mX9_fails) (As := [.int (nI 1)]) (st := []) (g_fails (d := d) (p := 1) (by omega)) dX9_denialDetail_13 rfl rfl (Nat.le_of_ble_eq_true rfl) (fit_of (by omega) (by decide) (by decide) (by decide)) ml_X9_70 okX9_fails rfl rfl (by decide) rfl ?_
  show EV _ _ _ _ _ 16 _ ([.int (bI (decide (0 < 1)))]) _
  refine e_if_eqB (pc' := 19) (tgt := 23) dX9_denialDetail_16 rfl (by decide) (fun hz2 => absurd hz2 (by decide)) (fun hz2 => ?_)
  refine e_iconst (pc' := 20) (v := nI 0) dX9_denialDetail_19 rfl (by decide) ?_
  refine e_goto (tgt := 27) dX9_denialDetail_20 (by decide) ?_
  exact e_iret dX9_denialDetail_27 rfl (MP.retI (rfl) QR.f) (by decide) (by decide)
theorem g_denialCause (hx : ¬ M 96 11 = 0) : RETI G ad (d + 1) mX9_denialCause [.ref (ad 96)] (M, o) (some (.int (M 96 11))) (QR 0 M) := by
  refine CM_of rfl (by decide) rfl (Nat.le_of_ble_eq_true rfl) rfl ?_
  refine e_aload_n (pc' := 1) dX9_denialCause_0 rfl rfl rfl ?_
  refine e_aload_n (pc' := 2) dX9_denialCause_1 rfl rfl rfl ?_
  refine p_gfi (pc' := 5) (a := 96) (k := 11) (x := M 96 11) dX9_denialCause_2 rfl (rfl) (by decide) (by decide) rfl fl_X9_49 (rfl) ?_
  refine e_if_ne (pc' := 8) (tgt := 12) dX9_denialCause_5 rfl (by decide) (fun hz1 => ?_) (fun hz1 => absurd hz1 (hx))
  refine e_iconst (pc' := 13) (v := nI 0) dX9_denialCause_12 rfl (by decide) ?_
  refine r_V (pc' := 16) (m' := mX9_fails) (As := [.int (nI 0)]) (st := []) (g_fails (d := d) (p := 0) (by omega)) dX9_denialCause_13 rfl rfl (Nat.le_of_ble_eq_true rfl) (fit_of (by omega) (by decide) (by decide) (by decide)) ml_X9_70 okX9_fails rfl rfl (by decide) rfl ?_
  show EV _ _ _ _ _ 16 _ ([.int (bI (decide (0 < 0)))]) _
  refine e_if_eqB (pc' := 19) (tgt := 23) dX9_denialCause_16 rfl (by decide) (fun hz2 => ?_) (fun hz2 => absurd hz2 (by decide))
  refine e_aload_n (pc' := 24) dX9_denialCause_23 rfl rfl rfl ?_
  refine p_gfi (pc' := 27) (a := 96) (k := 11) (x := M 96 11) dX9_denialCause_24 rfl (rfl) (by decide) (by decide) rfl fl_X9_49 (by rw [up2_k (by decide)]; exact by rw [up2_k (by decide)]) ?_
  exact e_iret dX9_denialCause_27 rfl (MP.retI (rfl) QR.f) (by decide) (by decide)
theorem g_denialCause_no (hx : M 96 11 = 0) : RETI G ad (d + 1) mX9_denialCause [.ref (ad 96)] (M, o) (some (.int (nI 0))) (QR 1 M) := by
  refine CM_of rfl (by decide) rfl (Nat.le_of_ble_eq_true rfl) rfl ?_
  refine e_aload_n (pc' := 1) dX9_denialCause_0 rfl rfl rfl ?_
  refine e_aload_n (pc' := 2) dX9_denialCause_1 rfl rfl rfl ?_
  refine p_gfi (pc' := 5) (a := 96) (k := 11) (x := M 96 11) dX9_denialCause_2 rfl (rfl) (by decide) (by decide) rfl fl_X9_49 (rfl) ?_
  refine e_if_ne (pc' := 8) (tgt := 12) dX9_denialCause_5 rfl (by decide) (fun hz1 => absurd hz1 (not_not_intro hx)) (fun hz1 => ?_)
  refine e_iconst (pc' := 9) (v := nI 1) dX9_denialCause_8 rfl (by decide) ?_
  refine e_goto (tgt := 13) dX9_denialCause_9 (by decide) ?_
  refine r_V (pc' := 16) (m' := mX9_fails) (As := [.int (nI 1)]) (st := []) (g_fails (d := d) (p := 1) (by omega)) dX9_denialCause_13 rfl rfl (Nat.le_of_ble_eq_true rfl) (fit_of (by omega) (by decide) (by decide) (by decide)) ml_X9_70 okX9_fails rfl rfl (by decide) rfl ?_
  show EV _ _ _ _ _ 16 _ ([.int (bI (decide (0 < 1)))]) _
  refine e_if_eqB (pc' := 19) (tgt := 23) dX9_denialCause_16 rfl (by decide) (fun hz2 => absurd hz2 (by decide)) (fun hz2 => ?_)
  refine e_iconst (pc' := 20) (v := nI 0) dX9_denialCause_19 rfl (by decide) ?_
  refine e_goto (tgt := 27) dX9_denialCause_20 (by decide) ?_
  exact e_iret dX9_denialCause_27 rfl (MP.retI (rfl) QR.f) (by decide) (by decide)
theorem g_faultPosition (hx : 0 ≤ M 96 14) : RETI G ad (d + 1) mX9_faultPosition [.ref (ad 96)] (M, o) (some (.int (M 96 14))) (QR 0 M) := by
  refine CM_of rfl (by decide) rfl (Nat.le_of_ble_eq_true rfl) rfl ?_
  refine e_aload_n (pc' := 1) dX9_faultPosition_0 rfl rfl rfl ?_
  refine e_aload_n (pc' := 2) dX9_faultPosition_1 rfl rfl rfl ?_
  refine p_gfi (pc' := 5) (a := 96) (k := 14) (x := M 96 14) dX9_faultPosition_2 rfl (rfl) (by decide) (by decide) rfl fl_X9_25 (rfl) ?_
  refine e_if_ge (pc' := 8) (tgt := 12) dX9_faultPosition_5 rfl (by decide) (fun hz1 => ?_) (fun hz1 => absurd hz1 (not_not_intro hx))
  refine e_iconst (pc' := 13) (v := nI 0) dX9_faultPosition_12 rfl (by decide) ?_
  refine r_V (pc' := 16) (m' := mX9_fails) (As := [.int (nI 0)]) (st := []) (g_fails (d := d) (p := 0) (by omega)) dX9_faultPosition_13 rfl rfl (Nat.le_of_ble_eq_true rfl) (fit_of (by omega) (by decide) (by decide) (by decide)) ml_X9_70 okX9_fails rfl rfl (by decide) rfl ?_
  show EV _ _ _ _ _ 16 _ ([.int (bI (decide (0 < 0)))]) _
  refine e_if_eqB (pc' := 19) (tgt := 23) dX9_faultPosition_16 rfl (by decide) (fun hz2 => ?_) (fun hz2 => absurd hz2 (by decide))
  refine e_aload_n (pc' := 24) dX9_faultPosition_23 rfl rfl rfl ?_
  refine p_gfi (pc' := 27) (a := 96) (k := 14) (x := M 96 14) dX9_faultPosition_24 rfl (rfl) (by decide) (by decide) rfl fl_X9_25 (by rw [up2_k (by decide)]; exact by rw [up2_k (by decide)]) ?_
  exact e_iret dX9_faultPosition_27 rfl (MP.retI (rfl) QR.f) (by decide) (by decide)
theorem g_faultPosition_no (hx : ¬ 0 ≤ M 96 14) : RETI G ad (d + 1) mX9_faultPosition [.ref (ad 96)] (M, o) (some (.int (nI 0))) (QR 1 M) := by
  refine CM_of rfl (by decide) rfl (Nat.le_of_ble_eq_true rfl) rfl ?_
  refine e_aload_n (pc' := 1) dX9_faultPosition_0 rfl rfl rfl ?_
  refine e_aload_n (pc' := 2) dX9_faultPosition_1 rfl rfl rfl ?_
  refine p_gfi (pc' := 5) (a := 96) (k := 14) (x := M 96 14) dX9_faultPosition_2 rfl (rfl) (by decide) (by decide) rfl fl_X9_25 (rfl) ?_
  refine e_if_ge (pc' := 8) (tgt := 12) dX9_faultPosition_5 rfl (by decide) (fun hz1 => absurd hz1 (hx)) (fun hz1 => ?_)
  refine e_iconst (pc' := 9) (v := nI 1) dX9_faultPosition_8 rfl (by decide) ?_
  refine e_goto (tgt := 13) dX9_faultPosition_9 (by decide) ?_
  refine r_V (pc' := 16) (m' := mX9_fails) (As := [.int (nI 1)]) (st := []) (g_fails (d := d) (p := 1) (by omega)) dX9_faultPosition_13 rfl rfl (Nat.le_of_ble_eq_true rfl) (fit_of (by omega) (by decide) (by decide) (by decide)) ml_X9_70 okX9_fails rfl rfl (by decide) rfl ?_
  show EV _ _ _ _ _ 16 _ ([.int (bI (decide (0 < 1)))]) _
  refine e_if_eqB (pc' := 19) (tgt := 23) dX9_faultPosition_16 rfl (by decide) (fun hz2 => absurd hz2 (by decide)) (fun hz2 => ?_)
  refine e_iconst (pc' := 20) (v := nI 0) dX9_faultPosition_19 rfl (by decide) ?_
  refine e_goto (tgt := 27) dX9_faultPosition_20 (by decide) ?_
  exact e_iret dX9_faultPosition_27 rfl (MP.retI (rfl) QR.f) (by decide) (by decide)
theorem in_len {x : Int32} {n : Nat} (hn : n < 2 ^ 30) : decide (nI 0 ≤ x ∧ x ≤ nI n - nI 1) = decide (0 ≤ x ∧ x < nI n) := in_has hn
theorem g_lineC (hL : LnR M l) (hl : l.length ≤ 23) {j : Nat} (hj : j < l.length) (hv : l.getD j 0 < 65536) : RETI G ad (d + 1) mX9_lineCharacter [.ref (ad 96), .int (nI j)] (M, o) (some (.int (nI (l.getD j 0)))) (QR 0 M) := by
  refine CM_of rfl (by decide) rfl (Nat.le_of_ble_eq_true rfl) rfl ?_
  refine e_aload_n (pc' := 1) dX9_lineCharacter_0 rfl rfl rfl ?_
  refine e_iload_n (pc' := 2) dX9_lineCharacter_1 rfl rfl rfl ?_
  refine e_iconst (pc' := 3) (v := nI 0) dX9_lineCharacter_2 rfl (by decide) ?_
  refine e_aload_n (pc' := 4) dX9_lineCharacter_3 rfl rfl rfl ?_
  refine p_gfi (pc' := 7) (a := 96) (k := 16) (x := nI (l.length)) dX9_lineCharacter_4 rfl (rfl) (by decide) (by decide) rfl fl_X9_246 (hL.1) ?_
  refine e_iconst (pc' := 8) (v := nI 1) dX9_lineCharacter_7 rfl (by decide) ?_
  refine e_isub (pc' := 9) dX9_lineCharacter_8 rfl ?_
  refine r_S (pc' := 12) (m' := mX9_in) (As := [.int (nI j), .int (nI 0), .int ((nI (l.length)) - (nI 1))]) (st := [.ref (ad 96)]) (g_in (d := d) (nI j) (nI 0) ((nI (l.length)) - (nI 1))) dX9_lineCharacter_9 rfl rfl (Nat.le_of_ble_eq_true rfl) (fit_of (by omega) (by decide) (by decide) (by decide)) ml_X9_62 okX9_in rfl rfl ?_
  show EV _ _ _ _ _ 12 _ ([.int (bI (decide ((nI 0) ≤ (nI j) ∧ (nI j) ≤ ((nI (l.length)) - (nI 1))))), .ref (ad 96)]) _
  refine e_if_eqB (pc' := 15) (tgt := 19) dX9_lineCharacter_12 rfl (by decide) (fun hz1 => absurd hz1 (by rw [in_len (by omega), decide_eq_true (nI_in2 hj (by omega))]; decide)) (fun hz1 => ?_)
  refine e_iconst (pc' := 16) (v := nI 0) dX9_lineCharacter_15 rfl (by decide) ?_
  refine e_goto (tgt := 20) dX9_lineCharacter_16 (by decide) ?_
  refine r_V (pc' := 23) (m' := mX9_fails) (As := [.int (nI 0)]) (st := []) (g_fails (d := d) (p := 0) (by omega)) dX9_lineCharacter_20 rfl rfl (Nat.le_of_ble_eq_true rfl) (fit_of (by omega) (by decide) (by decide) (by decide)) ml_X9_70 okX9_fails rfl rfl (by decide) rfl ?_
  show EV _ _ _ _ _ 23 _ ([.int (bI (decide (0 < 0)))]) _
  refine e_if_eqB (pc' := 26) (tgt := 31) dX9_lineCharacter_23 rfl (by decide) (fun hz2 => ?_) (fun hz2 => absurd hz2 (by decide))
  refine e_aload_n (pc' := 32) dX9_lineCharacter_31 rfl rfl rfl ?_
  refine p_gfr (pc' := 35) (a := 96) (k := 15) (t := 102) dX9_lineCharacter_32 rfl rfl (by decide) (by decide) rfl fl_X9_29 ?_
  refine e_iload_n (pc' := 36) dX9_lineCharacter_35 rfl rfl rfl ?_
  refine p_cald (pc' := 37) (a := 102) (k := j) (x := nI (l.getD j 0)) dX9_lineCharacter_36 rfl (rfl) (rfl) (by omega) (by decide) (by rw [up2_n (by decide), up2_n (by decide)]; exact hL.2 j hj) ?_
  exact e_zret (ty := .char) dX9_lineCharacter_37 rfl (congrArg Value.int (i2c_nI hv)) (MP.retI (rfl) QR.f) (by decide) (by decide)
theorem g_lineC_no (hL : LnR M l) (hl : l.length ≤ 23) (x : Int32) (hx : ¬ (0 ≤ x ∧ x < nI l.length)) : RETI G ad (d + 1) mX9_lineCharacter [.ref (ad 96), .int (x)] (M, o) (some (.int (nI 32))) (QR 1 M) := by
  refine CM_of rfl (by decide) rfl (Nat.le_of_ble_eq_true rfl) rfl ?_
  refine e_aload_n (pc' := 1) dX9_lineCharacter_0 rfl rfl rfl ?_
  refine e_iload_n (pc' := 2) dX9_lineCharacter_1 rfl rfl rfl ?_
  refine e_iconst (pc' := 3) (v := nI 0) dX9_lineCharacter_2 rfl (by decide) ?_
  refine e_aload_n (pc' := 4) dX9_lineCharacter_3 rfl rfl rfl ?_
  refine p_gfi (pc' := 7) (a := 96) (k := 16) (x := nI (l.length)) dX9_lineCharacter_4 rfl (rfl) (by decide) (by decide) rfl fl_X9_246 (hL.1) ?_
  refine e_iconst (pc' := 8) (v := nI 1) dX9_lineCharacter_7 rfl (by decide) ?_
  refine e_isub (pc' := 9) dX9_lineCharacter_8 rfl ?_
  refine r_S (pc' := 12) (m' := mX9_in) (As := [.int (x), .int (nI 0), .int ((nI (l.length)) - (nI 1))]) (st := [.ref (ad 96)]) (g_in (d := d) (x) (nI 0) ((nI (l.length)) - (nI 1))) dX9_lineCharacter_9 rfl rfl (Nat.le_of_ble_eq_true rfl) (fit_of (by omega) (by decide) (by decide) (by decide)) ml_X9_62 okX9_in rfl rfl ?_
  show EV _ _ _ _ _ 12 _ ([.int (bI (decide ((nI 0) ≤ (x) ∧ (x) ≤ ((nI (l.length)) - (nI 1))))), .ref (ad 96)]) _
  refine e_if_eqB (pc' := 15) (tgt := 19) dX9_lineCharacter_12 rfl (by decide) (fun hz1 => ?_) (fun hz1 => absurd hz1 (by rw [in_len (by omega), decide_eq_false hx]; decide))
  refine e_iconst (pc' := 20) (v := nI 1) dX9_lineCharacter_19 rfl (by decide) ?_
  refine r_V (pc' := 23) (m' := mX9_fails) (As := [.int (nI 1)]) (st := []) (g_fails (d := d) (p := 1) (by omega)) dX9_lineCharacter_20 rfl rfl (Nat.le_of_ble_eq_true rfl) (fit_of (by omega) (by decide) (by decide) (by decide)) ml_X9_70 okX9_fails rfl rfl (by decide) rfl ?_
  show EV _ _ _ _ _ 23 _ ([.int (bI (decide (0 < 1)))]) _
  refine e_if_eqB (pc' := 26) (tgt := 31) dX9_lineCharacter_23 rfl (by decide) (fun hz2 => absurd hz2 (by decide)) (fun hz2 => ?_)
  refine e_bipush (pc' := 28) (v := nI 32) dX9_lineCharacter_26 rfl (by decide) ?_
  refine e_goto (tgt := 37) dX9_lineCharacter_28 (by decide) ?_
  exact e_zret (ty := .char) dX9_lineCharacter_37 rfl (rfl) (MP.retI (rfl) QR.f) (by decide) (by decide)
theorem g_undo (hK : KtR M hs sz) (h0 : 0 < sz) (hwl : WF (hs (sz - 1))) : RETI G ad (d + 1) mX9_undo [.ref (ad 96)] (M, o) (some (.int (nI (sz - 1)))) (fun M' => M' 96 8 = nI 0 ∧ RowAt M' 97 0 (hs (sz - 1)) ∧ KtR M' hs (sz - 1) ∧ (∀ j, j ≠ 5 → j ≠ 7 → j ≠ 8 → M' 96 j = M 96 j) ∧ KP (fun a => a == 96 || a == 97) M M') := by
  refine CM_of rfl (by decide) rfl (Nat.le_of_ble_eq_true rfl) rfl ?_
  have h8 := hK.2.1
  refine e_aload_n (pc' := 1) dX9_undo_0 rfl rfl rfl ?_
  refine e_aload_n (pc' := 2) dX9_undo_1 rfl rfl rfl ?_
  refine p_gfi (pc' := 5) (a := 96) (k := 5) (x := nI sz) dX9_undo_2 rfl (rfl) (by decide) (by decide) rfl fl_X9_55 (hK.1) ?_
  refine e_if_neN (pc' := 8) (tgt := 12) dX9_undo_5 rfl (by decide) (by omega) (fun hz1 => ?_) (fun hz1 => absurd hz1 (by omega))
  refine e_iconst (pc' := 13) (v := nI 0) dX9_undo_12 rfl (by decide) ?_
  refine r_V (pc' := 16) (m' := mX9_fails) (As := [.int (nI 0)]) (st := []) (g_fails (d := d) (p := 0) (by omega)) dX9_undo_13 rfl rfl (Nat.le_of_ble_eq_true rfl) (fit_of (by omega) (by decide) (by decide) (by decide)) ml_X9_70 okX9_fails rfl rfl (by decide) rfl ?_
  show EV _ _ _ _ _ 16 _ ([.int (bI (decide (0 < 0)))]) _
  refine e_if_eqB (pc' := 19) (tgt := 21) dX9_undo_16 rfl (by decide) (fun hz2 => ?_) (fun hz2 => absurd hz2 (by decide))
  refine e_aload_n (pc' := 22) dX9_undo_21 rfl rfl rfl ?_
  refine e_dup (pc' := 23) dX9_undo_22 rfl rfl ?_
  refine p_gfi (pc' := 26) (a := 96) (k := 5) (x := nI sz) dX9_undo_23 rfl (rfl) (by decide) (by decide) rfl fl_X9_55 (by rw [up2_k (by decide)]; exact by rw [up2_k (by decide)]; exact hK.1) ?_
  refine e_iconst (pc' := 27) (v := nI 1) dX9_undo_26 rfl (by decide) ?_
  refine e_isubN (pc' := 28) dX9_undo_27 rfl (by omega) ?_
  refine p_pfi (pc' := 31) (a := 96) (k := 5) dX9_undo_28 rfl (rfl) (by decide) (by decide) rfl fl_X9_55 rfl rfl ?_
  refine e_aload_n (pc' := 32) dX9_undo_31 rfl rfl rfl ?_
  refine p_gfr (pc' := 35) (a := 96) (k := 1) (t := 98) dX9_undo_32 rfl rfl (by decide) (by decide) rfl fl_X9_13 ?_
  refine e_bipush (pc' := 37) (v := nI 72) dX9_undo_35 rfl (by decide) ?_
  refine e_aload_n (pc' := 38) dX9_undo_37 rfl rfl rfl ?_
  refine p_gfi (pc' := 41) (a := 96) (k := 5) (x := nI (sz - 1)) dX9_undo_38 rfl (rfl) (by decide) (by decide) rfl fl_X9_55 (up2_s) ?_
  refine e_imulN (pc' := 42) dX9_undo_41 rfl ?_
  refine e_aload_n (pc' := 43) dX9_undo_42 rfl rfl rfl ?_
  refine p_gfr (pc' := 46) (a := 96) (k := 0) (t := 97) dX9_undo_43 rfl rfl (by decide) (by decide) rfl fl_X9_7 ?_
  refine e_iconst (pc' := 47) (v := nI 0) dX9_undo_46 rfl (by decide) ?_
  refine r_SI (pc' := 50) (m' := mX9_copies) (As := [.ref (ad 98), .int (nI (72 * (sz - 1))), .ref (ad 97), .int (nI 0)]) (st := []) (g_copies (d := d) (R := 98) (Q := 97) (n0 := 576) (n1 := 72) (p := 72 * (sz - 1)) (q := 0) rfl rfl (by decide) (by omega) (by omega) (by decide) (by decide)) dX9_undo_47 rfl rfl (Nat.le_of_ble_eq_true rfl) (fit_of (by omega) (by decide) (by decide) (by decide)) ml_X9_58 okX9_copies rfl rfl (fun M1 ⟨k1, k2, k3⟩ => ?_)
  show EV _ _ _ _ _ 50 _ ([]) _
  refine e_aload_n (pc' := 51) dX9_undo_50 rfl rfl rfl ?_
  refine p_gfi (pc' := 54) (a := 96) (k := 5) (x := nI (sz - 1)) dX9_undo_51 rfl (rfl) (by decide) (by decide) rfl fl_X9_55 ((by rw [k3 96 (by decide)]; exact up2_s)) ?_
  exact e_iret dX9_undo_54 rfl (MP.retI rfl (by
  have e98 : M1 98 = M 98 := by rw [k3 98 (by decide), up2_n (by decide), up2_n (by decide), up2_n (by decide)]
  refine ⟨by rw [k3 96 (by decide), up2_k (by decide), up2_k (by decide)]; exact up2_s, (hK.2.2 (sz - 1) (by omega)).cpy hwl (fun k hk => (k1 k hk).trans (by rw [up2_n (by decide), up2_n (by decide), up2_n (by decide)])), ⟨by rw [k3 96 (by decide)]; exact up2_s, by omega, fun k hk => ?_⟩, fun j g1 g2 g3 => by rw [k3 96 (by decide), up2_k g1, up2_k g2, up2_k g3], (((KP.refl.up (by decide)).up (by decide)).up (by decide)).trans (k3.wide (fun a ha => by simp at ha ⊢; exact ha.2))⟩
  have := hK.2.2 k (by omega)
  unfold RowAt at this ⊢
  rw [e98]; exact this)) (by decide) (by decide)
theorem g_undo_no (hK : KtR M hs sz) (h0 : sz = 0) : RETI G ad (d + 1) mX9_undo [.ref (ad 96)] (M, o) (some (.int (nI 0))) (QR 1 M) := by
  refine CM_of rfl (by decide) rfl (Nat.le_of_ble_eq_true rfl) rfl ?_
  have h8 := hK.2.1
  refine e_aload_n (pc' := 1) dX9_undo_0 rfl rfl rfl ?_
  refine e_aload_n (pc' := 2) dX9_undo_1 rfl rfl rfl ?_
  refine p_gfi (pc' := 5) (a := 96) (k := 5) (x := nI sz) dX9_undo_2 rfl (rfl) (by decide) (by decide) rfl fl_X9_55 (hK.1) ?_
  refine e_if_neN (pc' := 8) (tgt := 12) dX9_undo_5 rfl (by decide) (by omega) (fun hz1 => absurd hz1 (by omega)) (fun hz1 => ?_)
  refine e_iconst (pc' := 9) (v := nI 1) dX9_undo_8 rfl (by decide) ?_
  refine e_goto (tgt := 13) dX9_undo_9 (by decide) ?_
  refine r_V (pc' := 16) (m' := mX9_fails) (As := [.int (nI 1)]) (st := []) (g_fails (d := d) (p := 1) (by omega)) dX9_undo_13 rfl rfl (Nat.le_of_ble_eq_true rfl) (fit_of (by omega) (by decide) (by decide) (by decide)) ml_X9_70 okX9_fails rfl rfl (by decide) rfl ?_
  show EV _ _ _ _ _ 16 _ ([.int (bI (decide (0 < 1)))]) _
  refine e_if_eqB (pc' := 19) (tgt := 21) dX9_undo_16 rfl (by decide) (fun hz2 => absurd hz2 (by decide)) (fun hz2 => ?_)
  refine e_iconst (pc' := 20) (v := nI 0) dX9_undo_19 rfl (by decide) ?_
  exact e_iret dX9_undo_20 rfl (MP.retI (rfl) QR.f) (by decide) (by decide)
theorem g_save (r : RowAt M 97 0 c) (hw : WF c) : RETI G ad (d + 1) mX9_saveSnapshot [.ref (ad 96)] (M, o) (some (.int (nI (cn c)))) (fun M' => M' 96 8 = nI 0 ∧ M' 96 4 = nI 1 ∧ RowAt M' 99 0 c ∧ (∀ j, j ≠ 4 → j ≠ 8 → M' 96 j = M 96 j) ∧ KP (fun a => a == 96 || a == 99) M M') := by
  refine CM_of rfl (by decide) rfl (Nat.le_of_ble_eq_true rfl) rfl ?_
  have hn := hw.n
  have hk := hw.k
  have hw9 := hw.w9
  refine e_aload_n (pc' := 1) dX9_saveSnapshot_0 rfl rfl rfl ?_
  refine e_iconst (pc' := 2) (v := nI 0) dX9_saveSnapshot_1 rfl (by decide) ?_
  refine p_pfi (pc' := 5) (a := 96) (k := 8) dX9_saveSnapshot_2 rfl (rfl) (by decide) (by decide) rfl fl_X9_36 rfl rfl ?_
  refine e_aload_n (pc' := 6) dX9_saveSnapshot_5 rfl rfl rfl ?_
  refine e_iconst (pc' := 7) (v := nI 1) dX9_saveSnapshot_6 rfl (by decide) ?_
  refine p_pfz (pc' := 10) (a := 96) (k := 4) dX9_saveSnapshot_7 rfl (rfl) (by decide) (by decide) rfl fl_X9_259 rfl rfl (Or.inr rfl) ?_
  refine e_aload_n (pc' := 11) dX9_saveSnapshot_10 rfl rfl rfl ?_
  refine p_gfr (pc' := 14) (a := 96) (k := 0) (t := 97) dX9_saveSnapshot_11 rfl rfl (by decide) (by decide) rfl fl_X9_7 ?_
  refine e_iconst (pc' := 15) (v := nI 0) dX9_saveSnapshot_14 rfl (by decide) ?_
  refine e_aload_n (pc' := 16) dX9_saveSnapshot_15 rfl rfl rfl ?_
  refine p_gfr (pc' := 19) (a := 96) (k := 2) (t := 99) dX9_saveSnapshot_16 rfl rfl (by decide) (by decide) rfl fl_X9_16 ?_
  refine e_iconst (pc' := 20) (v := nI 0) dX9_saveSnapshot_19 rfl (by decide) ?_
  refine r_SI (pc' := 23) (m' := mX9_copies) (As := [.ref (ad 97), .int (nI 0), .ref (ad 99), .int (nI 0)]) (st := []) (g_copies (d := d) (R := 97) (Q := 99) (n0 := 72) (n1 := 72) (p := 0) (q := 0) rfl rfl (by decide) (by omega) (by omega) (by decide) (by decide)) dX9_saveSnapshot_20 rfl rfl (Nat.le_of_ble_eq_true rfl) (fit_of (by omega) (by decide) (by decide) (by decide)) ml_X9_58 okX9_copies rfl rfl (fun M1 ⟨k1, k2, k3⟩ => ?_)
  show EV _ _ _ _ _ 23 _ ([]) _
  refine e_aload_n (pc' := 24) dX9_saveSnapshot_23 rfl rfl rfl ?_
  refine p_gfr (pc' := 27) (a := 96) (k := 0) (t := 97) dX9_saveSnapshot_24 rfl rfl (by decide) (by decide) rfl fl_X9_7 ?_
  refine e_iconst (pc' := 28) (v := nI 0) dX9_saveSnapshot_27 rfl (by decide) ?_
  refine p_iald (pc' := 29) (a := 97) (k := 0) (x := nI (cn c)) dX9_saveSnapshot_28 rfl (rfl) (rfl) (by omega) (by decide) (((((r.up (by decide)).up (by decide))).kp k3 (by decide)).n) ?_
  exact e_iret dX9_saveSnapshot_29 rfl (MP.retI rfl ⟨by rw [k3 96 (by decide), up2_k (by decide)]; exact up2_s, by rw [k3 96 (by decide)]; exact up2_s, r.cpy hw (fun k hk => (k1 k hk).trans (by rw [up2_n (by decide), up2_n (by decide)])), fun j g1 g2 => by rw [k3 96 (by decide), up2_k g1, up2_k g2], ((KP.refl.up (by decide)).up (by decide)).trans (k3.wide (fun a ha => by simp at ha ⊢; exact ha.2))⟩) (by decide) (by decide)
theorem g_restore (r : RowAt M 99 0 c) (hw : WF c) (h4 : M 96 4 = nI 1) : RETI G ad (d + 1) mX9_restoreSnapshot [.ref (ad 96)] (M, o) (some (.int (nI (cn c)))) (fun M' => M' 96 8 = nI 0 ∧ RowAt M' 97 0 c ∧ M' 96 5 = nI 0 ∧ (∀ j, j ≠ 5 → j ≠ 7 → j ≠ 8 → M' 96 j = M 96 j) ∧ KP (fun a => a == 96 || a == 97) M M') := by
  refine CM_of rfl (by decide) rfl (Nat.le_of_ble_eq_true rfl) rfl ?_
  have hn := hw.n
  have hk := hw.k
  have hw9 := hw.w9
  refine e_aload_n (pc' := 1) dX9_restoreSnapshot_0 rfl rfl rfl ?_
  refine e_aload_n (pc' := 2) dX9_restoreSnapshot_1 rfl rfl rfl ?_
  refine p_gfi (pc' := 5) (a := 96) (k := 4) (x := nI 1) dX9_restoreSnapshot_2 rfl (rfl) (by decide) (by decide) rfl fl_X9_259 (h4) ?_
  refine e_if_eqN (pc' := 8) (tgt := 12) dX9_restoreSnapshot_5 rfl (by decide) (by omega) (fun hz1 => absurd hz1 (by omega)) (fun hz1 => ?_)
  refine e_iconst (pc' := 9) (v := nI 0) dX9_restoreSnapshot_8 rfl (by decide) ?_
  refine e_goto (tgt := 13) dX9_restoreSnapshot_9 (by decide) ?_
  refine r_V (pc' := 16) (m' := mX9_fails) (As := [.int (nI 0)]) (st := []) (g_fails (d := d) (p := 0) (by omega)) dX9_restoreSnapshot_13 rfl rfl (Nat.le_of_ble_eq_true rfl) (fit_of (by omega) (by decide) (by decide) (by decide)) ml_X9_70 okX9_fails rfl rfl (by decide) rfl ?_
  show EV _ _ _ _ _ 16 _ ([.int (bI (decide (0 < 0)))]) _
  refine e_if_eqB (pc' := 19) (tgt := 21) dX9_restoreSnapshot_16 rfl (by decide) (fun hz2 => ?_) (fun hz2 => absurd hz2 (by decide))
  refine e_aload_n (pc' := 22) dX9_restoreSnapshot_21 rfl rfl rfl ?_
  refine p_gfr (pc' := 25) (a := 96) (k := 2) (t := 99) dX9_restoreSnapshot_22 rfl rfl (by decide) (by decide) rfl fl_X9_16 ?_
  refine e_iconst (pc' := 26) (v := nI 0) dX9_restoreSnapshot_25 rfl (by decide) ?_
  refine e_aload_n (pc' := 27) dX9_restoreSnapshot_26 rfl rfl rfl ?_
  refine p_gfr (pc' := 30) (a := 96) (k := 0) (t := 97) dX9_restoreSnapshot_27 rfl rfl (by decide) (by decide) rfl fl_X9_7 ?_
  refine e_iconst (pc' := 31) (v := nI 0) dX9_restoreSnapshot_30 rfl (by decide) ?_
  refine r_SI (pc' := 34) (m' := mX9_copies) (As := [.ref (ad 99), .int (nI 0), .ref (ad 97), .int (nI 0)]) (st := []) (g_copies (d := d) (R := 99) (Q := 97) (n0 := 72) (n1 := 72) (p := 0) (q := 0) rfl rfl (by decide) (by omega) (by omega) (by decide) (by decide)) dX9_restoreSnapshot_31 rfl rfl (Nat.le_of_ble_eq_true rfl) (fit_of (by omega) (by decide) (by decide) (by decide)) ml_X9_58 okX9_copies rfl rfl (fun M1 ⟨k1, k2, k3⟩ => ?_)
  show EV _ _ _ _ _ 34 _ ([]) _
  refine e_aload_n (pc' := 35) dX9_restoreSnapshot_34 rfl rfl rfl ?_
  refine e_iconst (pc' := 36) (v := nI 0) dX9_restoreSnapshot_35 rfl (by decide) ?_
  refine p_pfi (pc' := 39) (a := 96) (k := 5) dX9_restoreSnapshot_36 rfl (rfl) (by decide) (by decide) rfl fl_X9_55 rfl rfl ?_
  refine e_aload_n (pc' := 40) dX9_restoreSnapshot_39 rfl rfl rfl ?_
  refine p_gfr (pc' := 43) (a := 96) (k := 0) (t := 97) dX9_restoreSnapshot_40 rfl rfl (by decide) (by decide) rfl fl_X9_7 ?_
  refine e_iconst (pc' := 44) (v := nI 0) dX9_restoreSnapshot_43 rfl (by decide) ?_
  refine p_iald (pc' := 45) (a := 97) (k := 0) (x := nI (cn c)) dX9_restoreSnapshot_44 rfl (rfl) (rfl) (by omega) (by decide) (by rw [up2_n (by decide)]; exact (r.cpy hw (fun k hk => (k1 k hk).trans (by rw [up2_n (by decide), up2_n (by decide)]))).n) ?_
  exact e_iret dX9_restoreSnapshot_45 rfl (MP.retI rfl ⟨by rw [up2_k (by decide), k3 96 (by decide), up2_k (by decide)]; exact up2_s, (r.cpy hw (fun k hk => (k1 k hk).trans (by rw [up2_n (by decide), up2_n (by decide)]))).up (by decide), up2_s, fun j g1 g2 g3 => by rw [up2_k g1, k3 96 (by decide), up2_k g2, up2_k g3], (((KP.refl.up (by decide)).up (by decide)).trans (k3.wide (fun a ha => by simp at ha ⊢; exact ha.2))).up (by decide)⟩) (by decide) (by decide)
theorem g_restore_no (h4 : M 96 4 = nI 0) : RETI G ad (d + 1) mX9_restoreSnapshot [.ref (ad 96)] (M, o) (some (.int (nI 0))) (QR 1 M) := by
  refine CM_of rfl (by decide) rfl (Nat.le_of_ble_eq_true rfl) rfl ?_
  refine e_aload_n (pc' := 1) dX9_restoreSnapshot_0 rfl rfl rfl ?_
  refine e_aload_n (pc' := 2) dX9_restoreSnapshot_1 rfl rfl rfl ?_
  refine p_gfi (pc' := 5) (a := 96) (k := 4) (x := nI 0) dX9_restoreSnapshot_2 rfl (rfl) (by decide) (by decide) rfl fl_X9_259 (h4) ?_
  refine e_if_eqN (pc' := 8) (tgt := 12) dX9_restoreSnapshot_5 rfl (by decide) (by omega) (fun hz1 => ?_) (fun hz1 => absurd hz1 (by omega))
  refine e_iconst (pc' := 13) (v := nI 1) dX9_restoreSnapshot_12 rfl (by decide) ?_
  refine r_V (pc' := 16) (m' := mX9_fails) (As := [.int (nI 1)]) (st := []) (g_fails (d := d) (p := 1) (by omega)) dX9_restoreSnapshot_13 rfl rfl (Nat.le_of_ble_eq_true rfl) (fit_of (by omega) (by decide) (by decide) (by decide)) ml_X9_70 okX9_fails rfl rfl (by decide) rfl ?_
  show EV _ _ _ _ _ 16 _ ([.int (bI (decide (0 < 1)))]) _
  refine e_if_eqB (pc' := 19) (tgt := 21) dX9_restoreSnapshot_16 rfl (by decide) (fun hz2 => absurd hz2 (by decide)) (fun hz2 => ?_)
  refine e_iconst (pc' := 20) (v := nI 0) dX9_restoreSnapshot_19 rfl (by decide) ?_
  exact e_iret dX9_restoreSnapshot_20 rfl (MP.retI (rfl) QR.f) (by decide) (by decide)
end T44

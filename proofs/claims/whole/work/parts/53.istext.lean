set_option maxHeartbeats 400000
/-! THE REFERENCE: a text -/
/-- the j-th command told, beside the class's -/
def CMR (cmd : Nat → Int32) (j : Nat) (M : Nat → Nat → Int32) : Prop := ∃ K, K < 8 ∧ cmd 0 = nI K ∧ M 103 (4 * j) = nI (mdK K) ∧ ∀ z, 1 ≤ z → z ≤ ar K → cmd z = M 103 (4 * j + z)
theorem ar_le : ∀ K, K < 8 → ar K ≤ 3 := by decide
theorem CMR.keep {cmd : Nat → Int32} {j i : Nat} {M M' : Nat → Nat → Int32} (h : CMR cmd j M) (hj : j < i) (hk : ∀ y, y < 4 * i → M' 103 y = M 103 y) : CMR cmd j M' := by
  obtain ⟨K, h1, h2, h3, h4⟩ := h
  have := ar_le K h1
  exact ⟨K, h1, h2, (hk _ (by omega)).trans h3, fun z g1 g2 => (h4 z g1 g2).trans (hk _ (by omega)).symm⟩
/-- what the reading of a text leaves -/
def ITI (l : List Nat) (cmds : Nat → Nat → Int32) (M M' : Nat → Nat → Int32) : Prop := ((prR l cmds).1 = true → M' 96 19 = nI (prR l cmds).2.1 ∧ (prR l cmds).2.1 ≤ 13 ∧ ∀ j, j < (prR l cmds).2.1 → CMR (prT l cmds j).2.1 j M') ∧ ((prR l cmds).1 = false → M' 96 17 = nI (prR l cmds).2.2 ∧ (prR l cmds).2.2 < 200) ∧ (∀ j, j ≠ 17 → j ≠ 19 → M' 96 j = M 96 j) ∧ KP (fun x => x == 96 || x == 103) M M'
section T53
variable {G : gC} {ad : Nat → Nat} {d : Nat} {M M0 : Nat → Nat → Int32} {o : (Nat → Int64) × (Nat → UInt64)} {l : List Nat} {cmds : Nat → Nat → Int32}
theorem TP.more {e i : Nat} {M1 : Nat → Nat → Int32} (h : TP l e i M1) {i2 : Nat} : TP l e i2 (up2 M1 96 19 (nI i2)) := by
  obtain ⟨⟨h1, h2⟩, h3, h4⟩ := h
  exact ⟨⟨by rw [up2_k (by decide)]; exact h1, fun i hi => by rw [up2_n (by decide)]; exact h2 i hi⟩, by rw [up2_k (by decide)]; exact h3, up2_s⟩
theorem iti_f {i : Nat} {M' : Nat → Nat → Int32} {x n : Nat} (e : prR l cmds = (false, n, x)) (h17 : M' 96 17 = nI x) (hx : x < 200) (hj : ∀ j, j ≠ 17 → j ≠ 19 → M' 96 j = M 96 j) (hk : KP (fun x => x == 96 || x == 103) M M') : ITI l cmds M M' := by
  unfold ITI
  rw [e]
  exact ⟨fun q => (by cases q), fun _ => ⟨h17, hx⟩, hj, hk⟩
theorem iti_t {M' : Nat → Nat → Int32} {x n : Nat} (e : prR l cmds = (true, n, x)) (hn : n ≤ 13) (h19 : M' 96 19 = nI n) (hc : ∀ j, j < n → CMR (prT l cmds j).2.1 j M') (hj : ∀ j, j ≠ 17 → j ≠ 19 → M' 96 j = M 96 j) (hk : KP (fun x => x == 96 || x == 103) M M') : ITI l cmds M M' := by
  unfold ITI
  rw [e]
  exact ⟨fun _ => ⟨h19, hn, hc⟩, fun q => (by cases q), hj, hk⟩
theorem gl_text (hl : l.length ≤ 60) (hc : ∀ i, l.getD i 0 < 65536) : ∀ i, i ≤ 13 → ∀ (M : Nat → Nat → Int32), TP l (prS l cmds i).1 i M → (prS l cmds i).1 ≤ 60 → (prS l cmds i).2 ≤ (prS l cmds i).1 → 5 * i ≤ (prS l cmds i).1 → (∀ j, j < i → prC l cmds j = true) → (∀ j, j < i → CMR (prT l cmds j).2.1 j M) → (∀ j, j ≠ 17 → j ≠ 19 → M 96 j = M0 96 j) → KP (fun x => x == 96 || x == 103) M0 M → ER G ad (d + 8) mX9_isText (0, 0) (PI (some (.int (bI (prR l cmds).1))) o (ITI l cmds M0)) (0, 0) 10 [some (.ref (ad 96))] [] (M, o) := down (13) _ (fun i hi ih M g1 g2 g3 g4 g5 g6 g7 g8 => by
  refine e_aload_n (pc' := 11) dX9_isText_10 rfl rfl rfl ?_
  refine r_VI (pc' := 14) (m' := mX9_commandHere) (As := []) (st := []) (g_cmd (d := d) (cmd := cmds i) (f := (prS l cmds i).2) g1 hl hc g2 (by omega) g3) dX9_isText_11 rfl rfl (Nat.le_of_ble_eq_true rfl) (fit_of (by omega) (by decide) (by decide) (by decide)) ml_X9_208 okX9_commandHere rfl rfl (by decide) rfl (fun M1 hO => ?_)
  show EV _ _ _ _ _ 14 _ ([.int (bI ((pcR l (prS l cmds i).1 (cmds i) (prS l cmds i).2).1.isSome))]) _
  refine e_if_neB (pc' := 17) (tgt := 19) dX9_isText_14 rfl (by decide) (fun h14 => ?_) (fun h14 => ?_)
  · obtain ⟨e, he⟩ : ∃ e, (pcR l (prS l cmds i).1 (cmds i) (prS l cmds i).2).1 = some e := Option.isSome_iff_exists.mp h14
    unfold CMO at hO
    rw [he] at hO
    obtain ⟨hB, hae, hfa, K, hK8, hK0, hK1, hK2⟩ := hO
    have hcm : CMR (prT l cmds i).2.1 i M1 := ⟨K, hK8, hK0, hK1, hK2⟩
    refine e_aload_n (pc' := 20) dX9_isText_19 rfl rfl rfl ?_
    refine e_dup (pc' := 21) dX9_isText_20 rfl rfl ?_
    refine p_gfi (pc' := 24) (a := 96) (k := 19) (x := nI i) dX9_isText_21 rfl (rfl) (by decide) (by decide) rfl fl_X9_169 (hB.tmv) ?_
    refine e_iconst (pc' := 25) (v := nI 1) dX9_isText_24 rfl (by decide) ?_
    refine e_iaddN (pc' := 26) dX9_isText_25 rfl ?_
    refine p_pfi (pc' := 29) (a := 96) (k := 19) dX9_isText_26 rfl (rfl) (by decide) (by decide) rfl fl_X9_169 rfl rfl ?_
    have hP2 : TP l e (i + 1) (up2 M1 96 19 (nI (i + 1))) := hB.1.more
    generalize hM2 : up2 M1 96 19 (nI (i + 1)) = M2 at hP2 ⊢
    have hB2 : TB l e (i + 1) M2 M2 := ⟨hP2, fun _ _ => rfl, fun _ _ => rfl, KP.refl⟩
    have f103 : M2 103 = M1 103 := by rw [← hM2]; exact up2_n (by decide)
    have f96 : ∀ j, j ≠ 17 → j ≠ 19 → M2 96 j = M0 96 j := fun j q1 q2 => by rw [← hM2, up2_k q2, hB.2.1 j q1]; exact g7 j q1 q2
    have fkp : KP (fun x => x == 96 || x == 103) M0 M2 := by rw [← hM2]; exact (g8.trans hB.2.2.2).up (by decide)
    have fcm : ∀ j, j < i + 1 → CMR (prT l cmds j).2.1 j M2 := fun j hj => by
      by_cases q : j = i
      · subst q; exact hcm.keep (Nat.lt_succ_self j) (fun y _ => by rw [f103])
      · exact ((g6 j (by omega)).keep (by omega) (fun y hy => hB.2.2.1 y hy)).keep (i := i) (by omega) (fun y _ => by rw [f103])
    refine e_aload_n (pc' := 30) dX9_isText_29 rfl rfl rfl ?_
    refine e_bipush (pc' := 32) (v := nI 59) dX9_isText_30 rfl (by decide) ?_
    have hee := pcR_e he
    rcases Bool.eq_false_or_eq_true (hasA l (e) 59) with h32 | h32
    · have hee := pcR_e he
      refine r_V (pc' := 35) (m' := mX9_skips) (As := [.int (nI 59)]) (st := []) (g_skips_t (d := d) hB2 hl hc (by omega) (s := 59) (by omega) h32) dX9_isText_32 rfl rfl (Nat.le_of_ble_eq_true rfl) (fit_of (by omega) (by decide) (by decide) (by decide)) ml_X9_179 okX9_skips rfl rfl (by decide) rfl ?_
      show EV _ _ _ _ _ 35 _ ([.int (bI (true))]) _
      refine e_if_neB (pc' := 38) (tgt := 10) dX9_isText_35 rfl (by decide) (fun hz2 => ?_) (fun hz2 => absurd hz2 (by decide))
      have hel := (of_decide_eq_true h32).1
      have e1 : (prS l cmds (i + 1)).1 = e + 1 := by show (match (pcR l (prS l cmds i).1 (cmds i) (prS l cmds i).2).1 with | some e => e + 1 | none => 0) = _; rw [he]
      have e2 : (prS l cmds (i + 1)).2 = (pcR l (prS l cmds i).1 (cmds i) (prS l cmds i).2).2.2 := rfl
      exact ih (by omega) _ (by rw [e1]; exact hB2.go.1) (by omega) (by omega) (by omega) (fun j hj => by by_cases q : j = i; rw [q]; unfold prC prT; rw [he]; simp [h32]; omega; exact g5 j (by omega)) (fun j hj => (fcm j hj).keep (i := i + 1) hj (fun y _ => by rw [up2_n (by decide)])) (fun j q1 q2 => by rw [up2_k q1]; exact f96 j q1 q2) (fkp.up (by decide))
    · have hee := pcR_e he
      refine r_V (pc' := 35) (m' := mX9_skips) (As := [.int (nI 59)]) (st := []) (g_skips_f (d := d) hB2 hl hc (by omega) (s := 59) (by omega) h32) dX9_isText_32 rfl rfl (Nat.le_of_ble_eq_true rfl) (fit_of (by omega) (by decide) (by decide) (by decide)) ml_X9_179 okX9_skips rfl rfl (by decide) rfl ?_
      show EV _ _ _ _ _ 35 _ ([.int (bI (false))]) _
      refine e_if_neB (pc' := 38) (tgt := 10) dX9_isText_35 rfl (by decide) (fun hz3 => absurd hz3 (by decide)) (fun hz3 => ?_)
      refine e_aload_n (pc' := 39) dX9_isText_38 rfl rfl rfl ?_
      refine p_gfi (pc' := 42) (a := 96) (k := 17) (x := nI e) dX9_isText_39 rfl (rfl) (by decide) (by decide) rfl fl_X9_163 (hP2.2.1) ?_
      refine e_aload_n (pc' := 43) dX9_isText_42 rfl rfl rfl ?_
      refine p_gfi (pc' := 46) (a := 96) (k := 13) (x := nI (l.length)) dX9_isText_43 rfl (rfl) (by decide) (by decide) rfl fl_X9_160 (hP2.1.1) ?_
      refine e_icmp_neN (pc' := 49) (tgt := 53) dX9_isText_46 rfl (by decide) (by omega) (by omega) (fun h46 => ?_) (fun h46 => ?_)
      · refine e_iconst (pc' := 54) (v := nI 0) dX9_isText_53 rfl (by decide) ?_
        exact e_zret (ty := .boolean) dX9_isText_54 rfl (rfl) (by
      have e1 := prR_at (l := l) (cmds := cmds) (i := i) (by omega) g5 (by unfold prC prT; rw [he]; simp [h32])
      have e2 : prR l cmds = (false, i + 1, e) := by rw [e1]; unfold prT; rw [he]; exact if_neg h46
      have hle := pcR_e he
      exact MP.retI (by rw [e2]; rfl) (iti_f (i := i) e2 hP2.2.1 (by omega) f96 fkp)) (by decide) (by decide)
      · refine e_iconst (pc' := 50) (v := nI 1) dX9_isText_49 rfl (by decide) ?_
        refine e_goto (tgt := 54) dX9_isText_50 (by decide) ?_
        exact e_zret (ty := .boolean) dX9_isText_54 rfl (rfl) (by
      have e1 := prR_at (l := l) (cmds := cmds) (i := i) (by omega) g5 (by unfold prC prT; rw [he]; simp [h46])
      have e2 : prR l cmds = (true, i + 1, (pcR l (prS l cmds i).1 (cmds i) (prS l cmds i).2).2.2) := by rw [e1]; unfold prT; rw [he]; exact if_pos h46
      exact MP.retI (by rw [e2]; rfl) (iti_t e2 (by omega) hP2.2.2 fcm f96 fkp)) (by decide) (by decide)
  · refine e_iconst (pc' := 18) (v := nI 0) dX9_isText_17 rfl (by decide) ?_
    exact e_zret (ty := .boolean) dX9_isText_18 rfl (rfl) (by
      have e0 : (pcR l (prS l cmds i).1 (cmds i) (prS l cmds i).2).1 = none := by cases q : (pcR l (prS l cmds i).1 (cmds i) (prS l cmds i).2).1 with | none => rfl | some z => rw [q] at h14; cases h14
      unfold CMO at hO
      rw [e0] at hO
      have hle := pcR_le (l := l) (a0 := (prS l cmds i).1) (cmd := cmds i) (f := (prS l cmds i).2)
      have e1 := prR_at (l := l) (cmds := cmds) (i := i) (by omega) g5 (by unfold prC prT; rw [e0])
      have e2 : prR l cmds = (false, i, (pcR l (prS l cmds i).1 (cmds i) (prS l cmds i).2).2.2) := by rw [e1]; unfold prT; rw [e0]
      exact MP.retI (by rw [e2]; rfl) (iti_f (i := i) e2 hO.at (by omega) (fun j q1 q2 => (hO.2.1 j q1).trans (g7 j q1 q2)) (g8.trans hO.2.2.2))) (by decide) (by decide))
theorem g_isText (hT : TxR M l) (hl : l.length ≤ 60) (hc : ∀ i, l.getD i 0 < 65536) : RETI G ad (d + 8) mX9_isText [.ref (ad 96)] (M, o) (some (.int (bI ((prR l cmds).1)))) (ITI l cmds M) := by
  refine CM_of rfl (by decide) rfl (Nat.le_of_ble_eq_true rfl) rfl ?_
  refine e_aload_n (pc' := 1) dX9_isText_0 rfl rfl rfl ?_
  refine e_iconst (pc' := 2) (v := nI 0) dX9_isText_1 rfl (by decide) ?_
  refine p_pfi (pc' := 5) (a := 96) (k := 17) dX9_isText_2 rfl (rfl) (by decide) (by decide) rfl fl_X9_163 rfl rfl ?_
  refine e_aload_n (pc' := 6) dX9_isText_5 rfl rfl rfl ?_
  refine e_iconst (pc' := 7) (v := nI 0) dX9_isText_6 rfl (by decide) ?_
  refine p_pfi (pc' := 10) (a := 96) (k := 19) dX9_isText_7 rfl (rfl) (by decide) (by decide) rfl fl_X9_169 rfl rfl ?_
  exact gl_text (M0 := M) hl hc 0 (by omega) _ ⟨⟨by rw [up2_k (by decide), up2_k (by decide)]; exact hT.1, fun i hi => by rw [up2_n (by decide), up2_n (by decide)]; exact hT.2 i hi⟩, by rw [up2_k (by decide)]; exact up2_s, up2_s⟩ (Nat.zero_le _) (Nat.le_refl _) (Nat.zero_le _) (fun j hj => absurd hj (Nat.not_lt_zero j)) (fun j hj => absurd hj (Nat.not_lt_zero j)) (fun j q1 q2 => by rw [up2_k q2, up2_k q1]) ((KP.refl.up (by decide)).up (by decide))
end T53

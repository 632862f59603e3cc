set_option maxHeartbeats 400000
/-! THE REFERENCE: execute -/
def EXI (c : Col) (q : Nat → Nat → Int32) (kk : Nat → Nat) (n : Nat) (hs : Nat → Col) (sz i : Nat) (M0 M : Nat → Nat → Int32) : Prop := RowAt M 97 0 (exC c q kk i) ∧ RowAt M 100 0 c ∧ KtR M hs sz ∧ M 96 6 = nI 1 ∧ M 96 8 = nI 0 ∧ M 96 19 = nI n ∧ (∀ j, j < n → CMR (q j) j M) ∧ (∀ j, j ≠ 5 → j ≠ 7 → j ≠ 8 → M 96 j = M0 96 j) ∧ KP (fun a => a == 96 || a == 97 || a == 98) M0 M
section T57
variable {G : gC} {ad : Nat → Nat} {d : Nat} {M M0 : Nat → Nat → Int32} {o : (Nat → Int64) × (Nat → UInt64)} {c : Col} {hs : Nat → Col} {sz n i : Nat} {q : Nat → Nat → Int32} {kk : Nat → Nat} {l : List Nat} {cmds : Nat → Nat → Int32}
theorem cmr_k (hkk : ∀ j, kk j = iN (q j 0)) {j : Nat} (h : CMR (q j) j M) : ∃ K, K < 8 ∧ kk j = K ∧ M 103 (4 * j) = nI (mdK K) ∧ (∀ C : Col, jd C K (M 103 (4 * j + 1)) (M 103 (4 * j + 2)) = jd C (kk j) (q j 1) (q j 2)) ∧ (∀ C : Col, cy C K (M 103 (4 * j + 1)) (M 103 (4 * j + 2)) (M 103 (4 * j + 3)) = cy C (kk j) (q j 1) (q j 2) (q j 3)) := by
  obtain ⟨K, hK8, h0, h1, h2⟩ := h
  have e : kk j = K := by rw [hkk, h0]; exact iN_nI (by omega)
  exact ⟨K, hK8, e, h1, fun C => by rw [e]; exact jd_ar hK8 (fun g => (h2 1 (by decide) g).symm) (fun g => (h2 2 (by decide) g).symm), fun C => by rw [e]; exact cy_ar hK8 (fun g => (h2 1 (by decide) g).symm) (fun g => (h2 2 (by decide) g).symm) (fun g => (h2 3 (by decide) g).symm)⟩
theorem EXI.next {M1 : Nat → Nat → Int32} (h : EXI c q kk n hs sz i M0 M) (h1 : CHI true hs sz (exC c q kk i) (exC c q kk (i + 1)) M M1) : EXI c q kk n hs sz (i + 1) M0 M1 := by
  obtain ⟨g1, g2, g3, g4, g5, g6, g7, g8, g9⟩ := h
  obtain ⟨k1, k2, k3, k4, k5⟩ := h1
  refine ⟨k2, g2.kp k5 (by decide), k3, (k4 6 (by decide) (by decide) (by decide)).trans g4, k1, (k4 19 (by decide) (by decide) (by decide)).trans g6, fun j hj => (g7 j hj).keep (i := j + 1) (by omega) (fun y _ => k5.at (by decide) y), fun j q1 q2 q3 => (k4 j q1 q2 q3).trans (g8 j q1 q2 q3), g9.trans k5⟩
theorem gl_exrun (hw0 : WF c) (hW : KWF hs sz) (hkk : ∀ j, kk j = iN (q j 0)) (hn13 : n ≤ 13) (hk8 : ∀ j, j < n → kk j < 8) {t : Nat} (ht : t ≤ n) (hok : ∀ j, j < t → exJ c q kk j = 0) {P : PM} (hfin : ∀ M, EXI c q kk n hs sz t M0 M → ER G ad (d + 6) mX9_execute (0, 0) (P) (0, 0) 62 [some (.ref (ad 96)), none, some (.int (nI t)), none] [] (M, o)) : ∀ i, i ≤ t → ∀ (M : Nat → Nat → Int32), EXI c q kk n hs sz i M0 M → ER G ad (d + 6) mX9_execute (0, 0) (P) (0, 0) 62 [some (.ref (ad 96)), none, some (.int (nI i)), none] [] (M, o) := down (t) _ (fun i hi ih M hE => by
  by_cases hit : i = t
  · subst hit; exact hfin M hE
  have hwi : WF (exC c q kk i) := exC_wf hw0 i (fun j hj => hk8 j (by omega)) (fun j hj => hok j (by omega))
  refine e_iload_n (pc' := 63) dX9_execute_62 rfl rfl rfl ?_
  refine e_aload_n (pc' := 64) dX9_execute_63 rfl rfl rfl ?_
  refine p_gfi (pc' := 67) (a := 96) (k := 19) (x := nI n) dX9_execute_64 rfl (rfl) (by decide) (by decide) rfl fl_X9_169 (hE.2.2.2.2.2.1) ?_
  refine e_icmp_geN (pc' := 70) (tgt := 98) dX9_execute_67 rfl (by decide) (by omega) (by omega) (fun hz1 => absurd hz1 (by omega)) (fun hz1 => ?_)
  refine e_aload_n (pc' := 71) dX9_execute_70 rfl rfl rfl ?_
  refine p_gfi (pc' := 74) (a := 96) (k := 8) (x := nI 0) dX9_execute_71 rfl (rfl) (by decide) (by decide) rfl fl_X9_36 (hE.2.2.2.2.1) ?_
  refine e_if_neN (pc' := 77) (tgt := 98) dX9_execute_74 rfl (by decide) (by decide) (fun h => absurd h (by decide)) (fun _ => ?_)
  refine e_aload_n (pc' := 78) dX9_execute_77 rfl rfl rfl ?_
  refine e_iconst (pc' := 79) (v := nI 4) dX9_execute_78 rfl (by decide) ?_
  refine e_iload_n (pc' := 80) dX9_execute_79 rfl rfl rfl ?_
  refine e_imulN (pc' := 81) dX9_execute_80 rfl ?_
  obtain ⟨K, hK8, hkK, hm0, hjj, hcc⟩ := cmr_k hkk (hE.2.2.2.2.2.2.1 i (by omega))
  have hjd : (jd (exC c q kk i) K (M 103 (4 * i + 1)) (M 103 (4 * i + 2))).1 = 0 := by rw [hjj]; exact hok i (by omega)
  refine r_VI (pc' := 84) (m' := mX9_carries) (As := [.int (nI (4 * i))]) (st := []) (g_car (d := d) (w := true) hE.1 hwi hE.2.2.1 hW hE.2.2.2.1 hK8 (j := i) (by omega) hm0 hjd) dX9_execute_81 rfl rfl (Nat.le_of_ble_eq_true rfl) (fit_of (by omega) (by decide) (by decide) (by decide)) ml_X9_240 okX9_carries rfl rfl (by decide) rfl (fun M1 hR => ?_)
  show EV _ _ _ _ _ 84 _ ([.int ((cy (exC c q kk i) K (M 103 (4 * i + 1)) (M 103 (4 * i + 2)) (M 103 (4 * i + 3))).1)]) _
  rw [hcc] at hR
  refine e_istore_n (pc' := 85) (L' := [some (.ref (ad 96)), none, some (.int (nI i)), some (.int ((cy (exC c q kk i) K (M 103 (4 * i + 1)) (M 103 (4 * i + 2)) (M 103 (4 * i + 3))).1))]) dX9_execute_84 rfl rfl (by decide) rfl ?_
  refine e_aload_n (pc' := 86) dX9_execute_85 rfl rfl rfl ?_
  refine p_gfi (pc' := 89) (a := 96) (k := 8) (x := nI 0) dX9_execute_86 rfl (rfl) (by decide) (by decide) rfl fl_X9_36 (hR.1) ?_
  refine e_if_neN (pc' := 92) (tgt := 62) dX9_execute_89 rfl (by decide) (by decide) (fun h => absurd h (by decide)) (fun _ => ?_)
  refine e_iincN (pc' := 95) (k := 1) (L' := [some (.ref (ad 96)), none, some (.int (nI (i + 1))), some (.int ((cy (exC c q kk i) K (M 103 (4 * i + 1)) (M 103 (4 * i + 2)) (M 103 (4 * i + 3))).1))]) dX9_execute_92 rfl rfl rfl (by decide) rfl ?_
  refine e_goto (tgt := 62) dX9_execute_95 (by decide) ?_
  refine e_fg (i := 3) (L' := [some (.ref (ad 96)), none, some (.int (nI (i + 1))), none]) rfl ?_
  exact ih (by omega) M1 (hE.next hR))
theorem TxR.nil {M : Nat → Nat → Int32} (h : M 96 13 = nI 0) : TxR M [] := ⟨h, fun i hi => absurd hi (Nat.not_lt_zero i)⟩
theorem g_exec_bad (hT : TxR M l) (hl : l.length ≤ 60) (hc : ∀ i, l.getD i 0 < 65536) (hb : (prR l cmds).1 = false) : RETI G ad (d + 9) mX9_execute [.ref (ad 96)] (M, o) (some (.int (nI 0))) (fun M' => M' 96 8 = nI 1 ∧ M' 96 14 = nI (prR l cmds).2.2 ∧ (prR l cmds).2.2 < 200 ∧ TxR M' [] ∧ (∀ j, j ≠ 7 → j ≠ 8 → j ≠ 13 → j ≠ 14 → j ≠ 17 → j ≠ 19 → M' 96 j = M 96 j) ∧ KP (fun x => x == 96 || x == 103) M M') := by
  refine CM_of rfl (by decide) rfl (Nat.le_of_ble_eq_true rfl) rfl ?_
  refine e_aload_n (pc' := 1) dX9_execute_0 rfl rfl rfl ?_
  refine r_VI (pc' := 4) (m' := mX9_isText) (As := []) (st := []) (g_isText (d := d) (cmds := cmds) hT hl hc) dX9_execute_1 rfl rfl (Nat.le_of_ble_eq_true rfl) (fit_of (by omega) (by decide) (by decide) (by decide)) ml_X9_237 okX9_isText rfl rfl (by decide) rfl (fun M1 ⟨i1, i2, i3, i4⟩ => ?_)
  show EV _ _ _ _ _ 4 _ ([.int (bI ((prR l cmds).1))]) _
  refine e_istore_n (pc' := 5) (L' := [some (.ref (ad 96)), some (.int (bI ((prR l cmds).1))), none, none]) dX9_execute_4 rfl rfl (by decide) rfl ?_
  refine e_iload_n (pc' := 6) dX9_execute_5 rfl rfl rfl ?_
  refine e_if_neB (pc' := 9) (tgt := 17) dX9_execute_6 rfl (by decide) (fun hz1 => absurd hz1 (by rw [hb]; decide)) (fun hz1 => ?_)
  refine e_aload_n (pc' := 10) dX9_execute_9 rfl rfl rfl ?_
  refine e_aload_n (pc' := 11) dX9_execute_10 rfl rfl rfl ?_
  refine p_gfi (pc' := 14) (a := 96) (k := 17) (x := nI ((prR l cmds).2.2)) dX9_execute_11 rfl (rfl) (by decide) (by decide) rfl fl_X9_163 ((i2 hb).1) ?_
  refine p_pfi (pc' := 17) (a := 96) (k := 14) dX9_execute_14 rfl (rfl) (by decide) (by decide) rfl fl_X9_25 rfl rfl ?_
  refine e_aload_n (pc' := 18) dX9_execute_17 rfl rfl rfl ?_
  refine e_iconst (pc' := 19) (v := nI 0) dX9_execute_18 rfl (by decide) ?_
  refine p_pfi (pc' := 22) (a := 96) (k := 13) dX9_execute_19 rfl (rfl) (by decide) (by decide) rfl fl_X9_160 rfl rfl ?_
  refine e_aload_n (pc' := 23) dX9_execute_22 rfl rfl rfl ?_
  refine e_iload_n (pc' := 24) dX9_execute_23 rfl rfl rfl ?_
  refine e_if_eqB (pc' := 27) (tgt := 31) dX9_execute_24 rfl (by decide) (fun hz2 => ?_) (fun hz2 => absurd hz2 (by rw [hb]; decide))
  refine e_iconst (pc' := 32) (v := nI 1) dX9_execute_31 rfl (by decide) ?_
  refine r_V (pc' := 35) (m' := mX9_fails) (As := [.int (nI 1)]) (st := []) (g_fails (d := d) (p := 1) (by omega)) dX9_execute_32 rfl rfl (Nat.le_of_ble_eq_true rfl) (fit_of (by omega) (by decide) (by decide) (by decide)) ml_X9_70 okX9_fails rfl rfl (by decide) rfl ?_
  show EV _ _ _ _ _ 35 _ ([.int (bI (decide (0 < 1)))]) _
  refine e_if_eqB (pc' := 38) (tgt := 40) dX9_execute_35 rfl (by decide) (fun hz3 => absurd hz3 (by decide)) (fun hz3 => ?_)
  refine e_iconst (pc' := 39) (v := nI 0) dX9_execute_38 rfl (by decide) ?_
  exact e_iret dX9_execute_39 rfl (MP.retI rfl ⟨by rw [up2_k (by decide)]; exact up2_s, by rw [up2_k (by decide), up2_k (by decide), up2_k (by decide)]; exact up2_s, (i2 hb).2, TxR.nil (by rw [up2_k (by decide), up2_k (by decide)]; exact up2_s), fun j h7 h8 h13 h14 h17 h19 => by rw [up2_k h7, up2_k h8, up2_k h13, up2_k h14]; exact i3 j h17 h19, (((i4.up (by decide)).up (by decide)).up (by decide)).up (by decide)⟩) (by decide) (by decide)
theorem EXI.off (h : EXI c q kk n hs sz i M0 M) {M1 : Nat → Nat → Int32} (e : M1 = up2 M 96 6 (nI 0)) : RowAt M1 97 0 (exC c q kk i) ∧ RowAt M1 100 0 c ∧ KtR M1 hs sz ∧ M1 96 6 = nI 0 ∧ M1 96 8 = nI 0 ∧ M1 96 19 = nI n ∧ (∀ j, j ≠ 5 → j ≠ 6 → j ≠ 7 → j ≠ 8 → M1 96 j = M0 96 j) ∧ KP (fun a => a == 96 || a == 97 || a == 98) M0 M1 := by
  obtain ⟨g1, g2, g3, g4, g5, g6, g7, g8, g9⟩ := h
  subst e
  exact ⟨g1.up (by decide), g2.up (by decide), g3.kp (up2_k (by decide)) (up2_n (by decide)), up2_s, by rw [up2_k (by decide)]; exact g5, by rw [up2_k (by decide)]; exact g6, fun j q1 q2 q3 q4 => by rw [up2_k q2]; exact g8 j q1 q3 q4, g9.up (by decide)⟩
theorem gl_exT1 (hw0 : WF c) (hW : KWF hs sz) (hkk : ∀ j, kk j = iN (q j 0)) (hn13 : n ≤ 13) (hE : EXI c q kk n hs sz n M0 M) {P : PM} (hP : ∀ M', (fun M' => M' 96 8 = nI 0 ∧ RowAt M' 97 0 (exC c q kk n) ∧ KtR M' (psh hs sz c) (min (sz + 1) 8) ∧ M' 96 6 = nI 0 ∧ (∀ j, j ≠ 5 → j ≠ 6 → j ≠ 7 → j ≠ 8 → M' 96 j = M0 96 j) ∧ KP (fun a => a == 96 || a == 97 || a == 98) M0 M') M' → P (.inl (some (.int (nI n)))) (M', o)) : ER G ad (d + 6) mX9_execute (0, 0) (P) (0, 0) 62 [some (.ref (ad 96)), none, some (.int (nI n)), none] [] (M, o) := by
  refine e_iload_n (pc' := 63) dX9_execute_62 rfl rfl rfl ?_
  refine e_aload_n (pc' := 64) dX9_execute_63 rfl rfl rfl ?_
  refine p_gfi (pc' := 67) (a := 96) (k := 19) (x := nI n) dX9_execute_64 rfl (rfl) (by decide) (by decide) rfl fl_X9_169 (hE.2.2.2.2.2.1) ?_
  refine e_icmp_geN (pc' := 70) (tgt := 98) dX9_execute_67 rfl (by decide) (by omega) (by omega) (fun hz1 => ?_) (fun hz1 => absurd hz1 (by omega))
  refine e_aload_n (pc' := 99) dX9_execute_98 rfl rfl rfl ?_
  refine e_iconst (pc' := 100) (v := nI 0) dX9_execute_99 rfl (by decide) ?_
  refine p_pfz (pc' := 103) (a := 96) (k := 6) dX9_execute_100 rfl (rfl) (by decide) (by decide) rfl fl_X9_52 rfl rfl (by decide) ?_
  refine e_aload_n (pc' := 104) dX9_execute_103 rfl rfl rfl ?_
  refine p_gfi (pc' := 107) (a := 96) (k := 8) (x := nI 0) dX9_execute_104 rfl (rfl) (by decide) (by decide) rfl fl_X9_36 (by rw [up2_k (by decide)]; exact hE.2.2.2.2.1) ?_
  refine e_if_leN (pc' := 110) (tgt := 139) dX9_execute_107 rfl (by decide) (by decide) (fun _ => ?_) (fun h => absurd h (by decide))
  refine e_aload_n (pc' := 140) dX9_execute_139 rfl rfl rfl ?_
  refine e_aload_n (pc' := 141) dX9_execute_140 rfl rfl rfl ?_
  refine p_gfr (pc' := 144) (a := 96) (k := 3) (t := 100) dX9_execute_141 rfl rfl (by decide) (by decide) rfl fl_X9_19 ?_
  obtain ⟨f1, f2, f3, f4, f5, f6, f7, f8⟩ := hE.off (M1 := (up2 M 96 6 (nI 0))) rfl
  refine r_VI (pc' := 147) (m' := mX9_keeps) (As := [.ref (ad 100)]) (st := []) (g_keeps0 (d := d) (R := 100) (Or.inr rfl) f2 hw0 f3 hW f4) dX9_execute_144 rfl rfl (Nat.le_of_ble_eq_true rfl) (fit_of (by omega) (by decide) (by decide) (by decide)) ml_X9_85 okX9_keeps rfl rfl (by decide) rfl (fun M1 ⟨k1, k2, k3, k4⟩ => ?_)
  show EV _ _ _ _ _ 147 _ ([]) _
  refine e_aload_n (pc' := 148) dX9_execute_147 rfl rfl rfl ?_
  refine p_gfi (pc' := 151) (a := 96) (k := 19) (x := nI n) dX9_execute_148 rfl (rfl) (by decide) (by decide) rfl fl_X9_169 (((k3 19 (by decide) (by decide)).trans f6)) ?_
  exact e_iret dX9_execute_151 rfl (⟨_, rfl, hP _ ⟨k1, f1.kp k4 (by decide), k2, (k3 6 (by decide) (by decide)).trans f4, fun j q1 q2 q3 q4 => (k3 j q1 q4).trans (f7 j q1 q2 q3 q4), f8.trans (k4.wide (fun a ha => by simp at ha ⊢; exact ⟨ha.1.1, ha.2⟩))⟩⟩) (by decide) (by decide)
theorem g_dtx1 (h7 : M 96 7 = nI 1) {r : Nat} (h9 : M 96 9 = nI r) (z : Nat) : RET G ad (d + 1) mX9_deniesText [.ref (ad 96), .int (nI z)] (M, o) (some (.int (nI 0))) ((up2 (up2 (up2 (up2 (up2 (up2 M 96 8 (nI 2)) 96 7 (nI 1)) 96 9 (nI 6)) 96 10 (nI z)) 96 11 (nI 0)) 96 11 (nI r)), o) := by
  refine CM_of rfl (by decide) rfl (Nat.le_of_ble_eq_true rfl) rfl ?_
  refine e_aload_n (pc' := 1) dX9_deniesText_0 rfl rfl rfl ?_
  refine p_gfi (pc' := 4) (a := 96) (k := 7) (x := nI 1) dX9_deniesText_1 rfl (rfl) (by decide) (by decide) rfl fl_X9_39 (h7) ?_
  refine e_if_eqN (pc' := 7) (tgt := 14) dX9_deniesText_4 rfl (by decide) (by decide) (fun h => absurd h (by decide)) (fun _ => ?_)
  refine e_aload_n (pc' := 8) dX9_deniesText_7 rfl rfl rfl ?_
  refine p_gfi (pc' := 11) (a := 96) (k := 9) (x := nI r) dX9_deniesText_8 rfl (rfl) (by decide) (by decide) rfl fl_X9_43 (h9) ?_
  refine e_goto (tgt := 16) dX9_deniesText_11 (by decide) ?_
  refine e_istore_n (pc' := 17) (L' := [some (.ref (ad 96)), some (.int (nI z)), some (.int (nI r))]) dX9_deniesText_16 rfl rfl (by decide) rfl ?_
  refine e_aload_n (pc' := 18) dX9_deniesText_17 rfl rfl rfl ?_
  refine e_iconst (pc' := 19) (v := nI 2) dX9_deniesText_18 rfl (by decide) ?_
  refine e_bipush (pc' := 21) (v := nI 6) dX9_deniesText_19 rfl (by decide) ?_
  refine e_iload_n (pc' := 22) dX9_deniesText_21 rfl rfl rfl ?_
  refine r_V (pc' := 25) (m' := mX9_denies) (As := [.int (nI 2), .int (nI 6), .int (nI z)]) (st := []) (g_denies (d := d) (2) (6) (nI z)) dX9_deniesText_22 rfl rfl (Nat.le_of_ble_eq_true rfl) (fit_of (by omega) (by decide) (by decide) (by decide)) ml_X9_77 okX9_denies rfl rfl (by decide) rfl ?_
  show EV _ _ _ _ _ 25 _ ([.int (nI 0)]) _
  refine e_pop (pc' := 26) dX9_deniesText_25 rfl rfl ?_
  refine e_aload_n (pc' := 27) dX9_deniesText_26 rfl rfl rfl ?_
  refine e_iload_n (pc' := 28) dX9_deniesText_27 rfl rfl rfl ?_
  refine p_pfi (pc' := 31) (a := 96) (k := 11) dX9_deniesText_28 rfl (rfl) (by decide) (by decide) rfl fl_X9_49 rfl rfl ?_
  refine e_iconst (pc' := 32) (v := nI 0) dX9_deniesText_31 rfl (by decide) ?_
  exact e_iret dX9_deniesText_32 rfl (MP.ret rfl rfl) (by decide) (by decide)
theorem g_dtx0 (h7 : M 96 7 = nI 0) (z : Nat) : RET G ad (d + 1) mX9_deniesText [.ref (ad 96), .int (nI z)] (M, o) (some (.int (nI 0))) ((up2 (up2 (up2 (up2 (up2 (up2 M 96 8 (nI 2)) 96 7 (nI 1)) 96 9 (nI 6)) 96 10 (nI z)) 96 11 (nI 0)) 96 11 (nI 7)), o) := by
  refine CM_of rfl (by decide) rfl (Nat.le_of_ble_eq_true rfl) rfl ?_
  refine e_aload_n (pc' := 1) dX9_deniesText_0 rfl rfl rfl ?_
  refine p_gfi (pc' := 4) (a := 96) (k := 7) (x := nI 0) dX9_deniesText_1 rfl (rfl) (by decide) (by decide) rfl fl_X9_39 (h7) ?_
  refine e_if_eqN (pc' := 7) (tgt := 14) dX9_deniesText_4 rfl (by decide) (by decide) (fun _ => ?_) (fun h => absurd h (by decide))
  refine e_bipush (pc' := 16) (v := nI 7) dX9_deniesText_14 rfl (by decide) ?_
  refine e_istore_n (pc' := 17) (L' := [some (.ref (ad 96)), some (.int (nI z)), some (.int (nI 7))]) dX9_deniesText_16 rfl rfl (by decide) rfl ?_
  refine e_aload_n (pc' := 18) dX9_deniesText_17 rfl rfl rfl ?_
  refine e_iconst (pc' := 19) (v := nI 2) dX9_deniesText_18 rfl (by decide) ?_
  refine e_bipush (pc' := 21) (v := nI 6) dX9_deniesText_19 rfl (by decide) ?_
  refine e_iload_n (pc' := 22) dX9_deniesText_21 rfl rfl rfl ?_
  refine r_V (pc' := 25) (m' := mX9_denies) (As := [.int (nI 2), .int (nI 6), .int (nI z)]) (st := []) (g_denies (d := d) (2) (6) (nI z)) dX9_deniesText_22 rfl rfl (Nat.le_of_ble_eq_true rfl) (fit_of (by omega) (by decide) (by decide) (by decide)) ml_X9_77 okX9_denies rfl rfl (by decide) rfl ?_
  show EV _ _ _ _ _ 25 _ ([.int (nI 0)]) _
  refine e_pop (pc' := 26) dX9_deniesText_25 rfl rfl ?_
  refine e_aload_n (pc' := 27) dX9_deniesText_26 rfl rfl rfl ?_
  refine e_iload_n (pc' := 28) dX9_deniesText_27 rfl rfl rfl ?_
  refine p_pfi (pc' := 31) (a := 96) (k := 11) dX9_deniesText_28 rfl (rfl) (by decide) (by decide) rfl fl_X9_49 rfl rfl ?_
  refine e_iconst (pc' := 32) (v := nI 0) dX9_deniesText_31 rfl (by decide) ?_
  exact e_iret dX9_deniesText_32 rfl (MP.ret rfl rfl) (by decide) (by decide)
theorem g_dtx {f r p : Nat} (h : (f = 1 ∧ M 96 9 = nI r ∧ p = r) ∨ (f = 0 ∧ p = 7)) (h7 : M 96 7 = nI f) (z : Nat) : RET G ad (d + 1) mX9_deniesText [.ref (ad 96), .int (nI z)] (M, o) (some (.int (nI 0))) (up2 (up2 (up2 (up2 (up2 (up2 M 96 8 (nI 2)) 96 7 (nI 1)) 96 9 (nI 6)) 96 10 (nI z)) 96 11 (nI 0)) 96 11 (nI p), o) := by
  rcases h with ⟨rfl, h9, rfl⟩ | ⟨rfl, rfl⟩
  · exact g_dtx1 h7 h9 z
  · exact g_dtx0 h7 z
theorem plc_b (K r : Nat) : 0 < plc K r ∧ plc K r < 4 := by
  unfold plc
  repeat' split
  all_goals omega
/-- a failed command's state -/
def EXF (c : Col) (hs : Nat → Col) (sz n f r p : Nat) (M0 M : Nat → Nat → Int32) : Prop := RowAt M 100 0 c ∧ KtR M hs sz ∧ M 96 19 = nI n ∧ M 96 7 = nI f ∧ (f = 1 ∧ M 96 9 = nI r ∧ p = r ∨ f = 0 ∧ p = 7) ∧ (∀ j, j ≠ 5 → j ≠ 7 → j ≠ 8 → j ≠ 9 → j ≠ 10 → j ≠ 11 → M 96 j = M0 96 j) ∧ KP (fun a => a == 96 || a == 97 || a == 98) M0 M
theorem EXI.fail {M1 : Nat → Nat → Int32} {K z : Nat} {jj : Nat × Int32} (h : EXI c q kk n hs sz z M0 M) (hj : jj = jd (exC c q kk z) (kk z) (q z 1) (q z 2)) (hnz : ¬ exJ c q kk z = 0) (h1 : FLR K jj M M1) : ∃ f r, EXF c hs sz n f r (if exJ c q kk z < 6 then exJ c q kk z else 7) M0 M1 ∧ ∃ p, M1 96 8 = nI p ∧ 0 < p ∧ p < 4 := by
  obtain ⟨g1, g2, g3, g4, g5, g6, g7, g8, g9⟩ := h
  have ej : jj.1 = exJ c q kk z := by rw [hj]; rfl
  have hcd := jd_codes (exC c q kk z) (kk z) (q z 1) (q z 2)
  rw [← hj, ej] at hcd
  have hpl := plc_b K
  unfold FLR at h1
  rw [ej] at h1
  by_cases h5 : exJ c q kk z ≤ 5
  · rw [if_pos h5] at h1
    obtain ⟨k1, k2, k3, k4, k5, k6, k7⟩ := h1
    refine ⟨1, exJ c q kk z, ⟨g2.kp k7 (by decide), g3.kp (k6 5 (by decide) (by decide) (by decide) (by decide) (by decide)) (k7 98 (by decide)), (k6 19 (by decide) (by decide) (by decide) (by decide) (by decide)).trans g6, k2, Or.inl ⟨rfl, k3, if_pos (by omega)⟩, fun j q1 q2 q3 q4 q5 q6 => (k6 j q2 q3 q4 q5 q6).trans (g8 j q1 q2 q3), g9.trans (k7.wide (fun a ha => by simp at ha ⊢; exact ha.1.1))⟩, _, k1, hpl _⟩
  · rw [if_neg h5] at h1
    obtain ⟨k1, k2, k3, k4⟩ := h1
    refine ⟨0, 0, ⟨g2.kp k4 (by decide), g3.kp (k3 5 (by decide) (by decide)) (k4 98 (by decide)), (k3 19 (by decide) (by decide)).trans g6, k2, Or.inr ⟨rfl, if_neg (by omega)⟩, fun j q1 q2 q3 q4 q5 q6 => (k3 j q2 q3).trans (g8 j q1 q2 q3), g9.trans (k4.wide (fun a ha => by simp at ha ⊢; exact ha.1.1))⟩, _, k1, hpl _⟩
theorem gl_exT3 {f r p p8 z : Nat} (hw0 : WF c) (hn13 : n ≤ 13) (hz : z < n) (hF : EXF c hs sz n f r p M0 M) (h8 : M 96 8 = nI p8) (hp0 : 0 < p8) (hp4 : p8 < 4) {P : PM} (hP : ∀ M', (fun M' => M' 96 8 = nI 2 ∧ RowAt M' 97 0 c ∧ KtR M' hs sz ∧ M' 96 6 = nI 0 ∧ M' 96 9 = nI 6 ∧ M' 96 10 = nI z ∧ M' 96 11 = nI p ∧ (∀ j, j ≠ 6 → j ≠ 7 → j ≠ 8 → j ≠ 9 → j ≠ 10 → j ≠ 11 → j ≠ 5 → M' 96 j = M0 96 j) ∧ KP (fun a => a == 96 || a == 97 || a == 98) M0 M') M' → P (.inl (some (.int (nI 0)))) (M', o)) : ER G ad (d + 6) mX9_execute (0, 0) (P) (0, 0) 62 [some (.ref (ad 96)), none, some (.int (nI z)), some (.int (nI 0))] [] (M, o) := by
  refine e_iload_n (pc' := 63) dX9_execute_62 rfl rfl rfl ?_
  refine e_aload_n (pc' := 64) dX9_execute_63 rfl rfl rfl ?_
  refine p_gfi (pc' := 67) (a := 96) (k := 19) (x := nI n) dX9_execute_64 rfl (rfl) (by decide) (by decide) rfl fl_X9_169 (hF.2.2.1) ?_
  refine e_icmp_geN (pc' := 70) (tgt := 98) dX9_execute_67 rfl (by decide) (by omega) (by omega) (fun hz1 => absurd hz1 (by omega)) (fun hz1 => ?_)
  refine e_aload_n (pc' := 71) dX9_execute_70 rfl rfl rfl ?_
  refine p_gfi (pc' := 74) (a := 96) (k := 8) (x := nI p8) dX9_execute_71 rfl (rfl) (by decide) (by decide) rfl fl_X9_36 (h8) ?_
  refine e_if_neN (pc' := 77) (tgt := 98) dX9_execute_74 rfl (by decide) (by omega) (fun hz2 => ?_) (fun hz2 => absurd hz2 (by omega))
  refine e_aload_n (pc' := 99) dX9_execute_98 rfl rfl rfl ?_
  refine e_iconst (pc' := 100) (v := nI 0) dX9_execute_99 rfl (by decide) ?_
  refine p_pfz (pc' := 103) (a := 96) (k := 6) dX9_execute_100 rfl (rfl) (by decide) (by decide) rfl fl_X9_52 rfl rfl (by decide) ?_
  refine e_aload_n (pc' := 104) dX9_execute_103 rfl rfl rfl ?_
  refine p_gfi (pc' := 107) (a := 96) (k := 8) (x := nI p8) dX9_execute_104 rfl (rfl) (by decide) (by decide) rfl fl_X9_36 (by rw [up2_k (by decide)]; exact h8) ?_
  refine e_if_leN (pc' := 110) (tgt := 139) dX9_execute_107 rfl (by decide) (by omega) (fun hz3 => absurd hz3 (by omega)) (fun hz3 => ?_)
  refine e_aload_n (pc' := 111) dX9_execute_110 rfl rfl rfl ?_
  refine p_gfr (pc' := 114) (a := 96) (k := 3) (t := 100) dX9_execute_111 rfl rfl (by decide) (by decide) rfl fl_X9_19 ?_
  refine e_iconst (pc' := 115) (v := nI 0) dX9_execute_114 rfl (by decide) ?_
  refine e_aload_n (pc' := 116) dX9_execute_115 rfl rfl rfl ?_
  refine p_gfr (pc' := 119) (a := 96) (k := 0) (t := 97) dX9_execute_116 rfl rfl (by decide) (by decide) rfl fl_X9_7 ?_
  refine e_iconst (pc' := 120) (v := nI 0) dX9_execute_119 rfl (by decide) ?_
  refine r_SI (pc' := 123) (m' := mX9_copies) (As := [.ref (ad 100), .int (nI 0), .ref (ad 97), .int (nI 0)]) (st := []) (g_copies (d := d) (R := 100) (Q := 97) (n0 := 72) (n1 := 72) (p := 0) (q := 0) rfl rfl (by decide) (by omega) (by omega) (by decide) (by decide)) dX9_execute_120 rfl rfl (Nat.le_of_ble_eq_true rfl) (fit_of (by omega) (by decide) (by decide) (by decide)) ml_X9_58 okX9_copies rfl rfl (fun M1 ⟨k1, k2, k3⟩ => ?_)
  show EV _ _ _ _ _ 123 _ ([]) _
  refine e_aload_n (pc' := 124) dX9_execute_123 rfl rfl rfl ?_
  refine e_iload_n (pc' := 125) dX9_execute_124 rfl rfl rfl ?_
  have e96 : M1 96 = up2 M 96 6 (nI 0) 96 := k3 96 (by decide)
  have h97 : M1 96 7 = nI f := by rw [e96, up2_k (by decide)]; exact hF.2.2.2.1
  have hd7 : f = 1 ∧ M1 96 9 = nI r ∧ p = r ∨ f = 0 ∧ p = 7 := by rw [e96, up2_k (by decide)]; exact hF.2.2.2.2.1
  refine r_V (pc' := 128) (m' := mX9_deniesText) (As := [.int (nI z)]) (st := []) (g_dtx (d := d) (f := f) (r := r) (p := p) hd7 h97 z) dX9_execute_125 rfl rfl (Nat.le_of_ble_eq_true rfl) (fit_of (by omega) (by decide) (by decide) (by decide)) ml_X9_243 okX9_deniesText rfl rfl (by decide) rfl ?_
  show EV _ _ _ _ _ 128 _ ([.int (nI 0)]) _
  refine e_iload_n (pc' := 129) dX9_execute_128 rfl rfl rfl ?_
  refine e_if_leN (pc' := 132) (tgt := 136) dX9_execute_129 rfl (by decide) (by decide) (fun _ => ?_) (fun h => absurd h (by decide))
  refine e_iload_n (pc' := 137) dX9_execute_136 rfl rfl rfl ?_
  refine e_iaddN (pc' := 138) dX9_execute_137 rfl ?_
  show EV _ _ _ _ _ 138 _ (.int (nI 0) :: _) _
  exact e_iret dX9_execute_138 rfl (⟨_, rfl, hP _ (by
  have e98 : M1 98 = M 98 := by rw [k3 98 (by decide), up2_n (by decide)]
  refine ⟨by rw [up2_k (by decide), up2_k (by decide), up2_k (by decide), up2_k (by decide), up2_k (by decide)]; exact up2_s, ((((((hF.1.cpy hw0 (fun k hk => (k1 k hk).trans (by rw [up2_n (by decide)]))).up (by decide)).up (by decide)).up (by decide)).up (by decide)).up (by decide)).up (by decide), hF.2.1.kp ?_ ?_, ?_, ?_, ?_, up2_s, fun j q6 q7 q8 q9 q10 q11 q5 => ?_, ?_⟩
  · rw [up2_k (by decide), up2_k (by decide), up2_k (by decide), up2_k (by decide), up2_k (by decide), up2_k (by decide), e96, up2_k (by decide)]
  · rw [up2_n (by decide), up2_n (by decide), up2_n (by decide), up2_n (by decide), up2_n (by decide), up2_n (by decide), e98]
  · rw [up2_k (by decide), up2_k (by decide), up2_k (by decide), up2_k (by decide), up2_k (by decide), up2_k (by decide), e96]; exact up2_s
  · rw [up2_k (by decide), up2_k (by decide), up2_k (by decide)]; exact up2_s
  · rw [up2_k (by decide), up2_k (by decide)]; exact up2_s
  · rw [up2_k q11, up2_k q11, up2_k q10, up2_k q9, up2_k q7, up2_k q8, e96, up2_k q6]; exact hF.2.2.2.2.2.1 j q5 q7 q8 q9 q10 q11
  · exact (((((((hF.2.2.2.2.2.2.up (by decide)).trans (k3.wide (fun a ha => by simp at ha ⊢; exact ha.1.2))).up (by decide)).up (by decide)).up (by decide)).up (by decide)).up (by decide)).up (by decide))⟩) (by decide) (by decide)
theorem gl_exT2 (hw0 : WF c) (hW : KWF hs sz) (hkk : ∀ j, kk j = iN (q j 0)) (hn13 : n ≤ 13) {z : Nat} (hz : z < n) (hwz : WF (exC c q kk z)) (hnz : ¬ exJ c q kk z = 0) (hE : EXI c q kk n hs sz z M0 M) {P : PM} (hP : ∀ M', (fun M' => M' 96 8 = nI 2 ∧ RowAt M' 97 0 c ∧ KtR M' hs sz ∧ M' 96 6 = nI 0 ∧ M' 96 9 = nI 6 ∧ M' 96 10 = nI z ∧ M' 96 11 = nI (if exJ c q kk z < 6 then exJ c q kk z else 7) ∧ (∀ j, j ≠ 6 → j ≠ 7 → j ≠ 8 → j ≠ 9 → j ≠ 10 → j ≠ 11 → j ≠ 5 → M' 96 j = M0 96 j) ∧ KP (fun a => a == 96 || a == 97 || a == 98) M0 M') M' → P (.inl (some (.int (nI 0)))) (M', o)) : ER G ad (d + 6) mX9_execute (0, 0) (P) (0, 0) 62 [some (.ref (ad 96)), none, some (.int (nI z)), none] [] (M, o) := by
  refine e_iload_n (pc' := 63) dX9_execute_62 rfl rfl rfl ?_
  refine e_aload_n (pc' := 64) dX9_execute_63 rfl rfl rfl ?_
  refine p_gfi (pc' := 67) (a := 96) (k := 19) (x := nI n) dX9_execute_64 rfl (rfl) (by decide) (by decide) rfl fl_X9_169 (hE.2.2.2.2.2.1) ?_
  refine e_icmp_geN (pc' := 70) (tgt := 98) dX9_execute_67 rfl (by decide) (by omega) (by omega) (fun hz1 => absurd hz1 (by omega)) (fun hz1 => ?_)
  refine e_aload_n (pc' := 71) dX9_execute_70 rfl rfl rfl ?_
  refine p_gfi (pc' := 74) (a := 96) (k := 8) (x := nI 0) dX9_execute_71 rfl (rfl) (by decide) (by decide) rfl fl_X9_36 (hE.2.2.2.2.1) ?_
  refine e_if_neN (pc' := 77) (tgt := 98) dX9_execute_74 rfl (by decide) (by decide) (fun h => absurd h (by decide)) (fun _ => ?_)
  refine e_aload_n (pc' := 78) dX9_execute_77 rfl rfl rfl ?_
  refine e_iconst (pc' := 79) (v := nI 4) dX9_execute_78 rfl (by decide) ?_
  refine e_iload_n (pc' := 80) dX9_execute_79 rfl rfl rfl ?_
  refine e_imulN (pc' := 81) dX9_execute_80 rfl ?_
  obtain ⟨K, hK8, hkK, hm0, hjj, hcc⟩ := cmr_k hkk (hE.2.2.2.2.2.2.1 z hz)
  have hjd : ¬ (jd (exC c q kk z) K (M 103 (4 * z + 1)) (M 103 (4 * z + 2))).1 = 0 := by rw [hjj]; exact hnz
  refine r_VI (pc' := 84) (m' := mX9_carries) (As := [.int (nI (4 * z))]) (st := []) (g_carx (d := d) hE.1 hwz hK8 (j := z) (by omega) hm0 hjd) dX9_execute_81 rfl rfl (Nat.le_of_ble_eq_true rfl) (fit_of (by omega) (by decide) (by decide) (by decide)) ml_X9_240 okX9_carries rfl rfl (by decide) rfl (fun M1 hR => ?_)
  show EV _ _ _ _ _ 84 _ ([.int (nI 0)]) _
  obtain ⟨f, r, hF, p8, h8, hp0, hp4⟩ := hE.fail (hjj _) hnz hR
  refine e_istore_n (pc' := 85) (L' := [some (.ref (ad 96)), none, some (.int (nI z)), some (.int (nI 0))]) dX9_execute_84 rfl rfl (by decide) rfl ?_
  refine e_aload_n (pc' := 86) dX9_execute_85 rfl rfl rfl ?_
  refine p_gfi (pc' := 89) (a := 96) (k := 8) (x := nI p8) dX9_execute_86 rfl (rfl) (by decide) (by decide) rfl fl_X9_36 (h8) ?_
  refine e_if_neN (pc' := 92) (tgt := 62) dX9_execute_89 rfl (by decide) (by omega) (fun hz3 => ?_) (fun hz3 => absurd hz3 (by omega))
  exact gl_exT3 hw0 hn13 hz hF h8 hp0 hp4 hP
theorem ex_start {M1 M2 : Nat → Nat → Int32} (r : RowAt M 97 0 c) (hw : WF c) (hK : KtR M hs sz) (hb : (prR l cmds).1 = true) (hI : ITI l cmds M M1) (k1 : ∀ k, k < 72 → M2 100 (0 + k) = (up2 (up2 (up2 M1 96 13 (nI 0)) 96 8 (nI 0)) 96 7 (nI 0)) 97 (0 + k)) (k3 : KP (fun a => a == 100) (up2 (up2 (up2 M1 96 13 (nI 0)) 96 8 (nI 0)) 96 7 (nI 0)) M2) : EXI c (qK l cmds) (kK l cmds) (prR l cmds).2.1 hs sz 0 (up2 M2 96 6 (nI 1)) (up2 M2 96 6 (nI 1)) ∧ M2 96 13 = nI 0 ∧ (∀ j, j ≠ 6 → j ≠ 7 → j ≠ 8 → j ≠ 13 → j ≠ 17 → j ≠ 19 → M2 96 j = M 96 j) ∧ KP (fun x => x == 96 || x == 100 || x == 103) M M2 := by
  obtain ⟨i1, i2, i3, i4⟩ := hI
  obtain ⟨j1, j2, j3⟩ := i1 hb
  have e96 : ∀ j, M2 96 j = (up2 (up2 (up2 M1 96 13 (nI 0)) 96 8 (nI 0)) 96 7 (nI 0)) 96 j := fun j => k3.at (by decide) j
  have e97 : M2 97 = M 97 := by rw [k3 97 (by decide), up2_n (by decide), up2_n (by decide), up2_n (by decide), i4 97 (by decide)]
  have e98 : M2 98 = M 98 := by rw [k3 98 (by decide), up2_n (by decide), up2_n (by decide), up2_n (by decide), i4 98 (by decide)]
  have e103 : M2 103 = M1 103 := by rw [k3 103 (by decide), up2_n (by decide), up2_n (by decide), up2_n (by decide)]
  have hfr : ∀ j, j ≠ 6 → j ≠ 7 → j ≠ 8 → j ≠ 13 → j ≠ 17 → j ≠ 19 → M2 96 j = M 96 j := fun j _ q7 q8 q13 q17 q19 => by rw [e96, up2_k q7, up2_k q8, up2_k q13]; exact i3 j q17 q19
  have r2 : RowAt M2 97 0 c := r.cpy hw (fun k _ => by rw [e97])
  have rb : RowAt M2 100 0 c := r.cpy hw (fun k hk => (k1 k hk).trans (by rw [up2_n (by decide), up2_n (by decide), up2_n (by decide), i4 97 (by decide)]))
  refine ⟨⟨r2.up (by decide), rb.up (by decide), hK.kp ?_ ?_, up2_s, ?_, ?_, fun j hj => (j3 j hj).keep (i := j + 1) (by omega) (fun y _ => ?_), fun _ _ _ _ => rfl, KP.refl⟩, ?_, hfr, ((((i4.wide (fun a ha => ?_)).up (by decide)).up (by decide)).up (by decide)).trans (k3.wide (fun a ha => ?_))⟩
  · rw [up2_k (by decide)]; exact hfr 5 (by decide) (by decide) (by decide) (by decide) (by decide) (by decide)
  · rw [up2_n (by decide)]; exact e98
  · rw [up2_k (by decide), e96, up2_k (by decide)]; exact up2_s
  · rw [up2_k (by decide), e96, up2_k (by decide), up2_k (by decide), up2_k (by decide)]; exact j1
  · rw [up2_n (by decide), e103]
  · rw [e96, up2_k (by decide), up2_k (by decide)]; exact up2_s
  · simp at ha ⊢; exact ⟨ha.1.1, ha.2⟩
  · simp at ha ⊢; exact ha.1.2
theorem kK_i : ∀ j, kK l cmds j = iN (qK l cmds j 0) := fun _ => rfl
theorem g_exec_ok (hT : TxR M l) (hl : l.length ≤ 60) (hc : ∀ i, l.getD i 0 < 65536) (r : RowAt M 97 0 c) (hw : WF c) (hK : KtR M hs sz) (hW : KWF hs sz) (hb : (prR l cmds).1 = true) (hok : ∀ j, j < (prR l cmds).2.1 → exJ c (qK l cmds) (kK l cmds) j = 0) : RETI G ad (d + 9) mX9_execute [.ref (ad 96)] (M, o) (some (.int (nI ((prR l cmds).2.1)))) (fun M' => M' 96 8 = nI 0 ∧ RowAt M' 97 0 (exC c (qK l cmds) (kK l cmds) (prR l cmds).2.1) ∧ KtR M' (psh hs sz c) (min (sz + 1) 8) ∧ M' 96 6 = nI 0 ∧ TxR M' [] ∧ (∀ j, j ≠ 5 → j ≠ 6 → j ≠ 7 → j ≠ 8 → j ≠ 13 → j ≠ 17 → j ≠ 19 → M' 96 j = M 96 j) ∧ KP (fun x => x == 96 || x == 97 || x == 98 || x == 100 || x == 103) M M') := by
  refine CM_of rfl (by decide) rfl (Nat.le_of_ble_eq_true rfl) rfl ?_
  refine e_aload_n (pc' := 1) dX9_execute_0 rfl rfl rfl ?_
  refine r_VI (pc' := 4) (m' := mX9_isText) (As := []) (st := []) (g_isText (d := d) (cmds := cmds) hT hl hc) dX9_execute_1 rfl rfl (Nat.le_of_ble_eq_true rfl) (fit_of (by omega) (by decide) (by decide) (by decide)) ml_X9_237 okX9_isText rfl rfl (by decide) rfl (fun M1 hI => ?_)
  show EV _ _ _ _ _ 4 _ ([.int (bI ((prR l cmds).1))]) _
  refine e_istore_n (pc' := 5) (L' := [some (.ref (ad 96)), some (.int (bI ((prR l cmds).1))), none, none]) dX9_execute_4 rfl rfl (by decide) rfl ?_
  refine e_iload_n (pc' := 6) dX9_execute_5 rfl rfl rfl ?_
  refine e_if_neB (pc' := 9) (tgt := 17) dX9_execute_6 rfl (by decide) (fun hz1 => ?_) (fun hz1 => absurd hz1 (by rw [hb]; decide))
  refine e_aload_n (pc' := 18) dX9_execute_17 rfl rfl rfl ?_
  refine e_iconst (pc' := 19) (v := nI 0) dX9_execute_18 rfl (by decide) ?_
  refine p_pfi (pc' := 22) (a := 96) (k := 13) dX9_execute_19 rfl (rfl) (by decide) (by decide) rfl fl_X9_160 rfl rfl ?_
  refine e_aload_n (pc' := 23) dX9_execute_22 rfl rfl rfl ?_
  refine e_iload_n (pc' := 24) dX9_execute_23 rfl rfl rfl ?_
  refine e_if_eqB (pc' := 27) (tgt := 31) dX9_execute_24 rfl (by decide) (fun hz2 => absurd hz2 (by rw [hb]; decide)) (fun hz2 => ?_)
  refine e_iconst (pc' := 28) (v := nI 0) dX9_execute_27 rfl (by decide) ?_
  refine e_goto (tgt := 32) dX9_execute_28 (by decide) ?_
  refine r_V (pc' := 35) (m' := mX9_fails) (As := [.int (nI 0)]) (st := []) (g_fails (d := d) (p := 0) (by omega)) dX9_execute_32 rfl rfl (Nat.le_of_ble_eq_true rfl) (fit_of (by omega) (by decide) (by decide) (by decide)) ml_X9_70 okX9_fails rfl rfl (by decide) rfl ?_
  show EV _ _ _ _ _ 35 _ ([.int (bI (decide (0 < 0)))]) _
  refine e_if_eqB (pc' := 38) (tgt := 40) dX9_execute_35 rfl (by decide) (fun hz3 => ?_) (fun hz3 => absurd hz3 (by decide))
  refine e_aload_n (pc' := 41) dX9_execute_40 rfl rfl rfl ?_
  refine p_gfr (pc' := 44) (a := 96) (k := 0) (t := 97) dX9_execute_41 rfl rfl (by decide) (by decide) rfl fl_X9_7 ?_
  refine e_iconst (pc' := 45) (v := nI 0) dX9_execute_44 rfl (by decide) ?_
  refine e_aload_n (pc' := 46) dX9_execute_45 rfl rfl rfl ?_
  refine p_gfr (pc' := 49) (a := 96) (k := 3) (t := 100) dX9_execute_46 rfl rfl (by decide) (by decide) rfl fl_X9_19 ?_
  refine e_iconst (pc' := 50) (v := nI 0) dX9_execute_49 rfl (by decide) ?_
  refine r_SI (pc' := 53) (m' := mX9_copies) (As := [.ref (ad 97), .int (nI 0), .ref (ad 100), .int (nI 0)]) (st := []) (g_copies (d := d) (R := 97) (Q := 100) (n0 := 72) (n1 := 72) (p := 0) (q := 0) rfl rfl (by decide) (by omega) (by omega) (by decide) (by decide)) dX9_execute_50 rfl rfl (Nat.le_of_ble_eq_true rfl) (fit_of (by omega) (by decide) (by decide) (by decide)) ml_X9_58 okX9_copies rfl rfl (fun M2 ⟨k1, k2, k3⟩ => ?_)
  show EV _ _ _ _ _ 53 _ ([]) _
  refine e_aload_n (pc' := 54) dX9_execute_53 rfl rfl rfl ?_
  refine e_iconst (pc' := 55) (v := nI 1) dX9_execute_54 rfl (by decide) ?_
  refine p_pfz (pc' := 58) (a := 96) (k := 6) dX9_execute_55 rfl (rfl) (by decide) (by decide) rfl fl_X9_52 rfl rfl (Or.inr rfl) ?_
  refine e_iconst (pc' := 59) (v := nI 0) dX9_execute_58 rfl (by decide) ?_
  refine e_istore_n (pc' := 60) (L' := [some (.ref (ad 96)), some (.int (bI ((prR l cmds).1))), some (.int (nI 0)), none]) dX9_execute_59 rfl rfl (by decide) rfl ?_
  refine e_iconst (pc' := 61) (v := nI 0) dX9_execute_60 rfl (by decide) ?_
  refine e_istore_n (pc' := 62) (L' := [some (.ref (ad 96)), some (.int (bI ((prR l cmds).1))), some (.int (nI 0)), some (.int (nI 0))]) dX9_execute_61 rfl rfl (by decide) rfl ?_
  refine e_fg (i := 1) (L' := [some (.ref (ad 96)), none, some (.int (nI 0)), some (.int (nI 0))]) rfl ?_
  refine e_fg (i := 3) (L' := [some (.ref (ad 96)), none, some (.int (nI 0)), none]) rfl ?_
  obtain ⟨s1, s2, s3, s4⟩ := ex_start r hw hK hb hI k1 k3
  have hn13 := (hI.1 hb).2.1
  refine gl_exrun hw hW kK_i hn13 (fun j hj => (kK_ok hb j hj).2) (Nat.le_refl _) hok (fun M3 hE => gl_exT1 hw hW kK_i hn13 hE (fun M' h => ⟨rfl, M', rfl, h.1, h.2.1, h.2.2.1, h.2.2.2.1, TxR.nil ?_, fun j q5 q6 q7 q8 q13 q17 q19 => ?_, (s4.wide (fun a ha => ?_)).trans (((KP.refl.up (by decide)).trans h.2.2.2.2.2).wide (F := fun a => a == 96 || a == 97 || a == 98) (fun a ha => ?_))⟩)) 0 (Nat.zero_le _) _ s1
  · rw [h.2.2.2.2.1 13 (by decide) (by decide) (by decide) (by decide), up2_k (by decide)]; exact s2
  · rw [h.2.2.2.2.1 j q5 q6 q7 q8, up2_k q6]; exact s3 j q6 q7 q8 q13 q17 q19
  · simp at ha ⊢; exact ⟨⟨ha.1.1.1.1, ha.1.2⟩, ha.2⟩
  · simp at ha ⊢; exact ⟨⟨ha.1.1.1.1, ha.1.1.1.2⟩, ha.1.1.2⟩
theorem g_exec_no (hT : TxR M l) (hl : l.length ≤ 60) (hc : ∀ i, l.getD i 0 < 65536) (r : RowAt M 97 0 c) (hw : WF c) (hK : KtR M hs sz) (hW : KWF hs sz) (hb : (prR l cmds).1 = true) {z : Nat} (hz : z < (prR l cmds).2.1) (hok : ∀ j, j < z → exJ c (qK l cmds) (kK l cmds) j = 0) (hnz : ¬ exJ c (qK l cmds) (kK l cmds) z = 0) : RETI G ad (d + 9) mX9_execute [.ref (ad 96)] (M, o) (some (.int (nI 0))) (fun M' => M' 96 8 = nI 2 ∧ RowAt M' 97 0 c ∧ KtR M' hs sz ∧ M' 96 6 = nI 0 ∧ M' 96 9 = nI 6 ∧ M' 96 10 = nI z ∧ M' 96 11 = nI (if exJ c (qK l cmds) (kK l cmds) z < 6 then exJ c (qK l cmds) (kK l cmds) z else 7) ∧ TxR M' [] ∧ (∀ j, j ≠ 5 → j ≠ 6 → j ≠ 7 → j ≠ 8 → j ≠ 9 → j ≠ 10 → j ≠ 11 → j ≠ 13 → j ≠ 17 → j ≠ 19 → M' 96 j = M 96 j) ∧ KP (fun x => x == 96 || x == 97 || x == 98 || x == 100 || x == 103) M M') := by
  refine CM_of rfl (by decide) rfl (Nat.le_of_ble_eq_true rfl) rfl ?_
  refine e_aload_n (pc' := 1) dX9_execute_0 rfl rfl rfl ?_
  refine r_VI (pc' := 4) (m' := mX9_isText) (As := []) (st := []) (g_isText (d := d) (cmds := cmds) hT hl hc) dX9_execute_1 rfl rfl (Nat.le_of_ble_eq_true rfl) (fit_of (by omega) (by decide) (by decide) (by decide)) ml_X9_237 okX9_isText rfl rfl (by decide) rfl (fun M1 hI => ?_)
  show EV _ _ _ _ _ 4 _ ([.int (bI ((prR l cmds).1))]) _
  refine e_istore_n (pc' := 5) (L' := [some (.ref (ad 96)), some (.int (bI ((prR l cmds).1))), none, none]) dX9_execute_4 rfl rfl (by decide) rfl ?_
  refine e_iload_n (pc' := 6) dX9_execute_5 rfl rfl rfl ?_
  refine e_if_neB (pc' := 9) (tgt := 17) dX9_execute_6 rfl (by decide) (fun hz1 => ?_) (fun hz1 => absurd hz1 (by rw [hb]; decide))
  refine e_aload_n (pc' := 18) dX9_execute_17 rfl rfl rfl ?_
  refine e_iconst (pc' := 19) (v := nI 0) dX9_execute_18 rfl (by decide) ?_
  refine p_pfi (pc' := 22) (a := 96) (k := 13) dX9_execute_19 rfl (rfl) (by decide) (by decide) rfl fl_X9_160 rfl rfl ?_
  refine e_aload_n (pc' := 23) dX9_execute_22 rfl rfl rfl ?_
  refine e_iload_n (pc' := 24) dX9_execute_23 rfl rfl rfl ?_
  refine e_if_eqB (pc' := 27) (tgt := 31) dX9_execute_24 rfl (by decide) (fun hz2 => absurd hz2 (by rw [hb]; decide)) (fun hz2 => ?_)
  refine e_iconst (pc' := 28) (v := nI 0) dX9_execute_27 rfl (by decide) ?_
  refine e_goto (tgt := 32) dX9_execute_28 (by decide) ?_
  refine r_V (pc' := 35) (m' := mX9_fails) (As := [.int (nI 0)]) (st := []) (g_fails (d := d) (p := 0) (by omega)) dX9_execute_32 rfl rfl (Nat.le_of_ble_eq_true rfl) (fit_of (by omega) (by decide) (by decide) (by decide)) ml_X9_70 okX9_fails rfl rfl (by decide) rfl ?_
  show EV _ _ _ _ _ 35 _ ([.int (bI (decide (0 < 0)))]) _
  refine e_if_eqB (pc' := 38) (tgt := 40) dX9_execute_35 rfl (by decide) (fun hz3 => ?_) (fun hz3 => absurd hz3 (by decide))
  refine e_aload_n (pc' := 41) dX9_execute_40 rfl rfl rfl ?_
  refine p_gfr (pc' := 44) (a := 96) (k := 0) (t := 97) dX9_execute_41 rfl rfl (by decide) (by decide) rfl fl_X9_7 ?_
  refine e_iconst (pc' := 45) (v := nI 0) dX9_execute_44 rfl (by decide) ?_
  refine e_aload_n (pc' := 46) dX9_execute_45 rfl rfl rfl ?_
  refine p_gfr (pc' := 49) (a := 96) (k := 3) (t := 100) dX9_execute_46 rfl rfl (by decide) (by decide) rfl fl_X9_19 ?_
  refine e_iconst (pc' := 50) (v := nI 0) dX9_execute_49 rfl (by decide) ?_
  refine r_SI (pc' := 53) (m' := mX9_copies) (As := [.ref (ad 97), .int (nI 0), .ref (ad 100), .int (nI 0)]) (st := []) (g_copies (d := d) (R := 97) (Q := 100) (n0 := 72) (n1 := 72) (p := 0) (q := 0) rfl rfl (by decide) (by omega) (by omega) (by decide) (by decide)) dX9_execute_50 rfl rfl (Nat.le_of_ble_eq_true rfl) (fit_of (by omega) (by decide) (by decide) (by decide)) ml_X9_58 okX9_copies rfl rfl (fun M2 ⟨k1, k2, k3⟩ => ?_)
  show EV _ _ _ _ _ 53 _ ([]) _
  refine e_aload_n (pc' := 54) dX9_execute_53 rfl rfl rfl ?_
  refine e_iconst (pc' := 55) (v := nI 1) dX9_execute_54 rfl (by decide) ?_
  refine p_pfz (pc' := 58) (a := 96) (k := 6) dX9_execute_55 rfl (rfl) (by decide) (by decide) rfl fl_X9_52 rfl rfl (Or.inr rfl) ?_
  refine e_iconst (pc' := 59) (v := nI 0) dX9_execute_58 rfl (by decide) ?_
  refine e_istore_n (pc' := 60) (L' := [some (.ref (ad 96)), some (.int (bI ((prR l cmds).1))), some (.int (nI 0)), none]) dX9_execute_59 rfl rfl (by decide) rfl ?_
  refine e_iconst (pc' := 61) (v := nI 0) dX9_execute_60 rfl (by decide) ?_
  refine e_istore_n (pc' := 62) (L' := [some (.ref (ad 96)), some (.int (bI ((prR l cmds).1))), some (.int (nI 0)), some (.int (nI 0))]) dX9_execute_61 rfl rfl (by decide) rfl ?_
  refine e_fg (i := 1) (L' := [some (.ref (ad 96)), none, some (.int (nI 0)), some (.int (nI 0))]) rfl ?_
  refine e_fg (i := 3) (L' := [some (.ref (ad 96)), none, some (.int (nI 0)), none]) rfl ?_
  obtain ⟨s1, s2, s3, s4⟩ := ex_start r hw hK hb hI k1 k3
  have hn13 := (hI.1 hb).2.1
  have hwz : WF (exC c (qK l cmds) (kK l cmds) z) := exC_wf hw z (fun j hj => (kK_ok hb j (by omega)).2) hok
  refine gl_exrun hw hW kK_i hn13 (fun j hj => (kK_ok hb j hj).2) (Nat.le_of_lt hz) hok (fun M3 hE => gl_exT2 hw hW kK_i hn13 hz hwz hnz hE (fun M' h => ⟨rfl, M', rfl, h.1, h.2.1, h.2.2.1, h.2.2.2.1, h.2.2.2.2.1, h.2.2.2.2.2.1, h.2.2.2.2.2.2.1, TxR.nil ?_, fun j q5 q6 q7 q8 q9 q10 q11 q13 q17 q19 => ?_, (s4.wide (fun a ha => ?_)).trans (((KP.refl.up (by decide)).trans h.2.2.2.2.2.2.2.2).wide (F := fun a => a == 96 || a == 97 || a == 98) (fun a ha => ?_))⟩)) 0 (Nat.zero_le _) _ s1
  · rw [h.2.2.2.2.2.2.2.1 13 (by decide) (by decide) (by decide) (by decide) (by decide) (by decide) (by decide), up2_k (by decide)]; exact s2
  · rw [h.2.2.2.2.2.2.2.1 j q6 q7 q8 q9 q10 q11 q5, up2_k q6]; exact s3 j q6 q7 q8 q13 q17 q19
  · simp at ha ⊢; exact ⟨⟨ha.1.1.1.1, ha.1.2⟩, ha.2⟩
  · simp at ha ⊢; exact ⟨⟨ha.1.1.1.1, ha.1.1.1.2⟩, ha.1.1.2⟩
end T57

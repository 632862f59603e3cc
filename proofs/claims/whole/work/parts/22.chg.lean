set_option maxHeartbeats 400000
/-! THE COLONY'S OWN METHODS: changes, undo, snapshots, lines -/
section T22
variable {G : gC} {ad : Nat → Nat} {d : Nat} {M : Nat → Nat → Int32} {o : (Nat → Int64) × (Nat → UInt64)} {c : Col} {hs : Nat → Col} {nx sz : Nat}
theorem nI_sub' {a b : Nat} (h : b ≤ a) : nI a - nI b = nI (a - b) := pk_sub h
theorem sh_mag : ∀ k, 1 ≤ k → k < 100 → 127 * 2 ^ 23 ≤ (FP.i2f (nI k)).toNat % 2 ^ 31 := by
  have h : ∀ k, k < 100 → 1 ≤ k → 127 * 2 ^ 23 ≤ (FP.i2f (nI k)).toNat % 2 ^ 31 := by decide +kernel
  exact fun k h1 h2 => h k h2 h1
theorem fdiv_fin {x : Int32} {k : Nat} (h1 : 1 ≤ k) (h2 : k < 100) : FP.Core.FFin (FP.fdiv (FP.i2f x) (FP.i2f (nI k))) := by
  have h4 := FP.Core.fdiv_mag (K := 160) (L := 127) (FP.Core.i2f_mag x) (sh_mag k h1 h2) (Nat.lt_of_lt_of_le (FP.Core.i2f_mag _) (by decide)) (by decide) (by decide)
  exact FP.Core.fin_of_lt32 (K := 161) (Nat.lt_of_lt_of_le h4 (by decide)) (by decide)
def meanF (c : Col) : UInt64 := FP.ddiv (FP.i2d (nI (sumS c))) (FP.i2d (nI (cn c)))
def shareF (c : Col) : UInt32 := FP.fdiv (FP.i2f (nI (ck c) - nI (blkN c (cw c)))) (FP.i2f (nI (ck c)))
theorem m_mean (h : ColAt M 1 c) (hw : WF c) (h0 : ¬ cn c = 0) : RET G ad (d + 3) mX8_meanStrength [.ref (ad 0)] (M, o) (some (.double (meanF c))) (M, o) := by
  refine CM_of rfl (by decide) rfl (Nat.le_of_ble_eq_true rfl) rfl ?_
  have hn := hw.n
  have hk := hw.k
  have hw9 := hw.w9
  refine e_aload_n (pc' := 1) dX8_meanStrength_0 rfl rfl rfl ?_
  refine p_gfr (pc' := 4) (a := 0) (k := 0) (t := 1) dX8_meanStrength_1 rfl rfl (by decide) (by decide) rfl fl_X8_12 ?_
  refine p_gfi (pc' := 7) (a := 1) (k := 0) (x := nI (cn c)) dX8_meanStrength_4 rfl (rfl) (by decide) (by decide) rfl fl_X8_76 (h.n) ?_
  refine e_if_neN (pc' := 10) (tgt := 20) dX8_meanStrength_7 rfl (by decide) (by omega) (fun hz1 => ?_) (fun hz1 => absurd hz1 (h0))
  refine e_aload_n (pc' := 21) dX8_meanStrength_20 rfl rfl rfl ?_
  refine p_gfr (pc' := 24) (a := 0) (k := 0) (t := 1) dX8_meanStrength_21 rfl rfl (by decide) (by decide) rfl fl_X8_12 ?_
  refine r_V (pc' := 27) (m' := mX1_sumOfStrengths) (As := []) (st := []) (c_sumOfStrengths (d := d) h hw) dX8_meanStrength_24 rfl rfl (Nat.le_of_ble_eq_true rfl) (fit_of (by omega) (by decide) (by decide) (by decide)) ml_X8_174 okX1_sumOfStrengths rfl rfl (by decide) rfl ?_
  show EV _ _ _ _ _ 27 _ ([.int (nI (sumS c))]) _
  refine e_i2d (pc' := 28) dX8_meanStrength_27 rfl ?_
  refine e_aload_n (pc' := 29) dX8_meanStrength_28 rfl rfl rfl ?_
  refine p_gfr (pc' := 32) (a := 0) (k := 0) (t := 1) dX8_meanStrength_29 rfl rfl (by decide) (by decide) rfl fl_X8_12 ?_
  refine p_gfi (pc' := 35) (a := 1) (k := 0) (x := nI (cn c)) dX8_meanStrength_32 rfl (rfl) (by decide) (by decide) rfl fl_X8_76 (h.n) ?_
  refine e_i2d (pc' := 36) dX8_meanStrength_35 rfl ?_
  refine e_ddiv (pc' := 37) dX8_meanStrength_36 rfl (vf64_of (FP.Core.DFin.notNaN (ddiv_fin (by omega) (by omega)))) ?_
  exact e_dret dX8_meanStrength_37 rfl (MP.ret rfl rfl) (by decide) (by decide)
theorem m_share (h : ColAt M 1 c) (hw : WF c) (h0 : ¬ ck c = 0) : RET G ad (d + 3) mX8_openShare [.ref (ad 0)] (M, o) (some (.float (shareF c))) (M, o) := by
  refine CM_of rfl (by decide) rfl (Nat.le_of_ble_eq_true rfl) rfl ?_
  have hn := hw.n
  have hk := hw.k
  have hw9 := hw.w9
  refine e_aload_n (pc' := 1) dX8_openShare_0 rfl rfl rfl ?_
  refine p_gfr (pc' := 4) (a := 0) (k := 0) (t := 1) dX8_openShare_1 rfl rfl (by decide) (by decide) rfl fl_X8_12 ?_
  refine p_gfi (pc' := 7) (a := 1) (k := 5) (x := nI (ck c)) dX8_openShare_4 rfl (rfl) (by decide) (by decide) rfl fl_X8_107 (h.k) ?_
  refine e_if_neN (pc' := 10) (tgt := 20) dX8_openShare_7 rfl (by decide) (by omega) (fun hz1 => ?_) (fun hz1 => absurd hz1 (h0))
  refine e_aload_n (pc' := 21) dX8_openShare_20 rfl rfl rfl ?_
  refine p_gfr (pc' := 24) (a := 0) (k := 0) (t := 1) dX8_openShare_21 rfl rfl (by decide) (by decide) rfl fl_X8_12 ?_
  refine p_gfi (pc' := 27) (a := 1) (k := 5) (x := nI (ck c)) dX8_openShare_24 rfl (rfl) (by decide) (by decide) rfl fl_X8_107 (h.k) ?_
  refine e_aload_n (pc' := 28) dX8_openShare_27 rfl rfl rfl ?_
  refine p_gfr (pc' := 31) (a := 0) (k := 0) (t := 1) dX8_openShare_28 rfl rfl (by decide) (by decide) rfl fl_X8_12 ?_
  refine r_V (pc' := 34) (m' := mX1_countBlocked) (As := []) (st := [.int (nI (ck c))]) (c_countBlocked (d := d) h hw) dX8_openShare_31 rfl rfl (Nat.le_of_ble_eq_true rfl) (fit_of (by omega) (by decide) (by decide) (by decide)) ml_X8_117 okX1_countBlocked rfl rfl (by decide) rfl ?_
  show EV _ _ _ _ _ 34 _ ([.int (nI (blkN c (cw c))), .int (nI (ck c))]) _
  refine e_isub (pc' := 35) dX8_openShare_34 rfl ?_
  refine e_i2f (pc' := 36) dX8_openShare_35 rfl ?_
  refine e_aload_n (pc' := 37) dX8_openShare_36 rfl rfl rfl ?_
  refine p_gfr (pc' := 40) (a := 0) (k := 0) (t := 1) dX8_openShare_37 rfl rfl (by decide) (by decide) rfl fl_X8_12 ?_
  refine p_gfi (pc' := 43) (a := 1) (k := 5) (x := nI (ck c)) dX8_openShare_40 rfl (rfl) (by decide) (by decide) rfl fl_X8_107 (h.k) ?_
  refine e_i2f (pc' := 44) dX8_openShare_43 rfl ?_
  refine e_fdiv (pc' := 45) dX8_openShare_44 rfl (vf32_of (FP.Core.FFin.notNaN (fdiv_fin (by omega) (by omega)))) ?_
  exact e_fret dX8_openShare_45 rfl (MP.ret rfl rfl) (by decide) (by decide)
theorem c_refuse8  : THRI G ad (d + 1) mX8_refuse [.ref (ad 0), .int (nI 8)] M o "java/lang/IndexOutOfBoundsException" (fun M' => M' 0 = dnF (M 0) 8 (M 13 3) ∧ KP (fun a => a == 0) M M') := by
  refine CM_of rfl (by decide) rfl (Nat.le_of_ble_eq_true rfl) rfl ?_
  refine e_iload_n (pc' := 1) dX8_refuse_0 rfl rfl rfl ?_
  refine e_bipush (pc' := 3) (v := nI 8) dX8_refuse_1 rfl (by decide) ?_
  refine e_icmp_neN (pc' := 6) (tgt := 17) dX8_refuse_3 rfl (by decide) (by decide) (by decide) (fun h => absurd h (by decide)) (fun _ => ?_)
  exact e_throwW (K := (1, 6)) (names := ["java/lang/RuntimeException", "java/lang/Exception"]) rfl xok_IndexOutOfBoundsException st_X8_314 dX8_refuse_6 dX8_refuse_9 dX8_refuse_10 dX8_refuse_13 dX8_refuse_16 (by simp [rmK]) (by simp [rmK, Value.category] <;> omega) (Nat.le_refl _) (Nat.le_refl _) (MP.thrI rfl ⟨rfl, KP.refl⟩) (by decide) (by decide)
theorem c_refuse9  : THRI G ad (d + 1) mX8_refuse [.ref (ad 0), .int (nI 9)] M o "java/lang/IllegalArgumentException" (fun M' => M' 0 = dnF (M 0) 9 (M 13 3) ∧ KP (fun a => a == 0) M M') := by
  refine CM_of rfl (by decide) rfl (Nat.le_of_ble_eq_true rfl) rfl ?_
  refine e_iload_n (pc' := 1) dX8_refuse_0 rfl rfl rfl ?_
  refine e_bipush (pc' := 3) (v := nI 8) dX8_refuse_1 rfl (by decide) ?_
  refine e_icmp_neN (pc' := 6) (tgt := 17) dX8_refuse_3 rfl (by decide) (by decide) (by decide) (fun _ => ?_) (fun h => absurd h (by decide))
  refine e_iload_n (pc' := 18) dX8_refuse_17 rfl rfl rfl ?_
  refine e_bipush (pc' := 20) (v := nI 9) dX8_refuse_18 rfl (by decide) ?_
  refine e_icmp_neN (pc' := 23) (tgt := 34) dX8_refuse_20 rfl (by decide) (by decide) (by decide) (fun h => absurd h (by decide)) (fun _ => ?_)
  exact e_throwW (K := (1, 6)) (names := ["java/lang/RuntimeException", "java/lang/Exception"]) rfl xok_IllegalArgumentException st_X8_316 dX8_refuse_23 dX8_refuse_26 dX8_refuse_27 dX8_refuse_30 dX8_refuse_33 (by simp [rmK]) (by simp [rmK, Value.category] <;> omega) (Nat.le_refl _) (Nat.le_refl _) (MP.thrI rfl ⟨rfl, KP.refl⟩) (by decide) (by decide)
theorem dn_eq {r : Nat} {x : Int32} (hr : r ≤ 5) : (up2 (up2 (up2 M 0 11 (nI r)) 0 12 x) 0 13 (nI 0)) 0 = dnF (M 0) r x := by
  funext k
  unfold dnF
  rw [if_pos hr]
  simp only [up2_v, true_and]
  grind
theorem c_refuseU {r : Nat} (hr : r ≤ 5) : THRI G ad (d + 1) mX8_refuse [.ref (ad 0), .int (nI r)] M o "java/lang/UnsupportedOperationException" (fun M' => M' 0 = dnF (M 0) r (M 13 3) ∧ KP (fun a => a == 0) M M') := by
  refine CM_of rfl (by decide) rfl (Nat.le_of_ble_eq_true rfl) rfl ?_
  refine e_iload_n (pc' := 1) dX8_refuse_0 rfl rfl rfl ?_
  refine e_bipush (pc' := 3) (v := nI 8) dX8_refuse_1 rfl (by decide) ?_
  refine e_icmp_neN (pc' := 6) (tgt := 17) dX8_refuse_3 rfl (by decide) (by omega) (by omega) (fun hz1 => ?_) (fun hz1 => absurd hz1 (by omega))
  refine e_iload_n (pc' := 18) dX8_refuse_17 rfl rfl rfl ?_
  refine e_bipush (pc' := 20) (v := nI 9) dX8_refuse_18 rfl (by decide) ?_
  refine e_icmp_neN (pc' := 23) (tgt := 34) dX8_refuse_20 rfl (by decide) (by omega) (by omega) (fun hz2 => ?_) (fun hz2 => absurd hz2 (by omega))
  refine e_aload_n (pc' := 35) dX8_refuse_34 rfl rfl rfl ?_
  refine e_iload_n (pc' := 36) dX8_refuse_35 rfl rfl rfl ?_
  refine e_aload_n (pc' := 37) dX8_refuse_36 rfl rfl rfl ?_
  refine p_gfr (pc' := 40) (a := 0) (k := 3) (t := 13) dX8_refuse_37 rfl rfl (by decide) (by decide) rfl fl_X8_37 ?_
  refine p_gfi (pc' := 43) (a := 13) (k := 3) (x := M 13 3) dX8_refuse_40 rfl (rfl) (by decide) (by decide) rfl fl_X8_318 (rfl) ?_
  refine e_iconst (pc' := 44) (v := nI 0) dX8_refuse_43 rfl (by decide) ?_
  refine r_V (pc' := 47) (m' := mX8_keepDenial) (As := [.int (nI r), .int (M 13 3), .int (nI 0)]) (st := []) (c_keepD (d := d) (nI r) (M 13 3) (nI 0)) dX8_refuse_44 rfl rfl (Nat.le_of_ble_eq_true rfl) (fit_of (by omega) (by decide) (by decide) (by decide)) ml_X8_245 okX8_keepDenial rfl rfl (by decide) rfl ?_
  show EV _ _ _ _ _ 47 _ ([]) _
  exact e_throwW (K := (1, 6)) (names := ["java/lang/RuntimeException", "java/lang/Exception"]) rfl xok_UnsupportedOperationException st_X8_321 dX8_refuse_47 dX8_refuse_50 dX8_refuse_51 dX8_refuse_54 dX8_refuse_57 (by simp [rmK]) (by simp [rmK, Value.category] <;> omega) (Nat.le_refl _) (Nat.le_refl _) (MP.thrI rfl ⟨dn_eq hr, ((KP.refl.up (by decide)).up (by decide)).up (by decide)⟩) (by decide) (by decide)
theorem c_refuse {r : Nat} (hr : r ≤ 5 ∨ r = 8 ∨ r = 9) : THRI G ad (d + 1) mX8_refuse [.ref (ad 0), .int (nI r)] M o (excN r) (fun M' => M' 0 = dnF (M 0) r (M 13 3) ∧ KP (fun a => a == 0) M M') := by
  rcases hr with hr | rfl | rfl
  · have e : excN r = "java/lang/UnsupportedOperationException" := by unfold excN; rw [if_neg (by omega), if_neg (by omega)]
    rw [e]
    exact c_refuseU hr
  · exact c_refuse8
  · exact c_refuse9
theorem c_change (h : ColAt M 1 c) (hw : WF c) (hH : HsAt M hs nx sz) {k : Nat} (hk8 : k < 8) (a b t : Int32) (hj : (jd c k a b).1 = 0) : RETI G ad (d + 6) mX8_change [.ref (ad 0), .int (nI k), .int (a), .int (b), .int (t)] (M, o) (some (.int ((cy c k a b t).1))) (fun M' => ColAt M' 1 (cy c k (a) (b) (t)).2 ∧ HsAt M' (psh hs sz c) ((nx + 1) % 8) (min (sz + 1) 8) ∧ KP (inR 1 63) M M') := by
  refine CM_of rfl (by decide) rfl (Nat.le_of_ble_eq_true rfl) rfl ?_
  have hn := hw.n
  have hk := hw.k
  have hw9 := hw.w9
  refine e_aload_n (pc' := 1) dX8_change_0 rfl rfl rfl ?_
  refine p_gfr (pc' := 4) (a := 0) (k := 3) (t := 13) dX8_change_1 rfl rfl (by decide) (by decide) rfl fl_X8_37 ?_
  refine e_iload_n (pc' := 5) dX8_change_4 rfl rfl rfl ?_
  refine e_iload_n (pc' := 6) dX8_change_5 rfl rfl rfl ?_
  refine e_iload_n (pc' := 7) dX8_change_6 rfl rfl rfl ?_
  refine r_VI (pc' := 10) (m' := mX0_judge) (As := [.int (nI k), .int (a), .int (b)]) (st := []) (c_judge (d := d) h hw (k := k) hk8 (a) (b)) dX8_change_7 rfl rfl (Nat.le_of_ble_eq_true rfl) (fit_of (by omega) (by decide) (by decide) (by decide)) ml_X8_238 okX0_judge rfl rfl (by decide) rfl (fun MJ1 hJ1 => ?_)
  show EV _ _ _ _ _ 10 _ ([.int (nI ((jd c k (a) (b)).1))]) _
  refine e_istore (pc' := 12) (L' := [some (.ref (ad 0)), some (.int (nI k)), some (.int (a)), some (.int (b)), some (.int (t)), some (.int (nI ((jd c k (a) (b)).1)))]) dX8_change_10 rfl (by decide) rfl ?_
  refine e_iload (pc' := 14) dX8_change_12 rfl rfl ?_
  refine e_if_eqN (pc' := 17) (tgt := 23) dX8_change_14 rfl (by decide) (by first | omega | (have := jd_codes c k a b; omega)) (fun hz1 => ?_) (fun hz1 => absurd hz1 (not_not_intro hj))
  refine e_aload_n (pc' := 24) dX8_change_23 rfl rfl rfl ?_
  refine p_gfr (pc' := 27) (a := 0) (k := 4) (t := 14) dX8_change_24 rfl rfl (by decide) (by decide) rfl fl_X8_44 ?_
  refine e_aload_n (pc' := 28) dX8_change_27 rfl rfl rfl ?_
  refine p_gfr (pc' := 31) (a := 0) (k := 0) (t := 1) dX8_change_28 rfl rfl (by decide) (by decide) rfl fl_X8_12 ?_
  refine r_VI (pc' := 34) (m' := mX4_push) (As := [.ref (ad 1)]) (st := []) (c_push (d := d) isC1 (by omega) (jI.col h hJ1 (by decide)) hw (hH.kp hJ1.1 (fun a h1 h2 => by unfold inR; simp; omega))) dX8_change_31 rfl rfl (Nat.le_of_ble_eq_true rfl) (fit_of (by omega) (by decide) (by decide) (by decide)) ml_X8_260 okX4_push rfl rfl (by decide) rfl (fun MH2 ⟨hH2, hK2⟩ => ?_)
  show EV _ _ _ _ _ 34 _ ([]) _
  refine e_aload_n (pc' := 35) dX8_change_34 rfl rfl rfl ?_
  refine p_gfr (pc' := 38) (a := 0) (k := 3) (t := 13) dX8_change_35 rfl rfl (by decide) (by decide) rfl fl_X8_37 ?_
  refine e_iload_n (pc' := 39) dX8_change_38 rfl rfl rfl ?_
  refine e_iload_n (pc' := 40) dX8_change_39 rfl rfl rfl ?_
  refine e_iload_n (pc' := 41) dX8_change_40 rfl rfl rfl ?_
  refine e_iload (pc' := 43) dX8_change_41 rfl rfl ?_
  refine r_VI (pc' := 46) (m' := mX0_carryOut) (As := [.int (nI k), .int (a), .int (b), .int (t)]) (st := []) (c_carry (d := d) ((jI.col h hJ1 (by decide)).kp hK2 (fun i hi => inR_f (by omega))) hw (k := k) hk8 (a) (b) (t) hj) dX8_change_43 rfl rfl (Nat.le_of_ble_eq_true rfl) (fit_of (by omega) (by decide) (by decide) (by decide)) ml_X8_257 okX0_carryOut rfl rfl (by decide) rfl (fun MC3 ⟨hC3, hK3⟩ => ?_)
  show EV _ _ _ _ _ 46 _ ([.int ((cy c (k) (a) (b) (t)).1)]) _
  exact e_iret dX8_change_46 rfl (MP.retI rfl ⟨hC3, hH2.kp hK3 (fun a h1 h2 => inR_f (by omega)), ((hJ1.1.wide (fun a ha => by unfold inR at *; simp at *; omega)).trans (hK2.wide (fun a ha => by unfold inR at *; simp at *; omega))).trans (hK3.wide (fun a ha => by unfold inR at *; simp at *; omega))⟩) (by decide) (by decide)
theorem ch_bad {M MJ M' : Nat → Nat → Int32} {j : Nat × Int32} (hj : ¬ j.1 = 0) (hc : j.1 ≤ 5 ∨ j.1 = 8 ∨ j.1 = 9) (hJ : jI M j MJ) (h : M' 0 = dnF (MJ 0) j.1 (MJ 13 3) ∧ KP (fun a => a == 0) MJ M') : M' 0 = dnF (M 0) j.1 j.2 ∧ KP (fun a => inR 7 13 a || a == 0) M M' := by
  refine ⟨?_, (hJ.1.wide (fun a ha => by unfold inR at *; simp at *; omega)).trans (h.2.wide (fun a ha => by simp at *; exact ha.2))⟩
  rw [h.1, hJ.1 0 (by unfold inR; simp)]
  rcases hc with hc | hc
  · rw [hJ.2 (by omega) hc]
  · unfold dnF
    rw [if_neg (by omega), if_neg (by omega)]
theorem c_change_x (h : ColAt M 1 c) (hw : WF c) (hH : HsAt M hs nx sz) {k : Nat} (hk8 : k < 8) (a b t : Int32) (hj : ¬ (jd c k a b).1 = 0) : THRI G ad (d + 6) mX8_change [.ref (ad 0), .int (nI k), .int (a), .int (b), .int (t)] M o (excN (jd c k a b).1) (fun M' => M' 0 = dnF (M 0) (jd c k (a) (b)).1 (jd c k (a) (b)).2 ∧ KP (fun a => inR 7 13 a || a == 0) M M') := by
  refine CM_of rfl (by decide) rfl (Nat.le_of_ble_eq_true rfl) rfl ?_
  have hn := hw.n
  have hk := hw.k
  have hw9 := hw.w9
  refine e_aload_n (pc' := 1) dX8_change_0 rfl rfl rfl ?_
  refine p_gfr (pc' := 4) (a := 0) (k := 3) (t := 13) dX8_change_1 rfl rfl (by decide) (by decide) rfl fl_X8_37 ?_
  refine e_iload_n (pc' := 5) dX8_change_4 rfl rfl rfl ?_
  refine e_iload_n (pc' := 6) dX8_change_5 rfl rfl rfl ?_
  refine e_iload_n (pc' := 7) dX8_change_6 rfl rfl rfl ?_
  refine r_VI (pc' := 10) (m' := mX0_judge) (As := [.int (nI k), .int (a), .int (b)]) (st := []) (c_judge (d := d) h hw (k := k) hk8 (a) (b)) dX8_change_7 rfl rfl (Nat.le_of_ble_eq_true rfl) (fit_of (by omega) (by decide) (by decide) (by decide)) ml_X8_238 okX0_judge rfl rfl (by decide) rfl (fun MJ1 hJ1 => ?_)
  show EV _ _ _ _ _ 10 _ ([.int (nI ((jd c k (a) (b)).1))]) _
  refine e_istore (pc' := 12) (L' := [some (.ref (ad 0)), some (.int (nI k)), some (.int (a)), some (.int (b)), some (.int (t)), some (.int (nI ((jd c k (a) (b)).1)))]) dX8_change_10 rfl (by decide) rfl ?_
  refine e_iload (pc' := 14) dX8_change_12 rfl rfl ?_
  refine e_if_eqN (pc' := 17) (tgt := 23) dX8_change_14 rfl (by decide) (by first | omega | (have := jd_codes c k a b; omega)) (fun hz1 => absurd hz1 (hj)) (fun hz1 => ?_)
  refine e_aload_n (pc' := 18) dX8_change_17 rfl rfl rfl ?_
  refine e_iload (pc' := 20) dX8_change_18 rfl rfl ?_
  exact t_VI (m' := mX8_refuse) (As := [.int (nI ((jd c k (a) (b)).1))]) (st := []) (c_refuse (d := d) (r := (jd c k (a) (b)).1) (jd_codes c k a b)) dX8_change_20 rfl (Nat.le_of_ble_eq_true rfl) (fit_of (by omega) (by decide) (by decide) (by decide)) ml_X8_311 okX8_refuse rfl rfl (by decide) rfl rfl (fun M2 h2 => ch_bad hj (jd_codes c k a b) hJ1 h2) (by decide) (by decide)
theorem m_addMagnet (h : ColAt M 1 c) (hw : WF c) (hH : HsAt M hs nx sz) (x : Int32) (y : Int32) (b : Bool) (hj : (jd c 0 (x) (y)).1 = 0) : RETI G ad (d + 7) mX8_addMagnet [.ref (ad 0), .int (x), .int (y), .int (bI (b))] (M, o) (some (.int ((cy c 0 (x) (y) (bI b)).1))) (fun M' => ColAt M' 1 (cy c 0 (x) (y) (bI b)).2 ∧ HsAt M' (psh hs sz c) ((nx + 1) % 8) (min (sz + 1) 8) ∧ KP (inR 1 63) M M') := by
  refine CM_of rfl (by decide) rfl (Nat.le_of_ble_eq_true rfl) rfl ?_
  have hn := hw.n
  have hk := hw.k
  have hw9 := hw.w9
  refine e_aload_n (pc' := 1) dX8_addMagnet_0 rfl rfl rfl ?_
  refine e_iconst (pc' := 2) (v := nI 0) dX8_addMagnet_1 rfl (by decide) ?_
  refine e_iload_n (pc' := 3) dX8_addMagnet_2 rfl rfl rfl ?_
  refine e_iload_n (pc' := 4) dX8_addMagnet_3 rfl rfl rfl ?_
  refine e_iload_n (pc' := 5) dX8_addMagnet_4 rfl rfl rfl ?_
  refine e_if_eqB (pc' := 8) (tgt := 12) dX8_addMagnet_5 rfl (by decide) (fun hb => ?_) (fun hb => ?_)
  · refine e_iconst (pc' := 13) (v := nI 0) dX8_addMagnet_12 rfl (by decide) ?_
    refine r_VI (pc' := 16) (m' := mX8_change) (As := [.int (nI 0), .int (x), .int (y), .int (nI 0)]) (st := []) (c_change (d := d) h hw hH (k := 0) (by decide) (x) (y) (nI 0) hj) dX8_addMagnet_13 rfl rfl (Nat.le_of_ble_eq_true rfl) (fit_of (by omega) (by decide) (by decide) (by decide)) ml_X8_72 okX8_change rfl rfl (by decide) rfl (fun MR hR => ?_)
    show EV _ _ _ _ _ 16 _ ([.int ((cy c 0 (x) (y) (nI 0)).1)]) _
    exact e_iret dX8_addMagnet_16 rfl ((by rw [hb] at *; exact MP.retI rfl hR)) (by decide) (by decide)
  · refine e_iconst (pc' := 9) (v := nI 1) dX8_addMagnet_8 rfl (by decide) ?_
    refine e_goto (tgt := 13) dX8_addMagnet_9 (by decide) ?_
    refine r_VI (pc' := 16) (m' := mX8_change) (As := [.int (nI 0), .int (x), .int (y), .int (nI 1)]) (st := []) (c_change (d := d) h hw hH (k := 0) (by decide) (x) (y) (nI 1) hj) dX8_addMagnet_13 rfl rfl (Nat.le_of_ble_eq_true rfl) (fit_of (by omega) (by decide) (by decide) (by decide)) ml_X8_72 okX8_change rfl rfl (by decide) rfl (fun MR hR => ?_)
    show EV _ _ _ _ _ 16 _ ([.int ((cy c 0 (x) (y) (nI 1)).1)]) _
    exact e_iret dX8_addMagnet_16 rfl ((by rw [hb] at *; exact MP.retI rfl hR)) (by decide) (by decide)
theorem m_addMagnet_x (h : ColAt M 1 c) (hw : WF c) (hH : HsAt M hs nx sz) (x : Int32) (y : Int32) (b : Bool) (hj : ¬ (jd c 0 (x) (y)).1 = 0) : THRI G ad (d + 7) mX8_addMagnet [.ref (ad 0), .int (x), .int (y), .int (bI (b))] M o (excN (jd c 0 (x) (y)).1) (fun M' => M' 0 = dnF (M 0) (jd c 0 (x) (y)).1 (jd c 0 (x) (y)).2 ∧ KP (fun a => inR 7 13 a || a == 0) M M') := by
  refine CM_of rfl (by decide) rfl (Nat.le_of_ble_eq_true rfl) rfl ?_
  have hn := hw.n
  have hk := hw.k
  have hw9 := hw.w9
  refine e_aload_n (pc' := 1) dX8_addMagnet_0 rfl rfl rfl ?_
  refine e_iconst (pc' := 2) (v := nI 0) dX8_addMagnet_1 rfl (by decide) ?_
  refine e_iload_n (pc' := 3) dX8_addMagnet_2 rfl rfl rfl ?_
  refine e_iload_n (pc' := 4) dX8_addMagnet_3 rfl rfl rfl ?_
  refine e_iload_n (pc' := 5) dX8_addMagnet_4 rfl rfl rfl ?_
  refine e_if_eqB (pc' := 8) (tgt := 12) dX8_addMagnet_5 rfl (by decide) (fun hb => ?_) (fun hb => ?_)
  · refine e_iconst (pc' := 13) (v := nI 0) dX8_addMagnet_12 rfl (by decide) ?_
    exact t_VI (m' := mX8_change) (As := [.int (nI 0), .int (x), .int (y), .int (nI 0)]) (st := []) (c_change_x (d := d) h hw hH (k := 0) (by decide) (x) (y) (nI 0) hj) dX8_addMagnet_13 rfl (Nat.le_of_ble_eq_true rfl) (fit_of (by omega) (by decide) (by decide) (by decide)) ml_X8_72 okX8_change rfl rfl (by decide) rfl rfl (fun M2 h2 => h2) (by decide) (by decide)
  · refine e_iconst (pc' := 9) (v := nI 1) dX8_addMagnet_8 rfl (by decide) ?_
    refine e_goto (tgt := 13) dX8_addMagnet_9 (by decide) ?_
    exact t_VI (m' := mX8_change) (As := [.int (nI 0), .int (x), .int (y), .int (nI 1)]) (st := []) (c_change_x (d := d) h hw hH (k := 0) (by decide) (x) (y) (nI 1) hj) dX8_addMagnet_13 rfl (Nat.le_of_ble_eq_true rfl) (fit_of (by omega) (by decide) (by decide) (by decide)) ml_X8_72 okX8_change rfl rfl (by decide) rfl rfl (fun M2 h2 => h2) (by decide) (by decide)
theorem m_setStrength (h : ColAt M 1 c) (hw : WF c) (hH : HsAt M hs nx sz) (x : Int32) (y : Int32) (hj : (jd c 1 (x) (y)).1 = 0) : RETI G ad (d + 7) mX8_setStrength [.ref (ad 0), .int (x), .int (y)] (M, o) (some (.int ((cy c 1 (x) (y) (nI 0)).1))) (fun M' => ColAt M' 1 (cy c 1 (x) (y) (nI 0)).2 ∧ HsAt M' (psh hs sz c) ((nx + 1) % 8) (min (sz + 1) 8) ∧ KP (inR 1 63) M M') := by
  refine CM_of rfl (by decide) rfl (Nat.le_of_ble_eq_true rfl) rfl ?_
  have hn := hw.n
  have hk := hw.k
  have hw9 := hw.w9
  refine e_aload_n (pc' := 1) dX8_setStrength_0 rfl rfl rfl ?_
  refine e_iconst (pc' := 2) (v := nI 1) dX8_setStrength_1 rfl (by decide) ?_
  refine e_iload_n (pc' := 3) dX8_setStrength_2 rfl rfl rfl ?_
  refine e_iload_n (pc' := 4) dX8_setStrength_3 rfl rfl rfl ?_
  refine e_iconst (pc' := 5) (v := nI 0) dX8_setStrength_4 rfl (by decide) ?_
  refine r_VI (pc' := 8) (m' := mX8_change) (As := [.int (nI 1), .int (x), .int (y), .int (nI 0)]) (st := []) (c_change (d := d) h hw hH (k := 1) (by decide) (x) (y) (nI 0) hj) dX8_setStrength_5 rfl rfl (Nat.le_of_ble_eq_true rfl) (fit_of (by omega) (by decide) (by decide) (by decide)) ml_X8_72 okX8_change rfl rfl (by decide) rfl (fun MR hR => ?_)
  show EV _ _ _ _ _ 8 _ ([.int ((cy c 1 (x) (y) (nI 0)).1)]) _
  exact e_iret dX8_setStrength_8 rfl (MP.retI rfl hR) (by decide) (by decide)
theorem m_setStrength_x (h : ColAt M 1 c) (hw : WF c) (hH : HsAt M hs nx sz) (x : Int32) (y : Int32) (hj : ¬ (jd c 1 (x) (y)).1 = 0) : THRI G ad (d + 7) mX8_setStrength [.ref (ad 0), .int (x), .int (y)] M o (excN (jd c 1 (x) (y)).1) (fun M' => M' 0 = dnF (M 0) (jd c 1 (x) (y)).1 (jd c 1 (x) (y)).2 ∧ KP (fun a => inR 7 13 a || a == 0) M M') := by
  refine CM_of rfl (by decide) rfl (Nat.le_of_ble_eq_true rfl) rfl ?_
  have hn := hw.n
  have hk := hw.k
  have hw9 := hw.w9
  refine e_aload_n (pc' := 1) dX8_setStrength_0 rfl rfl rfl ?_
  refine e_iconst (pc' := 2) (v := nI 1) dX8_setStrength_1 rfl (by decide) ?_
  refine e_iload_n (pc' := 3) dX8_setStrength_2 rfl rfl rfl ?_
  refine e_iload_n (pc' := 4) dX8_setStrength_3 rfl rfl rfl ?_
  refine e_iconst (pc' := 5) (v := nI 0) dX8_setStrength_4 rfl (by decide) ?_
  exact t_VI (m' := mX8_change) (As := [.int (nI 1), .int (x), .int (y), .int (nI 0)]) (st := []) (c_change_x (d := d) h hw hH (k := 1) (by decide) (x) (y) (nI 0) hj) dX8_setStrength_5 rfl (Nat.le_of_ble_eq_true rfl) (fit_of (by omega) (by decide) (by decide) (by decide)) ml_X8_72 okX8_change rfl rfl (by decide) rfl rfl (fun M2 h2 => h2) (by decide) (by decide)
theorem m_turn (h : ColAt M 1 c) (hw : WF c) (hH : HsAt M hs nx sz) (x : Int32) (hj : (jd c 2 (x) (nI 0)).1 = 0) : RETI G ad (d + 7) mX8_turn [.ref (ad 0), .int (x)] (M, o) (some (.int ((cy c 2 (x) (nI 0) (nI 0)).1))) (fun M' => ColAt M' 1 (cy c 2 (x) (nI 0) (nI 0)).2 ∧ HsAt M' (psh hs sz c) ((nx + 1) % 8) (min (sz + 1) 8) ∧ KP (inR 1 63) M M') := by
  refine CM_of rfl (by decide) rfl (Nat.le_of_ble_eq_true rfl) rfl ?_
  have hn := hw.n
  have hk := hw.k
  have hw9 := hw.w9
  refine e_aload_n (pc' := 1) dX8_turn_0 rfl rfl rfl ?_
  refine e_iconst (pc' := 2) (v := nI 2) dX8_turn_1 rfl (by decide) ?_
  refine e_iload_n (pc' := 3) dX8_turn_2 rfl rfl rfl ?_
  refine e_iconst (pc' := 4) (v := nI 0) dX8_turn_3 rfl (by decide) ?_
  refine e_iconst (pc' := 5) (v := nI 0) dX8_turn_4 rfl (by decide) ?_
  refine r_VI (pc' := 8) (m' := mX8_change) (As := [.int (nI 2), .int (x), .int (nI 0), .int (nI 0)]) (st := []) (c_change (d := d) h hw hH (k := 2) (by decide) (x) (nI 0) (nI 0) hj) dX8_turn_5 rfl rfl (Nat.le_of_ble_eq_true rfl) (fit_of (by omega) (by decide) (by decide) (by decide)) ml_X8_72 okX8_change rfl rfl (by decide) rfl (fun MR hR => ?_)
  show EV _ _ _ _ _ 8 _ ([.int ((cy c 2 (x) (nI 0) (nI 0)).1)]) _
  exact e_iret dX8_turn_8 rfl (MP.retI rfl hR) (by decide) (by decide)
theorem m_turn_x (h : ColAt M 1 c) (hw : WF c) (hH : HsAt M hs nx sz) (x : Int32) (hj : ¬ (jd c 2 (x) (nI 0)).1 = 0) : THRI G ad (d + 7) mX8_turn [.ref (ad 0), .int (x)] M o (excN (jd c 2 (x) (nI 0)).1) (fun M' => M' 0 = dnF (M 0) (jd c 2 (x) (nI 0)).1 (jd c 2 (x) (nI 0)).2 ∧ KP (fun a => inR 7 13 a || a == 0) M M') := by
  refine CM_of rfl (by decide) rfl (Nat.le_of_ble_eq_true rfl) rfl ?_
  have hn := hw.n
  have hk := hw.k
  have hw9 := hw.w9
  refine e_aload_n (pc' := 1) dX8_turn_0 rfl rfl rfl ?_
  refine e_iconst (pc' := 2) (v := nI 2) dX8_turn_1 rfl (by decide) ?_
  refine e_iload_n (pc' := 3) dX8_turn_2 rfl rfl rfl ?_
  refine e_iconst (pc' := 4) (v := nI 0) dX8_turn_3 rfl (by decide) ?_
  refine e_iconst (pc' := 5) (v := nI 0) dX8_turn_4 rfl (by decide) ?_
  exact t_VI (m' := mX8_change) (As := [.int (nI 2), .int (x), .int (nI 0), .int (nI 0)]) (st := []) (c_change_x (d := d) h hw hH (k := 2) (by decide) (x) (nI 0) (nI 0) hj) dX8_turn_5 rfl (Nat.le_of_ble_eq_true rfl) (fit_of (by omega) (by decide) (by decide) (by decide)) ml_X8_72 okX8_change rfl rfl (by decide) rfl rfl (fun M2 h2 => h2) (by decide) (by decide)
theorem m_shift (h : ColAt M 1 c) (hw : WF c) (hH : HsAt M hs nx sz) (x : Int32) (hj : (jd c 3 (x) (nI 0)).1 = 0) : RETI G ad (d + 7) mX8_shift [.ref (ad 0), .int (x)] (M, o) (some (.int ((cy c 3 (x) (nI 0) (nI 0)).1))) (fun M' => ColAt M' 1 (cy c 3 (x) (nI 0) (nI 0)).2 ∧ HsAt M' (psh hs sz c) ((nx + 1) % 8) (min (sz + 1) 8) ∧ KP (inR 1 63) M M') := by
  refine CM_of rfl (by decide) rfl (Nat.le_of_ble_eq_true rfl) rfl ?_
  have hn := hw.n
  have hk := hw.k
  have hw9 := hw.w9
  refine e_aload_n (pc' := 1) dX8_shift_0 rfl rfl rfl ?_
  refine e_iconst (pc' := 2) (v := nI 3) dX8_shift_1 rfl (by decide) ?_
  refine e_iload_n (pc' := 3) dX8_shift_2 rfl rfl rfl ?_
  refine e_iconst (pc' := 4) (v := nI 0) dX8_shift_3 rfl (by decide) ?_
  refine e_iconst (pc' := 5) (v := nI 0) dX8_shift_4 rfl (by decide) ?_
  refine r_VI (pc' := 8) (m' := mX8_change) (As := [.int (nI 3), .int (x), .int (nI 0), .int (nI 0)]) (st := []) (c_change (d := d) h hw hH (k := 3) (by decide) (x) (nI 0) (nI 0) hj) dX8_shift_5 rfl rfl (Nat.le_of_ble_eq_true rfl) (fit_of (by omega) (by decide) (by decide) (by decide)) ml_X8_72 okX8_change rfl rfl (by decide) rfl (fun MR hR => ?_)
  show EV _ _ _ _ _ 8 _ ([.int ((cy c 3 (x) (nI 0) (nI 0)).1)]) _
  exact e_iret dX8_shift_8 rfl (MP.retI rfl hR) (by decide) (by decide)
theorem m_shift_x (h : ColAt M 1 c) (hw : WF c) (hH : HsAt M hs nx sz) (x : Int32) (hj : ¬ (jd c 3 (x) (nI 0)).1 = 0) : THRI G ad (d + 7) mX8_shift [.ref (ad 0), .int (x)] M o (excN (jd c 3 (x) (nI 0)).1) (fun M' => M' 0 = dnF (M 0) (jd c 3 (x) (nI 0)).1 (jd c 3 (x) (nI 0)).2 ∧ KP (fun a => inR 7 13 a || a == 0) M M') := by
  refine CM_of rfl (by decide) rfl (Nat.le_of_ble_eq_true rfl) rfl ?_
  have hn := hw.n
  have hk := hw.k
  have hw9 := hw.w9
  refine e_aload_n (pc' := 1) dX8_shift_0 rfl rfl rfl ?_
  refine e_iconst (pc' := 2) (v := nI 3) dX8_shift_1 rfl (by decide) ?_
  refine e_iload_n (pc' := 3) dX8_shift_2 rfl rfl rfl ?_
  refine e_iconst (pc' := 4) (v := nI 0) dX8_shift_3 rfl (by decide) ?_
  refine e_iconst (pc' := 5) (v := nI 0) dX8_shift_4 rfl (by decide) ?_
  exact t_VI (m' := mX8_change) (As := [.int (nI 3), .int (x), .int (nI 0), .int (nI 0)]) (st := []) (c_change_x (d := d) h hw hH (k := 3) (by decide) (x) (nI 0) (nI 0) hj) dX8_shift_5 rfl (Nat.le_of_ble_eq_true rfl) (fit_of (by omega) (by decide) (by decide) (by decide)) ml_X8_72 okX8_change rfl rfl (by decide) rfl rfl (fun M2 h2 => h2) (by decide) (by decide)
theorem m_move (h : ColAt M 1 c) (hw : WF c) (hH : HsAt M hs nx sz) (hj : (jd c 4 (nI 0) (nI 0)).1 = 0) : RETI G ad (d + 7) mX8_move [.ref (ad 0)] (M, o) (some (.int ((cy c 4 (nI 0) (nI 0) (nI 0)).1))) (fun M' => ColAt M' 1 (cy c 4 (nI 0) (nI 0) (nI 0)).2 ∧ HsAt M' (psh hs sz c) ((nx + 1) % 8) (min (sz + 1) 8) ∧ KP (inR 1 63) M M') := by
  refine CM_of rfl (by decide) rfl (Nat.le_of_ble_eq_true rfl) rfl ?_
  have hn := hw.n
  have hk := hw.k
  have hw9 := hw.w9
  refine e_aload_n (pc' := 1) dX8_move_0 rfl rfl rfl ?_
  refine e_iconst (pc' := 2) (v := nI 4) dX8_move_1 rfl (by decide) ?_
  refine e_iconst (pc' := 3) (v := nI 0) dX8_move_2 rfl (by decide) ?_
  refine e_iconst (pc' := 4) (v := nI 0) dX8_move_3 rfl (by decide) ?_
  refine e_iconst (pc' := 5) (v := nI 0) dX8_move_4 rfl (by decide) ?_
  refine r_VI (pc' := 8) (m' := mX8_change) (As := [.int (nI 4), .int (nI 0), .int (nI 0), .int (nI 0)]) (st := []) (c_change (d := d) h hw hH (k := 4) (by decide) (nI 0) (nI 0) (nI 0) hj) dX8_move_5 rfl rfl (Nat.le_of_ble_eq_true rfl) (fit_of (by omega) (by decide) (by decide) (by decide)) ml_X8_72 okX8_change rfl rfl (by decide) rfl (fun MR hR => ?_)
  show EV _ _ _ _ _ 8 _ ([.int ((cy c 4 (nI 0) (nI 0) (nI 0)).1)]) _
  exact e_iret dX8_move_8 rfl (MP.retI rfl hR) (by decide) (by decide)
theorem m_move_x (h : ColAt M 1 c) (hw : WF c) (hH : HsAt M hs nx sz) (hj : ¬ (jd c 4 (nI 0) (nI 0)).1 = 0) : THRI G ad (d + 7) mX8_move [.ref (ad 0)] M o (excN (jd c 4 (nI 0) (nI 0)).1) (fun M' => M' 0 = dnF (M 0) (jd c 4 (nI 0) (nI 0)).1 (jd c 4 (nI 0) (nI 0)).2 ∧ KP (fun a => inR 7 13 a || a == 0) M M') := by
  refine CM_of rfl (by decide) rfl (Nat.le_of_ble_eq_true rfl) rfl ?_
  have hn := hw.n
  have hk := hw.k
  have hw9 := hw.w9
  refine e_aload_n (pc' := 1) dX8_move_0 rfl rfl rfl ?_
  refine e_iconst (pc' := 2) (v := nI 4) dX8_move_1 rfl (by decide) ?_
  refine e_iconst (pc' := 3) (v := nI 0) dX8_move_2 rfl (by decide) ?_
  refine e_iconst (pc' := 4) (v := nI 0) dX8_move_3 rfl (by decide) ?_
  refine e_iconst (pc' := 5) (v := nI 0) dX8_move_4 rfl (by decide) ?_
  exact t_VI (m' := mX8_change) (As := [.int (nI 4), .int (nI 0), .int (nI 0), .int (nI 0)]) (st := []) (c_change_x (d := d) h hw hH (k := 4) (by decide) (nI 0) (nI 0) (nI 0) hj) dX8_move_5 rfl (Nat.le_of_ble_eq_true rfl) (fit_of (by omega) (by decide) (by decide) (by decide)) ml_X8_72 okX8_change rfl rfl (by decide) rfl rfl (fun M2 h2 => h2) (by decide) (by decide)
theorem m_dig (h : ColAt M 1 c) (hw : WF c) (hH : HsAt M hs nx sz) (x : Int32) (y : Int32) (hj : (jd c 5 (x) (y)).1 = 0) : RETI G ad (d + 7) mX8_dig [.ref (ad 0), .int (x), .int (y)] (M, o) (some (.int ((cy c 5 (x) (y) (nI 0)).1))) (fun M' => ColAt M' 1 (cy c 5 (x) (y) (nI 0)).2 ∧ HsAt M' (psh hs sz c) ((nx + 1) % 8) (min (sz + 1) 8) ∧ KP (inR 1 63) M M') := by
  refine CM_of rfl (by decide) rfl (Nat.le_of_ble_eq_true rfl) rfl ?_
  have hn := hw.n
  have hk := hw.k
  have hw9 := hw.w9
  refine e_aload_n (pc' := 1) dX8_dig_0 rfl rfl rfl ?_
  refine e_iconst (pc' := 2) (v := nI 5) dX8_dig_1 rfl (by decide) ?_
  refine e_iload_n (pc' := 3) dX8_dig_2 rfl rfl rfl ?_
  refine e_iload_n (pc' := 4) dX8_dig_3 rfl rfl rfl ?_
  refine e_iconst (pc' := 5) (v := nI 0) dX8_dig_4 rfl (by decide) ?_
  refine r_VI (pc' := 8) (m' := mX8_change) (As := [.int (nI 5), .int (x), .int (y), .int (nI 0)]) (st := []) (c_change (d := d) h hw hH (k := 5) (by decide) (x) (y) (nI 0) hj) dX8_dig_5 rfl rfl (Nat.le_of_ble_eq_true rfl) (fit_of (by omega) (by decide) (by decide) (by decide)) ml_X8_72 okX8_change rfl rfl (by decide) rfl (fun MR hR => ?_)
  show EV _ _ _ _ _ 8 _ ([.int ((cy c 5 (x) (y) (nI 0)).1)]) _
  exact e_iret dX8_dig_8 rfl (MP.retI rfl hR) (by decide) (by decide)
theorem m_dig_x (h : ColAt M 1 c) (hw : WF c) (hH : HsAt M hs nx sz) (x : Int32) (y : Int32) (hj : ¬ (jd c 5 (x) (y)).1 = 0) : THRI G ad (d + 7) mX8_dig [.ref (ad 0), .int (x), .int (y)] M o (excN (jd c 5 (x) (y)).1) (fun M' => M' 0 = dnF (M 0) (jd c 5 (x) (y)).1 (jd c 5 (x) (y)).2 ∧ KP (fun a => inR 7 13 a || a == 0) M M') := by
  refine CM_of rfl (by decide) rfl (Nat.le_of_ble_eq_true rfl) rfl ?_
  have hn := hw.n
  have hk := hw.k
  have hw9 := hw.w9
  refine e_aload_n (pc' := 1) dX8_dig_0 rfl rfl rfl ?_
  refine e_iconst (pc' := 2) (v := nI 5) dX8_dig_1 rfl (by decide) ?_
  refine e_iload_n (pc' := 3) dX8_dig_2 rfl rfl rfl ?_
  refine e_iload_n (pc' := 4) dX8_dig_3 rfl rfl rfl ?_
  refine e_iconst (pc' := 5) (v := nI 0) dX8_dig_4 rfl (by decide) ?_
  exact t_VI (m' := mX8_change) (As := [.int (nI 5), .int (x), .int (y), .int (nI 0)]) (st := []) (c_change_x (d := d) h hw hH (k := 5) (by decide) (x) (y) (nI 0) hj) dX8_dig_5 rfl (Nat.le_of_ble_eq_true rfl) (fit_of (by omega) (by decide) (by decide) (by decide)) ml_X8_72 okX8_change rfl rfl (by decide) rfl rfl (fun M2 h2 => h2) (by decide) (by decide)
theorem m_fill (h : ColAt M 1 c) (hw : WF c) (hH : HsAt M hs nx sz) (x : Int32) (hj : (jd c 6 (x) (nI 0)).1 = 0) : RETI G ad (d + 7) mX8_fill [.ref (ad 0), .int (x)] (M, o) (some (.int ((cy c 6 (x) (nI 0) (nI 0)).1))) (fun M' => ColAt M' 1 (cy c 6 (x) (nI 0) (nI 0)).2 ∧ HsAt M' (psh hs sz c) ((nx + 1) % 8) (min (sz + 1) 8) ∧ KP (inR 1 63) M M') := by
  refine CM_of rfl (by decide) rfl (Nat.le_of_ble_eq_true rfl) rfl ?_
  have hn := hw.n
  have hk := hw.k
  have hw9 := hw.w9
  refine e_aload_n (pc' := 1) dX8_fill_0 rfl rfl rfl ?_
  refine e_bipush (pc' := 3) (v := nI 6) dX8_fill_1 rfl (by decide) ?_
  refine e_iload_n (pc' := 4) dX8_fill_3 rfl rfl rfl ?_
  refine e_iconst (pc' := 5) (v := nI 0) dX8_fill_4 rfl (by decide) ?_
  refine e_iconst (pc' := 6) (v := nI 0) dX8_fill_5 rfl (by decide) ?_
  refine r_VI (pc' := 9) (m' := mX8_change) (As := [.int (nI 6), .int (x), .int (nI 0), .int (nI 0)]) (st := []) (c_change (d := d) h hw hH (k := 6) (by decide) (x) (nI 0) (nI 0) hj) dX8_fill_6 rfl rfl (Nat.le_of_ble_eq_true rfl) (fit_of (by omega) (by decide) (by decide) (by decide)) ml_X8_72 okX8_change rfl rfl (by decide) rfl (fun MR hR => ?_)
  show EV _ _ _ _ _ 9 _ ([.int ((cy c 6 (x) (nI 0) (nI 0)).1)]) _
  exact e_iret dX8_fill_9 rfl (MP.retI rfl hR) (by decide) (by decide)
theorem m_fill_x (h : ColAt M 1 c) (hw : WF c) (hH : HsAt M hs nx sz) (x : Int32) (hj : ¬ (jd c 6 (x) (nI 0)).1 = 0) : THRI G ad (d + 7) mX8_fill [.ref (ad 0), .int (x)] M o (excN (jd c 6 (x) (nI 0)).1) (fun M' => M' 0 = dnF (M 0) (jd c 6 (x) (nI 0)).1 (jd c 6 (x) (nI 0)).2 ∧ KP (fun a => inR 7 13 a || a == 0) M M') := by
  refine CM_of rfl (by decide) rfl (Nat.le_of_ble_eq_true rfl) rfl ?_
  have hn := hw.n
  have hk := hw.k
  have hw9 := hw.w9
  refine e_aload_n (pc' := 1) dX8_fill_0 rfl rfl rfl ?_
  refine e_bipush (pc' := 3) (v := nI 6) dX8_fill_1 rfl (by decide) ?_
  refine e_iload_n (pc' := 4) dX8_fill_3 rfl rfl rfl ?_
  refine e_iconst (pc' := 5) (v := nI 0) dX8_fill_4 rfl (by decide) ?_
  refine e_iconst (pc' := 6) (v := nI 0) dX8_fill_5 rfl (by decide) ?_
  exact t_VI (m' := mX8_change) (As := [.int (nI 6), .int (x), .int (nI 0), .int (nI 0)]) (st := []) (c_change_x (d := d) h hw hH (k := 6) (by decide) (x) (nI 0) (nI 0) hj) dX8_fill_6 rfl (Nat.le_of_ble_eq_true rfl) (fit_of (by omega) (by decide) (by decide) (by decide)) ml_X8_72 okX8_change rfl rfl (by decide) rfl rfl (fun M2 h2 => h2) (by decide) (by decide)
theorem m_settle (h : ColAt M 1 c) (hw : WF c) (hH : HsAt M hs nx sz) (hj : (jd c 7 (nI 0) (nI 0)).1 = 0) : RETI G ad (d + 7) mX8_settle [.ref (ad 0)] (M, o) (some (.int ((cy c 7 (nI 0) (nI 0) (nI 0)).1))) (fun M' => ColAt M' 1 (cy c 7 (nI 0) (nI 0) (nI 0)).2 ∧ HsAt M' (psh hs sz c) ((nx + 1) % 8) (min (sz + 1) 8) ∧ KP (inR 1 63) M M') := by
  refine CM_of rfl (by decide) rfl (Nat.le_of_ble_eq_true rfl) rfl ?_
  have hn := hw.n
  have hk := hw.k
  have hw9 := hw.w9
  refine e_aload_n (pc' := 1) dX8_settle_0 rfl rfl rfl ?_
  refine e_bipush (pc' := 3) (v := nI 7) dX8_settle_1 rfl (by decide) ?_
  refine e_iconst (pc' := 4) (v := nI 0) dX8_settle_3 rfl (by decide) ?_
  refine e_iconst (pc' := 5) (v := nI 0) dX8_settle_4 rfl (by decide) ?_
  refine e_iconst (pc' := 6) (v := nI 0) dX8_settle_5 rfl (by decide) ?_
  refine r_VI (pc' := 9) (m' := mX8_change) (As := [.int (nI 7), .int (nI 0), .int (nI 0), .int (nI 0)]) (st := []) (c_change (d := d) h hw hH (k := 7) (by decide) (nI 0) (nI 0) (nI 0) hj) dX8_settle_6 rfl rfl (Nat.le_of_ble_eq_true rfl) (fit_of (by omega) (by decide) (by decide) (by decide)) ml_X8_72 okX8_change rfl rfl (by decide) rfl (fun MR hR => ?_)
  show EV _ _ _ _ _ 9 _ ([.int ((cy c 7 (nI 0) (nI 0) (nI 0)).1)]) _
  exact e_iret dX8_settle_9 rfl (MP.retI rfl hR) (by decide) (by decide)
theorem m_settle_x (h : ColAt M 1 c) (hw : WF c) (hH : HsAt M hs nx sz) (hj : ¬ (jd c 7 (nI 0) (nI 0)).1 = 0) : THRI G ad (d + 7) mX8_settle [.ref (ad 0)] M o (excN (jd c 7 (nI 0) (nI 0)).1) (fun M' => M' 0 = dnF (M 0) (jd c 7 (nI 0) (nI 0)).1 (jd c 7 (nI 0) (nI 0)).2 ∧ KP (fun a => inR 7 13 a || a == 0) M M') := by
  refine CM_of rfl (by decide) rfl (Nat.le_of_ble_eq_true rfl) rfl ?_
  have hn := hw.n
  have hk := hw.k
  have hw9 := hw.w9
  refine e_aload_n (pc' := 1) dX8_settle_0 rfl rfl rfl ?_
  refine e_bipush (pc' := 3) (v := nI 7) dX8_settle_1 rfl (by decide) ?_
  refine e_iconst (pc' := 4) (v := nI 0) dX8_settle_3 rfl (by decide) ?_
  refine e_iconst (pc' := 5) (v := nI 0) dX8_settle_4 rfl (by decide) ?_
  refine e_iconst (pc' := 6) (v := nI 0) dX8_settle_5 rfl (by decide) ?_
  exact t_VI (m' := mX8_change) (As := [.int (nI 7), .int (nI 0), .int (nI 0), .int (nI 0)]) (st := []) (c_change_x (d := d) h hw hH (k := 7) (by decide) (nI 0) (nI 0) (nI 0) hj) dX8_settle_6 rfl (Nat.le_of_ble_eq_true rfl) (fit_of (by omega) (by decide) (by decide) (by decide)) ml_X8_72 okX8_change rfl rfl (by decide) rfl rfl (fun M2 h2 => h2) (by decide) (by decide)
end T22

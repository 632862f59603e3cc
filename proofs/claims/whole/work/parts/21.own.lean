set_option maxHeartbeats 400000
/-! THE COLONY'S OWN METHODS -/
def dnF (f : Nat → Int32) (r : Nat) (det : Int32) : Nat → Int32 := if r ≤ 5 then (fun k => if k = 11 then nI r else if k = 12 then det else if k = 13 then nI 0 else f k) else f
def excN (r : Nat) : String := if r = 8 then "java/lang/IndexOutOfBoundsException" else if r = 9 then "java/lang/IllegalArgumentException" else "java/lang/UnsupportedOperationException"
theorem jd_codes (c : Col) (k : Nat) (a b : Int32) : (jd c k a b).1 ≤ 5 ∨ (jd c k a b).1 = 8 ∨ (jd c k a b).1 = 9 := by
  unfold jd
  split
  · unfold jdAdd; repeat' split
    all_goals simp
  · unfold jdStr; repeat' split
    all_goals simp
  · split <;> simp
  · split <;> simp
  · simp
  · unfold jdDig; repeat' split
    all_goals simp
  · split <;> simp
  · unfold jdSet; repeat' split
    all_goals simp
section T21
variable {G : gC} {ad : Nat → Nat} {d : Nat} {M : Nat → Nat → Int32} {o : (Nat → Int64) × (Nat → UInt64)} {c : Col} {hs : Nat → Col} {nx sz : Nat}
theorem c_reqM_ok (h : ColAt M 1 c) (hw : WF c) {i : Nat} (hi : i < cn c) : RET G ad (d + 1) mX8_requireMagnet [.ref (ad 0), .int (nI i)] (M, o) none (M, o) := by
  refine CM_of rfl (by decide) rfl (Nat.le_of_ble_eq_true rfl) rfl ?_
  have hn := hw.n
  have hk := hw.k
  have hw9 := hw.w9
  refine e_aload_n (pc' := 1) dX8_requireMagnet_0 rfl rfl rfl ?_
  refine p_gfr (pc' := 4) (a := 0) (k := 0) (t := 1) dX8_requireMagnet_1 rfl rfl (by decide) (by decide) rfl fl_X8_12 ?_
  refine e_iload_n (pc' := 5) dX8_requireMagnet_4 rfl rfl rfl ?_
  refine r_V (pc' := 8) (m' := mX1_hasMagnet) (As := [.int (nI i)]) (st := []) (c_hasMagnet (d := d) h hw (nI i)) dX8_requireMagnet_5 rfl rfl (Nat.le_of_ble_eq_true rfl) (fit_of (by omega) (by decide) (by decide) (by decide)) ml_X8_330 okX1_hasMagnet rfl rfl (by decide) rfl ?_
  show EV _ _ _ _ _ 8 _ ([.int (bI (hasM c (nI i)))]) _
  refine e_if_neB (pc' := 11) (tgt := 22) dX8_requireMagnet_8 rfl (by decide) (fun hz1 => ?_) (fun hz1 => absurd hz1 (by rw [show hasM c (nI i) = true from decide_eq_true (nI_in2 hi (by omega))]; decide))
  exact e_vret dX8_requireMagnet_22 rfl (MP.ret rfl rfl) (by decide) (by decide)
theorem c_reqM_no (h : ColAt M 1 c) (hw : WF c) (x : Int32) (hx : hasM c x = false) : THR G ad (d + 1) mX8_requireMagnet [.ref (ad 0), .int (x)] (M, o) "java/lang/IndexOutOfBoundsException" (M, o) := by
  refine CM_of rfl (by decide) rfl (Nat.le_of_ble_eq_true rfl) rfl ?_
  have hn := hw.n
  have hk := hw.k
  have hw9 := hw.w9
  refine e_aload_n (pc' := 1) dX8_requireMagnet_0 rfl rfl rfl ?_
  refine p_gfr (pc' := 4) (a := 0) (k := 0) (t := 1) dX8_requireMagnet_1 rfl rfl (by decide) (by decide) rfl fl_X8_12 ?_
  refine e_iload_n (pc' := 5) dX8_requireMagnet_4 rfl rfl rfl ?_
  refine r_V (pc' := 8) (m' := mX1_hasMagnet) (As := [.int (x)]) (st := []) (c_hasMagnet (d := d) h hw (x)) dX8_requireMagnet_5 rfl rfl (Nat.le_of_ble_eq_true rfl) (fit_of (by omega) (by decide) (by decide) (by decide)) ml_X8_330 okX1_hasMagnet rfl rfl (by decide) rfl ?_
  show EV _ _ _ _ _ 8 _ ([.int (bI (hasM c (x)))]) _
  refine e_if_neB (pc' := 11) (tgt := 22) dX8_requireMagnet_8 rfl (by decide) (fun hz1 => absurd hz1 (by rw [hx]; decide)) (fun hz1 => ?_)
  exact e_throwW (K := (1, 6)) (names := ["java/lang/RuntimeException", "java/lang/Exception"]) rfl xok_IndexOutOfBoundsException st_X8_333 dX8_requireMagnet_11 dX8_requireMagnet_14 dX8_requireMagnet_15 dX8_requireMagnet_18 dX8_requireMagnet_21 (by simp [rmK]) (by simp [rmK, Value.category] <;> omega) (Nat.le_refl _) (Nat.le_refl _) (MP.thr rfl rfl) (by decide) (by decide)
theorem c_reqT_ok (h : ColAt M 1 c) (hw : WF c) {i : Nat} (hi : i < ck c) : RET G ad (d + 1) mX8_requireTunnel [.ref (ad 0), .int (nI i)] (M, o) none (M, o) := by
  refine CM_of rfl (by decide) rfl (Nat.le_of_ble_eq_true rfl) rfl ?_
  have hn := hw.n
  have hk := hw.k
  have hw9 := hw.w9
  refine e_aload_n (pc' := 1) dX8_requireTunnel_0 rfl rfl rfl ?_
  refine p_gfr (pc' := 4) (a := 0) (k := 0) (t := 1) dX8_requireTunnel_1 rfl rfl (by decide) (by decide) rfl fl_X8_12 ?_
  refine e_iload_n (pc' := 5) dX8_requireTunnel_4 rfl rfl rfl ?_
  refine r_V (pc' := 8) (m' := mX1_hasTunnel) (As := [.int (nI i)]) (st := []) (c_hasTunnel (d := d) h hw (nI i)) dX8_requireTunnel_5 rfl rfl (Nat.le_of_ble_eq_true rfl) (fit_of (by omega) (by decide) (by decide) (by decide)) ml_X8_335 okX1_hasTunnel rfl rfl (by decide) rfl ?_
  show EV _ _ _ _ _ 8 _ ([.int (bI (hasT c (nI i)))]) _
  refine e_if_neB (pc' := 11) (tgt := 22) dX8_requireTunnel_8 rfl (by decide) (fun hz1 => ?_) (fun hz1 => absurd hz1 (by rw [show hasT c (nI i) = true from decide_eq_true (nI_in2 hi (by omega))]; decide))
  exact e_vret dX8_requireTunnel_22 rfl (MP.ret rfl rfl) (by decide) (by decide)
theorem c_reqT_no (h : ColAt M 1 c) (hw : WF c) (x : Int32) (hx : hasT c x = false) : THR G ad (d + 1) mX8_requireTunnel [.ref (ad 0), .int (x)] (M, o) "java/lang/IndexOutOfBoundsException" (M, o) := by
  refine CM_of rfl (by decide) rfl (Nat.le_of_ble_eq_true rfl) rfl ?_
  have hn := hw.n
  have hk := hw.k
  have hw9 := hw.w9
  refine e_aload_n (pc' := 1) dX8_requireTunnel_0 rfl rfl rfl ?_
  refine p_gfr (pc' := 4) (a := 0) (k := 0) (t := 1) dX8_requireTunnel_1 rfl rfl (by decide) (by decide) rfl fl_X8_12 ?_
  refine e_iload_n (pc' := 5) dX8_requireTunnel_4 rfl rfl rfl ?_
  refine r_V (pc' := 8) (m' := mX1_hasTunnel) (As := [.int (x)]) (st := []) (c_hasTunnel (d := d) h hw (x)) dX8_requireTunnel_5 rfl rfl (Nat.le_of_ble_eq_true rfl) (fit_of (by omega) (by decide) (by decide) (by decide)) ml_X8_335 okX1_hasTunnel rfl rfl (by decide) rfl ?_
  show EV _ _ _ _ _ 8 _ ([.int (bI (hasT c (x)))]) _
  refine e_if_neB (pc' := 11) (tgt := 22) dX8_requireTunnel_8 rfl (by decide) (fun hz1 => absurd hz1 (by rw [hx]; decide)) (fun hz1 => ?_)
  exact e_throwW (K := (1, 6)) (names := ["java/lang/RuntimeException", "java/lang/Exception"]) rfl xok_IndexOutOfBoundsException st_X8_338 dX8_requireTunnel_11 dX8_requireTunnel_14 dX8_requireTunnel_15 dX8_requireTunnel_18 dX8_requireTunnel_21 (by simp [rmK]) (by simp [rmK, Value.category] <;> omega) (Nat.le_refl _) (Nat.le_refl _) (MP.thr rfl rfl) (by decide) (by decide)
theorem c_reqP_ok {i : Nat} (hi : i < 100) : RET G ad (d + 1) mX8_requirePosition [.int (nI i)] (M, o) none (M, o) := by
  refine CM_of rfl (by decide) rfl (Nat.le_of_ble_eq_true rfl) rfl ?_
  refine e_iload_n (pc' := 1) dX8_requirePosition_0 rfl rfl rfl ?_
  refine r_S (pc' := 4) (m' := mX8_isPosition) (As := [.int (nI i)]) (st := []) (c_isPosition (d := d) (nI i)) dX8_requirePosition_1 rfl rfl (Nat.le_of_ble_eq_true rfl) (fit_of (by omega) (by decide) (by decide) (by decide)) ml_X8_323 okX8_isPosition rfl rfl ?_
  show EV _ _ _ _ _ 4 _ ([.int (bI (isP (nI i)))]) _
  refine e_if_neB (pc' := 7) (tgt := 18) dX8_requirePosition_4 rfl (by decide) (fun hz1 => ?_) (fun hz1 => absurd hz1 (by rw [show isP (nI i) = true from isp_t hi]; decide))
  exact e_vret dX8_requirePosition_18 rfl (MP.ret rfl rfl) (by decide) (by decide)
theorem c_reqP_no (x : Int32) (hx : isP x = false) : THR G ad (d + 1) mX8_requirePosition [.int (x)] (M, o) "java/lang/IllegalArgumentException" (M, o) := by
  refine CM_of rfl (by decide) rfl (Nat.le_of_ble_eq_true rfl) rfl ?_
  refine e_iload_n (pc' := 1) dX8_requirePosition_0 rfl rfl rfl ?_
  refine r_S (pc' := 4) (m' := mX8_isPosition) (As := [.int (x)]) (st := []) (c_isPosition (d := d) (x)) dX8_requirePosition_1 rfl rfl (Nat.le_of_ble_eq_true rfl) (fit_of (by omega) (by decide) (by decide) (by decide)) ml_X8_323 okX8_isPosition rfl rfl ?_
  show EV _ _ _ _ _ 4 _ ([.int (bI (isP (x)))]) _
  refine e_if_neB (pc' := 7) (tgt := 18) dX8_requirePosition_4 rfl (by decide) (fun hz1 => absurd hz1 (by rw [hx]; decide)) (fun hz1 => ?_)
  exact e_throwW (K := (1, 6)) (names := ["java/lang/RuntimeException", "java/lang/Exception"]) rfl xok_IllegalArgumentException st_X8_326 dX8_requirePosition_7 dX8_requirePosition_10 dX8_requirePosition_11 dX8_requirePosition_14 dX8_requirePosition_17 (by simp [rmK]) (by simp [rmK, Value.category] <;> omega) (Nat.le_refl _) (Nat.le_refl _) (MP.thr rfl rfl) (by decide) (by decide)
theorem c_reqF_ok (x : Int32) (hx : ¬ x = -1) : RET G ad d mX8_requireFound [.int (x)] (M, o) (some (.int (x))) (M, o) := by
  refine CM_of rfl (by decide) rfl (Nat.le_of_ble_eq_true rfl) rfl ?_
  refine e_iload_n (pc' := 1) dX8_requireFound_0 rfl rfl rfl ?_
  refine e_iconst (pc' := 2) (v := (-1)) dX8_requireFound_1 rfl (by decide) ?_
  refine e_icmp_ne (pc' := 5) (tgt := 16) dX8_requireFound_2 rfl (by decide) (fun hz1 => ?_) (fun hz1 => absurd hz1 (hx))
  refine e_iload_n (pc' := 17) dX8_requireFound_16 rfl rfl rfl ?_
  exact e_iret dX8_requireFound_17 rfl (MP.ret rfl rfl) (by decide) (by decide)
theorem c_reqF_no (x : Int32) (hx : x = -1) : THR G ad d mX8_requireFound [.int (x)] (M, o) "java/util/NoSuchElementException" (M, o) := by
  refine CM_of rfl (by decide) rfl (Nat.le_of_ble_eq_true rfl) rfl ?_
  refine e_iload_n (pc' := 1) dX8_requireFound_0 rfl rfl rfl ?_
  refine e_iconst (pc' := 2) (v := (-1)) dX8_requireFound_1 rfl (by decide) ?_
  refine e_icmp_ne (pc' := 5) (tgt := 16) dX8_requireFound_2 rfl (by decide) (fun hz1 => absurd hz1 (not_not_intro hx)) (fun hz1 => ?_)
  exact e_throwN (K := (1, 6)) rfl xok_NoSuchElementException st_X8_328 dX8_requireFound_5 dX8_requireFound_8 dX8_requireFound_9 dX8_requireFound_12 dX8_requireFound_15 (by simp [rmK]) (by simp [rmK, Value.category] <;> omega) (Nat.le_refl _) (Nat.le_refl _) (MP.thr rfl rfl) (by decide) (by decide)
theorem c_reqD_ok (hx : ¬ M 0 11 = 0) : RET G ad d mX8_requireDenial [.ref (ad 0)] (M, o) none (M, o) := by
  refine CM_of rfl (by decide) rfl (Nat.le_of_ble_eq_true rfl) rfl ?_
  refine e_aload_n (pc' := 1) dX8_requireDenial_0 rfl rfl rfl ?_
  refine p_gfi (pc' := 4) (a := 0) (k := 11) (x := M 0 11) dX8_requireDenial_1 rfl (rfl) (by decide) (by decide) rfl fl_X8_280 (rfl) ?_
  refine e_if_ne (pc' := 7) (tgt := 18) dX8_requireDenial_4 rfl (by decide) (fun hz1 => ?_) (fun hz1 => absurd hz1 (hx))
  exact e_vret dX8_requireDenial_18 rfl (MP.ret rfl rfl) (by decide) (by decide)
theorem c_reqD_no (hx : M 0 11 = 0) : THR G ad d mX8_requireDenial [.ref (ad 0)] (M, o) "java/util/NoSuchElementException" (M, o) := by
  refine CM_of rfl (by decide) rfl (Nat.le_of_ble_eq_true rfl) rfl ?_
  refine e_aload_n (pc' := 1) dX8_requireDenial_0 rfl rfl rfl ?_
  refine p_gfi (pc' := 4) (a := 0) (k := 11) (x := M 0 11) dX8_requireDenial_1 rfl (rfl) (by decide) (by decide) rfl fl_X8_280 (rfl) ?_
  refine e_if_ne (pc' := 7) (tgt := 18) dX8_requireDenial_4 rfl (by decide) (fun hz1 => absurd hz1 (not_not_intro hx)) (fun hz1 => ?_)
  exact e_throwN (K := (1, 6)) rfl xok_NoSuchElementException st_X8_340 dX8_requireDenial_7 dX8_requireDenial_10 dX8_requireDenial_11 dX8_requireDenial_14 dX8_requireDenial_17 (by simp [rmK]) (by simp [rmK, Value.category] <;> omega) (Nat.le_refl _) (Nat.le_refl _) (MP.thr rfl rfl) (by decide) (by decide)
theorem c_causeOf {r : Nat} (hr : r < 100) : RET G ad d mX8_causeOf [.int (nI r)] (M, o) (some (.int (nI (if r < 6 then r else 7)))) (M, o) := by
  refine CM_of rfl (by decide) rfl (Nat.le_of_ble_eq_true rfl) rfl ?_
  refine e_iload_n (pc' := 1) dX8_causeOf_0 rfl rfl rfl ?_
  refine e_bipush (pc' := 3) (v := nI 6) dX8_causeOf_1 rfl (by decide) ?_
  refine e_icmp_geN (pc' := 6) (tgt := 10) dX8_causeOf_3 rfl (by decide) (by omega) (by omega) (fun h1 => ?_) (fun h1 => ?_)
  · refine e_bipush (pc' := 12) (v := nI 7) dX8_causeOf_10 rfl (by decide) ?_
    exact e_iret dX8_causeOf_12 rfl (MP.ret (congrArg (fun z => some (Value.int z)) (by first | rw [if_pos (by omega)] | rw [if_neg (by omega)])) rfl) (by decide) (by decide)
  · refine e_iload_n (pc' := 7) dX8_causeOf_6 rfl rfl rfl ?_
    refine e_goto (tgt := 12) dX8_causeOf_7 (by decide) ?_
    exact e_iret dX8_causeOf_12 rfl (MP.ret (congrArg (fun z => some (Value.int z)) (by first | rw [if_pos (by omega)] | rw [if_neg (by omega)])) rfl) (by decide) (by decide)
theorem c_keepD (a b e : Int32) : RET G ad d mX8_keepDenial [.ref (ad 0), .int (a), .int (b), .int (e)] (M, o) none ((up2 (up2 (up2 M 0 11 a) 0 12 b) 0 13 e), o) := by
  refine CM_of rfl (by decide) rfl (Nat.le_of_ble_eq_true rfl) rfl ?_
  refine e_aload_n (pc' := 1) dX8_keepDenial_0 rfl rfl rfl ?_
  refine e_iload_n (pc' := 2) dX8_keepDenial_1 rfl rfl rfl ?_
  refine p_pfi (pc' := 5) (a := 0) (k := 11) dX8_keepDenial_2 rfl (rfl) (by decide) (by decide) rfl fl_X8_280 rfl rfl ?_
  refine e_aload_n (pc' := 6) dX8_keepDenial_5 rfl rfl rfl ?_
  refine e_iload_n (pc' := 7) dX8_keepDenial_6 rfl rfl rfl ?_
  refine p_pfi (pc' := 10) (a := 0) (k := 12) dX8_keepDenial_7 rfl (rfl) (by decide) (by decide) rfl fl_X8_283 rfl rfl ?_
  refine e_aload_n (pc' := 11) dX8_keepDenial_10 rfl rfl rfl ?_
  refine e_iload_n (pc' := 12) dX8_keepDenial_11 rfl rfl rfl ?_
  refine p_pfi (pc' := 15) (a := 0) (k := 13) dX8_keepDenial_12 rfl (rfl) (by decide) (by decide) rfl fl_X8_286 rfl rfl ?_
  exact e_vret dX8_keepDenial_15 rfl (MP.ret rfl rfl) (by decide) (by decide)
theorem m_magnetCount (h : ColAt M 1 c) (hw : WF c) : RET G ad d mX8_magnetCount [.ref (ad 0)] (M, o) (some (.int (nI (cn c)))) (M, o) := by
  refine CM_of rfl (by decide) rfl (Nat.le_of_ble_eq_true rfl) rfl ?_
  have hn := hw.n
  have hk := hw.k
  have hw9 := hw.w9
  refine e_aload_n (pc' := 1) dX8_magnetCount_0 rfl rfl rfl ?_
  refine p_gfr (pc' := 4) (a := 0) (k := 0) (t := 1) dX8_magnetCount_1 rfl rfl (by decide) (by decide) rfl fl_X8_12 ?_
  refine p_gfi (pc' := 7) (a := 1) (k := 0) (x := nI (cn c)) dX8_magnetCount_4 rfl (rfl) (by decide) (by decide) rfl fl_X8_76 (h.n) ?_
  exact e_iret dX8_magnetCount_7 rfl (MP.ret rfl rfl) (by decide) (by decide)
theorem m_tunnelCount (h : ColAt M 1 c) (hw : WF c) : RET G ad d mX8_tunnelCount [.ref (ad 0)] (M, o) (some (.int (nI (ck c)))) (M, o) := by
  refine CM_of rfl (by decide) rfl (Nat.le_of_ble_eq_true rfl) rfl ?_
  have hn := hw.n
  have hk := hw.k
  have hw9 := hw.w9
  refine e_aload_n (pc' := 1) dX8_tunnelCount_0 rfl rfl rfl ?_
  refine p_gfr (pc' := 4) (a := 0) (k := 0) (t := 1) dX8_tunnelCount_1 rfl rfl (by decide) (by decide) rfl fl_X8_12 ?_
  refine p_gfi (pc' := 7) (a := 1) (k := 5) (x := nI (ck c)) dX8_tunnelCount_4 rfl (rfl) (by decide) (by decide) rfl fl_X8_107 (h.k) ?_
  exact e_iret dX8_tunnelCount_7 rfl (MP.ret rfl rfl) (by decide) (by decide)
theorem m_turnTotal (h : ColAt M 1 c) (hw : WF c) : RET G ad d mX8_turnTotal [.ref (ad 0)] (M, o) (some (.int (ctt c))) (M, o) := by
  refine CM_of rfl (by decide) rfl (Nat.le_of_ble_eq_true rfl) rfl ?_
  have hn := hw.n
  have hk := hw.k
  have hw9 := hw.w9
  refine e_aload_n (pc' := 1) dX8_turnTotal_0 rfl rfl rfl ?_
  refine p_gfr (pc' := 4) (a := 0) (k := 0) (t := 1) dX8_turnTotal_1 rfl rfl (by decide) (by decide) rfl fl_X8_12 ?_
  refine p_gfi (pc' := 7) (a := 1) (k := 8) (x := ctt c) dX8_turnTotal_4 rfl (rfl) (by decide) (by decide) rfl fl_X8_179 (h.tt) ?_
  exact e_iret dX8_turnTotal_7 rfl (MP.ret rfl rfl) (by decide) (by decide)
theorem m_moved (h : ColAt M 1 c) (hw : WF c) : RET G ad d mX8_moved [.ref (ad 0)] (M, o) (some (.int (cmm c))) (M, o) := by
  refine CM_of rfl (by decide) rfl (Nat.le_of_ble_eq_true rfl) rfl ?_
  have hn := hw.n
  have hk := hw.k
  have hw9 := hw.w9
  refine e_aload_n (pc' := 1) dX8_moved_0 rfl rfl rfl ?_
  refine p_gfr (pc' := 4) (a := 0) (k := 0) (t := 1) dX8_moved_1 rfl rfl (by decide) (by decide) rfl fl_X8_12 ?_
  refine p_gfi (pc' := 7) (a := 1) (k := 9) (x := cmm c) dX8_moved_4 rfl (rfl) (by decide) (by decide) rfl fl_X8_185 (h.mm) ?_
  exact e_iret dX8_moved_7 rfl (MP.ret rfl rfl) (by decide) (by decide)
theorem m_undoCount (hH : HsAt M hs nx sz) : RET G ad d mX8_undoCount [.ref (ad 0)] (M, o) (some (.int (nI sz))) (M, o) := by
  refine CM_of rfl (by decide) rfl (Nat.le_of_ble_eq_true rfl) rfl ?_
  refine e_aload_n (pc' := 1) dX8_undoCount_0 rfl rfl rfl ?_
  refine p_gfr (pc' := 4) (a := 0) (k := 4) (t := 14) dX8_undoCount_1 rfl rfl (by decide) (by decide) rfl fl_X8_44 ?_
  refine p_gfi (pc' := 7) (a := 14) (k := 2) (x := nI sz) dX8_undoCount_4 rfl (rfl) (by decide) (by decide) rfl fl_X8_294 (hH.2.1) ?_
  exact e_iret dX8_undoCount_7 rfl (MP.ret rfl rfl) (by decide) (by decide)
theorem m_position (h : ColAt M 1 c) (hw : WF c) {i : Nat} (hi : i < cn c) : RET G ad (d + 3) mX8_position [.ref (ad 0), .int (nI i)] (M, o) (some (.int (nI (cp c i)))) (M, o) := by
  refine CM_of rfl (by decide) rfl (Nat.le_of_ble_eq_true rfl) rfl ?_
  have hn := hw.n
  have hk := hw.k
  have hw9 := hw.w9
  refine e_aload_n (pc' := 1) dX8_position_0 rfl rfl rfl ?_
  refine e_iload_n (pc' := 2) dX8_position_1 rfl rfl rfl ?_
  refine r_V (pc' := 5) (m' := mX8_requireMagnet) (As := [.int (nI i)]) (st := []) (c_reqM_ok (d := d) h hw (i := i) (by omega)) dX8_position_2 rfl rfl (Nat.le_of_ble_eq_true rfl) (fit_of (by omega) (by decide) (by decide) (by decide)) ml_X8_79 okX8_requireMagnet rfl rfl (by decide) rfl ?_
  show EV _ _ _ _ _ 5 _ ([]) _
  refine e_aload_n (pc' := 6) dX8_position_5 rfl rfl rfl ?_
  refine p_gfr (pc' := 9) (a := 0) (k := 0) (t := 1) dX8_position_6 rfl rfl (by decide) (by decide) rfl fl_X8_12 ?_
  refine p_gfr (pc' := 12) (a := 1) (k := 1) (t := 2) dX8_position_9 rfl rfl (by decide) (by decide) rfl fl_X8_83 ?_
  refine e_iload_n (pc' := 13) dX8_position_12 rfl rfl rfl ?_
  have hi1 : i < cn c := by omega
  have hb1 := hw.p hi1
  refine p_iald (pc' := 14) (a := 2) (k := i) (x := nI (cp c i)) dX8_position_13 rfl (rfl) (rfl) (by omega) (by decide) (h.p hi1) ?_
  exact e_iret dX8_position_14 rfl (MP.ret rfl rfl) (by decide) (by decide)
theorem m_position_x (h : ColAt M 1 c) (hw : WF c) (x : Int32) (hx : hasM c x = false) : THR G ad (d + 3) mX8_position [.ref (ad 0), .int (x)] (M, o) "java/lang/IndexOutOfBoundsException" (M, o) := by
  refine CM_of rfl (by decide) rfl (Nat.le_of_ble_eq_true rfl) rfl ?_
  have hn := hw.n
  have hk := hw.k
  have hw9 := hw.w9
  refine e_aload_n (pc' := 1) dX8_position_0 rfl rfl rfl ?_
  refine e_iload_n (pc' := 2) dX8_position_1 rfl rfl rfl ?_
  exact t_V (m' := mX8_requireMagnet) (As := [.int (x)]) (st := []) (c_reqM_no (d := d) h hw (x) hx) dX8_position_2 rfl (Nat.le_of_ble_eq_true rfl) (fit_of (by omega) (by decide) (by decide) (by decide)) ml_X8_79 okX8_requireMagnet rfl rfl (by decide) rfl rfl (MP.thr rfl rfl) (by decide) (by decide)
theorem m_strength (h : ColAt M 1 c) (hw : WF c) {i : Nat} (hi : i < cn c) : RET G ad (d + 3) mX8_strength [.ref (ad 0), .int (nI i)] (M, o) (some (.int (nI (cs c i)))) (M, o) := by
  refine CM_of rfl (by decide) rfl (Nat.le_of_ble_eq_true rfl) rfl ?_
  have hn := hw.n
  have hk := hw.k
  have hw9 := hw.w9
  refine e_aload_n (pc' := 1) dX8_strength_0 rfl rfl rfl ?_
  refine e_iload_n (pc' := 2) dX8_strength_1 rfl rfl rfl ?_
  refine r_V (pc' := 5) (m' := mX8_requireMagnet) (As := [.int (nI i)]) (st := []) (c_reqM_ok (d := d) h hw (i := i) (by omega)) dX8_strength_2 rfl rfl (Nat.le_of_ble_eq_true rfl) (fit_of (by omega) (by decide) (by decide) (by decide)) ml_X8_79 okX8_requireMagnet rfl rfl (by decide) rfl ?_
  show EV _ _ _ _ _ 5 _ ([]) _
  refine e_aload_n (pc' := 6) dX8_strength_5 rfl rfl rfl ?_
  refine p_gfr (pc' := 9) (a := 0) (k := 0) (t := 1) dX8_strength_6 rfl rfl (by decide) (by decide) rfl fl_X8_12 ?_
  refine p_gfr (pc' := 12) (a := 1) (k := 2) (t := 3) dX8_strength_9 rfl rfl (by decide) (by decide) rfl fl_X8_87 ?_
  refine e_iload_n (pc' := 13) dX8_strength_12 rfl rfl rfl ?_
  have hi1 : i < cn c := by omega
  have hb1 := hw.s1 hi1
  have hc1 := hw.s2 hi1
  refine p_iald (pc' := 14) (a := 3) (k := i) (x := nI (cs c i)) dX8_strength_13 rfl (rfl) (rfl) (by omega) (by decide) (h.s hi1) ?_
  exact e_iret dX8_strength_14 rfl (MP.ret rfl rfl) (by decide) (by decide)
theorem m_strength_x (h : ColAt M 1 c) (hw : WF c) (x : Int32) (hx : hasM c x = false) : THR G ad (d + 3) mX8_strength [.ref (ad 0), .int (x)] (M, o) "java/lang/IndexOutOfBoundsException" (M, o) := by
  refine CM_of rfl (by decide) rfl (Nat.le_of_ble_eq_true rfl) rfl ?_
  have hn := hw.n
  have hk := hw.k
  have hw9 := hw.w9
  refine e_aload_n (pc' := 1) dX8_strength_0 rfl rfl rfl ?_
  refine e_iload_n (pc' := 2) dX8_strength_1 rfl rfl rfl ?_
  exact t_V (m' := mX8_requireMagnet) (As := [.int (x)]) (st := []) (c_reqM_no (d := d) h hw (x) hx) dX8_strength_2 rfl (Nat.le_of_ble_eq_true rfl) (fit_of (by omega) (by decide) (by decide) (by decide)) ml_X8_79 okX8_requireMagnet rfl rfl (by decide) rfl rfl (MP.thr rfl rfl) (by decide) (by decide)
theorem m_turnsOf (h : ColAt M 1 c) (hw : WF c) {i : Nat} (hi : i < cn c) : RET G ad (d + 3) mX8_turnsOf [.ref (ad 0), .int (nI i)] (M, o) (some (.int (ct c i))) (M, o) := by
  refine CM_of rfl (by decide) rfl (Nat.le_of_ble_eq_true rfl) rfl ?_
  have hn := hw.n
  have hk := hw.k
  have hw9 := hw.w9
  refine e_aload_n (pc' := 1) dX8_turnsOf_0 rfl rfl rfl ?_
  refine e_iload_n (pc' := 2) dX8_turnsOf_1 rfl rfl rfl ?_
  refine r_V (pc' := 5) (m' := mX8_requireMagnet) (As := [.int (nI i)]) (st := []) (c_reqM_ok (d := d) h hw (i := i) (by omega)) dX8_turnsOf_2 rfl rfl (Nat.le_of_ble_eq_true rfl) (fit_of (by omega) (by decide) (by decide) (by decide)) ml_X8_79 okX8_requireMagnet rfl rfl (by decide) rfl ?_
  show EV _ _ _ _ _ 5 _ ([]) _
  refine e_aload_n (pc' := 6) dX8_turnsOf_5 rfl rfl rfl ?_
  refine p_gfr (pc' := 9) (a := 0) (k := 0) (t := 1) dX8_turnsOf_6 rfl rfl (by decide) (by decide) rfl fl_X8_12 ?_
  refine p_gfr (pc' := 12) (a := 1) (k := 3) (t := 4) dX8_turnsOf_9 rfl rfl (by decide) (by decide) rfl fl_X8_182 ?_
  refine e_iload_n (pc' := 13) dX8_turnsOf_12 rfl rfl rfl ?_
  have hi1 : i < cn c := by omega
  refine p_iald (pc' := 14) (a := 4) (k := i) (x := ct c i) dX8_turnsOf_13 rfl (rfl) (rfl) (by omega) (by decide) (h.t hi1) ?_
  exact e_iret dX8_turnsOf_14 rfl (MP.ret rfl rfl) (by decide) (by decide)
theorem m_turnsOf_x (h : ColAt M 1 c) (hw : WF c) (x : Int32) (hx : hasM c x = false) : THR G ad (d + 3) mX8_turnsOf [.ref (ad 0), .int (x)] (M, o) "java/lang/IndexOutOfBoundsException" (M, o) := by
  refine CM_of rfl (by decide) rfl (Nat.le_of_ble_eq_true rfl) rfl ?_
  have hn := hw.n
  have hk := hw.k
  have hw9 := hw.w9
  refine e_aload_n (pc' := 1) dX8_turnsOf_0 rfl rfl rfl ?_
  refine e_iload_n (pc' := 2) dX8_turnsOf_1 rfl rfl rfl ?_
  exact t_V (m' := mX8_requireMagnet) (As := [.int (x)]) (st := []) (c_reqM_no (d := d) h hw (x) hx) dX8_turnsOf_2 rfl (Nat.le_of_ble_eq_true rfl) (fit_of (by omega) (by decide) (by decide) (by decide)) ml_X8_79 okX8_requireMagnet rfl rfl (by decide) rfl rfl (MP.thr rfl rfl) (by decide) (by decide)
theorem m_pole (h : ColAt M 1 c) (hw : WF c) {i : Nat} (hi : i < cn c) : RET G ad (d + 3) mX8_pole [.ref (ad 0), .int (nI i)] (M, o) (some (.int (nI (sgn c i)))) (M, o) := by
  refine CM_of rfl (by decide) rfl (Nat.le_of_ble_eq_true rfl) rfl ?_
  have hn := hw.n
  have hk := hw.k
  have hw9 := hw.w9
  refine e_aload_n (pc' := 1) dX8_pole_0 rfl rfl rfl ?_
  refine e_iload_n (pc' := 2) dX8_pole_1 rfl rfl rfl ?_
  refine r_V (pc' := 5) (m' := mX8_requireMagnet) (As := [.int (nI i)]) (st := []) (c_reqM_ok (d := d) h hw (i := i) (by omega)) dX8_pole_2 rfl rfl (Nat.le_of_ble_eq_true rfl) (fit_of (by omega) (by decide) (by decide) (by decide)) ml_X8_79 okX8_requireMagnet rfl rfl (by decide) rfl ?_
  show EV _ _ _ _ _ 5 _ ([]) _
  refine e_aload_n (pc' := 6) dX8_pole_5 rfl rfl rfl ?_
  refine p_gfr (pc' := 9) (a := 0) (k := 0) (t := 1) dX8_pole_6 rfl rfl (by decide) (by decide) rfl fl_X8_12 ?_
  refine e_iload_n (pc' := 10) dX8_pole_9 rfl rfl rfl ?_
  refine r_V (pc' := 13) (m' := mX1_poleSign) (As := [.int (nI i)]) (st := []) (c_poleSign (d := d) h hw (k := i) (by omega)) dX8_pole_10 rfl rfl (Nat.le_of_ble_eq_true rfl) (fit_of (by omega) (by decide) (by decide) (by decide)) ml_X8_90 okX1_poleSign rfl rfl (by decide) rfl ?_
  show EV _ _ _ _ _ 13 _ ([.int (nI (sgn c i))]) _
  exact e_zret (ty := .char) dX8_pole_13 rfl (by unfold sgn; split <;> rfl) (MP.ret rfl rfl) (by decide) (by decide)
theorem m_pole_x (h : ColAt M 1 c) (hw : WF c) (x : Int32) (hx : hasM c x = false) : THR G ad (d + 3) mX8_pole [.ref (ad 0), .int (x)] (M, o) "java/lang/IndexOutOfBoundsException" (M, o) := by
  refine CM_of rfl (by decide) rfl (Nat.le_of_ble_eq_true rfl) rfl ?_
  have hn := hw.n
  have hk := hw.k
  have hw9 := hw.w9
  refine e_aload_n (pc' := 1) dX8_pole_0 rfl rfl rfl ?_
  refine e_iload_n (pc' := 2) dX8_pole_1 rfl rfl rfl ?_
  exact t_V (m' := mX8_requireMagnet) (As := [.int (x)]) (st := []) (c_reqM_no (d := d) h hw (x) hx) dX8_pole_2 rfl (Nat.le_of_ble_eq_true rfl) (fit_of (by omega) (by decide) (by decide) (by decide)) ml_X8_79 okX8_requireMagnet rfl rfl (by decide) rfl rfl (MP.thr rfl rfl) (by decide) (by decide)
theorem m_force (h : ColAt M 1 c) (hw : WF c) {i : Nat} (hi : i < cn c) : RET G ad (d + 3) mX8_force [.ref (ad 0), .int (nI i)] (M, o) (some (.float (frc c i))) (M, o) := by
  refine CM_of rfl (by decide) rfl (Nat.le_of_ble_eq_true rfl) rfl ?_
  have hn := hw.n
  have hk := hw.k
  have hw9 := hw.w9
  refine e_aload_n (pc' := 1) dX8_force_0 rfl rfl rfl ?_
  refine e_iload_n (pc' := 2) dX8_force_1 rfl rfl rfl ?_
  refine r_V (pc' := 5) (m' := mX8_requireMagnet) (As := [.int (nI i)]) (st := []) (c_reqM_ok (d := d) h hw (i := i) (by omega)) dX8_force_2 rfl rfl (Nat.le_of_ble_eq_true rfl) (fit_of (by omega) (by decide) (by decide) (by decide)) ml_X8_79 okX8_requireMagnet rfl rfl (by decide) rfl ?_
  show EV _ _ _ _ _ 5 _ ([]) _
  refine e_aload_n (pc' := 6) dX8_force_5 rfl rfl rfl ?_
  refine p_gfr (pc' := 9) (a := 0) (k := 2) (t := 12) dX8_force_6 rfl rfl (by decide) (by decide) rfl fl_X8_28 ?_
  refine e_iload_n (pc' := 10) dX8_force_9 rfl rfl rfl ?_
  refine r_V (pc' := 13) (m' := mX3_forceOn) (As := [.int (nI i)]) (st := []) (c_force (d := d) h hw (m := i) (by omega)) dX8_force_10 rfl rfl (Nat.le_of_ble_eq_true rfl) (fit_of (by omega) (by decide) (by decide) (by decide)) ml_X8_153 okX3_forceOn rfl rfl (by decide) rfl ?_
  show EV _ _ _ _ _ 13 _ ([.float (frc c (i))]) _
  exact e_fret dX8_force_13 rfl (MP.ret rfl rfl) (by decide) (by decide)
theorem m_force_x (h : ColAt M 1 c) (hw : WF c) (x : Int32) (hx : hasM c x = false) : THR G ad (d + 3) mX8_force [.ref (ad 0), .int (x)] (M, o) "java/lang/IndexOutOfBoundsException" (M, o) := by
  refine CM_of rfl (by decide) rfl (Nat.le_of_ble_eq_true rfl) rfl ?_
  have hn := hw.n
  have hk := hw.k
  have hw9 := hw.w9
  refine e_aload_n (pc' := 1) dX8_force_0 rfl rfl rfl ?_
  refine e_iload_n (pc' := 2) dX8_force_1 rfl rfl rfl ?_
  exact t_V (m' := mX8_requireMagnet) (As := [.int (x)]) (st := []) (c_reqM_no (d := d) h hw (x) hx) dX8_force_2 rfl (Nat.le_of_ble_eq_true rfl) (fit_of (by omega) (by decide) (by decide) (by decide)) ml_X8_79 okX8_requireMagnet rfl rfl (by decide) rfl rfl (MP.thr rfl rfl) (by decide) (by decide)
theorem m_wholeForce (h : ColAt M 1 c) (hw : WF c) {i : Nat} (hi : i < cn c) : RET G ad (d + 3) mX8_wholeForce [.ref (ad 0), .int (nI i)] (M, o) (some (.int (FP.f2i (frc c i)))) (M, o) := by
  refine CM_of rfl (by decide) rfl (Nat.le_of_ble_eq_true rfl) rfl ?_
  have hn := hw.n
  have hk := hw.k
  have hw9 := hw.w9
  refine e_aload_n (pc' := 1) dX8_wholeForce_0 rfl rfl rfl ?_
  refine e_iload_n (pc' := 2) dX8_wholeForce_1 rfl rfl rfl ?_
  refine r_V (pc' := 5) (m' := mX8_requireMagnet) (As := [.int (nI i)]) (st := []) (c_reqM_ok (d := d) h hw (i := i) (by omega)) dX8_wholeForce_2 rfl rfl (Nat.le_of_ble_eq_true rfl) (fit_of (by omega) (by decide) (by decide) (by decide)) ml_X8_79 okX8_requireMagnet rfl rfl (by decide) rfl ?_
  show EV _ _ _ _ _ 5 _ ([]) _
  refine e_aload_n (pc' := 6) dX8_wholeForce_5 rfl rfl rfl ?_
  refine p_gfr (pc' := 9) (a := 0) (k := 2) (t := 12) dX8_wholeForce_6 rfl rfl (by decide) (by decide) rfl fl_X8_28 ?_
  refine e_iload_n (pc' := 10) dX8_wholeForce_9 rfl rfl rfl ?_
  refine r_V (pc' := 13) (m' := mX3_forceOn) (As := [.int (nI i)]) (st := []) (c_force (d := d) h hw (m := i) (by omega)) dX8_wholeForce_10 rfl rfl (Nat.le_of_ble_eq_true rfl) (fit_of (by omega) (by decide) (by decide) (by decide)) ml_X8_153 okX3_forceOn rfl rfl (by decide) rfl ?_
  show EV _ _ _ _ _ 13 _ ([.float (frc c (i))]) _
  refine e_f2i (pc' := 14) dX8_wholeForce_13 rfl ?_
  exact e_iret dX8_wholeForce_14 rfl (MP.ret rfl rfl) (by decide) (by decide)
theorem m_wholeForce_x (h : ColAt M 1 c) (hw : WF c) (x : Int32) (hx : hasM c x = false) : THR G ad (d + 3) mX8_wholeForce [.ref (ad 0), .int (x)] (M, o) "java/lang/IndexOutOfBoundsException" (M, o) := by
  refine CM_of rfl (by decide) rfl (Nat.le_of_ble_eq_true rfl) rfl ?_
  have hn := hw.n
  have hk := hw.k
  have hw9 := hw.w9
  refine e_aload_n (pc' := 1) dX8_wholeForce_0 rfl rfl rfl ?_
  refine e_iload_n (pc' := 2) dX8_wholeForce_1 rfl rfl rfl ?_
  exact t_V (m' := mX8_requireMagnet) (As := [.int (x)]) (st := []) (c_reqM_no (d := d) h hw (x) hx) dX8_wholeForce_2 rfl (Nat.le_of_ble_eq_true rfl) (fit_of (by omega) (by decide) (by decide) (by decide)) ml_X8_79 okX8_requireMagnet rfl rfl (by decide) rfl rfl (MP.thr rfl rfl) (by decide) (by decide)
theorem m_isOpen (h : ColAt M 1 c) (hw : WF c) {i : Nat} (hi : i < ck c) : RET G ad (d + 3) mX8_isOpen [.ref (ad 0), .int (nI i)] (M, o) (some (.int (bI (!blk c (cw c) i)))) (M, o) := by
  refine CM_of rfl (by decide) rfl (Nat.le_of_ble_eq_true rfl) rfl ?_
  have hn := hw.n
  have hk := hw.k
  have hw9 := hw.w9
  refine e_aload_n (pc' := 1) dX8_isOpen_0 rfl rfl rfl ?_
  refine e_iload_n (pc' := 2) dX8_isOpen_1 rfl rfl rfl ?_
  refine r_V (pc' := 5) (m' := mX8_requireTunnel) (As := [.int (nI i)]) (st := []) (c_reqT_ok (d := d) h hw (i := i) (by omega)) dX8_isOpen_2 rfl rfl (Nat.le_of_ble_eq_true rfl) (fit_of (by omega) (by decide) (by decide) (by decide)) ml_X8_110 okX8_requireTunnel rfl rfl (by decide) rfl ?_
  show EV _ _ _ _ _ 5 _ ([]) _
  refine e_aload_n (pc' := 6) dX8_isOpen_5 rfl rfl rfl ?_
  refine p_gfr (pc' := 9) (a := 0) (k := 0) (t := 1) dX8_isOpen_6 rfl rfl (by decide) (by decide) rfl fl_X8_12 ?_
  refine e_iload_n (pc' := 10) dX8_isOpen_9 rfl rfl rfl ?_
  refine r_V (pc' := 13) (m' := mX1_hasUnlikePoles) (As := [.int (nI i)]) (st := []) (c_hasUnlikePoles (d := d) h hw (j := i) (by omega)) dX8_isOpen_10 rfl rfl (Nat.le_of_ble_eq_true rfl) (fit_of (by omega) (by decide) (by decide) (by decide)) ml_X8_113 okX1_hasUnlikePoles rfl rfl (by decide) rfl ?_
  show EV _ _ _ _ _ 13 _ ([.int (bI (!blk c (cw c) i))]) _
  exact e_zret (ty := .boolean) dX8_isOpen_13 rfl (by cases !blk c (cw c) i <;> rfl) (MP.ret rfl rfl) (by decide) (by decide)
theorem m_isOpen_x (h : ColAt M 1 c) (hw : WF c) (x : Int32) (hx : hasT c x = false) : THR G ad (d + 3) mX8_isOpen [.ref (ad 0), .int (x)] (M, o) "java/lang/IndexOutOfBoundsException" (M, o) := by
  refine CM_of rfl (by decide) rfl (Nat.le_of_ble_eq_true rfl) rfl ?_
  have hn := hw.n
  have hk := hw.k
  have hw9 := hw.w9
  refine e_aload_n (pc' := 1) dX8_isOpen_0 rfl rfl rfl ?_
  refine e_iload_n (pc' := 2) dX8_isOpen_1 rfl rfl rfl ?_
  exact t_V (m' := mX8_requireTunnel) (As := [.int (x)]) (st := []) (c_reqT_no (d := d) h hw (x) hx) dX8_isOpen_2 rfl (Nat.le_of_ble_eq_true rfl) (fit_of (by omega) (by decide) (by decide) (by decide)) ml_X8_110 okX8_requireTunnel rfl rfl (by decide) rfl rfl (MP.thr rfl rfl) (by decide) (by decide)
theorem m_magnetAt (h : ColAt M 1 c) (hw : WF c) {i : Nat} (hi : i < 100) (hf : ¬ oI (mOn c (nI i)) = -1) : RET G ad (d + 3) mX8_magnetAt [.ref (ad 0), .int (nI i)] (M, o) (some (.int (oI (mOn c (nI i))))) (M, o) := by
  refine CM_of rfl (by decide) rfl (Nat.le_of_ble_eq_true rfl) rfl ?_
  have hn := hw.n
  have hk := hw.k
  have hw9 := hw.w9
  refine e_iload_n (pc' := 1) dX8_magnetAt_0 rfl rfl rfl ?_
  refine r_S (pc' := 4) (m' := mX8_requirePosition) (As := [.int (nI i)]) (st := []) (c_reqP_ok (d := d) (i := i) (by omega)) dX8_magnetAt_1 rfl rfl (Nat.le_of_ble_eq_true rfl) (fit_of (by omega) (by decide) (by decide) (by decide)) ml_X8_94 okX8_requirePosition rfl rfl ?_
  show EV _ _ _ _ _ 4 _ ([]) _
  refine e_aload_n (pc' := 5) dX8_magnetAt_4 rfl rfl rfl ?_
  refine p_gfr (pc' := 8) (a := 0) (k := 0) (t := 1) dX8_magnetAt_5 rfl rfl (by decide) (by decide) rfl fl_X8_12 ?_
  refine e_iload_n (pc' := 9) dX8_magnetAt_8 rfl rfl rfl ?_
  refine r_V (pc' := 12) (m' := mX1_magnetOn) (As := [.int (nI i)]) (st := []) (c_magnetOn (d := d) h hw (nI i)) dX8_magnetAt_9 rfl rfl (Nat.le_of_ble_eq_true rfl) (fit_of (by omega) (by decide) (by decide) (by decide)) ml_X8_97 okX1_magnetOn rfl rfl (by decide) rfl ?_
  show EV _ _ _ _ _ 12 _ ([.int (oI (mOn c (nI i)))]) _
  refine r_S (pc' := 15) (m' := mX8_requireFound) (As := [.int (oI (mOn c (nI i)))]) (st := []) (c_reqF_ok (d := d) (oI (mOn c (nI i))) hf) dX8_magnetAt_12 rfl rfl (Nat.le_of_ble_eq_true rfl) (fit_of (by omega) (by decide) (by decide) (by decide)) ml_X8_101 okX8_requireFound rfl rfl ?_
  show EV _ _ _ _ _ 15 _ ([.int (oI (mOn c (nI i)))]) _
  exact e_iret dX8_magnetAt_15 rfl (MP.ret rfl rfl) (by decide) (by decide)
theorem m_magnetAt_x (h : ColAt M 1 c) (hw : WF c) (x : Int32) (hx : isP x = false) : THR G ad (d + 3) mX8_magnetAt [.ref (ad 0), .int (x)] (M, o) "java/lang/IllegalArgumentException" (M, o) := by
  refine CM_of rfl (by decide) rfl (Nat.le_of_ble_eq_true rfl) rfl ?_
  have hn := hw.n
  have hk := hw.k
  have hw9 := hw.w9
  refine e_iload_n (pc' := 1) dX8_magnetAt_0 rfl rfl rfl ?_
  exact t_S (m' := mX8_requirePosition) (As := [.int (x)]) (st := []) (c_reqP_no (d := d) (x) hx) dX8_magnetAt_1 rfl (Nat.le_of_ble_eq_true rfl) (fit_of (by omega) (by decide) (by decide) (by decide)) ml_X8_94 okX8_requirePosition rfl rfl rfl (MP.thr rfl rfl) (by decide) (by decide)
theorem m_magnetByStrength (h : ColAt M 1 c) (hw : WF c) (x : Int32) (hf : ¬ oI (mRank c x) = -1) : RET G ad (d + 3) mX8_magnetByStrength [.ref (ad 0), .int (x)] (M, o) (some (.int (oI (mRank c x)))) (M, o) := by
  refine CM_of rfl (by decide) rfl (Nat.le_of_ble_eq_true rfl) rfl ?_
  have hn := hw.n
  have hk := hw.k
  have hw9 := hw.w9
  refine e_aload_n (pc' := 1) dX8_magnetByStrength_0 rfl rfl rfl ?_
  refine p_gfr (pc' := 4) (a := 0) (k := 0) (t := 1) dX8_magnetByStrength_1 rfl rfl (by decide) (by decide) rfl fl_X8_12 ?_
  refine e_iload_n (pc' := 5) dX8_magnetByStrength_4 rfl rfl rfl ?_
  refine r_V (pc' := 8) (m' := mX1_magnetOfRank) (As := [.int (x)]) (st := []) (c_magnetOfRank (d := d) h hw (x)) dX8_magnetByStrength_5 rfl rfl (Nat.le_of_ble_eq_true rfl) (fit_of (by omega) (by decide) (by decide) (by decide)) ml_X8_104 okX1_magnetOfRank rfl rfl (by decide) rfl ?_
  show EV _ _ _ _ _ 8 _ ([.int (oI (mRank c (x)))]) _
  refine r_S (pc' := 11) (m' := mX8_requireFound) (As := [.int (oI (mRank c (x)))]) (st := []) (c_reqF_ok (d := d) (oI (mRank c (x))) hf) dX8_magnetByStrength_8 rfl rfl (Nat.le_of_ble_eq_true rfl) (fit_of (by omega) (by decide) (by decide) (by decide)) ml_X8_101 okX8_requireFound rfl rfl ?_
  show EV _ _ _ _ _ 11 _ ([.int (oI (mRank c (x)))]) _
  exact e_iret dX8_magnetByStrength_11 rfl (MP.ret rfl rfl) (by decide) (by decide)
theorem m_blocked (h : ColAt M 1 c) (hw : WF c) : RET G ad (d + 3) mX8_blocked [.ref (ad 0)] (M, o) (some (.int (nI (blkN c (cw c))))) (M, o) := by
  refine CM_of rfl (by decide) rfl (Nat.le_of_ble_eq_true rfl) rfl ?_
  have hn := hw.n
  have hk := hw.k
  have hw9 := hw.w9
  refine e_aload_n (pc' := 1) dX8_blocked_0 rfl rfl rfl ?_
  refine p_gfr (pc' := 4) (a := 0) (k := 0) (t := 1) dX8_blocked_1 rfl rfl (by decide) (by decide) rfl fl_X8_12 ?_
  refine r_V (pc' := 7) (m' := mX1_countBlocked) (As := []) (st := []) (c_countBlocked (d := d) h hw) dX8_blocked_4 rfl rfl (Nat.le_of_ble_eq_true rfl) (fit_of (by omega) (by decide) (by decide) (by decide)) ml_X8_117 okX1_countBlocked rfl rfl (by decide) rfl ?_
  show EV _ _ _ _ _ 7 _ ([.int (nI (blkN c (cw c)))]) _
  exact e_iret dX8_blocked_7 rfl (MP.ret rfl rfl) (by decide) (by decide)
theorem m_field (h : ColAt M 1 c) (hw : WF c) {i : Nat} (hi : i < 100) : RET G ad (d + 3) mX8_field [.ref (ad 0), .int (nI i)] (M, o) (some (.double (fld c i))) (M, o) := by
  refine CM_of rfl (by decide) rfl (Nat.le_of_ble_eq_true rfl) rfl ?_
  have hn := hw.n
  have hk := hw.k
  have hw9 := hw.w9
  refine e_iload_n (pc' := 1) dX8_field_0 rfl rfl rfl ?_
  refine r_S (pc' := 4) (m' := mX8_requirePosition) (As := [.int (nI i)]) (st := []) (c_reqP_ok (d := d) (i := i) (by omega)) dX8_field_1 rfl rfl (Nat.le_of_ble_eq_true rfl) (fit_of (by omega) (by decide) (by decide) (by decide)) ml_X8_94 okX8_requirePosition rfl rfl ?_
  show EV _ _ _ _ _ 4 _ ([]) _
  refine e_aload_n (pc' := 5) dX8_field_4 rfl rfl rfl ?_
  refine p_gfr (pc' := 8) (a := 0) (k := 2) (t := 12) dX8_field_5 rfl rfl (by decide) (by decide) rfl fl_X8_28 ?_
  refine e_iload_n (pc' := 9) dX8_field_8 rfl rfl rfl ?_
  refine r_V (pc' := 12) (m' := mX3_fieldAt) (As := [.int (nI i)]) (st := []) (c_field (d := d) h hw (p := i) (by omega)) dX8_field_9 rfl rfl (Nat.le_of_ble_eq_true rfl) (fit_of (by omega) (by decide) (by decide) (by decide)) ml_X8_157 okX3_fieldAt rfl rfl (by decide) rfl ?_
  show EV _ _ _ _ _ 12 _ ([.double (fld c (i))]) _
  exact e_dret dX8_field_12 rfl (MP.ret rfl rfl) (by decide) (by decide)
theorem m_field_x (h : ColAt M 1 c) (hw : WF c) (x : Int32) (hx : isP x = false) : THR G ad (d + 3) mX8_field [.ref (ad 0), .int (x)] (M, o) "java/lang/IllegalArgumentException" (M, o) := by
  refine CM_of rfl (by decide) rfl (Nat.le_of_ble_eq_true rfl) rfl ?_
  have hn := hw.n
  have hk := hw.k
  have hw9 := hw.w9
  refine e_iload_n (pc' := 1) dX8_field_0 rfl rfl rfl ?_
  exact t_S (m' := mX8_requirePosition) (As := [.int (x)]) (st := []) (c_reqP_no (d := d) (x) hx) dX8_field_1 rfl (Nat.le_of_ble_eq_true rfl) (fit_of (by omega) (by decide) (by decide) (by decide)) ml_X8_94 okX8_requirePosition rfl rfl rfl (MP.thr rfl rfl) (by decide) (by decide)
theorem m_strongest (h : ColAt M 1 c) (hw : WF c) (hf : ¬ oI (psF c) = -1) : RET G ad (d + 4) mX8_strongestPosition [.ref (ad 0)] (M, o) (some (.int (oI (psF c)))) (M, o) := by
  refine CM_of rfl (by decide) rfl (Nat.le_of_ble_eq_true rfl) rfl ?_
  have hn := hw.n
  have hk := hw.k
  have hw9 := hw.w9
  refine e_aload_n (pc' := 1) dX8_strongestPosition_0 rfl rfl rfl ?_
  refine p_gfr (pc' := 4) (a := 0) (k := 2) (t := 12) dX8_strongestPosition_1 rfl rfl (by decide) (by decide) rfl fl_X8_28 ?_
  refine r_V (pc' := 7) (m' := mX3_positionOfStrongestField) (As := []) (st := []) (c_psf (d := d) h hw) dX8_strongestPosition_4 rfl rfl (Nat.le_of_ble_eq_true rfl) (fit_of (by omega) (by decide) (by decide) (by decide)) ml_X8_161 okX3_positionOfStrongestField rfl rfl (by decide) rfl ?_
  show EV _ _ _ _ _ 7 _ ([.int (oI (psF c))]) _
  refine r_S (pc' := 10) (m' := mX8_requireFound) (As := [.int (oI (psF c))]) (st := []) (c_reqF_ok (d := d) (oI (psF c)) hf) dX8_strongestPosition_7 rfl rfl (Nat.le_of_ble_eq_true rfl) (fit_of (by omega) (by decide) (by decide) (by decide)) ml_X8_101 okX8_requireFound rfl rfl ?_
  show EV _ _ _ _ _ 10 _ ([.int (oI (psF c))]) _
  exact e_iret dX8_strongestPosition_10 rfl (MP.ret rfl rfl) (by decide) (by decide)
theorem m_queen (h : ColAt M 1 c) (hw : WF c) (hf : ¬ oI (mif c (cn c)) = -1) : RET G ad (d + 4) mX8_queen [.ref (ad 0)] (M, o) (some (.int (oI (mif c (cn c))))) (M, o) := by
  refine CM_of rfl (by decide) rfl (Nat.le_of_ble_eq_true rfl) rfl ?_
  have hn := hw.n
  have hk := hw.k
  have hw9 := hw.w9
  refine e_aload_n (pc' := 1) dX8_queen_0 rfl rfl rfl ?_
  refine p_gfr (pc' := 4) (a := 0) (k := 2) (t := 12) dX8_queen_1 rfl rfl (by decide) (by decide) rfl fl_X8_28 ?_
  refine r_V (pc' := 7) (m' := mX3_magnetInStrongestField) (As := []) (st := []) (c_mif (d := d) h hw) dX8_queen_4 rfl rfl (Nat.le_of_ble_eq_true rfl) (fit_of (by omega) (by decide) (by decide) (by decide)) ml_X8_164 okX3_magnetInStrongestField rfl rfl (by decide) rfl ?_
  show EV _ _ _ _ _ 7 _ ([.int (oI (mif c (cn c)))]) _
  refine r_S (pc' := 10) (m' := mX8_requireFound) (As := [.int (oI (mif c (cn c)))]) (st := []) (c_reqF_ok (d := d) (oI (mif c (cn c))) hf) dX8_queen_7 rfl rfl (Nat.le_of_ble_eq_true rfl) (fit_of (by omega) (by decide) (by decide) (by decide)) ml_X8_101 okX8_requireFound rfl rfl ?_
  show EV _ _ _ _ _ 10 _ ([.int (oI (mif c (cn c)))]) _
  exact e_iret dX8_queen_10 rfl (MP.ret rfl rfl) (by decide) (by decide)
theorem m_fewestSets (h : ColAt M 1 c) (hw : WF c) (hf : ¬ oI (sstF c (2 ^ cn c)) = -1) : RET G ad (d + 4) mX8_fewestTurnsBySets [.ref (ad 0)] (M, o) (some (.int (oI (sstF c (2 ^ cn c))))) (M, o) := by
  refine CM_of rfl (by decide) rfl (Nat.le_of_ble_eq_true rfl) rfl ?_
  have hn := hw.n
  have hk := hw.k
  have hw9 := hw.w9
  refine e_aload_n (pc' := 1) dX8_fewestTurnsBySets_0 rfl rfl rfl ?_
  refine p_gfr (pc' := 4) (a := 0) (k := 1) (t := 7) dX8_fewestTurnsBySets_1 rfl rfl (by decide) (by decide) rfl fl_X8_21 ?_
  refine r_V (pc' := 7) (m' := mX6_smallestSettlingSet) (As := []) (st := []) (c_sst (d := d) h hw) dX8_fewestTurnsBySets_4 rfl rfl (Nat.le_of_ble_eq_true rfl) (fit_of (by omega) (by decide) (by decide) (by decide)) ml_X8_144 okX6_smallestSettlingSet rfl rfl (by decide) rfl ?_
  show EV _ _ _ _ _ 7 _ ([.int (oI (sstF c (2 ^ cn c)))]) _
  refine r_S (pc' := 10) (m' := mX8_requireFound) (As := [.int (oI (sstF c (2 ^ cn c)))]) (st := []) (c_reqF_ok (d := d) (oI (sstF c (2 ^ cn c))) hf) dX8_fewestTurnsBySets_7 rfl rfl (Nat.le_of_ble_eq_true rfl) (fit_of (by omega) (by decide) (by decide) (by decide)) ml_X8_101 okX8_requireFound rfl rfl ?_
  show EV _ _ _ _ _ 10 _ ([.int (oI (sstF c (2 ^ cn c)))]) _
  exact e_iret dX8_fewestTurnsBySets_10 rfl (MP.ret rfl rfl) (by decide) (by decide)
theorem m_leastBlocked (h : ColAt M 1 c) (hw : WF c) : RET G ad (d + 4) mX8_leastBlocked [.ref (ad 0)] (M, o) (some (.int (nI (lobF c (2 ^ cn c))))) (M, o) := by
  refine CM_of rfl (by decide) rfl (Nat.le_of_ble_eq_true rfl) rfl ?_
  have hn := hw.n
  have hk := hw.k
  have hw9 := hw.w9
  refine e_aload_n (pc' := 1) dX8_leastBlocked_0 rfl rfl rfl ?_
  refine p_gfr (pc' := 4) (a := 0) (k := 1) (t := 7) dX8_leastBlocked_1 rfl rfl (by decide) (by decide) rfl fl_X8_21 ?_
  refine r_V (pc' := 7) (m' := mX6_leastBlockedOfSets) (As := []) (st := []) (c_lob (d := d) h hw) dX8_leastBlocked_4 rfl rfl (Nat.le_of_ble_eq_true rfl) (fit_of (by omega) (by decide) (by decide) (by decide)) ml_X8_147 okX6_leastBlockedOfSets rfl rfl (by decide) rfl ?_
  show EV _ _ _ _ _ 7 _ ([.int (nI (lobF c (2 ^ cn c)))]) _
  exact e_iret dX8_leastBlocked_7 rfl (MP.ret rfl rfl) (by decide) (by decide)
theorem m_leastBounds (h : ColAt M 1 c) (hw : WF c) : RET G ad (d + 14) mX8_leastBlockedByBounds [.ref (ad 0)] (M, o) (some (.int (nI (bndF c 10 0 0 0 (blkN c (cw c)))))) (M, o) := by
  refine CM_of rfl (by decide) rfl (Nat.le_of_ble_eq_true rfl) rfl ?_
  have hn := hw.n
  have hk := hw.k
  have hw9 := hw.w9
  refine e_aload_n (pc' := 1) dX8_leastBlockedByBounds_0 rfl rfl rfl ?_
  refine p_gfr (pc' := 4) (a := 0) (k := 1) (t := 7) dX8_leastBlockedByBounds_1 rfl rfl (by decide) (by decide) rfl fl_X8_21 ?_
  refine r_V (pc' := 7) (m' := mX6_leastBlockedWithinBounds) (As := []) (st := []) (c_lwb (d := d) h hw) dX8_leastBlockedByBounds_4 rfl rfl (Nat.le_of_ble_eq_true rfl) (fit_of (by omega) (by decide) (by decide) (by decide)) ml_X8_150 okX6_leastBlockedWithinBounds rfl rfl (by decide) rfl ?_
  show EV _ _ _ _ _ 7 _ ([.int (nI (bndF c 10 0 0 0 (blkN c (cw c))))]) _
  exact e_iret dX8_leastBlockedByBounds_7 rfl (MP.ret rfl rfl) (by decide) (by decide)
theorem m_fewest (h : ColAt M 1 c) (hw : WF c) (hf : ¬ oI ((bestF c).map pop) = -1) : RETI G ad (d + 4) mX8_fewestTurns [.ref (ad 0)] (M, o) (some (.int (oI ((bestF c).map pop)))) (fun M' => KP (inR 7 11) M M') := by
  refine CM_of rfl (by decide) rfl (Nat.le_of_ble_eq_true rfl) rfl ?_
  have hn := hw.n
  have hk := hw.k
  have hw9 := hw.w9
  refine e_aload_n (pc' := 1) dX8_fewestTurns_0 rfl rfl rfl ?_
  refine p_gfr (pc' := 4) (a := 0) (k := 1) (t := 7) dX8_fewestTurns_1 rfl rfl (by decide) (by decide) rfl fl_X8_21 ?_
  refine r_VI (pc' := 7) (m' := mX6_bestTurnSetSize) (As := []) (st := []) (c_bestSize (d := d) h hw) dX8_fewestTurns_4 rfl rfl (Nat.le_of_ble_eq_true rfl) (fit_of (by omega) (by decide) (by decide) (by decide)) ml_X8_141 okX6_bestTurnSetSize rfl rfl (by decide) rfl (fun M9 hK9 => ?_)
  show EV _ _ _ _ _ 7 _ ([.int (oI ((bestF c).map pop))]) _
  refine r_S (pc' := 10) (m' := mX8_requireFound) (As := [.int (oI ((bestF c).map pop))]) (st := []) (c_reqF_ok (d := d) (oI ((bestF c).map pop)) hf) dX8_fewestTurns_7 rfl rfl (Nat.le_of_ble_eq_true rfl) (fit_of (by omega) (by decide) (by decide) (by decide)) ml_X8_101 okX8_requireFound rfl rfl ?_
  show EV _ _ _ _ _ 10 _ ([.int (oI ((bestF c).map pop))]) _
  exact e_iret dX8_fewestTurns_10 rfl (MP.retI rfl hK9) (by decide) (by decide)
theorem m_parts (h : ColAt M 1 c) (hw : WF c) : RETI G ad (d + 4) mX8_parts [.ref (ad 0)] (M, o) (some (.int (ptsI c (-1)))) (fun M' => KP (inR 7 11) M M') := by
  refine CM_of rfl (by decide) rfl (Nat.le_of_ble_eq_true rfl) rfl ?_
  have hn := hw.n
  have hk := hw.k
  have hw9 := hw.w9
  refine e_aload_n (pc' := 1) dX8_parts_0 rfl rfl rfl ?_
  refine p_gfr (pc' := 4) (a := 0) (k := 1) (t := 7) dX8_parts_1 rfl rfl (by decide) (by decide) rfl fl_X8_21 ?_
  refine e_iconst (pc' := 5) (v := (-1)) dX8_parts_4 rfl (by decide) ?_
  refine r_VI (pc' := 8) (m' := mX6_countParts) (As := [.int ((-1))]) (st := []) (c_countParts (d := d) h hw ((-1))) dX8_parts_5 rfl rfl (Nat.le_of_ble_eq_true rfl) (fit_of (by omega) (by decide) (by decide) (by decide)) ml_X8_121 okX6_countParts rfl rfl (by decide) rfl (fun MU1 hV1 => ?_)
  show EV _ _ _ _ _ 8 _ ([.int (ptsI c ((-1)))]) _
  exact e_iret dX8_parts_8 rfl (MP.retI rfl hV1) (by decide) (by decide)
theorem m_bridges (h : ColAt M 1 c) (hw : WF c) : RETI G ad (d + 14) mX8_bridges [.ref (ad 0)] (M, o) (some (.int ((brs c (fun k => M 11 k) (cn c)).2.2.2))) (fun M' => KP (inR 7 11) M M') := by
  refine CM_of rfl (by decide) rfl (Nat.le_of_ble_eq_true rfl) rfl ?_
  have hn := hw.n
  have hk := hw.k
  have hw9 := hw.w9
  refine e_aload_n (pc' := 1) dX8_bridges_0 rfl rfl rfl ?_
  refine p_gfr (pc' := 4) (a := 0) (k := 1) (t := 7) dX8_bridges_1 rfl rfl (by decide) (by decide) rfl fl_X8_21 ?_
  refine r_VI (pc' := 7) (m' := mX6_countBridges) (As := []) (st := []) (c_cb (d := d) h hw) dX8_bridges_4 rfl rfl (Nat.le_of_ble_eq_true rfl) (fit_of (by omega) (by decide) (by decide) (by decide)) ml_X8_128 okX6_countBridges rfl rfl (by decide) rfl (fun M9 hK9 => ?_)
  show EV _ _ _ _ _ 7 _ ([.int ((brs c (fun k => M 11 k) (cn c)).2.2.2)]) _
  exact e_iret dX8_bridges_7 rfl (MP.retI rfl hK9) (by decide) (by decide)
theorem m_bridgesF (h : ColAt M 1 c) (hw : WF c) : RETI G ad (d + 4) mX8_bridgesByFilling [.ref (ad 0)] (M, o) (some (.int (nI (cnt (cbfP c) (ck c))))) (fun M' => KP (inR 7 11) M M') := by
  refine CM_of rfl (by decide) rfl (Nat.le_of_ble_eq_true rfl) rfl ?_
  have hn := hw.n
  have hk := hw.k
  have hw9 := hw.w9
  refine e_aload_n (pc' := 1) dX8_bridgesByFilling_0 rfl rfl rfl ?_
  refine p_gfr (pc' := 4) (a := 0) (k := 1) (t := 7) dX8_bridgesByFilling_1 rfl rfl (by decide) (by decide) rfl fl_X8_21 ?_
  refine r_VI (pc' := 7) (m' := mX6_countBridgesByFilling) (As := []) (st := []) (c_cbf (d := d) h hw) dX8_bridgesByFilling_4 rfl rfl (Nat.le_of_ble_eq_true rfl) (fit_of (by omega) (by decide) (by decide) (by decide)) ml_X8_131 okX6_countBridgesByFilling rfl rfl (by decide) rfl (fun M9 hK9 => ?_)
  show EV _ _ _ _ _ 7 _ ([.int (nI (cnt (cbfP c) (ck c)))]) _
  exact e_iret dX8_bridgesByFilling_7 rfl (MP.retI rfl hK9) (by decide) (by decide)
theorem m_canSettle (h : ColAt M 1 c) (hw : WF c) : RETI G ad (d + 4) mX8_canSettle [.ref (ad 0)] (M, o) (some (.int (bI ((bestF c).isSome)))) (fun M' => KP (inR 7 11) M M') := by
  refine CM_of rfl (by decide) rfl (Nat.le_of_ble_eq_true rfl) rfl ?_
  have hn := hw.n
  have hk := hw.k
  have hw9 := hw.w9
  refine e_aload_n (pc' := 1) dX8_canSettle_0 rfl rfl rfl ?_
  refine p_gfr (pc' := 4) (a := 0) (k := 1) (t := 7) dX8_canSettle_1 rfl rfl (by decide) (by decide) rfl fl_X8_21 ?_
  refine r_VI (pc' := 7) (m' := mX6_bestTurnSet) (As := []) (st := []) (c_best (d := d) h hw) dX8_canSettle_4 rfl rfl (Nat.le_of_ble_eq_true rfl) (fit_of (by omega) (by decide) (by decide) (by decide)) ml_X8_134 okX6_bestTurnSet rfl rfl (by decide) rfl (fun M9 hK9 => ?_)
  show EV _ _ _ _ _ 7 _ ([.int (oI (bestF c))]) _
  refine e_iconst (pc' := 8) (v := (-1)) dX8_canSettle_7 rfl (by decide) ?_
  refine e_icmp_eq (pc' := 11) (tgt := 15) dX8_canSettle_8 rfl (by decide) (fun h1 => ?_) (fun h1 => ?_)
  · refine e_iconst (pc' := 16) (v := nI 0) dX8_canSettle_15 rfl (by decide) ?_
    exact e_zret (ty := .boolean) dX8_canSettle_16 rfl (rfl) (MP.retI (congrArg (fun z => some (Value.int z)) (by first | exact bI0 (by rw [(best_o hw).mp h1]; rfl) | exact bI1 (by cases q : bestF c with | none => exact absurd ((best_o hw).mpr q) h1 | some x => rfl))) hK9) (by decide) (by decide)
  · refine e_iconst (pc' := 12) (v := nI 1) dX8_canSettle_11 rfl (by decide) ?_
    refine e_goto (tgt := 16) dX8_canSettle_12 (by decide) ?_
    exact e_zret (ty := .boolean) dX8_canSettle_16 rfl (rfl) (MP.retI (congrArg (fun z => some (Value.int z)) (by first | exact bI0 (by rw [(best_o hw).mp h1]; rfl) | exact bI1 (by cases q : bestF c with | none => exact absurd ((best_o hw).mpr q) h1 | some x => rfl))) hK9) (by decide) (by decide)
theorem m_canUnions (h : ColAt M 1 c) (hw : WF c) : RETI G ad (d + 4) mX8_canSettleByUnions [.ref (ad 0)] (M, o) (some (.int (bI (sep2 c)))) (fun M' => KP (inR 7 11) M M') := by
  refine CM_of rfl (by decide) rfl (Nat.le_of_ble_eq_true rfl) rfl ?_
  have hn := hw.n
  have hk := hw.k
  have hw9 := hw.w9
  refine e_aload_n (pc' := 1) dX8_canSettleByUnions_0 rfl rfl rfl ?_
  refine p_gfr (pc' := 4) (a := 0) (k := 1) (t := 7) dX8_canSettleByUnions_1 rfl rfl (by decide) (by decide) rfl fl_X8_21 ?_
  refine r_VI (pc' := 7) (m' := mX6_canUniteCounterparts) (As := []) (st := []) (c_canUnite (d := d) h hw) dX8_canSettleByUnions_4 rfl rfl (Nat.le_of_ble_eq_true rfl) (fit_of (by omega) (by decide) (by decide) (by decide)) ml_X8_137 okX6_canUniteCounterparts rfl rfl (by decide) rfl (fun M9 hK9 => ?_)
  show EV _ _ _ _ _ 7 _ ([.int (bI (sep2 c))]) _
  exact e_zret (ty := .boolean) dX8_canSettleByUnions_7 rfl (by cases sep2 c <;> rfl) (MP.retI rfl hK9) (by decide) (by decide)
theorem m_walk (h : ColAt M 1 c) (hw : WF c) {a b : Nat} (ha : a < cn c) (hb : b < cn c) (hf : ¬ oI (wal c a (cn c) b) = -1) : RETI G ad (d + 4) mX8_walk [.ref (ad 0), .int (nI a), .int (nI b)] (M, o) (some (.int (oI (wal c a (cn c) b)))) (fun M' => KP (inR 7 11) M M') := by
  refine CM_of rfl (by decide) rfl (Nat.le_of_ble_eq_true rfl) rfl ?_
  have hn := hw.n
  have hk := hw.k
  have hw9 := hw.w9
  refine e_aload_n (pc' := 1) dX8_walk_0 rfl rfl rfl ?_
  refine e_iload_n (pc' := 2) dX8_walk_1 rfl rfl rfl ?_
  refine r_V (pc' := 5) (m' := mX8_requireMagnet) (As := [.int (nI a)]) (st := []) (c_reqM_ok (d := d) h hw (i := a) (by omega)) dX8_walk_2 rfl rfl (Nat.le_of_ble_eq_true rfl) (fit_of (by omega) (by decide) (by decide) (by decide)) ml_X8_79 okX8_requireMagnet rfl rfl (by decide) rfl ?_
  show EV _ _ _ _ _ 5 _ ([]) _
  refine e_aload_n (pc' := 6) dX8_walk_5 rfl rfl rfl ?_
  refine e_iload_n (pc' := 7) dX8_walk_6 rfl rfl rfl ?_
  refine r_V (pc' := 10) (m' := mX8_requireMagnet) (As := [.int (nI b)]) (st := []) (c_reqM_ok (d := d) h hw (i := b) (by omega)) dX8_walk_7 rfl rfl (Nat.le_of_ble_eq_true rfl) (fit_of (by omega) (by decide) (by decide) (by decide)) ml_X8_79 okX8_requireMagnet rfl rfl (by decide) rfl ?_
  show EV _ _ _ _ _ 10 _ ([]) _
  refine e_aload_n (pc' := 11) dX8_walk_10 rfl rfl rfl ?_
  refine p_gfr (pc' := 14) (a := 0) (k := 1) (t := 7) dX8_walk_11 rfl rfl (by decide) (by decide) rfl fl_X8_21 ?_
  refine e_iload_n (pc' := 15) dX8_walk_14 rfl rfl rfl ?_
  refine e_iload_n (pc' := 16) dX8_walk_15 rfl rfl rfl ?_
  refine r_VI (pc' := 19) (m' := mX6_shortestWalk) (As := [.int (nI a), .int (nI b)]) (st := []) (c_shortestWalk (d := d) h hw (a := a) (b := b) (by omega) (by omega)) dX8_walk_16 rfl rfl (Nat.le_of_ble_eq_true rfl) (fit_of (by omega) (by decide) (by decide) (by decide)) ml_X8_124 okX6_shortestWalk rfl rfl (by decide) rfl (fun M9 hK9 => ?_)
  show EV _ _ _ _ _ 19 _ ([.int (oI (wal c a (cn c) b))]) _
  refine r_S (pc' := 22) (m' := mX8_requireFound) (As := [.int (oI (wal c a (cn c) b))]) (st := []) (c_reqF_ok (d := d) (oI (wal c a (cn c) b)) hf) dX8_walk_19 rfl rfl (Nat.le_of_ble_eq_true rfl) (fit_of (by omega) (by decide) (by decide) (by decide)) ml_X8_101 okX8_requireFound rfl rfl ?_
  show EV _ _ _ _ _ 22 _ ([.int (oI (wal c a (cn c) b))]) _
  exact e_iret dX8_walk_22 rfl (MP.retI rfl hK9) (by decide) (by decide)
theorem m_walk_x1 (h : ColAt M 1 c) (hw : WF c) (x y : Int32) (hx : hasM c x = false) : THR G ad (d + 4) mX8_walk [.ref (ad 0), .int (x), .int (y)] (M, o) "java/lang/IndexOutOfBoundsException" (M, o) := by
  refine CM_of rfl (by decide) rfl (Nat.le_of_ble_eq_true rfl) rfl ?_
  have hn := hw.n
  have hk := hw.k
  have hw9 := hw.w9
  refine e_aload_n (pc' := 1) dX8_walk_0 rfl rfl rfl ?_
  refine e_iload_n (pc' := 2) dX8_walk_1 rfl rfl rfl ?_
  exact t_V (m' := mX8_requireMagnet) (As := [.int (x)]) (st := []) (c_reqM_no (d := d) h hw (x) hx) dX8_walk_2 rfl (Nat.le_of_ble_eq_true rfl) (fit_of (by omega) (by decide) (by decide) (by decide)) ml_X8_79 okX8_requireMagnet rfl rfl (by decide) rfl rfl (MP.thr rfl rfl) (by decide) (by decide)
theorem m_walk_x2 (h : ColAt M 1 c) (hw : WF c) {a : Nat} (ha : a < cn c) (y : Int32) (hx : hasM c y = false) : THR G ad (d + 4) mX8_walk [.ref (ad 0), .int (nI a), .int (y)] (M, o) "java/lang/IndexOutOfBoundsException" (M, o) := by
  refine CM_of rfl (by decide) rfl (Nat.le_of_ble_eq_true rfl) rfl ?_
  have hn := hw.n
  have hk := hw.k
  have hw9 := hw.w9
  refine e_aload_n (pc' := 1) dX8_walk_0 rfl rfl rfl ?_
  refine e_iload_n (pc' := 2) dX8_walk_1 rfl rfl rfl ?_
  refine r_V (pc' := 5) (m' := mX8_requireMagnet) (As := [.int (nI a)]) (st := []) (c_reqM_ok (d := d) h hw (i := a) (by omega)) dX8_walk_2 rfl rfl (Nat.le_of_ble_eq_true rfl) (fit_of (by omega) (by decide) (by decide) (by decide)) ml_X8_79 okX8_requireMagnet rfl rfl (by decide) rfl ?_
  show EV _ _ _ _ _ 5 _ ([]) _
  refine e_aload_n (pc' := 6) dX8_walk_5 rfl rfl rfl ?_
  refine e_iload_n (pc' := 7) dX8_walk_6 rfl rfl rfl ?_
  exact t_V (m' := mX8_requireMagnet) (As := [.int (y)]) (st := []) (c_reqM_no (d := d) h hw (y) hx) dX8_walk_7 rfl (Nat.le_of_ble_eq_true rfl) (fit_of (by omega) (by decide) (by decide) (by decide)) ml_X8_79 okX8_requireMagnet rfl rfl (by decide) rfl rfl (MP.thr rfl rfl) (by decide) (by decide)
theorem m_magnetAt_n (h : ColAt M 1 c) (hw : WF c) {i : Nat} (hi : i < 100) (hf : oI (mOn c (nI i)) = -1) : THR G ad (d + 3) mX8_magnetAt [.ref (ad 0), .int (nI i)] (M, o) "java/util/NoSuchElementException" (M, o) := by
  refine CM_of rfl (by decide) rfl (Nat.le_of_ble_eq_true rfl) rfl ?_
  have hn := hw.n
  have hk := hw.k
  have hw9 := hw.w9
  refine e_iload_n (pc' := 1) dX8_magnetAt_0 rfl rfl rfl ?_
  refine r_S (pc' := 4) (m' := mX8_requirePosition) (As := [.int (nI i)]) (st := []) (c_reqP_ok (d := d) (i := i) (by omega)) dX8_magnetAt_1 rfl rfl (Nat.le_of_ble_eq_true rfl) (fit_of (by omega) (by decide) (by decide) (by decide)) ml_X8_94 okX8_requirePosition rfl rfl ?_
  show EV _ _ _ _ _ 4 _ ([]) _
  refine e_aload_n (pc' := 5) dX8_magnetAt_4 rfl rfl rfl ?_
  refine p_gfr (pc' := 8) (a := 0) (k := 0) (t := 1) dX8_magnetAt_5 rfl rfl (by decide) (by decide) rfl fl_X8_12 ?_
  refine e_iload_n (pc' := 9) dX8_magnetAt_8 rfl rfl rfl ?_
  refine r_V (pc' := 12) (m' := mX1_magnetOn) (As := [.int (nI i)]) (st := []) (c_magnetOn (d := d) h hw (nI i)) dX8_magnetAt_9 rfl rfl (Nat.le_of_ble_eq_true rfl) (fit_of (by omega) (by decide) (by decide) (by decide)) ml_X8_97 okX1_magnetOn rfl rfl (by decide) rfl ?_
  show EV _ _ _ _ _ 12 _ ([.int (oI (mOn c (nI i)))]) _
  exact t_S (m' := mX8_requireFound) (As := [.int (oI (mOn c (nI i)))]) (st := []) (c_reqF_no (d := d) (oI (mOn c (nI i))) hf) dX8_magnetAt_12 rfl (Nat.le_of_ble_eq_true rfl) (fit_of (by omega) (by decide) (by decide) (by decide)) ml_X8_101 okX8_requireFound rfl rfl rfl (MP.thr rfl rfl) (by decide) (by decide)
theorem m_magnetByStrength_n (h : ColAt M 1 c) (hw : WF c) (x : Int32) (hf : oI (mRank c x) = -1) : THR G ad (d + 3) mX8_magnetByStrength [.ref (ad 0), .int (x)] (M, o) "java/util/NoSuchElementException" (M, o) := by
  refine CM_of rfl (by decide) rfl (Nat.le_of_ble_eq_true rfl) rfl ?_
  have hn := hw.n
  have hk := hw.k
  have hw9 := hw.w9
  refine e_aload_n (pc' := 1) dX8_magnetByStrength_0 rfl rfl rfl ?_
  refine p_gfr (pc' := 4) (a := 0) (k := 0) (t := 1) dX8_magnetByStrength_1 rfl rfl (by decide) (by decide) rfl fl_X8_12 ?_
  refine e_iload_n (pc' := 5) dX8_magnetByStrength_4 rfl rfl rfl ?_
  refine r_V (pc' := 8) (m' := mX1_magnetOfRank) (As := [.int (x)]) (st := []) (c_magnetOfRank (d := d) h hw (x)) dX8_magnetByStrength_5 rfl rfl (Nat.le_of_ble_eq_true rfl) (fit_of (by omega) (by decide) (by decide) (by decide)) ml_X8_104 okX1_magnetOfRank rfl rfl (by decide) rfl ?_
  show EV _ _ _ _ _ 8 _ ([.int (oI (mRank c (x)))]) _
  exact t_S (m' := mX8_requireFound) (As := [.int (oI (mRank c (x)))]) (st := []) (c_reqF_no (d := d) (oI (mRank c (x))) hf) dX8_magnetByStrength_8 rfl (Nat.le_of_ble_eq_true rfl) (fit_of (by omega) (by decide) (by decide) (by decide)) ml_X8_101 okX8_requireFound rfl rfl rfl (MP.thr rfl rfl) (by decide) (by decide)
theorem m_strongest_n (h : ColAt M 1 c) (hw : WF c) (hf : oI (psF c) = -1) : THR G ad (d + 4) mX8_strongestPosition [.ref (ad 0)] (M, o) "java/util/NoSuchElementException" (M, o) := by
  refine CM_of rfl (by decide) rfl (Nat.le_of_ble_eq_true rfl) rfl ?_
  have hn := hw.n
  have hk := hw.k
  have hw9 := hw.w9
  refine e_aload_n (pc' := 1) dX8_strongestPosition_0 rfl rfl rfl ?_
  refine p_gfr (pc' := 4) (a := 0) (k := 2) (t := 12) dX8_strongestPosition_1 rfl rfl (by decide) (by decide) rfl fl_X8_28 ?_
  refine r_V (pc' := 7) (m' := mX3_positionOfStrongestField) (As := []) (st := []) (c_psf (d := d) h hw) dX8_strongestPosition_4 rfl rfl (Nat.le_of_ble_eq_true rfl) (fit_of (by omega) (by decide) (by decide) (by decide)) ml_X8_161 okX3_positionOfStrongestField rfl rfl (by decide) rfl ?_
  show EV _ _ _ _ _ 7 _ ([.int (oI (psF c))]) _
  exact t_S (m' := mX8_requireFound) (As := [.int (oI (psF c))]) (st := []) (c_reqF_no (d := d) (oI (psF c)) hf) dX8_strongestPosition_7 rfl (Nat.le_of_ble_eq_true rfl) (fit_of (by omega) (by decide) (by decide) (by decide)) ml_X8_101 okX8_requireFound rfl rfl rfl (MP.thr rfl rfl) (by decide) (by decide)
theorem m_queen_n (h : ColAt M 1 c) (hw : WF c) (hf : oI (mif c (cn c)) = -1) : THR G ad (d + 4) mX8_queen [.ref (ad 0)] (M, o) "java/util/NoSuchElementException" (M, o) := by
  refine CM_of rfl (by decide) rfl (Nat.le_of_ble_eq_true rfl) rfl ?_
  have hn := hw.n
  have hk := hw.k
  have hw9 := hw.w9
  refine e_aload_n (pc' := 1) dX8_queen_0 rfl rfl rfl ?_
  refine p_gfr (pc' := 4) (a := 0) (k := 2) (t := 12) dX8_queen_1 rfl rfl (by decide) (by decide) rfl fl_X8_28 ?_
  refine r_V (pc' := 7) (m' := mX3_magnetInStrongestField) (As := []) (st := []) (c_mif (d := d) h hw) dX8_queen_4 rfl rfl (Nat.le_of_ble_eq_true rfl) (fit_of (by omega) (by decide) (by decide) (by decide)) ml_X8_164 okX3_magnetInStrongestField rfl rfl (by decide) rfl ?_
  show EV _ _ _ _ _ 7 _ ([.int (oI (mif c (cn c)))]) _
  exact t_S (m' := mX8_requireFound) (As := [.int (oI (mif c (cn c)))]) (st := []) (c_reqF_no (d := d) (oI (mif c (cn c))) hf) dX8_queen_7 rfl (Nat.le_of_ble_eq_true rfl) (fit_of (by omega) (by decide) (by decide) (by decide)) ml_X8_101 okX8_requireFound rfl rfl rfl (MP.thr rfl rfl) (by decide) (by decide)
theorem m_fewestSets_n (h : ColAt M 1 c) (hw : WF c) (hf : oI (sstF c (2 ^ cn c)) = -1) : THR G ad (d + 4) mX8_fewestTurnsBySets [.ref (ad 0)] (M, o) "java/util/NoSuchElementException" (M, o) := by
  refine CM_of rfl (by decide) rfl (Nat.le_of_ble_eq_true rfl) rfl ?_
  have hn := hw.n
  have hk := hw.k
  have hw9 := hw.w9
  refine e_aload_n (pc' := 1) dX8_fewestTurnsBySets_0 rfl rfl rfl ?_
  refine p_gfr (pc' := 4) (a := 0) (k := 1) (t := 7) dX8_fewestTurnsBySets_1 rfl rfl (by decide) (by decide) rfl fl_X8_21 ?_
  refine r_V (pc' := 7) (m' := mX6_smallestSettlingSet) (As := []) (st := []) (c_sst (d := d) h hw) dX8_fewestTurnsBySets_4 rfl rfl (Nat.le_of_ble_eq_true rfl) (fit_of (by omega) (by decide) (by decide) (by decide)) ml_X8_144 okX6_smallestSettlingSet rfl rfl (by decide) rfl ?_
  show EV _ _ _ _ _ 7 _ ([.int (oI (sstF c (2 ^ cn c)))]) _
  exact t_S (m' := mX8_requireFound) (As := [.int (oI (sstF c (2 ^ cn c)))]) (st := []) (c_reqF_no (d := d) (oI (sstF c (2 ^ cn c))) hf) dX8_fewestTurnsBySets_7 rfl (Nat.le_of_ble_eq_true rfl) (fit_of (by omega) (by decide) (by decide) (by decide)) ml_X8_101 okX8_requireFound rfl rfl rfl (MP.thr rfl rfl) (by decide) (by decide)
theorem m_fewest_n (h : ColAt M 1 c) (hw : WF c) (hf : oI ((bestF c).map pop) = -1) : THRI G ad (d + 4) mX8_fewestTurns [.ref (ad 0)] M o "java/util/NoSuchElementException" (fun M' => KP (inR 7 11) M M') := by
  refine CM_of rfl (by decide) rfl (Nat.le_of_ble_eq_true rfl) rfl ?_
  have hn := hw.n
  have hk := hw.k
  have hw9 := hw.w9
  refine e_aload_n (pc' := 1) dX8_fewestTurns_0 rfl rfl rfl ?_
  refine p_gfr (pc' := 4) (a := 0) (k := 1) (t := 7) dX8_fewestTurns_1 rfl rfl (by decide) (by decide) rfl fl_X8_21 ?_
  refine r_VI (pc' := 7) (m' := mX6_bestTurnSetSize) (As := []) (st := []) (c_bestSize (d := d) h hw) dX8_fewestTurns_4 rfl rfl (Nat.le_of_ble_eq_true rfl) (fit_of (by omega) (by decide) (by decide) (by decide)) ml_X8_141 okX6_bestTurnSetSize rfl rfl (by decide) rfl (fun M9 hK9 => ?_)
  show EV _ _ _ _ _ 7 _ ([.int (oI ((bestF c).map pop))]) _
  exact t_S (m' := mX8_requireFound) (As := [.int (oI ((bestF c).map pop))]) (st := []) (c_reqF_no (d := d) (oI ((bestF c).map pop)) hf) dX8_fewestTurns_7 rfl (Nat.le_of_ble_eq_true rfl) (fit_of (by omega) (by decide) (by decide) (by decide)) ml_X8_101 okX8_requireFound rfl rfl rfl (MP.thrI rfl hK9) (by decide) (by decide)
theorem m_walk_n (h : ColAt M 1 c) (hw : WF c) {a b : Nat} (ha : a < cn c) (hb : b < cn c) (hf : oI (wal c a (cn c) b) = -1) : THRI G ad (d + 4) mX8_walk [.ref (ad 0), .int (nI a), .int (nI b)] M o "java/util/NoSuchElementException" (fun M' => KP (inR 7 11) M M') := by
  refine CM_of rfl (by decide) rfl (Nat.le_of_ble_eq_true rfl) rfl ?_
  have hn := hw.n
  have hk := hw.k
  have hw9 := hw.w9
  refine e_aload_n (pc' := 1) dX8_walk_0 rfl rfl rfl ?_
  refine e_iload_n (pc' := 2) dX8_walk_1 rfl rfl rfl ?_
  refine r_V (pc' := 5) (m' := mX8_requireMagnet) (As := [.int (nI a)]) (st := []) (c_reqM_ok (d := d) h hw (i := a) (by omega)) dX8_walk_2 rfl rfl (Nat.le_of_ble_eq_true rfl) (fit_of (by omega) (by decide) (by decide) (by decide)) ml_X8_79 okX8_requireMagnet rfl rfl (by decide) rfl ?_
  show EV _ _ _ _ _ 5 _ ([]) _
  refine e_aload_n (pc' := 6) dX8_walk_5 rfl rfl rfl ?_
  refine e_iload_n (pc' := 7) dX8_walk_6 rfl rfl rfl ?_
  refine r_V (pc' := 10) (m' := mX8_requireMagnet) (As := [.int (nI b)]) (st := []) (c_reqM_ok (d := d) h hw (i := b) (by omega)) dX8_walk_7 rfl rfl (Nat.le_of_ble_eq_true rfl) (fit_of (by omega) (by decide) (by decide) (by decide)) ml_X8_79 okX8_requireMagnet rfl rfl (by decide) rfl ?_
  show EV _ _ _ _ _ 10 _ ([]) _
  refine e_aload_n (pc' := 11) dX8_walk_10 rfl rfl rfl ?_
  refine p_gfr (pc' := 14) (a := 0) (k := 1) (t := 7) dX8_walk_11 rfl rfl (by decide) (by decide) rfl fl_X8_21 ?_
  refine e_iload_n (pc' := 15) dX8_walk_14 rfl rfl rfl ?_
  refine e_iload_n (pc' := 16) dX8_walk_15 rfl rfl rfl ?_
  refine r_VI (pc' := 19) (m' := mX6_shortestWalk) (As := [.int (nI a), .int (nI b)]) (st := []) (c_shortestWalk (d := d) h hw (a := a) (b := b) (by omega) (by omega)) dX8_walk_16 rfl rfl (Nat.le_of_ble_eq_true rfl) (fit_of (by omega) (by decide) (by decide) (by decide)) ml_X8_124 okX6_shortestWalk rfl rfl (by decide) rfl (fun M9 hK9 => ?_)
  show EV _ _ _ _ _ 19 _ ([.int (oI (wal c a (cn c) b))]) _
  exact t_S (m' := mX8_requireFound) (As := [.int (oI (wal c a (cn c) b))]) (st := []) (c_reqF_no (d := d) (oI (wal c a (cn c) b)) hf) dX8_walk_19 rfl (Nat.le_of_ble_eq_true rfl) (fit_of (by omega) (by decide) (by decide) (by decide)) ml_X8_101 okX8_requireFound rfl rfl rfl (MP.thrI rfl hK9) (by decide) (by decide)
theorem m_fault_n (hf : M 0 10 = -1) : THR G ad (d + 1) mX8_faultPosition [.ref (ad 0)] (M, o) "java/util/NoSuchElementException" (M, o) := by
  refine CM_of rfl (by decide) rfl (Nat.le_of_ble_eq_true rfl) rfl ?_
  refine e_aload_n (pc' := 1) dX8_faultPosition_0 rfl rfl rfl ?_
  refine p_gfi (pc' := 4) (a := 0) (k := 10) (x := M 0 10) dX8_faultPosition_1 rfl (rfl) (by decide) (by decide) rfl fl_X8_68 (rfl) ?_
  exact t_S (m' := mX8_requireFound) (As := [.int (M 0 10)]) (st := []) (c_reqF_no (d := d) (M 0 10) hf) dX8_faultPosition_4 rfl (Nat.le_of_ble_eq_true rfl) (fit_of (by omega) (by decide) (by decide) (by decide)) ml_X8_101 okX8_requireFound rfl rfl rfl (MP.thr rfl rfl) (by decide) (by decide)
theorem m_denial_n (hx : M 0 11 = 0) : THR G ad (d + 1) mX8_denial [.ref (ad 0)] (M, o) "java/util/NoSuchElementException" (M, o) := by
  refine CM_of rfl (by decide) rfl (Nat.le_of_ble_eq_true rfl) rfl ?_
  refine e_aload_n (pc' := 1) dX8_denial_0 rfl rfl rfl ?_
  exact t_V (m' := mX8_requireDenial) (As := []) (st := []) (c_reqD_no (d := d) hx) dX8_denial_1 rfl (Nat.le_of_ble_eq_true rfl) (fit_of (by omega) (by decide) (by decide) (by decide)) ml_X8_277 okX8_requireDenial rfl rfl (by decide) rfl rfl (MP.thr rfl rfl) (by decide) (by decide)
theorem m_denialDetail_n (hx : M 0 11 = 0) : THR G ad (d + 1) mX8_denialDetail [.ref (ad 0)] (M, o) "java/util/NoSuchElementException" (M, o) := by
  refine CM_of rfl (by decide) rfl (Nat.le_of_ble_eq_true rfl) rfl ?_
  refine e_aload_n (pc' := 1) dX8_denialDetail_0 rfl rfl rfl ?_
  exact t_V (m' := mX8_requireDenial) (As := []) (st := []) (c_reqD_no (d := d) hx) dX8_denialDetail_1 rfl (Nat.le_of_ble_eq_true rfl) (fit_of (by omega) (by decide) (by decide) (by decide)) ml_X8_277 okX8_requireDenial rfl rfl (by decide) rfl rfl (MP.thr rfl rfl) (by decide) (by decide)
theorem m_fault (hf : ¬ M 0 10 = -1) : RET G ad (d + 1) mX8_faultPosition [.ref (ad 0)] (M, o) (some (.int (M 0 10))) (M, o) := by
  refine CM_of rfl (by decide) rfl (Nat.le_of_ble_eq_true rfl) rfl ?_
  refine e_aload_n (pc' := 1) dX8_faultPosition_0 rfl rfl rfl ?_
  refine p_gfi (pc' := 4) (a := 0) (k := 10) (x := M 0 10) dX8_faultPosition_1 rfl (rfl) (by decide) (by decide) rfl fl_X8_68 (rfl) ?_
  refine r_S (pc' := 7) (m' := mX8_requireFound) (As := [.int (M 0 10)]) (st := []) (c_reqF_ok (d := d) (M 0 10) hf) dX8_faultPosition_4 rfl rfl (Nat.le_of_ble_eq_true rfl) (fit_of (by omega) (by decide) (by decide) (by decide)) ml_X8_101 okX8_requireFound rfl rfl ?_
  show EV _ _ _ _ _ 7 _ ([.int (M 0 10)]) _
  exact e_iret dX8_faultPosition_7 rfl (MP.ret rfl rfl) (by decide) (by decide)
theorem m_denial (hx : ¬ M 0 11 = 0) : RET G ad (d + 1) mX8_denial [.ref (ad 0)] (M, o) (some (.int (M 0 11))) (M, o) := by
  refine CM_of rfl (by decide) rfl (Nat.le_of_ble_eq_true rfl) rfl ?_
  refine e_aload_n (pc' := 1) dX8_denial_0 rfl rfl rfl ?_
  refine r_V (pc' := 4) (m' := mX8_requireDenial) (As := []) (st := []) (c_reqD_ok (d := d) hx) dX8_denial_1 rfl rfl (Nat.le_of_ble_eq_true rfl) (fit_of (by omega) (by decide) (by decide) (by decide)) ml_X8_277 okX8_requireDenial rfl rfl (by decide) rfl ?_
  show EV _ _ _ _ _ 4 _ ([]) _
  refine e_aload_n (pc' := 5) dX8_denial_4 rfl rfl rfl ?_
  refine p_gfi (pc' := 8) (a := 0) (k := 11) (x := M 0 11) dX8_denial_5 rfl (rfl) (by decide) (by decide) rfl fl_X8_280 (rfl) ?_
  exact e_iret dX8_denial_8 rfl (MP.ret rfl rfl) (by decide) (by decide)
theorem m_denialDetail (hx : ¬ M 0 11 = 0) : RET G ad (d + 1) mX8_denialDetail [.ref (ad 0)] (M, o) (some (.int (M 0 12))) (M, o) := by
  refine CM_of rfl (by decide) rfl (Nat.le_of_ble_eq_true rfl) rfl ?_
  refine e_aload_n (pc' := 1) dX8_denialDetail_0 rfl rfl rfl ?_
  refine r_V (pc' := 4) (m' := mX8_requireDenial) (As := []) (st := []) (c_reqD_ok (d := d) hx) dX8_denialDetail_1 rfl rfl (Nat.le_of_ble_eq_true rfl) (fit_of (by omega) (by decide) (by decide) (by decide)) ml_X8_277 okX8_requireDenial rfl rfl (by decide) rfl ?_
  show EV _ _ _ _ _ 4 _ ([]) _
  refine e_aload_n (pc' := 5) dX8_denialDetail_4 rfl rfl rfl ?_
  refine p_gfi (pc' := 8) (a := 0) (k := 12) (x := M 0 12) dX8_denialDetail_5 rfl (rfl) (by decide) (by decide) rfl fl_X8_283 (rfl) ?_
  exact e_iret dX8_denialDetail_8 rfl (MP.ret rfl rfl) (by decide) (by decide)
theorem m_denialCause (hx : ¬ M 0 13 = 0) : RET G ad d mX8_denialCause [.ref (ad 0)] (M, o) (some (.int (M 0 13))) (M, o) := by
  refine CM_of rfl (by decide) rfl (Nat.le_of_ble_eq_true rfl) rfl ?_
  refine e_aload_n (pc' := 1) dX8_denialCause_0 rfl rfl rfl ?_
  refine p_gfi (pc' := 4) (a := 0) (k := 13) (x := M 0 13) dX8_denialCause_1 rfl (rfl) (by decide) (by decide) rfl fl_X8_286 (rfl) ?_
  refine e_if_ne (pc' := 7) (tgt := 18) dX8_denialCause_4 rfl (by decide) (fun hz1 => ?_) (fun hz1 => absurd hz1 (hx))
  refine e_aload_n (pc' := 19) dX8_denialCause_18 rfl rfl rfl ?_
  refine p_gfi (pc' := 22) (a := 0) (k := 13) (x := M 0 13) dX8_denialCause_19 rfl (rfl) (by decide) (by decide) rfl fl_X8_286 (rfl) ?_
  exact e_iret dX8_denialCause_22 rfl (MP.ret rfl rfl) (by decide) (by decide)
theorem m_denialCause_n (hx : M 0 13 = 0) : THR G ad d mX8_denialCause [.ref (ad 0)] (M, o) "java/util/NoSuchElementException" (M, o) := by
  refine CM_of rfl (by decide) rfl (Nat.le_of_ble_eq_true rfl) rfl ?_
  refine e_aload_n (pc' := 1) dX8_denialCause_0 rfl rfl rfl ?_
  refine p_gfi (pc' := 4) (a := 0) (k := 13) (x := M 0 13) dX8_denialCause_1 rfl (rfl) (by decide) (by decide) rfl fl_X8_286 (rfl) ?_
  refine e_if_ne (pc' := 7) (tgt := 18) dX8_denialCause_4 rfl (by decide) (fun hz1 => absurd hz1 (not_not_intro hx)) (fun hz1 => ?_)
  exact e_throwN (K := (1, 6)) rfl xok_NoSuchElementException st_X8_291 dX8_denialCause_7 dX8_denialCause_10 dX8_denialCause_11 dX8_denialCause_14 dX8_denialCause_17 (by simp [rmK]) (by simp [rmK, Value.category] <;> omega) (Nat.le_refl _) (Nat.le_refl _) (MP.thr rfl rfl) (by decide) (by decide)
theorem m_mean_n (h : ColAt M 1 c) (hw : WF c) (h0 : cn c = 0) : THR G ad (d + 3) mX8_meanStrength [.ref (ad 0)] (M, o) "java/lang/ArithmeticException" (M, o) := by
  refine CM_of rfl (by decide) rfl (Nat.le_of_ble_eq_true rfl) rfl ?_
  have hn := hw.n
  have hk := hw.k
  have hw9 := hw.w9
  refine e_aload_n (pc' := 1) dX8_meanStrength_0 rfl rfl rfl ?_
  refine p_gfr (pc' := 4) (a := 0) (k := 0) (t := 1) dX8_meanStrength_1 rfl rfl (by decide) (by decide) rfl fl_X8_12 ?_
  refine p_gfi (pc' := 7) (a := 1) (k := 0) (x := nI (cn c)) dX8_meanStrength_4 rfl (rfl) (by decide) (by decide) rfl fl_X8_76 (h.n) ?_
  refine e_if_neN (pc' := 10) (tgt := 20) dX8_meanStrength_7 rfl (by decide) (by omega) (fun hz1 => absurd hz1 (not_not_intro h0)) (fun hz1 => ?_)
  exact e_throw (K := (1, 6)) (names := ["java/lang/RuntimeException", "java/lang/Exception"]) rfl xok_ArithmeticException st_X8_169 dX8_meanStrength_10 dX8_meanStrength_13 dX8_meanStrength_14 dX8_meanStrength_16 dX8_meanStrength_19 (by simp [rmK]) (by simp [rmK, Value.category] <;> omega) (Nat.le_refl _) (Nat.le_refl _) (MP.thr rfl rfl) (by decide) (by decide)
theorem m_share_n (h : ColAt M 1 c) (hw : WF c) (h0 : ck c = 0) : THR G ad (d + 3) mX8_openShare [.ref (ad 0)] (M, o) "java/lang/ArithmeticException" (M, o) := by
  refine CM_of rfl (by decide) rfl (Nat.le_of_ble_eq_true rfl) rfl ?_
  have hn := hw.n
  have hk := hw.k
  have hw9 := hw.w9
  refine e_aload_n (pc' := 1) dX8_openShare_0 rfl rfl rfl ?_
  refine p_gfr (pc' := 4) (a := 0) (k := 0) (t := 1) dX8_openShare_1 rfl rfl (by decide) (by decide) rfl fl_X8_12 ?_
  refine p_gfi (pc' := 7) (a := 1) (k := 5) (x := nI (ck c)) dX8_openShare_4 rfl (rfl) (by decide) (by decide) rfl fl_X8_107 (h.k) ?_
  refine e_if_neN (pc' := 10) (tgt := 20) dX8_openShare_7 rfl (by decide) (by omega) (fun hz1 => absurd hz1 (not_not_intro h0)) (fun hz1 => ?_)
  exact e_throw (K := (1, 6)) (names := ["java/lang/RuntimeException", "java/lang/Exception"]) rfl xok_ArithmeticException st_X8_177 dX8_openShare_10 dX8_openShare_13 dX8_openShare_14 dX8_openShare_16 dX8_openShare_19 (by simp [rmK]) (by simp [rmK, Value.category] <;> omega) (Nat.le_refl _) (Nat.le_refl _) (MP.thr rfl rfl) (by decide) (by decide)
end T21

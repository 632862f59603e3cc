set_option maxHeartbeats 400000
/-! THE REFERENCE: small methods -/
section T35
variable {G : gC} {ad : Nat → Nat} {d : Nat} {M : Nat → Nat → Int32} {o : (Nat → Int64) × (Nat → UInt64)} {c : Col}
theorem g_isNone_ok (r : RowAt M 97 0 c) (hw : WF c) (x : Int32) (hx : hasM c x = true) : RET G ad (d + 2) mX9_isNone [.ref (ad 96), .int (x)] (M, o) (some (.int (bI (false)))) ((up2 (up2 M 96 8 (nI 0)) 96 7 (nI 0)), o) := by
  refine CM_of rfl (by decide) rfl (Nat.le_of_ble_eq_true rfl) rfl ?_
  have hn := hw.n
  have hk := hw.k
  have hw9 := hw.w9
  refine e_aload_n (pc' := 1) dX9_isNone_0 rfl rfl rfl ?_
  refine e_aload_n (pc' := 2) dX9_isNone_1 rfl rfl rfl ?_
  refine e_iload_n (pc' := 3) dX9_isNone_2 rfl rfl rfl ?_
  refine r_V (pc' := 6) (m' := mX9_isMagnet) (As := [.int (x)]) (st := [.ref (ad 96)]) (g_isMagnet (d := d) r hw (x)) dX9_isNone_3 rfl rfl (Nat.le_of_ble_eq_true rfl) (fit_of (by omega) (by decide) (by decide) (by decide)) ml_X9_66 okX9_isMagnet rfl rfl (by decide) rfl ?_
  show EV _ _ _ _ _ 6 _ ([.int (bI (hasM c (x))), .ref (ad 96)]) _
  refine e_if_eqB (pc' := 9) (tgt := 13) dX9_isNone_6 rfl (by decide) (fun hz1 => absurd hz1 (by rw [hx]; decide)) (fun hz1 => ?_)
  refine e_iconst (pc' := 10) (v := nI 0) dX9_isNone_9 rfl (by decide) ?_
  refine e_goto (tgt := 14) dX9_isNone_10 (by decide) ?_
  refine r_V (pc' := 17) (m' := mX9_fails) (As := [.int (nI 0)]) (st := []) (g_fails (d := d) (p := 0) (by omega)) dX9_isNone_14 rfl rfl (Nat.le_of_ble_eq_true rfl) (fit_of (by omega) (by decide) (by decide) (by decide)) ml_X9_70 okX9_fails rfl rfl (by decide) rfl ?_
  show EV _ _ _ _ _ 17 _ ([.int (bI (decide (0 < 0)))]) _
  exact e_zret (ty := .boolean) dX9_isNone_17 rfl (rfl) (MP.ret rfl rfl) (by decide) (by decide)
theorem g_isNone_no (r : RowAt M 97 0 c) (hw : WF c) (x : Int32) (hx : hasM c x = false) : RET G ad (d + 2) mX9_isNone [.ref (ad 96), .int (x)] (M, o) (some (.int (bI (true)))) ((up2 (up2 M 96 8 (nI 1)) 96 7 (nI 0)), o) := by
  refine CM_of rfl (by decide) rfl (Nat.le_of_ble_eq_true rfl) rfl ?_
  have hn := hw.n
  have hk := hw.k
  have hw9 := hw.w9
  refine e_aload_n (pc' := 1) dX9_isNone_0 rfl rfl rfl ?_
  refine e_aload_n (pc' := 2) dX9_isNone_1 rfl rfl rfl ?_
  refine e_iload_n (pc' := 3) dX9_isNone_2 rfl rfl rfl ?_
  refine r_V (pc' := 6) (m' := mX9_isMagnet) (As := [.int (x)]) (st := [.ref (ad 96)]) (g_isMagnet (d := d) r hw (x)) dX9_isNone_3 rfl rfl (Nat.le_of_ble_eq_true rfl) (fit_of (by omega) (by decide) (by decide) (by decide)) ml_X9_66 okX9_isMagnet rfl rfl (by decide) rfl ?_
  show EV _ _ _ _ _ 6 _ ([.int (bI (hasM c (x))), .ref (ad 96)]) _
  refine e_if_eqB (pc' := 9) (tgt := 13) dX9_isNone_6 rfl (by decide) (fun hz1 => ?_) (fun hz1 => absurd hz1 (by rw [hx]; decide))
  refine e_iconst (pc' := 14) (v := nI 1) dX9_isNone_13 rfl (by decide) ?_
  refine r_V (pc' := 17) (m' := mX9_fails) (As := [.int (nI 1)]) (st := []) (g_fails (d := d) (p := 1) (by omega)) dX9_isNone_14 rfl rfl (Nat.le_of_ble_eq_true rfl) (fit_of (by omega) (by decide) (by decide) (by decide)) ml_X9_70 okX9_fails rfl rfl (by decide) rfl ?_
  show EV _ _ _ _ _ 17 _ ([.int (bI (decide (0 < 1)))]) _
  exact e_zret (ty := .boolean) dX9_isNone_17 rfl (rfl) (MP.ret rfl rfl) (by decide) (by decide)
theorem g_sign (r : RowAt M 97 0 c) (hw : WF c) {m : Nat} (hm : m < cn c) : RET G ad (d + 1) mX9_sign [.ref (ad 96), .int (nI m)] (M, o) (some (.int (nI (sgn c m)))) (M, o) := by
  refine CM_of rfl (by decide) rfl (Nat.le_of_ble_eq_true rfl) rfl ?_
  have hn := hw.n
  have hk := hw.k
  have hw9 := hw.w9
  refine e_aload_n (pc' := 1) dX9_sign_0 rfl rfl rfl ?_
  refine e_iload_n (pc' := 2) dX9_sign_1 rfl rfl rfl ?_
  refine e_iconst (pc' := 3) (v := nI 2) dX9_sign_2 rfl (by decide) ?_
  have hb1 := tb_le (cw c) (m)
  refine r_V (pc' := 6) (m' := mX9_of) (As := [.int (nI m), .int (nI 2)]) (st := []) (g_of2 (d := d) r hw (m := m) (by omega)) dX9_sign_3 rfl rfl (Nat.le_of_ble_eq_true rfl) (fit_of (by omega) (by decide) (by decide) (by decide)) ml_X9_73 okX9_of rfl rfl (by decide) rfl ?_
  show EV _ _ _ _ _ 6 _ ([.int (nI (((cw c).testBit (m)).toNat))]) _
  refine e_iconst (pc' := 7) (v := nI 1) dX9_sign_6 rfl (by decide) ?_
  refine e_icmp_neN (pc' := 10) (tgt := 15) dX9_sign_7 rfl (by decide) (by omega) (by omega) (fun h1 => ?_) (fun h1 => ?_)
  · refine e_bipush (pc' := 17) (v := nI 115) dX9_sign_15 rfl (by decide) ?_
    exact e_zret (ty := .char) dX9_sign_17 rfl (rfl) (MP.ret (congrArg (fun z => some (Value.int z)) (by unfold sgn; first | rw [if_pos (tn_one.mp h1)] | rw [if_neg (fun q => h1 (tn_one.mpr q))])) rfl) (by decide) (by decide)
  · refine e_bipush (pc' := 12) (v := nI 110) dX9_sign_10 rfl (by decide) ?_
    refine e_goto (tgt := 17) dX9_sign_12 (by decide) ?_
    exact e_zret (ty := .char) dX9_sign_17 rfl (rfl) (MP.ret (congrArg (fun z => some (Value.int z)) (by unfold sgn; first | rw [if_pos (tn_one.mp h1)] | rw [if_neg (fun q => h1 (tn_one.mpr q))])) rfl) (by decide) (by decide)
theorem g_isAhead (r : RowAt M 97 0 c) (hw : WF c) {a b : Nat} (ha : a < cn c) (hb : b < cn c) : RET G ad (d + 1) mX9_isAhead [.ref (ad 96), .int (nI a), .int (nI b)] (M, o) (some (.int (bI (rkP c b a)))) (M, o) := by
  refine CM_of rfl (by decide) rfl (Nat.le_of_ble_eq_true rfl) rfl ?_
  have hn := hw.n
  have hk := hw.k
  have hw9 := hw.w9
  refine e_aload_n (pc' := 1) dX9_isAhead_0 rfl rfl rfl ?_
  refine e_iload_n (pc' := 2) dX9_isAhead_1 rfl rfl rfl ?_
  refine e_iconst (pc' := 3) (v := nI 1) dX9_isAhead_2 rfl (by decide) ?_
  have hb1 := hw.s2 (i := a) (by omega)
  have hc1 := hw.s1 (i := a) (by omega)
  refine r_V (pc' := 6) (m' := mX9_of) (As := [.int (nI a), .int (nI 1)]) (st := []) (g_of1 (d := d) r hw (m := a) (by omega)) dX9_isAhead_3 rfl rfl (Nat.le_of_ble_eq_true rfl) (fit_of (by omega) (by decide) (by decide) (by decide)) ml_X9_73 okX9_of rfl rfl (by decide) rfl ?_
  show EV _ _ _ _ _ 6 _ ([.int (nI (cs c (a)))]) _
  refine e_aload_n (pc' := 7) dX9_isAhead_6 rfl rfl rfl ?_
  refine e_iload_n (pc' := 8) dX9_isAhead_7 rfl rfl rfl ?_
  refine e_iconst (pc' := 9) (v := nI 1) dX9_isAhead_8 rfl (by decide) ?_
  have hb2 := hw.s2 (i := b) (by omega)
  have hc2 := hw.s1 (i := b) (by omega)
  refine r_V (pc' := 12) (m' := mX9_of) (As := [.int (nI b), .int (nI 1)]) (st := [.int (nI (cs c (a)))]) (g_of1 (d := d) r hw (m := b) (by omega)) dX9_isAhead_9 rfl rfl (Nat.le_of_ble_eq_true rfl) (fit_of (by omega) (by decide) (by decide) (by decide)) ml_X9_73 okX9_of rfl rfl (by decide) rfl ?_
  show EV _ _ _ _ _ 12 _ ([.int (nI (cs c (b))), .int (nI (cs c (a)))]) _
  refine e_icmp_eqN (pc' := 15) (tgt := 38) dX9_isAhead_12 rfl (by decide) (by omega) (by omega) (fun h1 => ?_) (fun h1 => ?_)
  · refine e_aload_n (pc' := 39) dX9_isAhead_38 rfl rfl rfl ?_
    refine e_iload_n (pc' := 40) dX9_isAhead_39 rfl rfl rfl ?_
    refine e_iconst (pc' := 41) (v := nI 0) dX9_isAhead_40 rfl (by decide) ?_
    have hb3 := hw.p (i := a) (by omega)
    refine r_V (pc' := 44) (m' := mX9_of) (As := [.int (nI a), .int (nI 0)]) (st := []) (g_of0 (d := d) r hw (m := a) (by omega)) dX9_isAhead_41 rfl rfl (Nat.le_of_ble_eq_true rfl) (fit_of (by omega) (by decide) (by decide) (by decide)) ml_X9_73 okX9_of rfl rfl (by decide) rfl ?_
    show EV _ _ _ _ _ 44 _ ([.int (nI (cp c (a)))]) _
    refine e_aload_n (pc' := 45) dX9_isAhead_44 rfl rfl rfl ?_
    refine e_iload_n (pc' := 46) dX9_isAhead_45 rfl rfl rfl ?_
    refine e_iconst (pc' := 47) (v := nI 0) dX9_isAhead_46 rfl (by decide) ?_
    have hb4 := hw.p (i := b) (by omega)
    refine r_V (pc' := 50) (m' := mX9_of) (As := [.int (nI b), .int (nI 0)]) (st := [.int (nI (cp c (a)))]) (g_of0 (d := d) r hw (m := b) (by omega)) dX9_isAhead_47 rfl rfl (Nat.le_of_ble_eq_true rfl) (fit_of (by omega) (by decide) (by decide) (by decide)) ml_X9_73 okX9_of rfl rfl (by decide) rfl ?_
    show EV _ _ _ _ _ 50 _ ([.int (nI (cp c (b))), .int (nI (cp c (a)))]) _
    refine e_icmp_geN (pc' := 53) (tgt := 57) dX9_isAhead_50 rfl (by decide) (by omega) (by omega) (fun h3 => ?_) (fun h3 => ?_)
    · refine e_iconst (pc' := 58) (v := nI 0) dX9_isAhead_57 rfl (by decide) ?_
      exact e_zret (ty := .boolean) dX9_isAhead_58 rfl (rfl) (MP.ret (congrArg (fun z => some (Value.int z)) (by unfold rkP; first | exact bI1 (by simp; omega) | exact bI0 (by simp; omega))) rfl) (by decide) (by decide)
    · refine e_iconst (pc' := 54) (v := nI 1) dX9_isAhead_53 rfl (by decide) ?_
      refine e_goto (tgt := 58) dX9_isAhead_54 (by decide) ?_
      exact e_zret (ty := .boolean) dX9_isAhead_58 rfl (rfl) (MP.ret (congrArg (fun z => some (Value.int z)) (by unfold rkP; first | exact bI1 (by simp; omega) | exact bI0 (by simp; omega))) rfl) (by decide) (by decide)
  · refine e_aload_n (pc' := 16) dX9_isAhead_15 rfl rfl rfl ?_
    refine e_iload_n (pc' := 17) dX9_isAhead_16 rfl rfl rfl ?_
    refine e_iconst (pc' := 18) (v := nI 1) dX9_isAhead_17 rfl (by decide) ?_
    have hb5 := hw.s2 (i := a) (by omega)
    have hc5 := hw.s1 (i := a) (by omega)
    refine r_V (pc' := 21) (m' := mX9_of) (As := [.int (nI a), .int (nI 1)]) (st := []) (g_of1 (d := d) r hw (m := a) (by omega)) dX9_isAhead_18 rfl rfl (Nat.le_of_ble_eq_true rfl) (fit_of (by omega) (by decide) (by decide) (by decide)) ml_X9_73 okX9_of rfl rfl (by decide) rfl ?_
    show EV _ _ _ _ _ 21 _ ([.int (nI (cs c (a)))]) _
    refine e_aload_n (pc' := 22) dX9_isAhead_21 rfl rfl rfl ?_
    refine e_iload_n (pc' := 23) dX9_isAhead_22 rfl rfl rfl ?_
    refine e_iconst (pc' := 24) (v := nI 1) dX9_isAhead_23 rfl (by decide) ?_
    have hb6 := hw.s2 (i := b) (by omega)
    have hc6 := hw.s1 (i := b) (by omega)
    refine r_V (pc' := 27) (m' := mX9_of) (As := [.int (nI b), .int (nI 1)]) (st := [.int (nI (cs c (a)))]) (g_of1 (d := d) r hw (m := b) (by omega)) dX9_isAhead_24 rfl rfl (Nat.le_of_ble_eq_true rfl) (fit_of (by omega) (by decide) (by decide) (by decide)) ml_X9_73 okX9_of rfl rfl (by decide) rfl ?_
    show EV _ _ _ _ _ 27 _ ([.int (nI (cs c (b))), .int (nI (cs c (a)))]) _
    refine e_icmp_leN (pc' := 30) (tgt := 34) dX9_isAhead_27 rfl (by decide) (by omega) (by omega) (fun h2 => ?_) (fun h2 => ?_)
    · refine e_iconst (pc' := 35) (v := nI 0) dX9_isAhead_34 rfl (by decide) ?_
      refine e_goto (tgt := 58) dX9_isAhead_35 (by decide) ?_
      exact e_zret (ty := .boolean) dX9_isAhead_58 rfl (rfl) (MP.ret (congrArg (fun z => some (Value.int z)) (by unfold rkP; first | exact bI1 (by simp; omega) | exact bI0 (by simp; omega))) rfl) (by decide) (by decide)
    · refine e_iconst (pc' := 31) (v := nI 1) dX9_isAhead_30 rfl (by decide) ?_
      refine e_goto (tgt := 58) dX9_isAhead_31 (by decide) ?_
      exact e_zret (ty := .boolean) dX9_isAhead_58 rfl (rfl) (MP.ret (congrArg (fun z => some (Value.int z)) (by unfold rkP; first | exact bI1 (by simp; omega) | exact bI0 (by simp; omega))) rfl) (by decide) (by decide)
end T35

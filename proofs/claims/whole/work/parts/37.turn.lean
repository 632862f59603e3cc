set_option maxHeartbeats 400000
/-! THE REFERENCE: a turn -/
def t1C (c : Col) (m : Nat) : Col := setTT (setT (setW c (cw c ^^^ 2 ^ m)) m (ct c m + nI 1)) (ctt c + nI 1)
section T37
variable {G : gC} {ad : Nat → Nat} {d : Nat} {M : Nat → Nat → Int32} {o : (Nat → Int64) × (Nat → UInt64)} {c : Col}
theorem flip_b (w m : Nat) : 1 - (w.testBit m).toNat = ((w ^^^ 2 ^ m).testBit m).toNat := by
  rw [Nat.testBit_xor, Nat.testBit_two_pow]
  cases w.testBit m <;> simp
theorem flip_o {w m i : Nat} (h : i ≠ m) : (w ^^^ 2 ^ m).testBit i = w.testBit i := by
  rw [Nat.testBit_xor, Nat.testBit_two_pow]
  simp [Ne.symm h]
theorem trn_wf2 {m : Nat} (hw : WF c) (hm : m < cn c) : WF (setW c (cw c ^^^ 2 ^ m)) := by
  obtain ⟨h1, h2, h3, h4, h5, h6, h7⟩ := hw
  exact ⟨h1, h2, Nat.xor_lt_two_pow h3 (p2_lt hm), h4, h5, h6, h7⟩
theorem g_turnsOne (r : RowAt M 97 0 c) (hw : WF c) {m : Nat} (hm : m < cn c) : RETI G ad (d + 1) mX9_turnsOne [.ref (ad 96), .int (nI m)] (M, o) none (fun M' => RowAt M' 97 0 (t1C c m) ∧ KP (fun a => a == 97) M M') := by
  refine CM_of rfl (by decide) rfl (Nat.le_of_ble_eq_true rfl) rfl ?_
  have hn := hw.n
  have hk := hw.k
  have hw9 := hw.w9
  have hn9 := hw.n
  have hm9 : m < 9 := by omega
  refine e_aload_n (pc' := 1) dX9_turnsOne_0 rfl rfl rfl ?_
  refine e_iload_n (pc' := 2) dX9_turnsOne_1 rfl rfl rfl ?_
  refine e_iconst (pc' := 3) (v := nI 2) dX9_turnsOne_2 rfl (by decide) ?_
  refine e_iconst (pc' := 4) (v := nI 1) dX9_turnsOne_3 rfl (by decide) ?_
  refine e_aload_n (pc' := 5) dX9_turnsOne_4 rfl rfl rfl ?_
  refine e_iload_n (pc' := 6) dX9_turnsOne_5 rfl rfl rfl ?_
  refine e_iconst (pc' := 7) (v := nI 2) dX9_turnsOne_6 rfl (by decide) ?_
  have hb1 := tb_le (cw c) (m)
  refine r_V (pc' := 10) (m' := mX9_of) (As := [.int (nI m), .int (nI 2)]) (st := [.int (nI 1), .int (nI 2), .int (nI m), .ref (ad 96)]) (g_of2 (d := d) r hw (m := m) (by omega)) dX9_turnsOne_7 rfl rfl (Nat.le_of_ble_eq_true rfl) (fit_of (by omega) (by decide) (by decide) (by decide)) ml_X9_73 okX9_of rfl rfl (by decide) rfl ?_
  show EV _ _ _ _ _ 10 _ ([.int (nI (((cw c).testBit (m)).toNat)), .int (nI 1), .int (nI 2), .int (nI m), .ref (ad 96)]) _
  refine e_isubN (pc' := 11) dX9_turnsOne_10 rfl (by omega) ?_
  rw [show (nI (1 - (((cw c).testBit (m)).toNat))) = nI (((cw c ^^^ 2 ^ m).testBit m).toNat) from congrArg nI (flip_b _ _)]
  refine r_V (pc' := 14) (m' := mX9_lays) (As := [.int (nI m), .int (nI 2), .int (nI (((cw c ^^^ 2 ^ m).testBit m).toNat))]) (st := []) (g_lays2 (d := d) (m := m) (by omega) (nI (((cw c ^^^ 2 ^ m).testBit m).toNat))) dX9_turnsOne_11 rfl rfl (Nat.le_of_ble_eq_true rfl) (fit_of (by omega) (by decide) (by decide) (by decide)) ml_X9_89 okX9_lays rfl rfl (by decide) rfl ?_
  show EV _ _ _ _ _ 14 _ ([]) _
  refine e_aload_n (pc' := 15) dX9_turnsOne_14 rfl rfl rfl ?_
  refine e_iload_n (pc' := 16) dX9_turnsOne_15 rfl rfl rfl ?_
  refine e_iconst (pc' := 17) (v := nI 3) dX9_turnsOne_16 rfl (by decide) ?_
  refine e_aload_n (pc' := 18) dX9_turnsOne_17 rfl rfl rfl ?_
  refine e_iload_n (pc' := 19) dX9_turnsOne_18 rfl rfl rfl ?_
  refine e_iconst (pc' := 20) (v := nI 3) dX9_turnsOne_19 rfl (by decide) ?_
  refine r_V (pc' := 23) (m' := mX9_of) (As := [.int (nI m), .int (nI 3)]) (st := [.int (nI 3), .int (nI m), .ref (ad 96)]) (g_of3 (d := d) (r.sW (w := cw c ^^^ 2 ^ m) hn9 hm9 (fun i _ h => flip_o h)) (trn_wf2 hw hm) (m := m) hm) dX9_turnsOne_20 rfl rfl (Nat.le_of_ble_eq_true rfl) (fit_of (by omega) (by decide) (by decide) (by decide)) ml_X9_73 okX9_of rfl rfl (by decide) rfl ?_
  show EV _ _ _ _ _ 23 _ ([.int (ct c m), .int (nI 3), .int (nI m), .ref (ad 96)]) _
  refine e_iconst (pc' := 24) (v := nI 1) dX9_turnsOne_23 rfl (by decide) ?_
  refine e_iadd (pc' := 25) dX9_turnsOne_24 rfl ?_
  refine r_V (pc' := 28) (m' := mX9_lays) (As := [.int (nI m), .int (nI 3), .int ((ct c m) + (nI 1))]) (st := []) (g_lays3 (d := d) (m := m) (by omega) ((ct c m) + (nI 1))) dX9_turnsOne_25 rfl rfl (Nat.le_of_ble_eq_true rfl) (fit_of (by omega) (by decide) (by decide) (by decide)) ml_X9_89 okX9_lays rfl rfl (by decide) rfl ?_
  show EV _ _ _ _ _ 28 _ ([]) _
  refine e_aload_n (pc' := 29) dX9_turnsOne_28 rfl rfl rfl ?_
  refine p_gfr (pc' := 32) (a := 96) (k := 0) (t := 97) dX9_turnsOne_29 rfl rfl (by decide) (by decide) rfl fl_X9_7 ?_
  refine e_iconst (pc' := 33) (v := nI 2) dX9_turnsOne_32 rfl (by decide) ?_
  refine e_dup2 (pc' := 34) dX9_turnsOne_33 rfl rfl rfl ?_
  refine p_iald (pc' := 35) (a := 97) (k := 2) (x := ctt c) dX9_turnsOne_34 rfl (rfl) (rfl) (by omega) (by decide) (by rw [up2_k (by omega), up2_k (by omega)]; exact r.tt) ?_
  refine e_iconst (pc' := 36) (v := nI 1) dX9_turnsOne_35 rfl (by decide) ?_
  refine e_iadd (pc' := 37) dX9_turnsOne_36 rfl ?_
  refine p_iast (pc' := 38) (a := 97) (k := 2) dX9_turnsOne_37 rfl (rfl) (rfl) (by omega) (by decide) ?_
  exact e_vret dX9_turnsOne_38 rfl (MP.retI rfl ⟨(((r.sW (w := cw c ^^^ 2 ^ m) hn9 hm9 (fun i _ h => flip_o h)).sT hn9 hm9 (x := (ct c m) + (nI 1)))).sTT, ((KP.refl.up (by decide)).up (by decide)).up (by decide)⟩) (by decide) (by decide)
end T37

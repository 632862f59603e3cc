set_option maxHeartbeats 400000
/-! THE REFERENCE: its basic methods over its row -/
section ROW
variable {M : Nat → Nat → Int32} {c : Col} {m j : Nat}
theorem RowAt.up {b k : Nat} {x : Int32} {R : Nat} (h : RowAt M R 0 c) (hb : b ≠ R) : RowAt (up2 M b k x) R 0 c := by
  have e : up2 M b k x R = M R := up2_n (Ne.symm hb)
  unfold RowAt at h ⊢
  rw [e]
  exact h
theorem RowAt.kp {M' : Nat → Nat → Int32} {R o : Nat} {F : Nat → Bool} (h : RowAt M R o c) (hk : KP F M M') (hF : F R = false) : RowAt M' R o c := by
  unfold RowAt at h ⊢
  rw [hk R hF]
  exact h
theorem RowAt.n {R : Nat} (h : RowAt M R 0 c) : M R 0 = nI (cn c) := h.1
theorem RowAt.k {R : Nat} (h : RowAt M R 0 c) : M R 1 = nI (ck c) := h.2.1
theorem RowAt.tt {R : Nat} (h : RowAt M R 0 c) : M R 2 = ctt c := h.2.2.1
theorem RowAt.mm {R : Nat} (h : RowAt M R 0 c) : M R 3 = cmm c := h.2.2.2.1
theorem RowAt.q0 {R : Nat} (h : RowAt M R 0 c) (hm : m < cn c) : M R (4 + (4 * m) + 0) = nI (cp c m) := by have e := (h.2.2.2.2.1 m hm).1; rw [Nat.zero_add] at e; exact e
theorem RowAt.q1 {R : Nat} (h : RowAt M R 0 c) (hm : m < cn c) : M R (4 + (4 * m) + 1) = nI (cs c m) := by have e := (h.2.2.2.2.1 m hm).2.1; rw [show 0 + (5 + 4 * m) = 4 + (4 * m) + 1 by omega] at e; exact e
theorem RowAt.q2 {R : Nat} (h : RowAt M R 0 c) (hm : m < cn c) : M R (4 + (4 * m) + 2) = nI ((cw c).testBit m).toNat := by have e := (h.2.2.2.2.1 m hm).2.2.1; rw [show 0 + (6 + 4 * m) = 4 + (4 * m) + 2 by omega] at e; exact e
theorem RowAt.q3 {R : Nat} (h : RowAt M R 0 c) (hm : m < cn c) : M R (4 + (4 * m) + 3) = ct c m := by have e := (h.2.2.2.2.1 m hm).2.2.2; rw [show 0 + (7 + 4 * m) = 4 + (4 * m) + 3 by omega] at e; exact e
theorem RowAt.f {R : Nat} (h : RowAt M R 0 c) (hj : j < ck c) : M R (40 + (2 * j) + 0) = nI (cf c j) := by have e := (h.2.2.2.2.2 j hj).1; rw [show 0 + (40 + 2 * j) = 40 + (2 * j) + 0 by omega] at e; exact e
theorem RowAt.g {R : Nat} (h : RowAt M R 0 c) (hj : j < ck c) : M R (40 + (2 * j) + 1) = nI (cg c j) := by have e := (h.2.2.2.2.2 j hj).2; rw [show 0 + (41 + 2 * j) = 40 + (2 * j) + 1 by omega] at e; exact e
end ROW
section T30
variable {G : gC} {ad : Nat → Nat} {d : Nat} {M : Nat → Nat → Int32} {o : (Nat → Int64) × (Nat → UInt64)} {c : Col}
theorem tb_le (w m : Nat) : (w.testBit m).toNat ≤ 1 := by cases w.testBit m <;> decide
theorem g_thrown  : RET G ad d mX9_thrown [.ref (ad 96)] (M, o) (some (.int (M 96 8))) (M, o) := by
  refine CM_of rfl (by decide) rfl (Nat.le_of_ble_eq_true rfl) rfl ?_
  refine e_aload_n (pc' := 1) dX9_thrown_0 rfl rfl rfl ?_
  refine p_gfi (pc' := 4) (a := 96) (k := 8) (x := M 96 8) dX9_thrown_1 rfl (rfl) (by decide) (by decide) rfl fl_X9_36 (rfl) ?_
  exact e_iret dX9_thrown_4 rfl (MP.ret rfl rfl) (by decide) (by decide)
theorem g_fails {p : Nat} (hp : p < 10) : RET G ad d mX9_fails [.ref (ad 96), .int (nI p)] (M, o) (some (.int (bI (decide (0 < p))))) ((up2 (up2 M 96 8 (nI p)) 96 7 (nI 0)), o) := by
  refine CM_of rfl (by decide) rfl (Nat.le_of_ble_eq_true rfl) rfl ?_
  refine e_aload_n (pc' := 1) dX9_fails_0 rfl rfl rfl ?_
  refine e_iload_n (pc' := 2) dX9_fails_1 rfl rfl rfl ?_
  refine p_pfi (pc' := 5) (a := 96) (k := 8) dX9_fails_2 rfl (rfl) (by decide) (by decide) rfl fl_X9_36 rfl rfl ?_
  refine e_aload_n (pc' := 6) dX9_fails_5 rfl rfl rfl ?_
  refine e_iconst (pc' := 7) (v := nI 0) dX9_fails_6 rfl (by decide) ?_
  refine p_pfz (pc' := 10) (a := 96) (k := 7) dX9_fails_7 rfl (rfl) (by decide) (by decide) rfl fl_X9_39 rfl rfl (Or.inl rfl) ?_
  refine e_iload_n (pc' := 11) dX9_fails_10 rfl rfl rfl ?_
  refine e_if_leN (pc' := 14) (tgt := 18) dX9_fails_11 rfl (by decide) (by omega) (fun hz1 => ?_) (fun hz1 => ?_)
  · refine e_iconst (pc' := 19) (v := nI 0) dX9_fails_18 rfl (by decide) ?_
    exact e_zret (ty := .boolean) dX9_fails_19 rfl (rfl) (MP.ret (congrArg (fun z => some (Value.int z)) (by first | exact dec1 (by omega) | exact dec0 (by omega))) rfl) (by decide) (by decide)
  · refine e_iconst (pc' := 15) (v := nI 1) dX9_fails_14 rfl (by decide) ?_
    refine e_goto (tgt := 19) dX9_fails_15 (by decide) ?_
    exact e_zret (ty := .boolean) dX9_fails_19 rfl (rfl) (MP.ret (congrArg (fun z => some (Value.int z)) (by first | exact dec1 (by omega) | exact dec0 (by omega))) rfl) (by decide) (by decide)
theorem g_denies (p a : Nat) (b : Int32) : RET G ad d mX9_denies [.ref (ad 96), .int (nI p), .int (nI a), .int (b)] (M, o) (some (.int (nI 0))) ((up2 (up2 (up2 (up2 (up2 M 96 8 (nI p)) 96 7 (nI 1)) 96 9 (nI a)) 96 10 b) 96 11 (nI 0)), o) := by
  refine CM_of rfl (by decide) rfl (Nat.le_of_ble_eq_true rfl) rfl ?_
  refine e_aload_n (pc' := 1) dX9_denies_0 rfl rfl rfl ?_
  refine e_iload_n (pc' := 2) dX9_denies_1 rfl rfl rfl ?_
  refine p_pfi (pc' := 5) (a := 96) (k := 8) dX9_denies_2 rfl (rfl) (by decide) (by decide) rfl fl_X9_36 rfl rfl ?_
  refine e_aload_n (pc' := 6) dX9_denies_5 rfl rfl rfl ?_
  refine e_iconst (pc' := 7) (v := nI 1) dX9_denies_6 rfl (by decide) ?_
  refine p_pfz (pc' := 10) (a := 96) (k := 7) dX9_denies_7 rfl (rfl) (by decide) (by decide) rfl fl_X9_39 rfl rfl (Or.inr rfl) ?_
  refine e_aload_n (pc' := 11) dX9_denies_10 rfl rfl rfl ?_
  refine e_iload_n (pc' := 12) dX9_denies_11 rfl rfl rfl ?_
  refine p_pfi (pc' := 15) (a := 96) (k := 9) dX9_denies_12 rfl (rfl) (by decide) (by decide) rfl fl_X9_43 rfl rfl ?_
  refine e_aload_n (pc' := 16) dX9_denies_15 rfl rfl rfl ?_
  refine e_iload_n (pc' := 17) dX9_denies_16 rfl rfl rfl ?_
  refine p_pfi (pc' := 20) (a := 96) (k := 10) dX9_denies_17 rfl (rfl) (by decide) (by decide) rfl fl_X9_46 rfl rfl ?_
  refine e_aload_n (pc' := 21) dX9_denies_20 rfl rfl rfl ?_
  refine e_iconst (pc' := 22) (v := nI 0) dX9_denies_21 rfl (by decide) ?_
  refine p_pfi (pc' := 25) (a := 96) (k := 11) dX9_denies_22 rfl (rfl) (by decide) (by decide) rfl fl_X9_49 rfl rfl ?_
  refine e_iconst (pc' := 26) (v := nI 0) dX9_denies_25 rfl (by decide) ?_
  exact e_iret dX9_denies_26 rfl (MP.ret rfl rfl) (by decide) (by decide)
theorem g_in (x a b : Int32) : RET G ad d mX9_in [.int (x), .int (a), .int (b)] (M, o) (some (.int (bI (decide (a ≤ x ∧ x ≤ b))))) (M, o) := by
  refine CM_of rfl (by decide) rfl (Nat.le_of_ble_eq_true rfl) rfl ?_
  refine e_iload_n (pc' := 1) dX9_in_0 rfl rfl rfl ?_
  refine e_iload_n (pc' := 2) dX9_in_1 rfl rfl rfl ?_
  refine e_icmp_lt (pc' := 5) (tgt := 14) dX9_in_2 rfl (by decide) (fun hz1 => ?_) (fun hz1 => ?_)
  · refine e_iconst (pc' := 15) (v := nI 0) dX9_in_14 rfl (by decide) ?_
    exact e_zret (ty := .boolean) dX9_in_15 rfl (rfl) (MP.ret (congrArg (fun z => some (Value.int z)) (by first | exact dec1 (by grind) | exact dec0 (by grind))) rfl) (by decide) (by decide)
  · refine e_iload_n (pc' := 6) dX9_in_5 rfl rfl rfl ?_
    refine e_iload_n (pc' := 7) dX9_in_6 rfl rfl rfl ?_
    refine e_icmp_gt (pc' := 10) (tgt := 14) dX9_in_7 rfl (by decide) (fun hz2 => ?_) (fun hz2 => ?_)
    · refine e_iconst (pc' := 15) (v := nI 0) dX9_in_14 rfl (by decide) ?_
      exact e_zret (ty := .boolean) dX9_in_15 rfl (rfl) (MP.ret (congrArg (fun z => some (Value.int z)) (by first | exact dec1 (by grind) | exact dec0 (by grind))) rfl) (by decide) (by decide)
    · refine e_iconst (pc' := 11) (v := nI 1) dX9_in_10 rfl (by decide) ?_
      refine e_goto (tgt := 15) dX9_in_11 (by decide) ?_
      exact e_zret (ty := .boolean) dX9_in_15 rfl (rfl) (MP.ret (congrArg (fun z => some (Value.int z)) (by first | exact dec1 (by grind) | exact dec0 (by grind))) rfl) (by decide) (by decide)
theorem g_of0 (r : RowAt M 97 0 c) (hw : WF c) {m : Nat} (hm : m < cn c) : RET G ad d mX9_of [.ref (ad 96), .int (nI m), .int (nI 0)] (M, o) (some (.int (nI (cp c m)))) (M, o) := by
  refine CM_of rfl (by decide) rfl (Nat.le_of_ble_eq_true rfl) rfl ?_
  have hn := hw.n
  have hk := hw.k
  have hw9 := hw.w9
  refine e_aload_n (pc' := 1) dX9_of_0 rfl rfl rfl ?_
  refine p_gfr (pc' := 4) (a := 96) (k := 0) (t := 97) dX9_of_1 rfl rfl (by decide) (by decide) rfl fl_X9_7 ?_
  refine e_iconst (pc' := 5) (v := nI 4) dX9_of_4 rfl (by decide) ?_
  refine e_iconst (pc' := 6) (v := nI 4) dX9_of_5 rfl (by decide) ?_
  refine e_iload_n (pc' := 7) dX9_of_6 rfl rfl rfl ?_
  refine e_imulN (pc' := 8) dX9_of_7 rfl ?_
  refine e_iaddN (pc' := 9) dX9_of_8 rfl ?_
  refine e_iload_n (pc' := 10) dX9_of_9 rfl rfl rfl ?_
  refine e_iaddN (pc' := 11) dX9_of_10 rfl ?_
  refine p_iald (pc' := 12) (a := 97) (k := (4 + (4 * m)) + 0) (x := nI (cp c m)) dX9_of_11 rfl (rfl) (rfl) (by omega) (by decide) (r.q0 hm) ?_
  exact e_iret dX9_of_12 rfl (MP.ret rfl rfl) (by decide) (by decide)
theorem g_of1 (r : RowAt M 97 0 c) (hw : WF c) {m : Nat} (hm : m < cn c) : RET G ad d mX9_of [.ref (ad 96), .int (nI m), .int (nI 1)] (M, o) (some (.int (nI (cs c m)))) (M, o) := by
  refine CM_of rfl (by decide) rfl (Nat.le_of_ble_eq_true rfl) rfl ?_
  have hn := hw.n
  have hk := hw.k
  have hw9 := hw.w9
  refine e_aload_n (pc' := 1) dX9_of_0 rfl rfl rfl ?_
  refine p_gfr (pc' := 4) (a := 96) (k := 0) (t := 97) dX9_of_1 rfl rfl (by decide) (by decide) rfl fl_X9_7 ?_
  refine e_iconst (pc' := 5) (v := nI 4) dX9_of_4 rfl (by decide) ?_
  refine e_iconst (pc' := 6) (v := nI 4) dX9_of_5 rfl (by decide) ?_
  refine e_iload_n (pc' := 7) dX9_of_6 rfl rfl rfl ?_
  refine e_imulN (pc' := 8) dX9_of_7 rfl ?_
  refine e_iaddN (pc' := 9) dX9_of_8 rfl ?_
  refine e_iload_n (pc' := 10) dX9_of_9 rfl rfl rfl ?_
  refine e_iaddN (pc' := 11) dX9_of_10 rfl ?_
  refine p_iald (pc' := 12) (a := 97) (k := (4 + (4 * m)) + 1) (x := nI (cs c m)) dX9_of_11 rfl (rfl) (rfl) (by omega) (by decide) (r.q1 hm) ?_
  exact e_iret dX9_of_12 rfl (MP.ret rfl rfl) (by decide) (by decide)
theorem g_of2 (r : RowAt M 97 0 c) (hw : WF c) {m : Nat} (hm : m < cn c) : RET G ad d mX9_of [.ref (ad 96), .int (nI m), .int (nI 2)] (M, o) (some (.int (nI (((cw c).testBit m).toNat)))) (M, o) := by
  refine CM_of rfl (by decide) rfl (Nat.le_of_ble_eq_true rfl) rfl ?_
  have hn := hw.n
  have hk := hw.k
  have hw9 := hw.w9
  refine e_aload_n (pc' := 1) dX9_of_0 rfl rfl rfl ?_
  refine p_gfr (pc' := 4) (a := 96) (k := 0) (t := 97) dX9_of_1 rfl rfl (by decide) (by decide) rfl fl_X9_7 ?_
  refine e_iconst (pc' := 5) (v := nI 4) dX9_of_4 rfl (by decide) ?_
  refine e_iconst (pc' := 6) (v := nI 4) dX9_of_5 rfl (by decide) ?_
  refine e_iload_n (pc' := 7) dX9_of_6 rfl rfl rfl ?_
  refine e_imulN (pc' := 8) dX9_of_7 rfl ?_
  refine e_iaddN (pc' := 9) dX9_of_8 rfl ?_
  refine e_iload_n (pc' := 10) dX9_of_9 rfl rfl rfl ?_
  refine e_iaddN (pc' := 11) dX9_of_10 rfl ?_
  refine p_iald (pc' := 12) (a := 97) (k := (4 + (4 * m)) + 2) (x := nI (((cw c).testBit m).toNat)) dX9_of_11 rfl (rfl) (rfl) (by omega) (by decide) (r.q2 hm) ?_
  exact e_iret dX9_of_12 rfl (MP.ret rfl rfl) (by decide) (by decide)
theorem g_of3 (r : RowAt M 97 0 c) (hw : WF c) {m : Nat} (hm : m < cn c) : RET G ad d mX9_of [.ref (ad 96), .int (nI m), .int (nI 3)] (M, o) (some (.int (ct c m))) (M, o) := by
  refine CM_of rfl (by decide) rfl (Nat.le_of_ble_eq_true rfl) rfl ?_
  have hn := hw.n
  have hk := hw.k
  have hw9 := hw.w9
  refine e_aload_n (pc' := 1) dX9_of_0 rfl rfl rfl ?_
  refine p_gfr (pc' := 4) (a := 96) (k := 0) (t := 97) dX9_of_1 rfl rfl (by decide) (by decide) rfl fl_X9_7 ?_
  refine e_iconst (pc' := 5) (v := nI 4) dX9_of_4 rfl (by decide) ?_
  refine e_iconst (pc' := 6) (v := nI 4) dX9_of_5 rfl (by decide) ?_
  refine e_iload_n (pc' := 7) dX9_of_6 rfl rfl rfl ?_
  refine e_imulN (pc' := 8) dX9_of_7 rfl ?_
  refine e_iaddN (pc' := 9) dX9_of_8 rfl ?_
  refine e_iload_n (pc' := 10) dX9_of_9 rfl rfl rfl ?_
  refine e_iaddN (pc' := 11) dX9_of_10 rfl ?_
  refine p_iald (pc' := 12) (a := 97) (k := (4 + (4 * m)) + 3) (x := ct c m) dX9_of_11 rfl (rfl) (rfl) (by omega) (by decide) (r.q3 hm) ?_
  exact e_iret dX9_of_12 rfl (MP.ret rfl rfl) (by decide) (by decide)
theorem g_joins0 (r : RowAt M 97 0 c) (hw : WF c) {j : Nat} (hj : j < ck c) : RET G ad d mX9_joins [.ref (ad 96), .int (nI j), .int (nI 0)] (M, o) (some (.int (nI (cf c j)))) (M, o) := by
  refine CM_of rfl (by decide) rfl (Nat.le_of_ble_eq_true rfl) rfl ?_
  have hn := hw.n
  have hk := hw.k
  have hw9 := hw.w9
  refine e_aload_n (pc' := 1) dX9_joins_0 rfl rfl rfl ?_
  refine p_gfr (pc' := 4) (a := 96) (k := 0) (t := 97) dX9_joins_1 rfl rfl (by decide) (by decide) rfl fl_X9_7 ?_
  refine e_bipush (pc' := 6) (v := nI 40) dX9_joins_4 rfl (by decide) ?_
  refine e_iconst (pc' := 7) (v := nI 2) dX9_joins_6 rfl (by decide) ?_
  refine e_iload_n (pc' := 8) dX9_joins_7 rfl rfl rfl ?_
  refine e_imulN (pc' := 9) dX9_joins_8 rfl ?_
  refine e_iaddN (pc' := 10) dX9_joins_9 rfl ?_
  refine e_iload_n (pc' := 11) dX9_joins_10 rfl rfl rfl ?_
  refine e_iaddN (pc' := 12) dX9_joins_11 rfl ?_
  refine p_iald (pc' := 13) (a := 97) (k := (40 + (2 * j)) + 0) (x := nI (cf c j)) dX9_joins_12 rfl (rfl) (rfl) (by omega) (by decide) (r.f hj) ?_
  exact e_iret dX9_joins_13 rfl (MP.ret rfl rfl) (by decide) (by decide)
theorem g_joins1 (r : RowAt M 97 0 c) (hw : WF c) {j : Nat} (hj : j < ck c) : RET G ad d mX9_joins [.ref (ad 96), .int (nI j), .int (nI 1)] (M, o) (some (.int (nI (cg c j)))) (M, o) := by
  refine CM_of rfl (by decide) rfl (Nat.le_of_ble_eq_true rfl) rfl ?_
  have hn := hw.n
  have hk := hw.k
  have hw9 := hw.w9
  refine e_aload_n (pc' := 1) dX9_joins_0 rfl rfl rfl ?_
  refine p_gfr (pc' := 4) (a := 96) (k := 0) (t := 97) dX9_joins_1 rfl rfl (by decide) (by decide) rfl fl_X9_7 ?_
  refine e_bipush (pc' := 6) (v := nI 40) dX9_joins_4 rfl (by decide) ?_
  refine e_iconst (pc' := 7) (v := nI 2) dX9_joins_6 rfl (by decide) ?_
  refine e_iload_n (pc' := 8) dX9_joins_7 rfl rfl rfl ?_
  refine e_imulN (pc' := 9) dX9_joins_8 rfl ?_
  refine e_iaddN (pc' := 10) dX9_joins_9 rfl ?_
  refine e_iload_n (pc' := 11) dX9_joins_10 rfl rfl rfl ?_
  refine e_iaddN (pc' := 12) dX9_joins_11 rfl ?_
  refine p_iald (pc' := 13) (a := 97) (k := (40 + (2 * j)) + 1) (x := nI (cg c j)) dX9_joins_12 rfl (rfl) (rfl) (by omega) (by decide) (r.g hj) ?_
  exact e_iret dX9_joins_13 rfl (MP.ret rfl rfl) (by decide) (by decide)
theorem in_has {x : Int32} {n : Nat} (hn : n < 2 ^ 30) : decide (nI 0 ≤ x ∧ x ≤ nI n - nI 1) = decide (0 ≤ x ∧ x < nI n) := by
  apply decide_eq_decide.mpr
  constructor
  · rintro ⟨h1, h2⟩
    refine ⟨h1, ?_⟩
    by_cases h0 : n = 0
    · subst h0
      have h3 : (nI 0 : Int32) ≤ nI 0 - nI 1 := Int32.le_trans h1 h2
      exact absurd h3 (by decide)
    · rw [pk_sub (by omega : 1 ≤ n)] at h2
      exact Int32.lt_of_le_of_lt h2 (nI_lt (by omega) (by omega))
  · rintro ⟨h1, h2⟩
    obtain ⟨i, hi, rfl⟩ := in_nI (by omega) h1 h2
    refine ⟨h1, ?_⟩
    rw [pk_sub (by omega : 1 ≤ n)]
    exact (nI_leI (by omega) (by omega)).mpr (by omega)
theorem g_isMagnet (r : RowAt M 97 0 c) (hw : WF c) (x : Int32) : RET G ad (d + 1) mX9_isMagnet [.ref (ad 96), .int (x)] (M, o) (some (.int (bI (hasM c x)))) (M, o) := by
  refine CM_of rfl (by decide) rfl (Nat.le_of_ble_eq_true rfl) rfl ?_
  have hn := hw.n
  have hk := hw.k
  have hw9 := hw.w9
  refine e_iload_n (pc' := 1) dX9_isMagnet_0 rfl rfl rfl ?_
  refine e_iconst (pc' := 2) (v := nI 0) dX9_isMagnet_1 rfl (by decide) ?_
  refine e_aload_n (pc' := 3) dX9_isMagnet_2 rfl rfl rfl ?_
  refine p_gfr (pc' := 6) (a := 96) (k := 0) (t := 97) dX9_isMagnet_3 rfl rfl (by decide) (by decide) rfl fl_X9_7 ?_
  refine e_iconst (pc' := 7) (v := nI 0) dX9_isMagnet_6 rfl (by decide) ?_
  refine p_iald (pc' := 8) (a := 97) (k := 0) (x := nI (cn c)) dX9_isMagnet_7 rfl (rfl) (rfl) (by omega) (by decide) (r.n) ?_
  refine e_iconst (pc' := 9) (v := nI 1) dX9_isMagnet_8 rfl (by decide) ?_
  refine e_isub (pc' := 10) dX9_isMagnet_9 rfl ?_
  refine r_S (pc' := 13) (m' := mX9_in) (As := [.int (x), .int (nI 0), .int ((nI (cn c)) - (nI 1))]) (st := []) (g_in (d := d) (x) (nI 0) ((nI (cn c)) - (nI 1))) dX9_isMagnet_10 rfl rfl (Nat.le_of_ble_eq_true rfl) (fit_of (by omega) (by decide) (by decide) (by decide)) ml_X9_62 okX9_in rfl rfl ?_
  show EV _ _ _ _ _ 13 _ ([.int (bI (decide ((nI 0) ≤ (x) ∧ (x) ≤ ((nI (cn c)) - (nI 1)))))]) _
  exact e_zret (ty := .boolean) dX9_isMagnet_13 rfl (by cases (decide (nI 0 ≤ x ∧ x ≤ nI (cn c) - nI 1)) <;> rfl) (MP.ret (congrArg (fun z => some (Value.int z)) (congrArg bI (in_has (by omega)))) rfl) (by decide) (by decide)
theorem g_isTunnel (r : RowAt M 97 0 c) (hw : WF c) (x : Int32) : RET G ad (d + 1) mX9_isTunnel [.ref (ad 96), .int (x)] (M, o) (some (.int (bI (hasT c x)))) (M, o) := by
  refine CM_of rfl (by decide) rfl (Nat.le_of_ble_eq_true rfl) rfl ?_
  have hn := hw.n
  have hk := hw.k
  have hw9 := hw.w9
  refine e_iload_n (pc' := 1) dX9_isTunnel_0 rfl rfl rfl ?_
  refine e_iconst (pc' := 2) (v := nI 0) dX9_isTunnel_1 rfl (by decide) ?_
  refine e_aload_n (pc' := 3) dX9_isTunnel_2 rfl rfl rfl ?_
  refine p_gfr (pc' := 6) (a := 96) (k := 0) (t := 97) dX9_isTunnel_3 rfl rfl (by decide) (by decide) rfl fl_X9_7 ?_
  refine e_iconst (pc' := 7) (v := nI 1) dX9_isTunnel_6 rfl (by decide) ?_
  refine p_iald (pc' := 8) (a := 97) (k := 1) (x := nI (ck c)) dX9_isTunnel_7 rfl (rfl) (rfl) (by omega) (by decide) (r.k) ?_
  refine e_iconst (pc' := 9) (v := nI 1) dX9_isTunnel_8 rfl (by decide) ?_
  refine e_isub (pc' := 10) dX9_isTunnel_9 rfl ?_
  refine r_S (pc' := 13) (m' := mX9_in) (As := [.int (x), .int (nI 0), .int ((nI (ck c)) - (nI 1))]) (st := []) (g_in (d := d) (x) (nI 0) ((nI (ck c)) - (nI 1))) dX9_isTunnel_10 rfl rfl (Nat.le_of_ble_eq_true rfl) (fit_of (by omega) (by decide) (by decide) (by decide)) ml_X9_62 okX9_in rfl rfl ?_
  show EV _ _ _ _ _ 13 _ ([.int (bI (decide ((nI 0) ≤ (x) ∧ (x) ≤ ((nI (ck c)) - (nI 1)))))]) _
  exact e_zret (ty := .boolean) dX9_isTunnel_13 rfl (by cases (decide (nI 0 ≤ x ∧ x ≤ nI (ck c) - nI 1)) <;> rfl) (MP.ret (congrArg (fun z => some (Value.int z)) (congrArg bI (in_has (by omega)))) rfl) (by decide) (by decide)
theorem gl_found (r : RowAt M 97 0 c) (hw : WF c) (q : Int32) : ∀ i, i ≤ cn c → (∀ j, j < i → ¬ nI (cp c j) = q) → ER G ad (d + 1) mX9_found (0, 0) (PR (some (.int (oI (mOn c q)))) (M, o)) (0, 0) 2 [some (.ref (ad 96)), some (.int (q)), some (.int (nI i))] [] (M, o) := down (cn c) _ (fun i hi ih hj => by
  have hn := hw.n
  have hk := hw.k
  have hw9 := hw.w9
  refine e_iload_n (pc' := 3) dX9_found_2 rfl rfl rfl ?_
  refine e_aload_n (pc' := 4) dX9_found_3 rfl rfl rfl ?_
  refine p_gfr (pc' := 7) (a := 96) (k := 0) (t := 97) dX9_found_4 rfl rfl (by decide) (by decide) rfl fl_X9_7 ?_
  refine e_iconst (pc' := 8) (v := nI 0) dX9_found_7 rfl (by decide) ?_
  refine p_iald (pc' := 9) (a := 97) (k := 0) (x := nI (cn c)) dX9_found_8 rfl (rfl) (rfl) (by omega) (by decide) (r.n) ?_
  refine e_icmp_geN (pc' := 12) (tgt := 30) dX9_found_9 rfl (by decide) (by omega) (by omega) (fun hz1 => ?_) (fun hz1 => ?_)
  · refine e_iconst (pc' := 31) (v := (-1)) dX9_found_30 rfl (by decide) ?_
    exact e_iret dX9_found_31 rfl (MP.ret (congrArg (fun z => some (Value.int z)) (congrArg oI (fnd_none (fun j hj2 => decide_eq_false (hj j (by omega)))).symm)) rfl) (by decide) (by decide)
  · refine e_aload_n (pc' := 13) dX9_found_12 rfl rfl rfl ?_
    refine e_iload_n (pc' := 14) dX9_found_13 rfl rfl rfl ?_
    refine e_iconst (pc' := 15) (v := nI 0) dX9_found_14 rfl (by decide) ?_
    have hb1 := hw.p (i := i) (by omega)
    refine r_V (pc' := 18) (m' := mX9_of) (As := [.int (nI i), .int (nI 0)]) (st := []) (g_of0 (d := d) r hw (m := i) (by omega)) dX9_found_15 rfl rfl (Nat.le_of_ble_eq_true rfl) (fit_of (by omega) (by decide) (by decide) (by decide)) ml_X9_73 okX9_of rfl rfl (by decide) rfl ?_
    show EV _ _ _ _ _ 18 _ ([.int (nI (cp c (i)))]) _
    refine e_iload_n (pc' := 19) dX9_found_18 rfl rfl rfl ?_
    refine e_icmp_ne (pc' := 22) (tgt := 24) dX9_found_19 rfl (by decide) (fun h1 => ?_) (fun h1 => ?_)
    · refine e_iincN (pc' := 27) (k := 1) (L' := [some (.ref (ad 96)), some (.int (q)), some (.int (nI (i + 1)))]) dX9_found_24 rfl rfl rfl (by decide) rfl ?_
      refine e_goto (tgt := 2) dX9_found_27 (by decide) ?_
      exact ih (by omega) (fun j hj2 => by by_cases e : j = i; rw [e]; exact h1; exact hj j (by omega))
    · refine e_iload_n (pc' := 23) dX9_found_22 rfl rfl rfl ?_
      exact e_iret dX9_found_23 rfl (MP.ret (congrArg (fun z => some (Value.int z)) (congrArg oI (fnd_some (by omega) (fun j hj2 => decide_eq_false (hj j hj2)) (decide_eq_true (by assumption))).symm)) rfl) (by decide) (by decide))
theorem g_found (r : RowAt M 97 0 c) (hw : WF c) (q : Int32) : RET G ad (d + 1) mX9_found [.ref (ad 96), .int (q)] (M, o) (some (.int (oI (mOn c q)))) (M, o) := by
  refine CM_of rfl (by decide) rfl (Nat.le_of_ble_eq_true rfl) rfl ?_
  have hn := hw.n
  have hk := hw.k
  have hw9 := hw.w9
  refine e_iconst (pc' := 1) (v := nI 0) dX9_found_0 rfl (by decide) ?_
  refine e_istore_n (pc' := 2) (L' := [some (.ref (ad 96)), some (.int (q)), some (.int (nI 0))]) dX9_found_1 rfl rfl (by decide) rfl ?_
  exact gl_found r hw q 0 (by omega) (fun j hj => by omega)
theorem free_eq {w : Nat} {a b m1 m2 : Nat} : ((b.testBit m1).toNat + (w / 2 ^ m1 &&& 1)) % 2 = ((b.testBit m2).toNat + (w / 2 ^ m2 &&& 1)) % 2 ↔ (b ^^^ w).testBit m1 = (b ^^^ w).testBit m2 := by
  rw [Nat.and_one_is_mod, Nat.and_one_is_mod, Nat.testBit_xor, Nat.testBit_xor]
  have e : ∀ m, w / 2 ^ m % 2 = (w.testBit m).toNat := fun m => (Nat.toNat_testBit w m).symm
  rw [e, e]
  cases b.testBit m1 <;> cases b.testBit m2 <;> cases w.testBit m1 <;> cases w.testBit m2 <;> decide
theorem g_isFree (r : RowAt M 97 0 c) (hw : WF c) {w j : Nat} (hj : j < ck c) (hw2 : w < 512) : RET G ad (d + 1) mX9_isFree [.ref (ad 96), .int (nI j), .int (nI w)] (M, o) (some (.int (bI (!blk c (cw c ^^^ w) j)))) (M, o) := by
  refine CM_of rfl (by decide) rfl (Nat.le_of_ble_eq_true rfl) rfl ?_
  have hn := hw.n
  have hk := hw.k
  have hw9 := hw.w9
  refine e_aload_n (pc' := 1) dX9_isFree_0 rfl rfl rfl ?_
  refine e_iload_n (pc' := 2) dX9_isFree_1 rfl rfl rfl ?_
  refine e_iconst (pc' := 3) (v := nI 0) dX9_isFree_2 rfl (by decide) ?_
  have hb1 := hw.f (j := j) (by omega)
  refine r_V (pc' := 6) (m' := mX9_joins) (As := [.int (nI j), .int (nI 0)]) (st := []) (g_joins0 (d := d) r hw (j := j) (by omega)) dX9_isFree_3 rfl rfl (Nat.le_of_ble_eq_true rfl) (fit_of (by omega) (by decide) (by decide) (by decide)) ml_X9_115 okX9_joins rfl rfl (by decide) rfl ?_
  show EV _ _ _ _ _ 6 _ ([.int (nI (cf c (j)))]) _
  refine e_istore_n (pc' := 7) (L' := [some (.ref (ad 96)), some (.int (nI j)), some (.int (nI w)), some (.int (nI (cf c (j)))), none]) dX9_isFree_6 rfl rfl (by decide) rfl ?_
  refine e_aload_n (pc' := 8) dX9_isFree_7 rfl rfl rfl ?_
  refine e_iload_n (pc' := 9) dX9_isFree_8 rfl rfl rfl ?_
  refine e_iconst (pc' := 10) (v := nI 1) dX9_isFree_9 rfl (by decide) ?_
  have hb2 := hw.g (j := j) (by omega)
  refine r_V (pc' := 13) (m' := mX9_joins) (As := [.int (nI j), .int (nI 1)]) (st := []) (g_joins1 (d := d) r hw (j := j) (by omega)) dX9_isFree_10 rfl rfl (Nat.le_of_ble_eq_true rfl) (fit_of (by omega) (by decide) (by decide) (by decide)) ml_X9_115 okX9_joins rfl rfl (by decide) rfl ?_
  show EV _ _ _ _ _ 13 _ ([.int (nI (cg c (j)))]) _
  refine e_istore (pc' := 15) (L' := [some (.ref (ad 96)), some (.int (nI j)), some (.int (nI w)), some (.int (nI (cf c (j)))), some (.int (nI (cg c (j))))]) dX9_isFree_13 rfl (by decide) rfl ?_
  refine e_aload_n (pc' := 16) dX9_isFree_15 rfl rfl rfl ?_
  refine e_iload_n (pc' := 17) dX9_isFree_16 rfl rfl rfl ?_
  refine e_iconst (pc' := 18) (v := nI 2) dX9_isFree_17 rfl (by decide) ?_
  have hb3 := tb_le (cw c) (cf c (j))
  refine r_V (pc' := 21) (m' := mX9_of) (As := [.int (nI (cf c (j))), .int (nI 2)]) (st := []) (g_of2 (d := d) r hw (m := cf c (j)) (by omega)) dX9_isFree_18 rfl rfl (Nat.le_of_ble_eq_true rfl) (fit_of (by omega) (by decide) (by decide) (by decide)) ml_X9_73 okX9_of rfl rfl (by decide) rfl ?_
  show EV _ _ _ _ _ 21 _ ([.int (nI (((cw c).testBit (cf c (j))).toNat))]) _
  refine e_iload_n (pc' := 22) dX9_isFree_21 rfl rfl rfl ?_
  refine e_iload_n (pc' := 23) dX9_isFree_22 rfl rfl rfl ?_
  refine e_ishrN (pc' := 24) dX9_isFree_23 rfl (by first | omega | (have h8 : ∀ m, (w / 2 ^ m &&& 1) ≤ 1 := fun m => Nat.and_le_right; have h9 := h8 (cf c j); have h10 := h8 (cg c j); omega)) (by first | omega | (have h8 : ∀ m, (w / 2 ^ m &&& 1) ≤ 1 := fun m => Nat.and_le_right; have h9 := h8 (cf c j); have h10 := h8 (cg c j); omega)) ?_
  refine e_iconst (pc' := 25) (v := nI 1) dX9_isFree_24 rfl (by decide) ?_
  refine e_iandN (pc' := 26) dX9_isFree_25 rfl ?_
  refine e_iaddN (pc' := 27) dX9_isFree_26 rfl ?_
  refine e_iconst (pc' := 28) (v := nI 2) dX9_isFree_27 rfl (by decide) ?_
  refine e_iremN (pc' := 29) dX9_isFree_28 rfl (by first | omega | (have h8 : ∀ m, (w / 2 ^ m &&& 1) ≤ 1 := fun m => Nat.and_le_right; have h9 := h8 (cf c j); have h10 := h8 (cg c j); omega)) (by decide) (by decide) ?_
  refine e_aload_n (pc' := 30) dX9_isFree_29 rfl rfl rfl ?_
  refine e_iload (pc' := 32) dX9_isFree_30 rfl rfl ?_
  refine e_iconst (pc' := 33) (v := nI 2) dX9_isFree_32 rfl (by decide) ?_
  have hb4 := tb_le (cw c) (cg c (j))
  refine r_V (pc' := 36) (m' := mX9_of) (As := [.int (nI (cg c (j))), .int (nI 2)]) (st := [.int (nI (((((cw c).testBit (cf c (j))).toNat) + ((w / 2 ^ (cf c (j))) &&& 1)) % 2))]) (g_of2 (d := d) r hw (m := cg c (j)) (by omega)) dX9_isFree_33 rfl rfl (Nat.le_of_ble_eq_true rfl) (fit_of (by omega) (by decide) (by decide) (by decide)) ml_X9_73 okX9_of rfl rfl (by decide) rfl ?_
  show EV _ _ _ _ _ 36 _ ([.int (nI (((cw c).testBit (cg c (j))).toNat)), .int (nI (((((cw c).testBit (cf c (j))).toNat) + ((w / 2 ^ (cf c (j))) &&& 1)) % 2))]) _
  refine e_iload_n (pc' := 37) dX9_isFree_36 rfl rfl rfl ?_
  refine e_iload (pc' := 39) dX9_isFree_37 rfl rfl ?_
  refine e_ishrN (pc' := 40) dX9_isFree_39 rfl (by first | omega | (have h8 : ∀ m, (w / 2 ^ m &&& 1) ≤ 1 := fun m => Nat.and_le_right; have h9 := h8 (cf c j); have h10 := h8 (cg c j); omega)) (by first | omega | (have h8 : ∀ m, (w / 2 ^ m &&& 1) ≤ 1 := fun m => Nat.and_le_right; have h9 := h8 (cf c j); have h10 := h8 (cg c j); omega)) ?_
  refine e_iconst (pc' := 41) (v := nI 1) dX9_isFree_40 rfl (by decide) ?_
  refine e_iandN (pc' := 42) dX9_isFree_41 rfl ?_
  refine e_iaddN (pc' := 43) dX9_isFree_42 rfl ?_
  refine e_iconst (pc' := 44) (v := nI 2) dX9_isFree_43 rfl (by decide) ?_
  refine e_iremN (pc' := 45) dX9_isFree_44 rfl (by first | omega | (have h8 : ∀ m, (w / 2 ^ m &&& 1) ≤ 1 := fun m => Nat.and_le_right; have h9 := h8 (cf c j); have h10 := h8 (cg c j); omega)) (by decide) (by decide) ?_
  refine e_icmp_eqN (pc' := 48) (tgt := 52) dX9_isFree_45 rfl (by decide) (by first | omega | (have h8 : ∀ m, (w / 2 ^ m &&& 1) ≤ 1 := fun m => Nat.and_le_right; have h9 := h8 (cf c j); have h10 := h8 (cg c j); omega)) (by first | omega | (have h8 : ∀ m, (w / 2 ^ m &&& 1) ≤ 1 := fun m => Nat.and_le_right; have h9 := h8 (cf c j); have h10 := h8 (cg c j); omega)) (fun h1 => ?_) (fun h1 => ?_)
  · refine e_iconst (pc' := 53) (v := nI 0) dX9_isFree_52 rfl (by decide) ?_
    exact e_zret (ty := .boolean) dX9_isFree_53 rfl (rfl) (MP.ret (congrArg (fun z => some (Value.int z)) (by unfold blk; first | exact bI1 (by rw [Bool.not_eq_true', beq_eq_false_iff_ne]; exact fun q => h1 ((free_eq (a := 0) (b := cw c)).mpr q)) | exact bI0 (by rw [Bool.not_eq_false', beq_iff_eq]; exact (free_eq (a := 0) (b := cw c)).mp h1))) rfl) (by decide) (by decide)
  · refine e_iconst (pc' := 49) (v := nI 1) dX9_isFree_48 rfl (by decide) ?_
    refine e_goto (tgt := 53) dX9_isFree_49 (by decide) ?_
    exact e_zret (ty := .boolean) dX9_isFree_53 rfl (rfl) (MP.ret (congrArg (fun z => some (Value.int z)) (by unfold blk; first | exact bI1 (by rw [Bool.not_eq_true', beq_eq_false_iff_ne]; exact fun q => h1 ((free_eq (a := 0) (b := cw c)).mpr q)) | exact bI0 (by rw [Bool.not_eq_false', beq_iff_eq]; exact (free_eq (a := 0) (b := cw c)).mp h1))) rfl) (by decide) (by decide)
end T30

set_option maxHeartbeats 400000
/-! THE REFERENCE: counting -/
section T31
variable {G : gC} {ad : Nat → Nat} {d : Nat} {M : Nat → Nat → Int32} {o : (Nat → Int64) × (Nat → UInt64)} {c : Col}
theorem gl_shut (r : RowAt M 97 0 c) (hw : WF c) {w : Nat} (hw2 : w < 512) : ∀ i, i ≤ ck c → ER G ad (d + 2) mX9_shut (0, 0) (PR (some (.int (nI (blkN c (cw c ^^^ w))))) (M, o)) (0, 0) 4 [some (.ref (ad 96)), some (.int (nI w)), some (.int (nI (cnt (blk c (cw c ^^^ w)) i))), some (.int (nI i))] [] (M, o) := down (ck c) _ (fun i hi ih  => by
  have hn := hw.n
  have hk := hw.k
  have hw9 := hw.w9
  refine e_iload_n (pc' := 5) dX9_shut_4 rfl rfl rfl ?_
  refine e_aload_n (pc' := 6) dX9_shut_5 rfl rfl rfl ?_
  refine p_gfr (pc' := 9) (a := 96) (k := 0) (t := 97) dX9_shut_6 rfl rfl (by decide) (by decide) rfl fl_X9_7 ?_
  refine e_iconst (pc' := 10) (v := nI 1) dX9_shut_9 rfl (by decide) ?_
  refine p_iald (pc' := 11) (a := 97) (k := 1) (x := nI (ck c)) dX9_shut_10 rfl (rfl) (rfl) (by omega) (by decide) (r.k) ?_
  refine e_icmp_geN (pc' := 14) (tgt := 37) dX9_shut_11 rfl (by decide) (by omega) (by omega) (fun hz1 => ?_) (fun hz1 => ?_)
  · refine e_iload_n (pc' := 38) dX9_shut_37 rfl rfl rfl ?_
    exact e_iret dX9_shut_38 rfl (MP.ret (congrArg (fun z => some (Value.int z)) (by rw [show i = ck c by omega]; rfl)) rfl) (by decide) (by decide)
  · refine e_iload_n (pc' := 15) dX9_shut_14 rfl rfl rfl ?_
    refine e_aload_n (pc' := 16) dX9_shut_15 rfl rfl rfl ?_
    refine e_iload_n (pc' := 17) dX9_shut_16 rfl rfl rfl ?_
    refine e_iload_n (pc' := 18) dX9_shut_17 rfl rfl rfl ?_
    refine r_V (pc' := 21) (m' := mX9_isFree) (As := [.int (nI i), .int (nI w)]) (st := [.int (nI (cnt (blk c (cw c ^^^ w)) i))]) (g_isFree (d := d) r hw (j := i) (w := w) (by omega) (by omega)) dX9_shut_18 rfl rfl (Nat.le_of_ble_eq_true rfl) (fit_of (by omega) (by decide) (by decide) (by decide)) ml_X9_118 okX9_isFree rfl rfl (by decide) rfl ?_
    show EV _ _ _ _ _ 21 _ ([.int (bI (!blk c (cw c ^^^ w) i)), .int (nI (cnt (blk c (cw c ^^^ w)) i))]) _
    refine e_if_eqB (pc' := 24) (tgt := 28) dX9_shut_21 rfl (by decide) (fun h1 => ?_) (fun h1 => ?_)
    · refine e_iconst (pc' := 29) (v := nI 1) dX9_shut_28 rfl (by decide) ?_
      refine e_iaddN (pc' := 30) dX9_shut_29 rfl ?_
      refine e_istore_n (pc' := 31) (L' := [some (.ref (ad 96)), some (.int (nI w)), some (.int (nI ((cnt (blk c (cw c ^^^ w)) i) + 1))), some (.int (nI i))]) dX9_shut_30 rfl rfl (by decide) rfl ?_
      refine e_iincN (pc' := 34) (k := 1) (L' := [some (.ref (ad 96)), some (.int (nI w)), some (.int (nI ((cnt (blk c (cw c ^^^ w)) i) + 1))), some (.int (nI (i + 1)))]) dX9_shut_31 rfl rfl rfl (by decide) rfl ?_
      refine e_goto (tgt := 4) dX9_shut_34 (by decide) ?_
      rw [← cnt_1 (P := blk c (cw c ^^^ w)) (by simpa using h1)]
      exact ih (by omega)
    · refine e_iconst (pc' := 25) (v := nI 0) dX9_shut_24 rfl (by decide) ?_
      refine e_goto (tgt := 29) dX9_shut_25 (by decide) ?_
      refine e_iaddN (pc' := 30) dX9_shut_29 rfl ?_
      refine e_istore_n (pc' := 31) (L' := [some (.ref (ad 96)), some (.int (nI w)), some (.int (nI ((cnt (blk c (cw c ^^^ w)) i) + 0))), some (.int (nI i))]) dX9_shut_30 rfl rfl (by decide) rfl ?_
      refine e_iincN (pc' := 34) (k := 1) (L' := [some (.ref (ad 96)), some (.int (nI w)), some (.int (nI ((cnt (blk c (cw c ^^^ w)) i) + 0))), some (.int (nI (i + 1)))]) dX9_shut_31 rfl rfl rfl (by decide) rfl ?_
      refine e_goto (tgt := 4) dX9_shut_34 (by decide) ?_
      rw [← cnt_0 (P := blk c (cw c ^^^ w)) (by simpa using h1)]
      exact ih (by omega))
theorem g_shut (r : RowAt M 97 0 c) (hw : WF c) {w : Nat} (hw2 : w < 512) : RET G ad (d + 2) mX9_shut [.ref (ad 96), .int (nI w)] (M, o) (some (.int (nI (blkN c (cw c ^^^ w))))) (M, o) := by
  refine CM_of rfl (by decide) rfl (Nat.le_of_ble_eq_true rfl) rfl ?_
  have hn := hw.n
  have hk := hw.k
  have hw9 := hw.w9
  refine e_iconst (pc' := 1) (v := nI 0) dX9_shut_0 rfl (by decide) ?_
  refine e_istore_n (pc' := 2) (L' := [some (.ref (ad 96)), some (.int (nI w)), some (.int (nI 0)), none]) dX9_shut_1 rfl rfl (by decide) rfl ?_
  refine e_iconst (pc' := 3) (v := nI 0) dX9_shut_2 rfl (by decide) ?_
  refine e_istore_n (pc' := 4) (L' := [some (.ref (ad 96)), some (.int (nI w)), some (.int (nI 0)), some (.int (nI 0))]) dX9_shut_3 rfl rfl (by decide) rfl ?_
  exact gl_shut r hw hw2 0 (by omega)
theorem oEnd_iff {j a b : Nat} (hw : WF c) (hj : j < ck c) : oEnd c j a = some b ↔ (cf c j = a ∧ cg c j = b ∨ cf c j = b ∧ cg c j = a) := by
  have h := hw.fg hj
  unfold oEnd
  by_cases h1 : cf c j = a
  · rw [if_pos h1]
    constructor
    · intro e; cases e; exact Or.inl ⟨h1, rfl⟩
    · rintro (⟨_, e⟩ | ⟨e1, e2⟩)
      · rw [e]
      · exact absurd (h1.trans e2.symm) h
  · rw [if_neg h1]
    by_cases h2 : cg c j = a
    · rw [if_pos h2]
      constructor
      · intro e; cases e; exact Or.inr ⟨rfl, h2⟩
      · rintro (⟨e, _⟩ | ⟨e1, _⟩)
        · exact absurd e h1
        · rw [e1]
    · rw [if_neg h2]
      constructor
      · intro e; cases e
      · rintro (⟨e, _⟩ | ⟨_, e⟩)
        · exact absurd e h1
        · exact absurd e h2
theorem gl_between (r : RowAt M 97 0 c) (hw : WF c) {a b : Nat} (ha : a < cn c) (hb : b < cn c) : ∀ i, i ≤ ck c → (∀ j, j < i → ¬ oEnd c j a = some b) → ER G ad (d + 1) mX9_between (0, 0) (PR (some (.int (oI (tBet c a b)))) (M, o)) (0, 0) 2 [some (.ref (ad 96)), some (.int (nI a)), some (.int (nI b)), some (.int (nI i))] [] (M, o) := down (ck c) _ (fun i hi ih hj => by
  have hn := hw.n
  have hk := hw.k
  have hw9 := hw.w9
  refine e_iload_n (pc' := 3) dX9_between_2 rfl rfl rfl ?_
  refine e_aload_n (pc' := 4) dX9_between_3 rfl rfl rfl ?_
  refine p_gfr (pc' := 7) (a := 96) (k := 0) (t := 97) dX9_between_4 rfl rfl (by decide) (by decide) rfl fl_X9_7 ?_
  refine e_iconst (pc' := 8) (v := nI 1) dX9_between_7 rfl (by decide) ?_
  refine p_iald (pc' := 9) (a := 97) (k := 1) (x := nI (ck c)) dX9_between_8 rfl (rfl) (rfl) (by omega) (by decide) (r.k) ?_
  refine e_icmp_geN (pc' := 12) (tgt := 60) dX9_between_9 rfl (by decide) (by omega) (by omega) (fun hz1 => ?_) (fun hz1 => ?_)
  · refine e_iconst (pc' := 61) (v := (-1)) dX9_between_60 rfl (by decide) ?_
    exact e_iret dX9_between_61 rfl (MP.ret (congrArg (fun z => some (Value.int z)) (congrArg oI (fnd_none (fun j hj2 => decide_eq_false (hj j (by omega)))).symm)) rfl) (by decide) (by decide)
  · refine e_aload_n (pc' := 13) dX9_between_12 rfl rfl rfl ?_
    refine e_iload_n (pc' := 14) dX9_between_13 rfl rfl rfl ?_
    refine e_iconst (pc' := 15) (v := nI 0) dX9_between_14 rfl (by decide) ?_
    have hb1 := hw.f (j := i) (by omega)
    refine r_V (pc' := 18) (m' := mX9_joins) (As := [.int (nI i), .int (nI 0)]) (st := []) (g_joins0 (d := d) r hw (j := i) (by omega)) dX9_between_15 rfl rfl (Nat.le_of_ble_eq_true rfl) (fit_of (by omega) (by decide) (by decide) (by decide)) ml_X9_115 okX9_joins rfl rfl (by decide) rfl ?_
    show EV _ _ _ _ _ 18 _ ([.int (nI (cf c (i)))]) _
    refine e_iload_n (pc' := 19) dX9_between_18 rfl rfl rfl ?_
    refine e_icmp_neN (pc' := 22) (tgt := 32) dX9_between_19 rfl (by decide) (by omega) (by omega) (fun hz2 => ?_) (fun hz2 => ?_)
    · refine e_aload_n (pc' := 33) dX9_between_32 rfl rfl rfl ?_
      refine e_iload_n (pc' := 34) dX9_between_33 rfl rfl rfl ?_
      refine e_iconst (pc' := 35) (v := nI 0) dX9_between_34 rfl (by decide) ?_
      have hb2 := hw.f (j := i) (by omega)
      refine r_V (pc' := 38) (m' := mX9_joins) (As := [.int (nI i), .int (nI 0)]) (st := []) (g_joins0 (d := d) r hw (j := i) (by omega)) dX9_between_35 rfl rfl (Nat.le_of_ble_eq_true rfl) (fit_of (by omega) (by decide) (by decide) (by decide)) ml_X9_115 okX9_joins rfl rfl (by decide) rfl ?_
      show EV _ _ _ _ _ 38 _ ([.int (nI (cf c (i)))]) _
      refine e_iload_n (pc' := 39) dX9_between_38 rfl rfl rfl ?_
      refine e_icmp_neN (pc' := 42) (tgt := 54) dX9_between_39 rfl (by decide) (by omega) (by omega) (fun hz3 => ?_) (fun hz3 => ?_)
      · refine e_iincN (pc' := 57) (k := 1) (L' := [some (.ref (ad 96)), some (.int (nI a)), some (.int (nI b)), some (.int (nI (i + 1)))]) dX9_between_54 rfl rfl rfl (by decide) rfl ?_
        refine e_goto (tgt := 2) dX9_between_57 (by decide) ?_
        exact ih (by omega) (fun j hj2 => by by_cases e : j = i; rw [e]; rw [oEnd_iff hw (by omega)]; omega; exact hj j (by omega))
      · refine e_aload_n (pc' := 43) dX9_between_42 rfl rfl rfl ?_
        refine e_iload_n (pc' := 44) dX9_between_43 rfl rfl rfl ?_
        refine e_iconst (pc' := 45) (v := nI 1) dX9_between_44 rfl (by decide) ?_
        have hb3 := hw.g (j := i) (by omega)
        refine r_V (pc' := 48) (m' := mX9_joins) (As := [.int (nI i), .int (nI 1)]) (st := []) (g_joins1 (d := d) r hw (j := i) (by omega)) dX9_between_45 rfl rfl (Nat.le_of_ble_eq_true rfl) (fit_of (by omega) (by decide) (by decide) (by decide)) ml_X9_115 okX9_joins rfl rfl (by decide) rfl ?_
        show EV _ _ _ _ _ 48 _ ([.int (nI (cg c (i)))]) _
        refine e_iload_n (pc' := 49) dX9_between_48 rfl rfl rfl ?_
        refine e_icmp_neN (pc' := 52) (tgt := 54) dX9_between_49 rfl (by decide) (by omega) (by omega) (fun hz4 => ?_) (fun hz4 => ?_)
        · refine e_iincN (pc' := 57) (k := 1) (L' := [some (.ref (ad 96)), some (.int (nI a)), some (.int (nI b)), some (.int (nI (i + 1)))]) dX9_between_54 rfl rfl rfl (by decide) rfl ?_
          refine e_goto (tgt := 2) dX9_between_57 (by decide) ?_
          exact ih (by omega) (fun j hj2 => by by_cases e : j = i; rw [e]; rw [oEnd_iff hw (by omega)]; omega; exact hj j (by omega))
        · refine e_iload_n (pc' := 53) dX9_between_52 rfl rfl rfl ?_
          exact e_iret dX9_between_53 rfl (MP.ret (congrArg (fun z => some (Value.int z)) (congrArg oI (fnd_some (by omega) (fun j hj2 => decide_eq_false (hj j hj2)) (decide_eq_true ((oEnd_iff hw (by omega)).mpr (by omega)))).symm)) rfl) (by decide) (by decide)
    · refine e_aload_n (pc' := 23) dX9_between_22 rfl rfl rfl ?_
      refine e_iload_n (pc' := 24) dX9_between_23 rfl rfl rfl ?_
      refine e_iconst (pc' := 25) (v := nI 1) dX9_between_24 rfl (by decide) ?_
      have hb4 := hw.g (j := i) (by omega)
      refine r_V (pc' := 28) (m' := mX9_joins) (As := [.int (nI i), .int (nI 1)]) (st := []) (g_joins1 (d := d) r hw (j := i) (by omega)) dX9_between_25 rfl rfl (Nat.le_of_ble_eq_true rfl) (fit_of (by omega) (by decide) (by decide) (by decide)) ml_X9_115 okX9_joins rfl rfl (by decide) rfl ?_
      show EV _ _ _ _ _ 28 _ ([.int (nI (cg c (i)))]) _
      refine e_iload_n (pc' := 29) dX9_between_28 rfl rfl rfl ?_
      refine e_icmp_eqN (pc' := 32) (tgt := 52) dX9_between_29 rfl (by decide) (by omega) (by omega) (fun hz5 => ?_) (fun hz5 => ?_)
      · refine e_iload_n (pc' := 53) dX9_between_52 rfl rfl rfl ?_
        exact e_iret dX9_between_53 rfl (MP.ret (congrArg (fun z => some (Value.int z)) (congrArg oI (fnd_some (by omega) (fun j hj2 => decide_eq_false (hj j hj2)) (decide_eq_true ((oEnd_iff hw (by omega)).mpr (by omega)))).symm)) rfl) (by decide) (by decide)
      · refine e_aload_n (pc' := 33) dX9_between_32 rfl rfl rfl ?_
        refine e_iload_n (pc' := 34) dX9_between_33 rfl rfl rfl ?_
        refine e_iconst (pc' := 35) (v := nI 0) dX9_between_34 rfl (by decide) ?_
        have hb5 := hw.f (j := i) (by omega)
        refine r_V (pc' := 38) (m' := mX9_joins) (As := [.int (nI i), .int (nI 0)]) (st := []) (g_joins0 (d := d) r hw (j := i) (by omega)) dX9_between_35 rfl rfl (Nat.le_of_ble_eq_true rfl) (fit_of (by omega) (by decide) (by decide) (by decide)) ml_X9_115 okX9_joins rfl rfl (by decide) rfl ?_
        show EV _ _ _ _ _ 38 _ ([.int (nI (cf c (i)))]) _
        refine e_iload_n (pc' := 39) dX9_between_38 rfl rfl rfl ?_
        refine e_icmp_neN (pc' := 42) (tgt := 54) dX9_between_39 rfl (by decide) (by omega) (by omega) (fun hz6 => ?_) (fun hz6 => ?_)
        · refine e_iincN (pc' := 57) (k := 1) (L' := [some (.ref (ad 96)), some (.int (nI a)), some (.int (nI b)), some (.int (nI (i + 1)))]) dX9_between_54 rfl rfl rfl (by decide) rfl ?_
          refine e_goto (tgt := 2) dX9_between_57 (by decide) ?_
          exact ih (by omega) (fun j hj2 => by by_cases e : j = i; rw [e]; rw [oEnd_iff hw (by omega)]; omega; exact hj j (by omega))
        · refine e_aload_n (pc' := 43) dX9_between_42 rfl rfl rfl ?_
          refine e_iload_n (pc' := 44) dX9_between_43 rfl rfl rfl ?_
          refine e_iconst (pc' := 45) (v := nI 1) dX9_between_44 rfl (by decide) ?_
          have hb6 := hw.g (j := i) (by omega)
          refine r_V (pc' := 48) (m' := mX9_joins) (As := [.int (nI i), .int (nI 1)]) (st := []) (g_joins1 (d := d) r hw (j := i) (by omega)) dX9_between_45 rfl rfl (Nat.le_of_ble_eq_true rfl) (fit_of (by omega) (by decide) (by decide) (by decide)) ml_X9_115 okX9_joins rfl rfl (by decide) rfl ?_
          show EV _ _ _ _ _ 48 _ ([.int (nI (cg c (i)))]) _
          refine e_iload_n (pc' := 49) dX9_between_48 rfl rfl rfl ?_
          refine e_icmp_neN (pc' := 52) (tgt := 54) dX9_between_49 rfl (by decide) (by omega) (by omega) (fun hz7 => ?_) (fun hz7 => ?_)
          · refine e_iincN (pc' := 57) (k := 1) (L' := [some (.ref (ad 96)), some (.int (nI a)), some (.int (nI b)), some (.int (nI (i + 1)))]) dX9_between_54 rfl rfl rfl (by decide) rfl ?_
            refine e_goto (tgt := 2) dX9_between_57 (by decide) ?_
            exact ih (by omega) (fun j hj2 => by by_cases e : j = i; rw [e]; rw [oEnd_iff hw (by omega)]; omega; exact hj j (by omega))
          · refine e_iload_n (pc' := 53) dX9_between_52 rfl rfl rfl ?_
            exact e_iret dX9_between_53 rfl (MP.ret (congrArg (fun z => some (Value.int z)) (congrArg oI (fnd_some (by omega) (fun j hj2 => decide_eq_false (hj j hj2)) (decide_eq_true ((oEnd_iff hw (by omega)).mpr (by omega)))).symm)) rfl) (by decide) (by decide))
theorem g_between (r : RowAt M 97 0 c) (hw : WF c) {a b : Nat} (ha : a < cn c) (hb : b < cn c) : RET G ad (d + 1) mX9_between [.ref (ad 96), .int (nI a), .int (nI b)] (M, o) (some (.int (oI (tBet c a b)))) (M, o) := by
  refine CM_of rfl (by decide) rfl (Nat.le_of_ble_eq_true rfl) rfl ?_
  have hn := hw.n
  have hk := hw.k
  have hw9 := hw.w9
  refine e_iconst (pc' := 1) (v := nI 0) dX9_between_0 rfl (by decide) ?_
  refine e_istore_n (pc' := 2) (L' := [some (.ref (ad 96)), some (.int (nI a)), some (.int (nI b)), some (.int (nI 0))]) dX9_between_1 rfl rfl (by decide) rfl ?_
  exact gl_between r hw ha hb 0 (by omega) (fun j hj => by omega)
theorem bit_add (w i : Nat) : cnt (w.testBit) (i + 1) = cnt (w.testBit) i + (w / 2 ^ i &&& 1) := by
  rw [Nat.and_one_is_mod, ← Nat.toNat_testBit]
  show cnt _ i + (if w.testBit i = true then 1 else 0) = _
  cases w.testBit i <;> rfl
theorem gl_bits {w : Nat} (hw2 : w < 512) : ∀ i, i ≤ 9 → ER G ad d mX9_bits (0, 0) (PR (some (.int (nI (pop w)))) (M, o)) (0, 0) 4 [some (.int (nI w)), some (.int (nI (cnt (w.testBit) i))), some (.int (nI i))] [] (M, o) := down (9) _ (fun i hi ih  => by
  refine e_iload_n (pc' := 5) dX9_bits_4 rfl rfl rfl ?_
  refine e_bipush (pc' := 7) (v := nI 9) dX9_bits_5 rfl (by decide) ?_
  refine e_icmp_geN (pc' := 10) (tgt := 24) dX9_bits_7 rfl (by decide) (by omega) (by omega) (fun hz1 => ?_) (fun hz1 => ?_)
  · refine e_iload_n (pc' := 25) dX9_bits_24 rfl rfl rfl ?_
    exact e_iret dX9_bits_25 rfl (MP.ret (congrArg (fun z => some (Value.int z)) (by rw [show i = 9 by omega]; rfl)) rfl) (by decide) (by decide)
  · refine e_iload_n (pc' := 11) dX9_bits_10 rfl rfl rfl ?_
    refine e_iload_n (pc' := 12) dX9_bits_11 rfl rfl rfl ?_
    refine e_iload_n (pc' := 13) dX9_bits_12 rfl rfl rfl ?_
    refine e_ishrN (pc' := 14) dX9_bits_13 rfl (by omega) (by omega) ?_
    refine e_iconst (pc' := 15) (v := nI 1) dX9_bits_14 rfl (by decide) ?_
    refine e_iandN (pc' := 16) dX9_bits_15 rfl ?_
    refine e_iaddN (pc' := 17) dX9_bits_16 rfl ?_
    refine e_istore_n (pc' := 18) (L' := [some (.int (nI w)), some (.int (nI ((cnt (w.testBit) i) + ((w / 2 ^ i) &&& 1)))), some (.int (nI i))]) dX9_bits_17 rfl rfl (by decide) rfl ?_
    refine e_iincN (pc' := 21) (k := 1) (L' := [some (.int (nI w)), some (.int (nI ((cnt (w.testBit) i) + ((w / 2 ^ i) &&& 1)))), some (.int (nI (i + 1)))]) dX9_bits_18 rfl rfl rfl (by decide) rfl ?_
    refine e_goto (tgt := 4) dX9_bits_21 (by decide) ?_
    rw [← bit_add]
    exact ih (by omega))
theorem g_bits {w : Nat} (hw2 : w < 512) : RET G ad d mX9_bits [.int (nI w)] (M, o) (some (.int (nI (pop w)))) (M, o) := by
  refine CM_of rfl (by decide) rfl (Nat.le_of_ble_eq_true rfl) rfl ?_
  refine e_iconst (pc' := 1) (v := nI 0) dX9_bits_0 rfl (by decide) ?_
  refine e_istore_n (pc' := 2) (L' := [some (.int (nI w)), some (.int (nI 0)), none]) dX9_bits_1 rfl rfl (by decide) rfl ?_
  refine e_iconst (pc' := 3) (v := nI 0) dX9_bits_2 rfl (by decide) ?_
  refine e_istore_n (pc' := 4) (L' := [some (.int (nI w)), some (.int (nI 0)), some (.int (nI 0))]) dX9_bits_3 rfl rfl (by decide) rfl ?_
  exact gl_bits hw2 0 (by omega)
end T31

set_option maxHeartbeats 400000
/-! THE REFERENCE: the line -/
def wnL (n : Nat) : List Nat := if n < 10 then [48 + n] else [48 + n / 10, 48 + n % 10]
def mst (c : Col) (m j : Nat) (l : List Nat) : List Nat := match oEnd c j m with
  | none => l
  | some x => l ++ [if blk c (cw c) j then 35 else 61] ++ wnL x
def mln (c : Col) (m : Nat) : List Nat := iter (mst c m) (ck c) (wnL m ++ [64] ++ wnL (cp c m) ++ [sgn c m] ++ wnL (cs c m))
theorem wn_len (n : Nat) : (wnL n).length ≤ 2 := by unfold wnL; split <;> simp
theorem mst_len {c : Col} {m j : Nat} {l : List Nat} : (mst c m j l).length ≤ l.length + 3 := by
  unfold mst
  split
  · omega
  · rename_i x _
    have := wn_len x
    simp only [List.length_append, List.length_cons, List.length_nil]
    omega
theorem mln_run {c : Col} {m k : Nat} {l : List Nat} : (iter (mst c m) k l).length ≤ l.length + 3 * k := by
  induction k with
  | zero => exact Nat.le_refl _
  | succ k ih =>
    have := mst_len (c := c) (m := m) (j := k) (l := iter (mst c m) k l)
    show (mst c m k (iter (mst c m) k l)).length ≤ _
    omega
/-- the line in the making -/
def LB (l : List Nat) (M0 M : Nat → Nat → Int32) : Prop := LnR M l ∧ (∀ j, j ≠ 16 → M 96 j = M0 96 j) ∧ KP (fun x => x == 96 || x == 102) M0 M
section T58
variable {G : gC} {ad : Nat → Nat} {d : Nat} {M M0 : Nat → Nat → Int32} {o : (Nat → Int64) × (Nat → UInt64)} {c : Col} {l : List Nat} {v n : Nat}
theorem LB.add (h : LB l M0 M) {v : Nat} {M1 : Nat → Nat → Int32} (e : M1 = up2 (up2 M 102 l.length (nI v)) 96 16 (nI (l.length + 1))) : LB (l ++ [v]) M0 M1 := by
  obtain ⟨⟨h1, h2⟩, h3, h4⟩ := h
  subst e
  refine ⟨⟨by rw [up2_s, List.length_append]; rfl, fun i hi => ?_⟩, fun j hj => by rw [up2_k hj, up2_n (by decide)]; exact h3 j hj, (h4.up (by decide)).up (by decide)⟩
  rw [List.length_append] at hi
  have hi : i < l.length + 1 := hi
  rw [up2_n (show (102 : Nat) ≠ 96 by decide)]
  by_cases e : i = l.length
  · subst e
    rw [up2_s, List.getD_eq_getElem?_getD, List.getElem?_append_right (Nat.le_refl _), Nat.sub_self]; rfl
  · rw [up2_k e, h2 i (by omega), List.getD_eq_getElem?_getD, List.getD_eq_getElem?_getD, List.getElem?_append_left (by omega)]
theorem LB.row (h : LB l M0 M) (r : RowAt M0 97 0 c) : RowAt M 97 0 c := r.kp h.2.2 (by decide)
theorem g_writes (hB : LB l M0 M) (hl : l.length < 60) (hv : v < 65536) : RETI G ad (d + 1) mX9_writes [.ref (ad 96), .int (nI v)] (M, o) none (fun M' => LB (l ++ [v]) M0 M') := by
  refine CM_of rfl (by decide) rfl (Nat.le_of_ble_eq_true rfl) rfl ?_
  refine e_aload_n (pc' := 1) dX9_writes_0 rfl rfl rfl ?_
  refine p_gfr (pc' := 4) (a := 96) (k := 15) (t := 102) dX9_writes_1 rfl rfl (by decide) (by decide) rfl fl_X9_29 ?_
  refine e_aload_n (pc' := 5) dX9_writes_4 rfl rfl rfl ?_
  refine p_gfi (pc' := 8) (a := 96) (k := 16) (x := nI (l.length)) dX9_writes_5 rfl (rfl) (by decide) (by decide) rfl fl_X9_246 (hB.1.1) ?_
  refine e_iload_n (pc' := 9) dX9_writes_8 rfl rfl rfl ?_
  refine e_i2c (pc' := 10) dX9_writes_9 rfl ?_
  rw [show (((nI v).toUInt32 % 65536).toInt32) = nI v from i2c_nI hv]
  refine p_cast (pc' := 11) (a := 102) (k := l.length) dX9_writes_10 rfl (rfl) (rfl) (by omega) (by decide) (nar_nI hv) ?_
  refine e_aload_n (pc' := 12) dX9_writes_11 rfl rfl rfl ?_
  refine e_dup (pc' := 13) dX9_writes_12 rfl rfl ?_
  refine p_gfi (pc' := 16) (a := 96) (k := 16) (x := nI (l.length)) dX9_writes_13 rfl (rfl) (by decide) (by decide) rfl fl_X9_246 (by rw [up2_n (by decide)]; exact hB.1.1) ?_
  refine e_iconst (pc' := 17) (v := nI 1) dX9_writes_16 rfl (by decide) ?_
  refine e_iaddN (pc' := 18) dX9_writes_17 rfl ?_
  refine p_pfi (pc' := 21) (a := 96) (k := 16) dX9_writes_18 rfl (rfl) (by decide) (by decide) rfl fl_X9_246 rfl rfl ?_
  exact e_vret dX9_writes_21 rfl (MP.retI rfl (hB.add rfl)) (by decide) (by decide)
theorem wn_1 (h : n < 10) : wnL n = [48 + n % 10] := by unfold wnL; rw [if_pos h, Nat.mod_eq_of_lt h]
theorem wn_2 (h : ¬ n < 10) (h2 : n < 100) : wnL n = wnL (n / 10) ++ [48 + n % 10] := by
  have e : wnL (n / 10) = [48 + n / 10] := by unfold wnL; rw [if_pos (by omega)]
  rw [e]; unfold wnL; rw [if_neg h]; rfl
theorem g_wn1 (hB : LB l M0 M) (hl : l.length < 60) (hn : n < 10) : RETI G ad (d + 2) mX9_writesNumber [.ref (ad 96), .int (nI n)] (M, o) none (fun M' => LB (l ++ wnL n) M0 M') := by
  refine CM_of rfl (by decide) rfl (Nat.le_of_ble_eq_true rfl) rfl ?_
  refine e_iload_n (pc' := 1) dX9_writesNumber_0 rfl rfl rfl ?_
  refine e_bipush (pc' := 3) (v := nI 9) dX9_writesNumber_1 rfl (by decide) ?_
  refine e_icmp_leN (pc' := 6) (tgt := 14) dX9_writesNumber_3 rfl (by decide) (by omega) (by omega) (fun hz1 => ?_) (fun hz1 => absurd hz1 (by omega))
  refine e_aload_n (pc' := 15) dX9_writesNumber_14 rfl rfl rfl ?_
  refine e_bipush (pc' := 17) (v := nI 48) dX9_writesNumber_15 rfl (by decide) ?_
  refine e_iload_n (pc' := 18) dX9_writesNumber_17 rfl rfl rfl ?_
  refine e_bipush (pc' := 20) (v := nI 10) dX9_writesNumber_18 rfl (by decide) ?_
  refine e_iremN (pc' := 21) dX9_writesNumber_20 rfl (by omega) (by decide) (by decide) ?_
  refine e_iaddN (pc' := 22) dX9_writesNumber_21 rfl ?_
  refine r_VI (pc' := 25) (m' := mX9_writes) (As := [.int (nI (48 + (n % 10)))]) (st := []) (g_writes (d := d) (v := 48 + (n % 10)) hB (by omega) (by omega)) dX9_writesNumber_22 rfl rfl (Nat.le_of_ble_eq_true rfl) (fit_of (by omega) (by decide) (by decide) (by decide)) ml_X9_252 okX9_writes rfl rfl (by decide) rfl (fun M22 b22 => ?_)
  show EV _ _ _ _ _ 25 _ ([]) _
  exact e_vret dX9_writesNumber_25 rfl (MP.retI rfl (by rw [wn_1 hn]; exact b22)) (by decide) (by decide)
theorem g_wn2 (hB : LB l M0 M) (hl : l.length < 58) (hn : ¬ n < 10) (hn2 : n < 100) : RETI G ad (d + 3) mX9_writesNumber [.ref (ad 96), .int (nI n)] (M, o) none (fun M' => LB (l ++ wnL n) M0 M') := by
  refine CM_of rfl (by decide) rfl (Nat.le_of_ble_eq_true rfl) rfl ?_
  have hw9 := wn_len (n / 10)
  refine e_iload_n (pc' := 1) dX9_writesNumber_0 rfl rfl rfl ?_
  refine e_bipush (pc' := 3) (v := nI 9) dX9_writesNumber_1 rfl (by decide) ?_
  refine e_icmp_leN (pc' := 6) (tgt := 14) dX9_writesNumber_3 rfl (by decide) (by first | omega | (simp only [List.length_append]; omega)) (by first | omega | (simp only [List.length_append]; omega)) (fun hz1 => absurd hz1 (by omega)) (fun hz1 => ?_)
  refine e_aload_n (pc' := 7) dX9_writesNumber_6 rfl rfl rfl ?_
  refine e_iload_n (pc' := 8) dX9_writesNumber_7 rfl rfl rfl ?_
  refine e_bipush (pc' := 10) (v := nI 10) dX9_writesNumber_8 rfl (by decide) ?_
  refine e_idivN (pc' := 11) dX9_writesNumber_10 rfl (by first | omega | (simp only [List.length_append]; omega)) (by decide) (by decide) ?_
  refine r_VI (pc' := 14) (m' := mX9_writesNumber) (As := [.int (nI (n / 10))]) (st := []) (g_wn1 (d := d) (n := n / 10) hB (by omega) (by omega)) dX9_writesNumber_11 rfl rfl (Nat.le_of_ble_eq_true rfl) (fit_of (by omega) (by decide) (by decide) (by decide)) ml_X9_249 okX9_writesNumber rfl rfl (by decide) rfl (fun M11 b11 => ?_)
  show EV _ _ _ _ _ 14 _ ([]) _
  refine e_aload_n (pc' := 15) dX9_writesNumber_14 rfl rfl rfl ?_
  refine e_bipush (pc' := 17) (v := nI 48) dX9_writesNumber_15 rfl (by decide) ?_
  refine e_iload_n (pc' := 18) dX9_writesNumber_17 rfl rfl rfl ?_
  refine e_bipush (pc' := 20) (v := nI 10) dX9_writesNumber_18 rfl (by decide) ?_
  refine e_iremN (pc' := 21) dX9_writesNumber_20 rfl (by first | omega | (simp only [List.length_append]; omega)) (by decide) (by decide) ?_
  refine e_iaddN (pc' := 22) dX9_writesNumber_21 rfl ?_
  refine r_VI (pc' := 25) (m' := mX9_writes) (As := [.int (nI (48 + (n % 10)))]) (st := []) (g_writes (d := d) (v := 48 + (n % 10)) b11 (by first | omega | (simp only [List.length_append]; omega)) (by omega)) dX9_writesNumber_22 rfl rfl (Nat.le_of_ble_eq_true rfl) (fit_of (by omega) (by decide) (by decide) (by decide)) ml_X9_252 okX9_writes rfl rfl (by decide) rfl (fun M22 b22 => ?_)
  show EV _ _ _ _ _ 25 _ ([]) _
  exact e_vret dX9_writesNumber_25 rfl (MP.retI rfl (by rw [wn_2 hn hn2, ← List.append_assoc]; exact b22)) (by decide) (by decide)
theorem g_wn (hB : LB l M0 M) (hl : l.length < 58) (hn2 : n < 100) : RETI G ad (d + 3) mX9_writesNumber [.ref (ad 96), .int (nI n)] (M, o) none (fun M' => LB (l ++ wnL n) M0 M') := by
  by_cases h : n < 10
  · exact g_wn1 (d := d + 1) hB (by omega) h
  · exact g_wn2 hB hl h hn2
theorem g_wb (hB : LB l M0 M) (hl : l.length < 57) (hv : v < 65536) (hn2 : n < 100) : RETI G ad (d + 4) mX9_writesBehind [.ref (ad 96), .int (nI v), .int (nI n)] (M, o) none (fun M' => LB (l ++ [v] ++ wnL n) M0 M') := by
  refine CM_of rfl (by decide) rfl (Nat.le_of_ble_eq_true rfl) rfl ?_
  refine e_aload_n (pc' := 1) dX9_writesBehind_0 rfl rfl rfl ?_
  refine e_iload_n (pc' := 2) dX9_writesBehind_1 rfl rfl rfl ?_
  refine r_VI (pc' := 5) (m' := mX9_writes) (As := [.int (nI v)]) (st := []) (g_writes (d := d) (v := v) hB (by first | omega | (simp only [List.length_append, List.length_cons, List.length_nil]; omega)) (by omega)) dX9_writesBehind_2 rfl rfl (Nat.le_of_ble_eq_true rfl) (fit_of (by omega) (by decide) (by decide) (by decide)) ml_X9_252 okX9_writes rfl rfl (by decide) rfl (fun M2 b2 => ?_)
  show EV _ _ _ _ _ 5 _ ([]) _
  refine e_aload_n (pc' := 6) dX9_writesBehind_5 rfl rfl rfl ?_
  refine e_iload_n (pc' := 7) dX9_writesBehind_6 rfl rfl rfl ?_
  refine r_VI (pc' := 10) (m' := mX9_writesNumber) (As := [.int (nI n)]) (st := []) (g_wn (d := d) (n := n) b2 (by first | omega | (simp only [List.length_append, List.length_cons, List.length_nil]; omega)) (by omega)) dX9_writesBehind_7 rfl rfl (Nat.le_of_ble_eq_true rfl) (fit_of (by omega) (by decide) (by decide) (by decide)) ml_X9_249 okX9_writesNumber rfl rfl (by decide) rfl (fun M7 b7 => ?_)
  show EV _ _ _ _ _ 10 _ ([]) _
  exact e_vret dX9_writesBehind_10 rfl (MP.retI rfl b7) (by decide) (by decide)
theorem oEnd_t {j m : Nat} (hw : WF c) (hj : j < ck c) : (cf c j = m → oEnd c j m = some (cg c j)) ∧ (cg c j = m → oEnd c j m = some (cf c j)) ∧ (¬ cf c j = m → ¬ cg c j = m → oEnd c j m = none) := by
  have h := hw.fg hj
  unfold oEnd
  refine ⟨fun e => if_pos e, fun e => ?_, fun e1 e2 => ?_⟩
  · rw [if_neg (fun q => h (q.trans e.symm)), if_pos e]
  · rw [if_neg e1, if_neg e2]
theorem gl_wmP {M1 : Nat → Nat → Int32} (hw : WF c) (r0 : RowAt M1 97 0 c) {m : Nat} (hm : m < cn c) {P : PM} (hP : ∀ M, LB (mln c m) M1 M → P (.inl (some (.int (nI (mln c m).length)))) (M, o)) : ∀ i, i ≤ ck c → ∀ (M : Nat → Nat → Int32), LB (iter (mst c m) i (wnL m ++ [64] ++ wnL (cp c m) ++ [sgn c m] ++ wnL (cs c m))) M1 M → ER G ad (d + 5) mX9_writeMagnet (0, 0) (P) (0, 0) 49 [some (.ref (ad 96)), some (.int (nI m)), some (.int (nI i)), none, none] [] (M, o) := down (ck c) _ (fun i hi ih M g1 => by
  have hn := hw.n
  have hk := hw.k
  have hw9 := hw.w9
  have hl9 := mln_run (c := c) (m := m) (k := i) (l := (wnL m ++ [64] ++ wnL (cp c m) ++ [sgn c m] ++ wnL (cs c m)))
  have w1 := wn_len m
  have w2 := wn_len (cp c m)
  have w3 := wn_len (cs c m)
  refine e_iload_n (pc' := 50) dX9_writeMagnet_49 rfl rfl rfl ?_
  refine e_aload_n (pc' := 51) dX9_writeMagnet_50 rfl rfl rfl ?_
  refine p_gfr (pc' := 54) (a := 96) (k := 0) (t := 97) dX9_writeMagnet_51 rfl rfl (by decide) (by decide) rfl fl_X9_7 ?_
  refine e_iconst (pc' := 55) (v := nI 1) dX9_writeMagnet_54 rfl (by decide) ?_
  refine p_iald (pc' := 56) (a := 97) (k := 1) (x := nI (ck c)) dX9_writeMagnet_55 rfl (rfl) (rfl) (by first | omega | (simp only [List.length_append, List.length_cons, List.length_nil] at hl9 ⊢; omega)) (by decide) ((g1.row r0).k) ?_
  refine e_icmp_geN (pc' := 59) (tgt := 122) dX9_writeMagnet_56 rfl (by decide) (by first | omega | (simp only [List.length_append, List.length_cons, List.length_nil] at hl9 ⊢; omega)) (by first | omega | (simp only [List.length_append, List.length_cons, List.length_nil] at hl9 ⊢; omega)) (fun hzz => ?_) (fun hzz => ?_)
  · refine e_aload_n (pc' := 123) dX9_writeMagnet_122 rfl rfl rfl ?_
    refine p_gfi (pc' := 126) (a := 96) (k := 16) (x := nI ((iter (mst c m) i (wnL m ++ [64] ++ wnL (cp c m) ++ [sgn c m] ++ wnL (cs c m))).length)) dX9_writeMagnet_123 rfl (rfl) (by decide) (by decide) rfl fl_X9_246 (g1.1.1) ?_
    exact e_iret dX9_writeMagnet_126 rfl (by
      obtain rfl : i = ck c := by omega
      exact ⟨_, rfl, hP _ g1⟩) (by decide) (by decide)
  · refine e_aload_n (pc' := 60) dX9_writeMagnet_59 rfl rfl rfl ?_
    refine e_iload_n (pc' := 61) dX9_writeMagnet_60 rfl rfl rfl ?_
    refine e_iconst (pc' := 62) (v := nI 0) dX9_writeMagnet_61 rfl (by decide) ?_
    have hb1 := hw.f (j := i) (by omega)
    refine r_V (pc' := 65) (m' := mX9_joins) (As := [.int (nI i), .int (nI 0)]) (st := []) (g_joins0 (d := d) (g1.row r0) hw (j := i) (by omega)) dX9_writeMagnet_62 rfl rfl (Nat.le_of_ble_eq_true rfl) (fit_of (by omega) (by decide) (by decide) (by decide)) ml_X9_115 okX9_joins rfl rfl (by decide) rfl ?_
    show EV _ _ _ _ _ 65 _ ([.int (nI (cf c (i)))]) _
    refine e_istore_n (pc' := 66) (L' := [some (.ref (ad 96)), some (.int (nI m)), some (.int (nI i)), some (.int (nI (cf c (i)))), none]) dX9_writeMagnet_65 rfl rfl (by decide) rfl ?_
    refine e_aload_n (pc' := 67) dX9_writeMagnet_66 rfl rfl rfl ?_
    refine e_iload_n (pc' := 68) dX9_writeMagnet_67 rfl rfl rfl ?_
    refine e_iconst (pc' := 69) (v := nI 1) dX9_writeMagnet_68 rfl (by decide) ?_
    have hb2 := hw.g (j := i) (by omega)
    refine r_V (pc' := 72) (m' := mX9_joins) (As := [.int (nI i), .int (nI 1)]) (st := []) (g_joins1 (d := d) (g1.row r0) hw (j := i) (by omega)) dX9_writeMagnet_69 rfl rfl (Nat.le_of_ble_eq_true rfl) (fit_of (by omega) (by decide) (by decide) (by decide)) ml_X9_115 okX9_joins rfl rfl (by decide) rfl ?_
    show EV _ _ _ _ _ 72 _ ([.int (nI (cg c (i)))]) _
    refine e_istore (pc' := 74) (L' := [some (.ref (ad 96)), some (.int (nI m)), some (.int (nI i)), some (.int (nI (cf c (i)))), some (.int (nI (cg c (i))))]) dX9_writeMagnet_72 rfl (by decide) rfl ?_
    refine e_iload_n (pc' := 75) dX9_writeMagnet_74 rfl rfl rfl ?_
    refine e_iload_n (pc' := 76) dX9_writeMagnet_75 rfl rfl rfl ?_
    refine e_icmp_eqN (pc' := 79) (tgt := 85) dX9_writeMagnet_76 rfl (by decide) (by first | omega | (simp only [List.length_append, List.length_cons, List.length_nil] at hl9 ⊢; omega)) (by first | omega | (simp only [List.length_append, List.length_cons, List.length_nil] at hl9 ⊢; omega)) (fun hz2 => ?_) (fun hz2 => ?_)
    · refine e_aload_n (pc' := 86) dX9_writeMagnet_85 rfl rfl rfl ?_
      refine e_aload_n (pc' := 87) dX9_writeMagnet_86 rfl rfl rfl ?_
      refine e_iload_n (pc' := 88) dX9_writeMagnet_87 rfl rfl rfl ?_
      refine e_iconst (pc' := 89) (v := nI 0) dX9_writeMagnet_88 rfl (by decide) ?_
      refine r_V (pc' := 92) (m' := mX9_isFree) (As := [.int (nI i), .int (nI 0)]) (st := [.ref (ad 96)]) (g_isFree (d := d) (g1.row r0) hw (j := i) (w := 0) (by omega) (by first | omega | (simp only [List.length_append, List.length_cons, List.length_nil] at hl9 ⊢; omega))) dX9_writeMagnet_89 rfl rfl (Nat.le_of_ble_eq_true rfl) (fit_of (by omega) (by decide) (by decide) (by decide)) ml_X9_118 okX9_isFree rfl rfl (by decide) rfl ?_
      show EV _ _ _ _ _ 92 _ ([.int (bI (!blk c (cw c ^^^ 0) i)), .ref (ad 96)]) _
      refine e_if_eqB (pc' := 95) (tgt := 100) dX9_writeMagnet_92 rfl (by decide) (fun h92 => ?_) (fun h92 => ?_)
      · refine e_bipush (pc' := 102) (v := nI 35) dX9_writeMagnet_100 rfl (by decide) ?_
        refine e_iload_n (pc' := 103) dX9_writeMagnet_102 rfl rfl rfl ?_
        refine e_iload_n (pc' := 104) dX9_writeMagnet_103 rfl rfl rfl ?_
        refine e_icmp_neN (pc' := 107) (tgt := 112) dX9_writeMagnet_104 rfl (by decide) (by first | omega | (simp only [List.length_append, List.length_cons, List.length_nil] at hl9 ⊢; omega)) (by first | omega | (simp only [List.length_append, List.length_cons, List.length_nil] at hl9 ⊢; omega)) (fun hz4 => ?_) (fun hz4 => ?_)
        · refine e_iload_n (pc' := 113) dX9_writeMagnet_112 rfl rfl rfl ?_
          refine r_VI (pc' := 116) (m' := mX9_writesBehind) (As := [.int (nI 35), .int (nI (cf c (i)))]) (st := []) (g_wb (d := d) (v := 35) (n := cf c (i)) g1 (by first | omega | (simp only [List.length_append, List.length_cons, List.length_nil] at hl9 ⊢; omega)) (by first | omega | (simp only [List.length_append, List.length_cons, List.length_nil] at hl9 ⊢; omega)) (by omega)) dX9_writeMagnet_113 rfl rfl (Nat.le_of_ble_eq_true rfl) (fit_of (by omega) (by decide) (by decide) (by decide)) ml_X9_255 okX9_writesBehind rfl rfl (by decide) rfl (fun M113 b113 => ?_)
          show EV _ _ _ _ _ 116 _ ([]) _
          refine e_iincN (pc' := 119) (k := 1) (L' := [some (.ref (ad 96)), some (.int (nI m)), some (.int (nI (i + 1))), some (.int (nI (cf c (i)))), some (.int (nI (cg c (i))))]) dX9_writeMagnet_116 rfl rfl rfl (by decide) rfl ?_
          refine e_goto (tgt := 49) dX9_writeMagnet_119 (by decide) ?_
          refine e_fg (i := 3) (L' := [some (.ref (ad 96)), some (.int (nI m)), some (.int (nI (i + 1))), none, some (.int (nI (cg c (i))))]) rfl ?_
          refine e_fg (i := 4) (L' := [some (.ref (ad 96)), some (.int (nI m)), some (.int (nI (i + 1))), none, none]) rfl ?_
          have hq : blk c (cw c) i = true := by rw [Nat.xor_zero] at h92; simpa using h92
          have e : iter (mst c m) (i + 1) (wnL m ++ [64] ++ wnL (cp c m) ++ [sgn c m] ++ wnL (cs c m)) = ((iter (mst c m) i (wnL m ++ [64] ++ wnL (cp c m) ++ [sgn c m] ++ wnL (cs c m))) ++ [35] ++ wnL (cf c (i))) := by
            show mst c m i _ = _
            unfold mst
            rw [(oEnd_t hw hzz).2.1 (by omega)]
            show _ ++ [if blk c (cw c) i = true then 35 else 61] ++ wnL (cf c i) = _
            rw [hq]
            rfl
          exact ih (by omega) _ (by rw [e]; exact b113)
        · refine e_iload (pc' := 109) dX9_writeMagnet_107 rfl rfl ?_
          refine e_goto (tgt := 113) dX9_writeMagnet_109 (by decide) ?_
          refine r_VI (pc' := 116) (m' := mX9_writesBehind) (As := [.int (nI 35), .int (nI (cg c (i)))]) (st := []) (g_wb (d := d) (v := 35) (n := cg c (i)) g1 (by first | omega | (simp only [List.length_append, List.length_cons, List.length_nil] at hl9 ⊢; omega)) (by first | omega | (simp only [List.length_append, List.length_cons, List.length_nil] at hl9 ⊢; omega)) (by omega)) dX9_writeMagnet_113 rfl rfl (Nat.le_of_ble_eq_true rfl) (fit_of (by omega) (by decide) (by decide) (by decide)) ml_X9_255 okX9_writesBehind rfl rfl (by decide) rfl (fun M113 b113 => ?_)
          show EV _ _ _ _ _ 116 _ ([]) _
          refine e_iincN (pc' := 119) (k := 1) (L' := [some (.ref (ad 96)), some (.int (nI m)), some (.int (nI (i + 1))), some (.int (nI (cf c (i)))), some (.int (nI (cg c (i))))]) dX9_writeMagnet_116 rfl rfl rfl (by decide) rfl ?_
          refine e_goto (tgt := 49) dX9_writeMagnet_119 (by decide) ?_
          refine e_fg (i := 3) (L' := [some (.ref (ad 96)), some (.int (nI m)), some (.int (nI (i + 1))), none, some (.int (nI (cg c (i))))]) rfl ?_
          refine e_fg (i := 4) (L' := [some (.ref (ad 96)), some (.int (nI m)), some (.int (nI (i + 1))), none, none]) rfl ?_
          have hq : blk c (cw c) i = true := by rw [Nat.xor_zero] at h92; simpa using h92
          have e : iter (mst c m) (i + 1) (wnL m ++ [64] ++ wnL (cp c m) ++ [sgn c m] ++ wnL (cs c m)) = ((iter (mst c m) i (wnL m ++ [64] ++ wnL (cp c m) ++ [sgn c m] ++ wnL (cs c m))) ++ [35] ++ wnL (cg c (i))) := by
            show mst c m i _ = _
            unfold mst
            rw [(oEnd_t hw hzz).1 (by omega)]
            show _ ++ [if blk c (cw c) i = true then 35 else 61] ++ wnL (cg c i) = _
            rw [hq]
            rfl
          exact ih (by omega) _ (by rw [e]; exact b113)
      · refine e_bipush (pc' := 97) (v := nI 61) dX9_writeMagnet_95 rfl (by decide) ?_
        refine e_goto (tgt := 102) dX9_writeMagnet_97 (by decide) ?_
        refine e_iload_n (pc' := 103) dX9_writeMagnet_102 rfl rfl rfl ?_
        refine e_iload_n (pc' := 104) dX9_writeMagnet_103 rfl rfl rfl ?_
        refine e_icmp_neN (pc' := 107) (tgt := 112) dX9_writeMagnet_104 rfl (by decide) (by first | omega | (simp only [List.length_append, List.length_cons, List.length_nil] at hl9 ⊢; omega)) (by first | omega | (simp only [List.length_append, List.length_cons, List.length_nil] at hl9 ⊢; omega)) (fun hz5 => ?_) (fun hz5 => ?_)
        · refine e_iload_n (pc' := 113) dX9_writeMagnet_112 rfl rfl rfl ?_
          refine r_VI (pc' := 116) (m' := mX9_writesBehind) (As := [.int (nI 61), .int (nI (cf c (i)))]) (st := []) (g_wb (d := d) (v := 61) (n := cf c (i)) g1 (by first | omega | (simp only [List.length_append, List.length_cons, List.length_nil] at hl9 ⊢; omega)) (by first | omega | (simp only [List.length_append, List.length_cons, List.length_nil] at hl9 ⊢; omega)) (by omega)) dX9_writeMagnet_113 rfl rfl (Nat.le_of_ble_eq_true rfl) (fit_of (by omega) (by decide) (by decide) (by decide)) ml_X9_255 okX9_writesBehind rfl rfl (by decide) rfl (fun M113 b113 => ?_)
          show EV _ _ _ _ _ 116 _ ([]) _
          refine e_iincN (pc' := 119) (k := 1) (L' := [some (.ref (ad 96)), some (.int (nI m)), some (.int (nI (i + 1))), some (.int (nI (cf c (i)))), some (.int (nI (cg c (i))))]) dX9_writeMagnet_116 rfl rfl rfl (by decide) rfl ?_
          refine e_goto (tgt := 49) dX9_writeMagnet_119 (by decide) ?_
          refine e_fg (i := 3) (L' := [some (.ref (ad 96)), some (.int (nI m)), some (.int (nI (i + 1))), none, some (.int (nI (cg c (i))))]) rfl ?_
          refine e_fg (i := 4) (L' := [some (.ref (ad 96)), some (.int (nI m)), some (.int (nI (i + 1))), none, none]) rfl ?_
          have hq : blk c (cw c) i = false := by rw [Nat.xor_zero] at h92; simpa using h92
          have e : iter (mst c m) (i + 1) (wnL m ++ [64] ++ wnL (cp c m) ++ [sgn c m] ++ wnL (cs c m)) = ((iter (mst c m) i (wnL m ++ [64] ++ wnL (cp c m) ++ [sgn c m] ++ wnL (cs c m))) ++ [61] ++ wnL (cf c (i))) := by
            show mst c m i _ = _
            unfold mst
            rw [(oEnd_t hw hzz).2.1 (by omega)]
            show _ ++ [if blk c (cw c) i = true then 35 else 61] ++ wnL (cf c i) = _
            rw [hq]
            rfl
          exact ih (by omega) _ (by rw [e]; exact b113)
        · refine e_iload (pc' := 109) dX9_writeMagnet_107 rfl rfl ?_
          refine e_goto (tgt := 113) dX9_writeMagnet_109 (by decide) ?_
          refine r_VI (pc' := 116) (m' := mX9_writesBehind) (As := [.int (nI 61), .int (nI (cg c (i)))]) (st := []) (g_wb (d := d) (v := 61) (n := cg c (i)) g1 (by first | omega | (simp only [List.length_append, List.length_cons, List.length_nil] at hl9 ⊢; omega)) (by first | omega | (simp only [List.length_append, List.length_cons, List.length_nil] at hl9 ⊢; omega)) (by omega)) dX9_writeMagnet_113 rfl rfl (Nat.le_of_ble_eq_true rfl) (fit_of (by omega) (by decide) (by decide) (by decide)) ml_X9_255 okX9_writesBehind rfl rfl (by decide) rfl (fun M113 b113 => ?_)
          show EV _ _ _ _ _ 116 _ ([]) _
          refine e_iincN (pc' := 119) (k := 1) (L' := [some (.ref (ad 96)), some (.int (nI m)), some (.int (nI (i + 1))), some (.int (nI (cf c (i)))), some (.int (nI (cg c (i))))]) dX9_writeMagnet_116 rfl rfl rfl (by decide) rfl ?_
          refine e_goto (tgt := 49) dX9_writeMagnet_119 (by decide) ?_
          refine e_fg (i := 3) (L' := [some (.ref (ad 96)), some (.int (nI m)), some (.int (nI (i + 1))), none, some (.int (nI (cg c (i))))]) rfl ?_
          refine e_fg (i := 4) (L' := [some (.ref (ad 96)), some (.int (nI m)), some (.int (nI (i + 1))), none, none]) rfl ?_
          have hq : blk c (cw c) i = false := by rw [Nat.xor_zero] at h92; simpa using h92
          have e : iter (mst c m) (i + 1) (wnL m ++ [64] ++ wnL (cp c m) ++ [sgn c m] ++ wnL (cs c m)) = ((iter (mst c m) i (wnL m ++ [64] ++ wnL (cp c m) ++ [sgn c m] ++ wnL (cs c m))) ++ [61] ++ wnL (cg c (i))) := by
            show mst c m i _ = _
            unfold mst
            rw [(oEnd_t hw hzz).1 (by omega)]
            show _ ++ [if blk c (cw c) i = true then 35 else 61] ++ wnL (cg c i) = _
            rw [hq]
            rfl
          exact ih (by omega) _ (by rw [e]; exact b113)
    · refine e_iload (pc' := 81) dX9_writeMagnet_79 rfl rfl ?_
      refine e_iload_n (pc' := 82) dX9_writeMagnet_81 rfl rfl rfl ?_
      refine e_icmp_neN (pc' := 85) (tgt := 116) dX9_writeMagnet_82 rfl (by decide) (by first | omega | (simp only [List.length_append, List.length_cons, List.length_nil] at hl9 ⊢; omega)) (by first | omega | (simp only [List.length_append, List.length_cons, List.length_nil] at hl9 ⊢; omega)) (fun hz6 => ?_) (fun hz6 => ?_)
      · refine e_iincN (pc' := 119) (k := 1) (L' := [some (.ref (ad 96)), some (.int (nI m)), some (.int (nI (i + 1))), some (.int (nI (cf c (i)))), some (.int (nI (cg c (i))))]) dX9_writeMagnet_116 rfl rfl rfl (by decide) rfl ?_
        refine e_goto (tgt := 49) dX9_writeMagnet_119 (by decide) ?_
        refine e_fg (i := 3) (L' := [some (.ref (ad 96)), some (.int (nI m)), some (.int (nI (i + 1))), none, some (.int (nI (cg c (i))))]) rfl ?_
        refine e_fg (i := 4) (L' := [some (.ref (ad 96)), some (.int (nI m)), some (.int (nI (i + 1))), none, none]) rfl ?_
        have e : iter (mst c m) (i + 1) (wnL m ++ [64] ++ wnL (cp c m) ++ [sgn c m] ++ wnL (cs c m)) = (iter (mst c m) i (wnL m ++ [64] ++ wnL (cp c m) ++ [sgn c m] ++ wnL (cs c m))) := by
          show mst c m i _ = _
          unfold mst
          rw [(oEnd_t hw hzz).2.2 (by omega) (by omega)]
        exact ih (by omega) M (by rw [e]; exact g1)
      · refine e_aload_n (pc' := 86) dX9_writeMagnet_85 rfl rfl rfl ?_
        refine e_aload_n (pc' := 87) dX9_writeMagnet_86 rfl rfl rfl ?_
        refine e_iload_n (pc' := 88) dX9_writeMagnet_87 rfl rfl rfl ?_
        refine e_iconst (pc' := 89) (v := nI 0) dX9_writeMagnet_88 rfl (by decide) ?_
        refine r_V (pc' := 92) (m' := mX9_isFree) (As := [.int (nI i), .int (nI 0)]) (st := [.ref (ad 96)]) (g_isFree (d := d) (g1.row r0) hw (j := i) (w := 0) (by omega) (by first | omega | (simp only [List.length_append, List.length_cons, List.length_nil] at hl9 ⊢; omega))) dX9_writeMagnet_89 rfl rfl (Nat.le_of_ble_eq_true rfl) (fit_of (by omega) (by decide) (by decide) (by decide)) ml_X9_118 okX9_isFree rfl rfl (by decide) rfl ?_
        show EV _ _ _ _ _ 92 _ ([.int (bI (!blk c (cw c ^^^ 0) i)), .ref (ad 96)]) _
        refine e_if_eqB (pc' := 95) (tgt := 100) dX9_writeMagnet_92 rfl (by decide) (fun h92 => ?_) (fun h92 => ?_)
        · refine e_bipush (pc' := 102) (v := nI 35) dX9_writeMagnet_100 rfl (by decide) ?_
          refine e_iload_n (pc' := 103) dX9_writeMagnet_102 rfl rfl rfl ?_
          refine e_iload_n (pc' := 104) dX9_writeMagnet_103 rfl rfl rfl ?_
          refine e_icmp_neN (pc' := 107) (tgt := 112) dX9_writeMagnet_104 rfl (by decide) (by first | omega | (simp only [List.length_append, List.length_cons, List.length_nil] at hl9 ⊢; omega)) (by first | omega | (simp only [List.length_append, List.length_cons, List.length_nil] at hl9 ⊢; omega)) (fun hz8 => ?_) (fun hz8 => ?_)
          · refine e_iload_n (pc' := 113) dX9_writeMagnet_112 rfl rfl rfl ?_
            refine r_VI (pc' := 116) (m' := mX9_writesBehind) (As := [.int (nI 35), .int (nI (cf c (i)))]) (st := []) (g_wb (d := d) (v := 35) (n := cf c (i)) g1 (by first | omega | (simp only [List.length_append, List.length_cons, List.length_nil] at hl9 ⊢; omega)) (by first | omega | (simp only [List.length_append, List.length_cons, List.length_nil] at hl9 ⊢; omega)) (by omega)) dX9_writeMagnet_113 rfl rfl (Nat.le_of_ble_eq_true rfl) (fit_of (by omega) (by decide) (by decide) (by decide)) ml_X9_255 okX9_writesBehind rfl rfl (by decide) rfl (fun M113 b113 => ?_)
            show EV _ _ _ _ _ 116 _ ([]) _
            refine e_iincN (pc' := 119) (k := 1) (L' := [some (.ref (ad 96)), some (.int (nI m)), some (.int (nI (i + 1))), some (.int (nI (cf c (i)))), some (.int (nI (cg c (i))))]) dX9_writeMagnet_116 rfl rfl rfl (by decide) rfl ?_
            refine e_goto (tgt := 49) dX9_writeMagnet_119 (by decide) ?_
            refine e_fg (i := 3) (L' := [some (.ref (ad 96)), some (.int (nI m)), some (.int (nI (i + 1))), none, some (.int (nI (cg c (i))))]) rfl ?_
            refine e_fg (i := 4) (L' := [some (.ref (ad 96)), some (.int (nI m)), some (.int (nI (i + 1))), none, none]) rfl ?_
            have hq : blk c (cw c) i = true := by rw [Nat.xor_zero] at h92; simpa using h92
            have e : iter (mst c m) (i + 1) (wnL m ++ [64] ++ wnL (cp c m) ++ [sgn c m] ++ wnL (cs c m)) = ((iter (mst c m) i (wnL m ++ [64] ++ wnL (cp c m) ++ [sgn c m] ++ wnL (cs c m))) ++ [35] ++ wnL (cf c (i))) := by
              show mst c m i _ = _
              unfold mst
              rw [(oEnd_t hw hzz).2.1 (by omega)]
              show _ ++ [if blk c (cw c) i = true then 35 else 61] ++ wnL (cf c i) = _
              rw [hq]
              rfl
            exact ih (by omega) _ (by rw [e]; exact b113)
          · refine e_iload (pc' := 109) dX9_writeMagnet_107 rfl rfl ?_
            refine e_goto (tgt := 113) dX9_writeMagnet_109 (by decide) ?_
            refine r_VI (pc' := 116) (m' := mX9_writesBehind) (As := [.int (nI 35), .int (nI (cg c (i)))]) (st := []) (g_wb (d := d) (v := 35) (n := cg c (i)) g1 (by first | omega | (simp only [List.length_append, List.length_cons, List.length_nil] at hl9 ⊢; omega)) (by first | omega | (simp only [List.length_append, List.length_cons, List.length_nil] at hl9 ⊢; omega)) (by omega)) dX9_writeMagnet_113 rfl rfl (Nat.le_of_ble_eq_true rfl) (fit_of (by omega) (by decide) (by decide) (by decide)) ml_X9_255 okX9_writesBehind rfl rfl (by decide) rfl (fun M113 b113 => ?_)
            show EV _ _ _ _ _ 116 _ ([]) _
            refine e_iincN (pc' := 119) (k := 1) (L' := [some (.ref (ad 96)), some (.int (nI m)), some (.int (nI (i + 1))), some (.int (nI (cf c (i)))), some (.int (nI (cg c (i))))]) dX9_writeMagnet_116 rfl rfl rfl (by decide) rfl ?_
            refine e_goto (tgt := 49) dX9_writeMagnet_119 (by decide) ?_
            refine e_fg (i := 3) (L' := [some (.ref (ad 96)), some (.int (nI m)), some (.int (nI (i + 1))), none, some (.int (nI (cg c (i))))]) rfl ?_
            refine e_fg (i := 4) (L' := [some (.ref (ad 96)), some (.int (nI m)), some (.int (nI (i + 1))), none, none]) rfl ?_
            have hq : blk c (cw c) i = true := by rw [Nat.xor_zero] at h92; simpa using h92
            have e : iter (mst c m) (i + 1) (wnL m ++ [64] ++ wnL (cp c m) ++ [sgn c m] ++ wnL (cs c m)) = ((iter (mst c m) i (wnL m ++ [64] ++ wnL (cp c m) ++ [sgn c m] ++ wnL (cs c m))) ++ [35] ++ wnL (cg c (i))) := by
              show mst c m i _ = _
              unfold mst
              rw [(oEnd_t hw hzz).1 (by omega)]
              show _ ++ [if blk c (cw c) i = true then 35 else 61] ++ wnL (cg c i) = _
              rw [hq]
              rfl
            exact ih (by omega) _ (by rw [e]; exact b113)
        · refine e_bipush (pc' := 97) (v := nI 61) dX9_writeMagnet_95 rfl (by decide) ?_
          refine e_goto (tgt := 102) dX9_writeMagnet_97 (by decide) ?_
          refine e_iload_n (pc' := 103) dX9_writeMagnet_102 rfl rfl rfl ?_
          refine e_iload_n (pc' := 104) dX9_writeMagnet_103 rfl rfl rfl ?_
          refine e_icmp_neN (pc' := 107) (tgt := 112) dX9_writeMagnet_104 rfl (by decide) (by first | omega | (simp only [List.length_append, List.length_cons, List.length_nil] at hl9 ⊢; omega)) (by first | omega | (simp only [List.length_append, List.length_cons, List.length_nil] at hl9 ⊢; omega)) (fun hz9 => ?_) (fun hz9 => ?_)
          · refine e_iload_n (pc' := 113) dX9_writeMagnet_112 rfl rfl rfl ?_
            refine r_VI (pc' := 116) (m' := mX9_writesBehind) (As := [.int (nI 61), .int (nI (cf c (i)))]) (st := []) (g_wb (d := d) (v := 61) (n := cf c (i)) g1 (by first | omega | (simp only [List.length_append, List.length_cons, List.length_nil] at hl9 ⊢; omega)) (by first | omega | (simp only [List.length_append, List.length_cons, List.length_nil] at hl9 ⊢; omega)) (by omega)) dX9_writeMagnet_113 rfl rfl (Nat.le_of_ble_eq_true rfl) (fit_of (by omega) (by decide) (by decide) (by decide)) ml_X9_255 okX9_writesBehind rfl rfl (by decide) rfl (fun M113 b113 => ?_)
            show EV _ _ _ _ _ 116 _ ([]) _
            refine e_iincN (pc' := 119) (k := 1) (L' := [some (.ref (ad 96)), some (.int (nI m)), some (.int (nI (i + 1))), some (.int (nI (cf c (i)))), some (.int (nI (cg c (i))))]) dX9_writeMagnet_116 rfl rfl rfl (by decide) rfl ?_
            refine e_goto (tgt := 49) dX9_writeMagnet_119 (by decide) ?_
            refine e_fg (i := 3) (L' := [some (.ref (ad 96)), some (.int (nI m)), some (.int (nI (i + 1))), none, some (.int (nI (cg c (i))))]) rfl ?_
            refine e_fg (i := 4) (L' := [some (.ref (ad 96)), some (.int (nI m)), some (.int (nI (i + 1))), none, none]) rfl ?_
            have hq : blk c (cw c) i = false := by rw [Nat.xor_zero] at h92; simpa using h92
            have e : iter (mst c m) (i + 1) (wnL m ++ [64] ++ wnL (cp c m) ++ [sgn c m] ++ wnL (cs c m)) = ((iter (mst c m) i (wnL m ++ [64] ++ wnL (cp c m) ++ [sgn c m] ++ wnL (cs c m))) ++ [61] ++ wnL (cf c (i))) := by
              show mst c m i _ = _
              unfold mst
              rw [(oEnd_t hw hzz).2.1 (by omega)]
              show _ ++ [if blk c (cw c) i = true then 35 else 61] ++ wnL (cf c i) = _
              rw [hq]
              rfl
            exact ih (by omega) _ (by rw [e]; exact b113)
          · refine e_iload (pc' := 109) dX9_writeMagnet_107 rfl rfl ?_
            refine e_goto (tgt := 113) dX9_writeMagnet_109 (by decide) ?_
            refine r_VI (pc' := 116) (m' := mX9_writesBehind) (As := [.int (nI 61), .int (nI (cg c (i)))]) (st := []) (g_wb (d := d) (v := 61) (n := cg c (i)) g1 (by first | omega | (simp only [List.length_append, List.length_cons, List.length_nil] at hl9 ⊢; omega)) (by first | omega | (simp only [List.length_append, List.length_cons, List.length_nil] at hl9 ⊢; omega)) (by omega)) dX9_writeMagnet_113 rfl rfl (Nat.le_of_ble_eq_true rfl) (fit_of (by omega) (by decide) (by decide) (by decide)) ml_X9_255 okX9_writesBehind rfl rfl (by decide) rfl (fun M113 b113 => ?_)
            show EV _ _ _ _ _ 116 _ ([]) _
            refine e_iincN (pc' := 119) (k := 1) (L' := [some (.ref (ad 96)), some (.int (nI m)), some (.int (nI (i + 1))), some (.int (nI (cf c (i)))), some (.int (nI (cg c (i))))]) dX9_writeMagnet_116 rfl rfl rfl (by decide) rfl ?_
            refine e_goto (tgt := 49) dX9_writeMagnet_119 (by decide) ?_
            refine e_fg (i := 3) (L' := [some (.ref (ad 96)), some (.int (nI m)), some (.int (nI (i + 1))), none, some (.int (nI (cg c (i))))]) rfl ?_
            refine e_fg (i := 4) (L' := [some (.ref (ad 96)), some (.int (nI m)), some (.int (nI (i + 1))), none, none]) rfl ?_
            have hq : blk c (cw c) i = false := by rw [Nat.xor_zero] at h92; simpa using h92
            have e : iter (mst c m) (i + 1) (wnL m ++ [64] ++ wnL (cp c m) ++ [sgn c m] ++ wnL (cs c m)) = ((iter (mst c m) i (wnL m ++ [64] ++ wnL (cp c m) ++ [sgn c m] ++ wnL (cs c m))) ++ [61] ++ wnL (cg c (i))) := by
              show mst c m i _ = _
              unfold mst
              rw [(oEnd_t hw hzz).1 (by omega)]
              show _ ++ [if blk c (cw c) i = true then 35 else 61] ++ wnL (cg c i) = _
              rw [hq]
              rfl
            exact ih (by omega) _ (by rw [e]; exact b113))
theorem sgn_lt {m : Nat} : sgn c m < 65536 := by unfold sgn; split <;> decide
theorem g_write (r : RowAt M 97 0 c) (hw : WF c) {m : Nat} (hm : m < cn c) : RETI G ad (d + 5) mX9_writeMagnet [.ref (ad 96), .int (nI m)] (M, o) (some (.int (nI ((mln c m).length)))) (fun M' => M' 96 8 = nI 0 ∧ LnR M' (mln c m) ∧ (∀ j, j ≠ 7 → j ≠ 8 → j ≠ 16 → M' 96 j = M 96 j) ∧ KP (fun x => x == 96 || x == 102) M M') := by
  refine CM_of rfl (by decide) rfl (Nat.le_of_ble_eq_true rfl) rfl ?_
  have hn := hw.n
  have hk := hw.k
  have hw9 := hw.w9
  refine e_aload_n (pc' := 1) dX9_writeMagnet_0 rfl rfl rfl ?_
  refine e_iload_n (pc' := 2) dX9_writeMagnet_1 rfl rfl rfl ?_
  refine r_V (pc' := 5) (m' := mX9_isNone) (As := [.int (nI m)]) (st := []) (g_isNone_ok (d := d) r hw (nI m) (hasM_n hw hm)) dX9_writeMagnet_2 rfl rfl (Nat.le_of_ble_eq_true rfl) (fit_of (by omega) (by decide) (by decide) (by decide)) ml_X9_93 okX9_isNone rfl rfl (by decide) rfl ?_
  show EV _ _ _ _ _ 5 _ ([.int (bI (false))]) _
  refine e_if_eqB (pc' := 8) (tgt := 10) dX9_writeMagnet_5 rfl (by decide) (fun hz1 => ?_) (fun hz1 => absurd hz1 (by decide))
  refine e_aload_n (pc' := 11) dX9_writeMagnet_10 rfl rfl rfl ?_
  refine e_iconst (pc' := 12) (v := nI 0) dX9_writeMagnet_11 rfl (by decide) ?_
  refine p_pfi (pc' := 15) (a := 96) (k := 16) dX9_writeMagnet_12 rfl (rfl) (by decide) (by decide) rfl fl_X9_246 rfl rfl ?_
  have r0 : RowAt (up2 (up2 (up2 M 96 8 (nI 0)) 96 7 (nI 0)) 96 16 (nI 0)) 97 0 c := (((r.up (by decide)).up (by decide)).up (by decide))
  have hB0 : LB [] (up2 (up2 (up2 M 96 8 (nI 0)) 96 7 (nI 0)) 96 16 (nI 0)) (up2 (up2 (up2 M 96 8 (nI 0)) 96 7 (nI 0)) 96 16 (nI 0)) := ⟨⟨up2_s, fun i hi => absurd hi (Nat.not_lt_zero i)⟩, fun _ _ => rfl, KP.refl⟩
  have hsg := sgn_lt (c := c) (m := m)
  have w1 := wn_len m
  have w2 := wn_len (cp c m)
  have w3 := wn_len (cs c m)
  refine e_aload_n (pc' := 16) dX9_writeMagnet_15 rfl rfl rfl ?_
  refine e_iload_n (pc' := 17) dX9_writeMagnet_16 rfl rfl rfl ?_
  refine r_VI (pc' := 20) (m' := mX9_writesNumber) (As := [.int (nI m)]) (st := []) (g_wn (d := d) (n := m) hB0 (by decide) (by omega)) dX9_writeMagnet_17 rfl rfl (Nat.le_of_ble_eq_true rfl) (fit_of (by omega) (by decide) (by decide) (by decide)) ml_X9_249 okX9_writesNumber rfl rfl (by decide) rfl (fun M17 b17 => ?_)
  show EV _ _ _ _ _ 20 _ ([]) _
  refine e_aload_n (pc' := 21) dX9_writeMagnet_20 rfl rfl rfl ?_
  refine e_bipush (pc' := 23) (v := nI 64) dX9_writeMagnet_21 rfl (by decide) ?_
  refine e_aload_n (pc' := 24) dX9_writeMagnet_23 rfl rfl rfl ?_
  refine e_iload_n (pc' := 25) dX9_writeMagnet_24 rfl rfl rfl ?_
  refine e_iconst (pc' := 26) (v := nI 0) dX9_writeMagnet_25 rfl (by decide) ?_
  have hb1 := hw.p (i := m) (by omega)
  refine r_V (pc' := 29) (m' := mX9_of) (As := [.int (nI m), .int (nI 0)]) (st := [.int (nI 64), .ref (ad 96)]) (g_of0 (d := d) (b17.row r0) hw (m := m) (by omega)) dX9_writeMagnet_26 rfl rfl (Nat.le_of_ble_eq_true rfl) (fit_of (by omega) (by decide) (by decide) (by decide)) ml_X9_73 okX9_of rfl rfl (by decide) rfl ?_
  show EV _ _ _ _ _ 29 _ ([.int (nI (cp c (m))), .int (nI 64), .ref (ad 96)]) _
  refine r_VI (pc' := 32) (m' := mX9_writesBehind) (As := [.int (nI 64), .int (nI (cp c (m)))]) (st := []) (g_wb (d := d) (v := 64) (n := cp c (m)) b17 (by first | omega | (simp only [List.length_append, List.length_cons, List.length_nil]; omega)) (by first | omega | (simp only [List.length_append, List.length_cons, List.length_nil]; omega)) (by omega)) dX9_writeMagnet_29 rfl rfl (Nat.le_of_ble_eq_true rfl) (fit_of (by omega) (by decide) (by decide) (by decide)) ml_X9_255 okX9_writesBehind rfl rfl (by decide) rfl (fun M29 b29 => ?_)
  show EV _ _ _ _ _ 32 _ ([]) _
  refine e_aload_n (pc' := 33) dX9_writeMagnet_32 rfl rfl rfl ?_
  refine e_aload_n (pc' := 34) dX9_writeMagnet_33 rfl rfl rfl ?_
  refine e_iload_n (pc' := 35) dX9_writeMagnet_34 rfl rfl rfl ?_
  refine r_V (pc' := 38) (m' := mX9_sign) (As := [.int (nI m)]) (st := [.ref (ad 96)]) (g_sign (d := d) (b29.row r0) hw (m := m) (by omega)) dX9_writeMagnet_35 rfl rfl (Nat.le_of_ble_eq_true rfl) (fit_of (by omega) (by decide) (by decide) (by decide)) ml_X9_107 okX9_sign rfl rfl (by decide) rfl ?_
  show EV _ _ _ _ _ 38 _ ([.int (nI (sgn c (m))), .ref (ad 96)]) _
  refine e_aload_n (pc' := 39) dX9_writeMagnet_38 rfl rfl rfl ?_
  refine e_iload_n (pc' := 40) dX9_writeMagnet_39 rfl rfl rfl ?_
  refine e_iconst (pc' := 41) (v := nI 1) dX9_writeMagnet_40 rfl (by decide) ?_
  have hb2 := hw.s2 (i := m) (by omega)
  have hc2 := hw.s1 (i := m) (by omega)
  refine r_V (pc' := 44) (m' := mX9_of) (As := [.int (nI m), .int (nI 1)]) (st := [.int (nI (sgn c (m))), .ref (ad 96)]) (g_of1 (d := d) (b29.row r0) hw (m := m) (by omega)) dX9_writeMagnet_41 rfl rfl (Nat.le_of_ble_eq_true rfl) (fit_of (by omega) (by decide) (by decide) (by decide)) ml_X9_73 okX9_of rfl rfl (by decide) rfl ?_
  show EV _ _ _ _ _ 44 _ ([.int (nI (cs c (m))), .int (nI (sgn c (m))), .ref (ad 96)]) _
  refine r_VI (pc' := 47) (m' := mX9_writesBehind) (As := [.int (nI (sgn c (m))), .int (nI (cs c (m)))]) (st := []) (g_wb (d := d) (v := sgn c (m)) (n := cs c (m)) b29 (by first | omega | (simp only [List.length_append, List.length_cons, List.length_nil]; omega)) (by first | omega | (simp only [List.length_append, List.length_cons, List.length_nil]; omega)) (by omega)) dX9_writeMagnet_44 rfl rfl (Nat.le_of_ble_eq_true rfl) (fit_of (by omega) (by decide) (by decide) (by decide)) ml_X9_255 okX9_writesBehind rfl rfl (by decide) rfl (fun M44 b44 => ?_)
  show EV _ _ _ _ _ 47 _ ([]) _
  refine e_iconst (pc' := 48) (v := nI 0) dX9_writeMagnet_47 rfl (by decide) ?_
  refine e_istore_n (pc' := 49) (L' := [some (.ref (ad 96)), some (.int (nI m)), some (.int (nI 0)), none, none]) dX9_writeMagnet_48 rfl rfl (by decide) rfl ?_
  refine gl_wmP hw r0 hm (fun M' h => ⟨rfl, M', rfl, ?_, h.1, fun j q7 q8 q16 => ?_, ((((KP.refl.up (by decide)).up (by decide)).up (by decide)).trans h.2.2)⟩) 0 (Nat.zero_le _) _ b44
  · rw [h.2.1 8 (by decide), up2_k (by decide), up2_k (by decide)]; exact up2_s
  · rw [h.2.1 j q16, up2_k q16, up2_k q7, up2_k q8]
theorem g_write_no (r : RowAt M 97 0 c) (hw : WF c) (x : Int32) (hx : hasM c x = false) : RETI G ad (d + 5) mX9_writeMagnet [.ref (ad 96), .int (x)] (M, o) (some (.int (nI 0))) (QR 1 M) := by
  refine CM_of rfl (by decide) rfl (Nat.le_of_ble_eq_true rfl) rfl ?_
  have hn := hw.n
  have hk := hw.k
  have hw9 := hw.w9
  refine e_aload_n (pc' := 1) dX9_writeMagnet_0 rfl rfl rfl ?_
  refine e_iload_n (pc' := 2) dX9_writeMagnet_1 rfl rfl rfl ?_
  refine r_V (pc' := 5) (m' := mX9_isNone) (As := [.int (x)]) (st := []) (g_isNone_no (d := d) r hw (x) hx) dX9_writeMagnet_2 rfl rfl (Nat.le_of_ble_eq_true rfl) (fit_of (by omega) (by decide) (by decide) (by decide)) ml_X9_93 okX9_isNone rfl rfl (by decide) rfl ?_
  show EV _ _ _ _ _ 5 _ ([.int (bI (true))]) _
  refine e_if_eqB (pc' := 8) (tgt := 10) dX9_writeMagnet_5 rfl (by decide) (fun hz1 => absurd hz1 (by decide)) (fun hz1 => ?_)
  refine e_iconst (pc' := 9) (v := nI 0) dX9_writeMagnet_8 rfl (by decide) ?_
  exact e_iret dX9_writeMagnet_9 rfl (MP.retI rfl QR.f) (by decide) (by decide)
end T58

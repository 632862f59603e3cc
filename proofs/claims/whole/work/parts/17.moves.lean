set_option maxHeartbeats 400000
/-! FORCES: moves and fields -/
section T17
variable {G : gC} {ad : Nat → Nat} {d : Nat} {M : Nat → Nat → Int32} {o : (Nat → Int64) × (Nat → UInt64)} {c : Col}
theorem tgt_cases {m : Nat} (hw : WF c) (hm : m < cn c) : tgtN c m = cp c m ∨ (tgtN c m < 100 ∧ mOn c (nI (tgtN c m)) = none) := by
  have hb := hw.p hm
  have k : ∀ q, (mOn c q).isNone = true → mOn c q = none := fun q h => by cases e : mOn c q with
    | none => rfl
    | some i => rw [e] at h; cases h
  unfold tgtN
  split
  · split
    · rename_i h; exact Or.inr ⟨h.1, k _ h.2⟩
    · exact Or.inl rfl
  · split
    · split
      · rename_i h; exact Or.inr ⟨by omega, k _ h.2⟩
      · exact Or.inl rfl
    · exact Or.inl rfl
theorem tgt_lt {m : Nat} (hw : WF c) (hm : m < cn c) : tgtN c m < 100 := by
  rcases tgt_cases hw hm with h | h
  · rw [h]; exact hw.p hm
  · exact h.1
theorem mOn_none {q : Nat} (h : mOn c (nI q) = none) {i : Nat} (hi : i < cn c) : ¬ cp c i = q := fun e => by
  rcases fnd_spec (fun i => decide (nI (cp c i) = nI q)) (cn c) with ⟨h1, h2⟩ | ⟨k, h1, h2, h3, _⟩
  · exact of_decide_eq_false (h2 i hi) (by rw [e])
  · exact absurd (h1.symm.trans h) (by intro h; cases h)
theorem setP_wf {m q : Nat} (hw : WF c) (hq : q < 100) (hf : ∀ i, i < cn c → i ≠ m → ¬ cp c i = q) : WF (setP c m q) := by
  obtain ⟨h1, h2, h3, h4, h5, h6, h7⟩ := hw
  refine ⟨h1, h2, h3, fun i hi => ⟨?_, (h4 i hi).2⟩, fun i j hi hj e => ?_, h6, h7⟩
  · show ups (cp c) m q i < 100
    unfold ups; split
    · exact hq
    · exact (h4 i hi).1
  · have e2 : ups (cp c) m q i = ups (cp c) m q j := e
    unfold ups at e2
    by_cases h8 : i = m
    · by_cases h9 : j = m
      · rw [h8, h9]
      · rw [if_pos h8, if_neg h9] at e2
        exact absurd e2.symm (hf j hj h9)
    · by_cases h9 : j = m
      · rw [if_neg h8, if_pos h9] at e2
        exact absurd e2 (hf i hi h8)
      · rw [if_neg h8, if_neg h9] at e2
        exact h5 i j hi hj e2
/-- a magnet's move; how many moved -/
def mvst (m : Nat) (s : Col × Nat) : Col × Nat := if tgtN s.1 m = cp s.1 m then s else (setP s.1 m (tgtN s.1 m), s.2 + 1)
def mvs (c : Col) (i : Nat) : Col × Nat := iter mvst i (c, 0)
def movC (c : Col) : Col := setMM (mvs c (cn c)).1 (cmm (mvs c (cn c)).1 + nI (mvs c (cn c)).2)
theorem mvst_n (m : Nat) (s : Col × Nat) : cn (mvst m s).1 = cn s.1 := by unfold mvst; split <;> rfl
theorem mvs_n : ∀ i, cn (mvs c i).1 = cn c
  | 0 => rfl
  | i + 1 => (mvst_n i _).trans (mvs_n i)
theorem mvs_k : ∀ i, (mvs c i).2 ≤ i
  | 0 => Nat.le_refl 0
  | i + 1 => by
    have h := mvs_k i
    show (mvst i (mvs c i)).2 ≤ i + 1
    unfold mvst; split
    · omega
    · show _ + 1 ≤ _; omega
theorem mvs_wf (hw : WF c) : ∀ i, i ≤ cn c → WF (mvs c i).1
  | 0, _ => hw
  | i + 1, hi => by
    have h := mvs_wf hw i (by omega)
    have hn := mvs_n (c := c) i
    have hm : i < cn (mvs c i).1 := by omega
    show WF (mvst i (mvs c i)).1
    unfold mvst
    split
    · exact h
    · rename_i q
      rcases tgt_cases h hm with e | e
      · exact absurd e q
      · exact setP_wf h e.1 (fun j hj _ => mOn_none e.2 hj)
theorem movC_wf (hw : WF c) : WF (movC c) := mvs_wf hw (cn c) (Nat.le_refl _)
/-- fields -/
def dif (p q : Nat) : Nat := if q ≤ p then p - q else q - p
theorem abs_dif {p q : Nat} (hp : p < 2 ^ 30) (hq : q < 2 ^ 30) : (if 0 ≤ (nI p - nI q) then (nI p - nI q) else 0 - (nI p - nI q)) = nI (dif p q) := by
  unfold dif
  by_cases h : q ≤ p
  · rw [pk_sub h, if_pos (nI_pos' (by omega)), if_pos h]
  · have e : nI p - nI q = -(nI (q - p)) := by rw [← pk_sub (by omega : p ≤ q)]; exact Int32.neg_sub.symm
    have h2 : ¬ 0 ≤ -(nI (q - p)) := by
      rw [Int32.le_iff_toInt_le, Int32.toInt_neg]
      have h3 : (nI (q - p)).toInt = ((q - p : Nat) : Int) := nI_toInt (by omega)
      rw [h3, Int.bmod_eq_of_le (by omega) (by omega)]
      show ¬ (0 : Int) ≤ _
      omega
    rw [e, if_neg h2, if_neg h]
    show 0 - -(nI (q - p)) = _
    rw [Int32.sub_neg, Int32.zero_add]
def fdv (c : Col) (p m : Nat) : UInt64 := FP.ddiv (FP.i2d (nI (cs c m))) (FP.i2d (nI (1 + dif p (cp c m))))
def fdst (c : Col) (p m : Nat) (s : UInt64) : UInt64 := if (cw c).testBit m then FP.dadd s (fdv c p m) else FP.dsub s (fdv c p m)
def fld (c : Col) (p : Nat) : UInt64 := iter (fdst c p) (cn c) FP.dconst0
theorem one_mag : ∀ k, 1 ≤ k → k ≤ 300 → 1023 * 2 ^ 52 ≤ (FP.i2d (nI k)).toNat % 2 ^ 63 := by
  have h : ∀ k, k < 301 → 1 ≤ k → 1023 * 2 ^ 52 ≤ (FP.i2d (nI k)).toNat % 2 ^ 63 := by decide +kernel
  exact fun k h1 h2 => h k (by omega) h1
theorem ddiv_fin {a b : Nat} (hb : 1 ≤ b) (hb2 : b ≤ 300) : FP.Core.DFin (FP.ddiv (FP.i2d (nI a)) (FP.i2d (nI b))) := by
  have h4 := FP.Core.ddiv_mag (K := 1056) (L := 1023) (FP.Core.i2d_mag (nI a)) (one_mag b hb hb2) (Nat.lt_of_lt_of_le (FP.Core.i2d_mag _) (by decide)) (by decide) (by decide)
  exact FP.Core.fin_of_lt (K := 1057) (Nat.lt_of_lt_of_le h4 (by decide)) (by decide)
theorem fdv_fin (hw : WF c) {p m : Nat} (hp : p < 100) (hm : m < cn c) : FP.Core.DFin (fdv c p m) := by
  have hb := hw.p hm
  exact ddiv_fin (by omega) (by unfold dif; split <;> omega)
theorem fld_nn (hw : WF c) {p : Nat} (hp : p < 100) : ∀ i, i ≤ cn c → FP.Core.dIsNaN (iter (fdst c p) i FP.dconst0) = false
  | 0, _ => by show FP.Core.dIsNaN FP.dconst0 = false; decide +kernel
  | i + 1, hi => by
    have h := fld_nn hw hp i (by omega)
    show FP.Core.dIsNaN (fdst c p i (iter (fdst c p) i FP.dconst0)) = false
    have hf := fdv_fin hw hp (by omega : i < cn c)
    unfold fdst
    split
    · exact FP.Core.dadd_out h hf
    · exact FP.Core.dsub_out h hf
/-- the field without sign -/
def ufl (c : Col) (p : Nat) : UInt64 := if 0 ≤ Op.cmpValue (FP.dcmp (fld c p) FP.dconst0) .g then fld c p else FP.dneg (fld c p)
def psf (c : Col) : Nat → Nat
  | 0 => 0
  | k + 1 => if Op.cmpValue (FP.dcmp (ufl c (k + 1)) (ufl c (psf c k))) .l ≤ 0 then psf c k else k + 1
theorem psf_le : ∀ k, psf c k ≤ k
  | 0 => Nat.le_refl 0
  | k + 1 => by have := psf_le k; unfold psf; split <;> omega
def psF (c : Col) : Option Nat := if cn c = 0 then none else some (psf c 99)
def mif (c : Col) : Nat → Option Nat
  | 0 => none
  | k + 1 => match mif c k with
    | none => some k
    | some b => if Op.cmpValue (FP.dcmp (ufl c (cp c k)) (ufl c (cp c b))) .l ≤ 0 then some b else some k
theorem mif_lt : ∀ k b, mif c k = some b → b < k
  | 0, b, e => by cases e
  | k + 1, b, e => by
    have ih := mif_lt k
    have e2 : (match mif c k with | none => some k | some b => if Op.cmpValue (FP.dcmp (ufl c (cp c k)) (ufl c (cp c b))) .l ≤ 0 then some b else some k) = some b := e
    cases q : mif c k with
    | none => rw [q] at e2; cases e2; omega
    | some z =>
      have := ih z q
      rw [q] at e2
      dsimp only at e2
      split at e2 <;> cases e2 <;> omega
theorem l_move {M0 : Nat → Nat → Int32} (hw : WF c) : ∀ i, i ≤ cn c → ∀ (M : Nat → Nat → Int32), ColAt M 1 (mvs c i).1 → KP (inR 1 6) M0 M → ER G ad (d + 3) mX3_moveEach (0, 0) (PI (some (.int (nI ((mvs c (cn c)).2)))) o (fun M' => ColAt M' 1 (movC c) ∧ KP (inR 1 6) M0 M')) (0, 0) 4 [some (.ref (ad 12)), some (.int (nI ((mvs c i).2))), some (.int (nI i)), none] [] (M, o) := down (cn c) _ (fun i hi ih M h h2 => by
  have hn := hw.n
  have hni := mvs_n (c := c) i
  have hwi := mvs_wf hw i hi
  refine e_iload_n (pc' := 5) dX3_moveEach_4 rfl rfl rfl ?_
  refine e_aload_n (pc' := 6) dX3_moveEach_5 rfl rfl rfl ?_
  refine p_gfr (pc' := 9) (a := 12) (k := 0) (t := 1) dX3_moveEach_6 rfl rfl (by decide) (by decide) rfl fl_X3_9 ?_
  refine p_gfi (pc' := 12) (a := 1) (k := 0) (x := nI (cn (mvs c i).1)) dX3_moveEach_9 rfl (rfl) (by decide) (by decide) rfl fl_X3_15 (h.n) ?_
  refine e_icmp_geN (pc' := 15) (tgt := 53) dX3_moveEach_12 rfl (by decide) (by first | omega | exact Nat.lt_trans (tgt_lt hwi (by omega)) (by decide)) (by first | omega | exact Nat.lt_trans (tgt_lt hwi (by omega)) (by decide)) (fun hz1 => ?_) (fun hz1 => ?_)
  · obtain rfl : i = cn c := by omega
    refine e_aload_n (pc' := 54) dX3_moveEach_53 rfl rfl rfl ?_
    refine p_gfr (pc' := 57) (a := 12) (k := 0) (t := 1) dX3_moveEach_54 rfl rfl (by decide) (by decide) rfl fl_X3_9 ?_
    refine e_dup (pc' := 58) dX3_moveEach_57 rfl rfl ?_
    refine p_gfi (pc' := 61) (a := 1) (k := 9) (x := cmm (mvs c (cn c)).1) dX3_moveEach_58 rfl (rfl) (by decide) (by decide) rfl fl_X3_39 (h.mm) ?_
    refine e_iload_n (pc' := 62) dX3_moveEach_61 rfl rfl rfl ?_
    refine e_iadd (pc' := 63) dX3_moveEach_62 rfl ?_
    refine p_pfi (pc' := 66) (a := 1) (k := 9) dX3_moveEach_63 rfl (rfl) (by decide) (by decide) rfl fl_X3_39 rfl rfl ?_
    refine e_iload_n (pc' := 67) dX3_moveEach_66 rfl rfl rfl ?_
    exact e_iret dX3_moveEach_67 rfl (MP.retI rfl ⟨(h.sMM (x := (cmm (mvs c (cn c)).1) + (nI ((mvs c (cn c)).2)))), h2.up (by decide)⟩) (by decide) (by decide)
  · refine e_aload_n (pc' := 16) dX3_moveEach_15 rfl rfl rfl ?_
    refine e_iload_n (pc' := 17) dX3_moveEach_16 rfl rfl rfl ?_
    refine r_V (pc' := 20) (m' := mX3_targetOf) (As := [.int (nI i)]) (st := []) (c_target (d := d) h hwi (m := i) (by omega)) dX3_moveEach_17 rfl rfl (Nat.le_of_ble_eq_true rfl) (fit_of (by omega) (by decide) (by decide) (by decide)) ml_X3_35 okX3_targetOf rfl rfl (by decide) rfl ?_
    show EV _ _ _ _ _ 20 _ ([.int (nI (tgtN (mvs c i).1 i))]) _
    refine e_istore_n (pc' := 21) (L' := [some (.ref (ad 12)), some (.int (nI ((mvs c i).2))), some (.int (nI i)), some (.int (nI (tgtN (mvs c i).1 i)))]) dX3_moveEach_20 rfl rfl (by decide) rfl ?_
    refine e_iload_n (pc' := 22) dX3_moveEach_21 rfl rfl rfl ?_
    refine e_aload_n (pc' := 23) dX3_moveEach_22 rfl rfl rfl ?_
    refine p_gfr (pc' := 26) (a := 12) (k := 0) (t := 1) dX3_moveEach_23 rfl rfl (by decide) (by decide) rfl fl_X3_9 ?_
    refine p_gfr (pc' := 29) (a := 1) (k := 1) (t := 2) dX3_moveEach_26 rfl rfl (by decide) (by decide) rfl fl_X3_21 ?_
    refine e_iload_n (pc' := 30) dX3_moveEach_29 rfl rfl rfl ?_
    have hi1 : i < cn (mvs c i).1 := by first | omega | exact Nat.lt_trans (tgt_lt hwi (by omega)) (by decide)
    have hb1 := hwi.p hi1
    refine p_iald (pc' := 31) (a := 2) (k := i) (x := nI (cp (mvs c i).1 i)) dX3_moveEach_30 rfl (rfl) (rfl) (by first | omega | exact Nat.lt_trans (tgt_lt hwi (by omega)) (by decide)) (by decide) (h.p hi1) ?_
    refine e_icmp_eqN (pc' := 34) (tgt := 47) dX3_moveEach_31 rfl (by decide) (by first | omega | exact Nat.lt_trans (tgt_lt hwi (by omega)) (by decide)) (by first | omega | exact Nat.lt_trans (tgt_lt hwi (by omega)) (by decide)) (fun h1 => ?_) (fun h1 => ?_)
    · refine e_iincN (pc' := 50) (k := 1) (L' := [some (.ref (ad 12)), some (.int (nI ((mvs c i).2))), some (.int (nI (i + 1))), some (.int (nI (tgtN (mvs c i).1 i)))]) dX3_moveEach_47 rfl rfl rfl (by decide) rfl ?_
      refine e_goto (tgt := 4) dX3_moveEach_50 (by decide) ?_
      refine e_fg (i := 3) (L' := [some (.ref (ad 12)), some (.int (nI ((mvs c i).2))), some (.int (nI (i + 1))), none]) rfl ?_
      have e : mvs c (i + 1) = mvs c i := if_pos h1
      exact ih (by omega) |> fun q => by rw [e] at q; exact q _ h h2
    · refine e_aload_n (pc' := 35) dX3_moveEach_34 rfl rfl rfl ?_
      refine p_gfr (pc' := 38) (a := 12) (k := 0) (t := 1) dX3_moveEach_35 rfl rfl (by decide) (by decide) rfl fl_X3_9 ?_
      refine p_gfr (pc' := 41) (a := 1) (k := 1) (t := 2) dX3_moveEach_38 rfl rfl (by decide) (by decide) rfl fl_X3_21 ?_
      refine e_iload_n (pc' := 42) dX3_moveEach_41 rfl rfl rfl ?_
      refine e_iload_n (pc' := 43) dX3_moveEach_42 rfl rfl rfl ?_
      refine p_iast (pc' := 44) (a := 2) (k := i) dX3_moveEach_43 rfl (rfl) (rfl) (by first | omega | exact Nat.lt_trans (tgt_lt hwi (by omega)) (by decide)) (by decide) ?_
      refine e_iincN (pc' := 47) (k := 1) (L' := [some (.ref (ad 12)), some (.int (nI ((mvs c i).2 + 1))), some (.int (nI i)), some (.int (nI (tgtN (mvs c i).1 i)))]) dX3_moveEach_44 rfl rfl rfl (by decide) rfl ?_
      refine e_iincN (pc' := 50) (k := 1) (L' := [some (.ref (ad 12)), some (.int (nI ((mvs c i).2 + 1))), some (.int (nI (i + 1))), some (.int (nI (tgtN (mvs c i).1 i)))]) dX3_moveEach_47 rfl rfl rfl (by decide) rfl ?_
      refine e_goto (tgt := 4) dX3_moveEach_50 (by decide) ?_
      refine e_fg (i := 3) (L' := [some (.ref (ad 12)), some (.int (nI ((mvs c i).2 + 1))), some (.int (nI (i + 1))), none]) rfl ?_
      have e : mvs c (i + 1) = (setP (mvs c i).1 i (tgtN (mvs c i).1 i), (mvs c i).2 + 1) := if_neg h1
      exact ih (by omega) |> fun q => by rw [e] at q; exact q _ (h.sP (i := i) (x := tgtN (mvs c i).1 i)) (h2.up (by decide)))
theorem c_move (h : ColAt M 1 c) (hw : WF c) : RETI G ad (d + 3) mX3_moveEach [.ref (ad 12)] (M, o) (some (.int (nI ((mvs c (cn c)).2)))) (fun M' => ColAt M' 1 (movC c) ∧ KP (inR 1 6) M M') := by
  refine CM_of rfl (by decide) rfl (Nat.le_of_ble_eq_true rfl) rfl ?_
  have hn := hw.n
  have hk := hw.k
  have hw9 := hw.w9
  refine e_iconst (pc' := 1) (v := nI 0) dX3_moveEach_0 rfl (by decide) ?_
  refine e_istore_n (pc' := 2) (L' := [some (.ref (ad 12)), some (.int (nI 0)), none, none]) dX3_moveEach_1 rfl rfl (by decide) rfl ?_
  refine e_iconst (pc' := 3) (v := nI 0) dX3_moveEach_2 rfl (by decide) ?_
  refine e_istore_n (pc' := 4) (L' := [some (.ref (ad 12)), some (.int (nI 0)), some (.int (nI 0)), none]) dX3_moveEach_3 rfl rfl (by decide) rfl ?_
  exact l_move hw 0 (by omega) _ h KP.refl
theorem l_field (h : ColAt M 1 c) (hw : WF c) {p : Nat} (hp : p < 100) : ∀ i, i ≤ cn c → ER G ad (d + 1) mX3_fieldAt (0, 0) (PR (some (.double (fld c p))) (M, o)) (0, 0) 5 [some (.ref (ad 12)), some (.int (nI p)), some (.double (iter (fdst c p) i FP.dconst0)), none, some (.int (nI i)), none, none, none] [] (M, o) := down (cn c) _ (fun i hi ih  => by
  have hn := hw.n
  have hk := hw.k
  have hw9 := hw.w9
  refine e_iload (pc' := 7) dX3_fieldAt_5 rfl rfl ?_
  refine e_aload_n (pc' := 8) dX3_fieldAt_7 rfl rfl rfl ?_
  refine p_gfr (pc' := 11) (a := 12) (k := 0) (t := 1) dX3_fieldAt_8 rfl rfl (by decide) (by decide) rfl fl_X3_9 ?_
  refine p_gfi (pc' := 14) (a := 1) (k := 0) (x := nI (cn c)) dX3_fieldAt_11 rfl (rfl) (by decide) (by decide) rfl fl_X3_15 (h.n) ?_
  refine e_icmp_geN (pc' := 17) (tgt := 86) dX3_fieldAt_14 rfl (by decide) (by omega) (by omega) (fun hz1 => ?_) (fun hz1 => ?_)
  · refine e_dload_n (pc' := 87) dX3_fieldAt_86 rfl rfl rfl ?_
    exact e_dret dX3_fieldAt_87 rfl (MP.ret (by rw [show i = cn c by omega]; rfl) rfl) (by decide) (by decide)
  · refine e_iload_n (pc' := 18) dX3_fieldAt_17 rfl rfl rfl ?_
    refine e_aload_n (pc' := 19) dX3_fieldAt_18 rfl rfl rfl ?_
    refine p_gfr (pc' := 22) (a := 12) (k := 0) (t := 1) dX3_fieldAt_19 rfl rfl (by decide) (by decide) rfl fl_X3_9 ?_
    refine p_gfr (pc' := 25) (a := 1) (k := 1) (t := 2) dX3_fieldAt_22 rfl rfl (by decide) (by decide) rfl fl_X3_21 ?_
    refine e_iload (pc' := 27) dX3_fieldAt_25 rfl rfl ?_
    have hi1 : i < cn c := by omega
    have hb1 := hw.p hi1
    refine p_iald (pc' := 28) (a := 2) (k := i) (x := nI (cp c i)) dX3_fieldAt_27 rfl (rfl) (rfl) (by omega) (by decide) (h.p hi1) ?_
    refine e_isub (pc' := 29) dX3_fieldAt_28 rfl ?_
    refine e_abs (pc' := 32) dX3_fieldAt_29 rfl ml_X3_53 ma_abs_s in_Math ma_abs_c (by simp [rmK]) (by simp [rmK, Value.category] <;> omega) (Nat.zero_le _) (Nat.zero_le _) ?_
    rw [show (if 0 ≤ ((nI p) - (nI (cp c i))) then ((nI p) - (nI (cp c i))) else 0 - ((nI p) - (nI (cp c i)))) = nI (dif p (cp c i)) from abs_dif (by omega) (by omega)]
    refine e_istore (pc' := 34) (L' := [some (.ref (ad 12)), some (.int (nI p)), some (.double (iter (fdst c p) i FP.dconst0)), none, some (.int (nI i)), some (.int (nI (dif p (cp c i)))), none, none]) dX3_fieldAt_32 rfl (by decide) rfl ?_
    refine e_aload_n (pc' := 35) dX3_fieldAt_34 rfl rfl rfl ?_
    refine p_gfr (pc' := 38) (a := 12) (k := 0) (t := 1) dX3_fieldAt_35 rfl rfl (by decide) (by decide) rfl fl_X3_9 ?_
    refine p_gfr (pc' := 41) (a := 1) (k := 2) (t := 3) dX3_fieldAt_38 rfl rfl (by decide) (by decide) rfl fl_X3_25 ?_
    refine e_iload (pc' := 43) dX3_fieldAt_41 rfl rfl ?_
    have hi2 : i < cn c := by omega
    have hb2 := hw.s1 hi2
    have hc2 := hw.s2 hi2
    refine p_iald (pc' := 44) (a := 3) (k := i) (x := nI (cs c i)) dX3_fieldAt_43 rfl (rfl) (rfl) (by omega) (by decide) (h.s hi2) ?_
    refine e_i2d (pc' := 45) dX3_fieldAt_44 rfl ?_
    refine e_iconst (pc' := 46) (v := nI 1) dX3_fieldAt_45 rfl (by decide) ?_
    refine e_iload (pc' := 48) dX3_fieldAt_46 rfl rfl ?_
    refine e_iaddN (pc' := 49) dX3_fieldAt_48 rfl ?_
    refine e_i2d (pc' := 50) dX3_fieldAt_49 rfl ?_
    refine e_ddiv (pc' := 51) dX3_fieldAt_50 rfl (vf64_of (FP.Core.DFin.notNaN (fdv_fin hw hp (by omega)))) ?_
    rw [show (FP.ddiv (FP.i2d (nI (cs c i))) (FP.i2d (nI (1 + (dif p (cp c i)))))) = fdv c p i from rfl]
    refine e_dstore (pc' := 53) (L' := [some (.ref (ad 12)), some (.int (nI p)), some (.double (iter (fdst c p) i FP.dconst0)), none, some (.int (nI i)), some (.int (nI (dif p (cp c i)))), some (.double (fdv c p i)), none]) dX3_fieldAt_51 rfl (by decide) rfl ?_
    refine e_aload_n (pc' := 54) dX3_fieldAt_53 rfl rfl rfl ?_
    refine p_gfr (pc' := 57) (a := 12) (k := 0) (t := 1) dX3_fieldAt_54 rfl rfl (by decide) (by decide) rfl fl_X3_9 ?_
    refine p_gfi (pc' := 60) (a := 1) (k := 4) (x := nI (cw c)) dX3_fieldAt_57 rfl (rfl) (by decide) (by decide) rfl fl_X3_28 (h.w) ?_
    refine e_iload (pc' := 62) dX3_fieldAt_60 rfl rfl ?_
    refine r_SN (pc' := 65) (m' := mX8_isIn) (As := [.int (nI (cw c)), .int (nI i)]) (st := []) (c_isIn (d := d) (w := cw c) (i := i) (by omega) (by omega)) dX3_fieldAt_62 rfl rfl (Nat.le_of_ble_eq_true rfl) (fit_of (by omega) (by decide) (by decide) (by decide)) nl_X3_31 okX8_isIn rfl rfl ?_
    show EV _ _ _ _ _ 65 _ ([.int (bI (Nat.testBit (cw c) (i)))]) _
    refine e_if_eqB (pc' := 68) (tgt := 75) dX3_fieldAt_65 rfl (by decide) (fun hb => ?_) (fun hb => ?_)
    · refine e_dload_n (pc' := 76) dX3_fieldAt_75 rfl rfl rfl ?_
      refine e_dload (pc' := 78) dX3_fieldAt_76 rfl rfl ?_
      refine e_dsub (pc' := 79) dX3_fieldAt_78 rfl (vf64_of (FP.Core.dsub_out (fld_nn hw hp i hi) (fdv_fin hw hp (by omega)))) ?_
      refine e_dstore_n (pc' := 80) (L' := [some (.ref (ad 12)), some (.int (nI p)), some (.double (FP.dsub (iter (fdst c p) i FP.dconst0) (fdv c p i))), none, some (.int (nI i)), some (.int (nI (dif p (cp c i)))), some (.double (fdv c p i)), none]) dX3_fieldAt_79 rfl rfl (by decide) rfl ?_
      refine e_iincN (pc' := 83) (k := 1) (L' := [some (.ref (ad 12)), some (.int (nI p)), some (.double (FP.dsub (iter (fdst c p) i FP.dconst0) (fdv c p i))), none, some (.int (nI (i + 1))), some (.int (nI (dif p (cp c i)))), some (.double (fdv c p i)), none]) dX3_fieldAt_80 rfl rfl rfl (by decide) rfl ?_
      refine e_goto (tgt := 5) dX3_fieldAt_83 (by decide) ?_
      refine e_fg (i := 5) (L' := [some (.ref (ad 12)), some (.int (nI p)), some (.double (FP.dsub (iter (fdst c p) i FP.dconst0) (fdv c p i))), none, some (.int (nI (i + 1))), none, some (.double (fdv c p i)), none]) rfl ?_
      refine e_fg (i := 6) (L' := [some (.ref (ad 12)), some (.int (nI p)), some (.double (FP.dsub (iter (fdst c p) i FP.dconst0) (fdv c p i))), none, some (.int (nI (i + 1))), none, none, none]) rfl ?_
      have e : iter (fdst c p) (i + 1) FP.dconst0 = FP.dsub (iter (fdst c p) i FP.dconst0) (fdv c p i) := (show fdst c p i _ = _ from if_neg (by rw [hb]; decide))
      exact ih (by omega) |> fun q => by rw [e] at q; exact q
    · refine e_dload_n (pc' := 69) dX3_fieldAt_68 rfl rfl rfl ?_
      refine e_dload (pc' := 71) dX3_fieldAt_69 rfl rfl ?_
      refine e_dadd (pc' := 72) dX3_fieldAt_71 rfl (vf64_of (FP.Core.dadd_out (fld_nn hw hp i hi) (fdv_fin hw hp (by omega)))) ?_
      refine e_goto (tgt := 79) dX3_fieldAt_72 (by decide) ?_
      refine e_dstore_n (pc' := 80) (L' := [some (.ref (ad 12)), some (.int (nI p)), some (.double (FP.dadd (iter (fdst c p) i FP.dconst0) (fdv c p i))), none, some (.int (nI i)), some (.int (nI (dif p (cp c i)))), some (.double (fdv c p i)), none]) dX3_fieldAt_79 rfl rfl (by decide) rfl ?_
      refine e_iincN (pc' := 83) (k := 1) (L' := [some (.ref (ad 12)), some (.int (nI p)), some (.double (FP.dadd (iter (fdst c p) i FP.dconst0) (fdv c p i))), none, some (.int (nI (i + 1))), some (.int (nI (dif p (cp c i)))), some (.double (fdv c p i)), none]) dX3_fieldAt_80 rfl rfl rfl (by decide) rfl ?_
      refine e_goto (tgt := 5) dX3_fieldAt_83 (by decide) ?_
      refine e_fg (i := 5) (L' := [some (.ref (ad 12)), some (.int (nI p)), some (.double (FP.dadd (iter (fdst c p) i FP.dconst0) (fdv c p i))), none, some (.int (nI (i + 1))), none, some (.double (fdv c p i)), none]) rfl ?_
      refine e_fg (i := 6) (L' := [some (.ref (ad 12)), some (.int (nI p)), some (.double (FP.dadd (iter (fdst c p) i FP.dconst0) (fdv c p i))), none, some (.int (nI (i + 1))), none, none, none]) rfl ?_
      have e : iter (fdst c p) (i + 1) FP.dconst0 = FP.dadd (iter (fdst c p) i FP.dconst0) (fdv c p i) := (show fdst c p i _ = _ from if_pos hb)
      exact ih (by omega) |> fun q => by rw [e] at q; exact q)
theorem c_field (h : ColAt M 1 c) (hw : WF c) {p : Nat} (hp : p < 100) : RET G ad (d + 1) mX3_fieldAt [.ref (ad 12), .int (nI p)] (M, o) (some (.double (fld c p))) (M, o) := by
  refine CM_of rfl (by decide) rfl (Nat.le_of_ble_eq_true rfl) rfl ?_
  have hn := hw.n
  have hk := hw.k
  have hw9 := hw.w9
  refine e_dconst0 (pc' := 1) dX3_fieldAt_0 rfl ?_
  refine e_dstore_n (pc' := 2) (L' := [some (.ref (ad 12)), some (.int (nI p)), some (.double (FP.dconst0)), none, none, none, none, none]) dX3_fieldAt_1 rfl rfl (by decide) rfl ?_
  refine e_iconst (pc' := 3) (v := nI 0) dX3_fieldAt_2 rfl (by decide) ?_
  refine e_istore (pc' := 5) (L' := [some (.ref (ad 12)), some (.int (nI p)), some (.double (FP.dconst0)), none, some (.int (nI 0)), none, none, none]) dX3_fieldAt_3 rfl (by decide) rfl ?_
  exact l_field h hw hp 0 (by omega)
theorem c_ufield (h : ColAt M 1 c) (hw : WF c) {p : Nat} (hp : p < 100) : RET G ad (d + 2) mX3_unsignedFieldAt [.ref (ad 12), .int (nI p)] (M, o) (some (.double (ufl c p))) (M, o) := by
  refine CM_of rfl (by decide) rfl (Nat.le_of_ble_eq_true rfl) rfl ?_
  have hn := hw.n
  have hk := hw.k
  have hw9 := hw.w9
  refine e_aload_n (pc' := 1) dX3_unsignedFieldAt_0 rfl rfl rfl ?_
  refine e_iload_n (pc' := 2) dX3_unsignedFieldAt_1 rfl rfl rfl ?_
  refine r_V (pc' := 5) (m' := mX3_fieldAt) (As := [.int (nI p)]) (st := []) (c_field (d := d) h hw (p := p) (by omega)) dX3_unsignedFieldAt_2 rfl rfl (Nat.le_of_ble_eq_true rfl) (fit_of (by omega) (by decide) (by decide) (by decide)) ml_X3_58 okX3_fieldAt rfl rfl (by decide) rfl ?_
  show EV _ _ _ _ _ 5 _ ([.double (fld c (p))]) _
  refine e_dstore_n (pc' := 6) (L' := [some (.ref (ad 12)), some (.int (nI p)), some (.double (fld c (p))), none]) dX3_unsignedFieldAt_5 rfl rfl (by decide) rfl ?_
  refine e_dload_n (pc' := 7) dX3_unsignedFieldAt_6 rfl rfl rfl ?_
  refine e_dconst0 (pc' := 8) dX3_unsignedFieldAt_7 rfl ?_
  refine e_dcmp (pc' := 9) dX3_unsignedFieldAt_8 rfl ?_
  refine e_if_ge (pc' := 12) (tgt := 17) dX3_unsignedFieldAt_9 rfl (by decide) (fun h1 => ?_) (fun h1 => ?_)
  · refine e_dload_n (pc' := 18) dX3_unsignedFieldAt_17 rfl rfl rfl ?_
    exact e_dret dX3_unsignedFieldAt_18 rfl (MP.ret (congrArg (fun z => some (Value.double z)) (by unfold ufl; first | rw [if_pos h1] | rw [if_neg h1])) rfl) (by decide) (by decide)
  · refine e_dload_n (pc' := 13) dX3_unsignedFieldAt_12 rfl rfl rfl ?_
    refine e_dneg (pc' := 14) dX3_unsignedFieldAt_13 rfl ?_
    refine e_goto (tgt := 18) dX3_unsignedFieldAt_14 (by decide) ?_
    exact e_dret dX3_unsignedFieldAt_18 rfl (MP.ret (congrArg (fun z => some (Value.double z)) (by unfold ufl; first | rw [if_pos h1] | rw [if_neg h1])) rfl) (by decide) (by decide)
theorem l_psf (h : ColAt M 1 c) (hw : WF c) (h0 : ¬ cn c = 0) : ∀ i, i ≤ 99 → ER G ad (d + 3) mX3_positionOfStrongestField (0, 0) (PR (some (.int (oI (psF c)))) (M, o)) (0, 0) 23 [some (.ref (ad 12)), some (.int (nI (psf c i))), some (.double (ufl c (psf c i))), none, some (.int (nI (i + 1))), none, none] [] (M, o) := down (99) _ (fun i hi ih  => by
  have hn := hw.n
  have hk := hw.k
  have hw9 := hw.w9
  have hps := psf_le (c := c) i
  refine e_iload (pc' := 25) dX3_positionOfStrongestField_23 rfl rfl ?_
  refine e_bipush (pc' := 27) (v := nI 100) dX3_positionOfStrongestField_25 rfl (by decide) ?_
  refine e_icmp_geN (pc' := 30) (tgt := 57) dX3_positionOfStrongestField_27 rfl (by decide) (by omega) (by omega) (fun hz1 => ?_) (fun hz1 => ?_)
  · refine e_iload_n (pc' := 58) dX3_positionOfStrongestField_57 rfl rfl rfl ?_
    exact e_iret dX3_positionOfStrongestField_58 rfl (MP.ret (congrArg (fun z => some (Value.int z)) (by unfold psF; rw [if_neg h0, show i = 99 by omega]; rfl)) rfl) (by decide) (by decide)
  · refine e_aload_n (pc' := 31) dX3_positionOfStrongestField_30 rfl rfl rfl ?_
    refine e_iload (pc' := 33) dX3_positionOfStrongestField_31 rfl rfl ?_
    refine r_V (pc' := 36) (m' := mX3_unsignedFieldAt) (As := [.int (nI (i + 1))]) (st := []) (c_ufield (d := d) h hw (p := i + 1) (by omega)) dX3_positionOfStrongestField_33 rfl rfl (Nat.le_of_ble_eq_true rfl) (fit_of (by omega) (by decide) (by decide) (by decide)) ml_X3_62 okX3_unsignedFieldAt rfl rfl (by decide) rfl ?_
    show EV _ _ _ _ _ 36 _ ([.double (ufl c (i + 1))]) _
    refine e_dstore (pc' := 38) (L' := [some (.ref (ad 12)), some (.int (nI (psf c i))), some (.double (ufl c (psf c i))), none, some (.int (nI (i + 1))), some (.double (ufl c (i + 1))), none]) dX3_positionOfStrongestField_36 rfl (by decide) rfl ?_
    refine e_dload (pc' := 40) dX3_positionOfStrongestField_38 rfl rfl ?_
    refine e_dload_n (pc' := 41) dX3_positionOfStrongestField_40 rfl rfl rfl ?_
    refine e_dcmp (pc' := 42) dX3_positionOfStrongestField_41 rfl ?_
    refine e_if_le (pc' := 45) (tgt := 51) dX3_positionOfStrongestField_42 rfl (by decide) (fun h1 => ?_) (fun h1 => ?_)
    · refine e_iincN (pc' := 54) (k := 1) (L' := [some (.ref (ad 12)), some (.int (nI (psf c i))), some (.double (ufl c (psf c i))), none, some (.int (nI (i + 1 + 1))), some (.double (ufl c (i + 1))), none]) dX3_positionOfStrongestField_51 rfl rfl rfl (by decide) rfl ?_
      refine e_goto (tgt := 23) dX3_positionOfStrongestField_54 (by decide) ?_
      refine e_fg (i := 5) (L' := [some (.ref (ad 12)), some (.int (nI (psf c i))), some (.double (ufl c (psf c i))), none, some (.int (nI (i + 1 + 1))), none, none]) rfl ?_
      have e : psf c (i + 1) = psf c i := if_pos h1
      exact ih (by omega) |> fun q => by rw [e] at q; exact q
    · refine e_iload (pc' := 47) dX3_positionOfStrongestField_45 rfl rfl ?_
      refine e_istore_n (pc' := 48) (L' := [some (.ref (ad 12)), some (.int (nI (i + 1))), some (.double (ufl c (psf c i))), none, some (.int (nI (i + 1))), some (.double (ufl c (i + 1))), none]) dX3_positionOfStrongestField_47 rfl rfl (by decide) rfl ?_
      refine e_dload (pc' := 50) dX3_positionOfStrongestField_48 rfl rfl ?_
      refine e_dstore_n (pc' := 51) (L' := [some (.ref (ad 12)), some (.int (nI (i + 1))), some (.double (ufl c (i + 1))), none, some (.int (nI (i + 1))), some (.double (ufl c (i + 1))), none]) dX3_positionOfStrongestField_50 rfl rfl (by decide) rfl ?_
      refine e_iincN (pc' := 54) (k := 1) (L' := [some (.ref (ad 12)), some (.int (nI (i + 1))), some (.double (ufl c (i + 1))), none, some (.int (nI (i + 1 + 1))), some (.double (ufl c (i + 1))), none]) dX3_positionOfStrongestField_51 rfl rfl rfl (by decide) rfl ?_
      refine e_goto (tgt := 23) dX3_positionOfStrongestField_54 (by decide) ?_
      refine e_fg (i := 5) (L' := [some (.ref (ad 12)), some (.int (nI (i + 1))), some (.double (ufl c (i + 1))), none, some (.int (nI (i + 1 + 1))), none, none]) rfl ?_
      have e : psf c (i + 1) = i + 1 := if_neg h1
      exact ih (by omega) |> fun q => by rw [e] at q; exact q)
theorem c_psf (h : ColAt M 1 c) (hw : WF c) : RET G ad (d + 3) mX3_positionOfStrongestField [.ref (ad 12)] (M, o) (some (.int (oI (psF c)))) (M, o) := by
  refine CM_of rfl (by decide) rfl (Nat.le_of_ble_eq_true rfl) rfl ?_
  have hn := hw.n
  have hk := hw.k
  have hw9 := hw.w9
  refine e_aload_n (pc' := 1) dX3_positionOfStrongestField_0 rfl rfl rfl ?_
  refine p_gfr (pc' := 4) (a := 12) (k := 0) (t := 1) dX3_positionOfStrongestField_1 rfl rfl (by decide) (by decide) rfl fl_X3_9 ?_
  refine p_gfi (pc' := 7) (a := 1) (k := 0) (x := nI (cn c)) dX3_positionOfStrongestField_4 rfl (rfl) (by decide) (by decide) rfl fl_X3_15 (h.n) ?_
  refine e_if_neN (pc' := 10) (tgt := 12) dX3_positionOfStrongestField_7 rfl (by decide) (by omega) (fun h1 => ?_) (fun h1 => ?_)
  · refine e_iconst (pc' := 13) (v := nI 0) dX3_positionOfStrongestField_12 rfl (by decide) ?_
    refine e_istore_n (pc' := 14) (L' := [some (.ref (ad 12)), some (.int (nI 0)), none, none, none, none, none]) dX3_positionOfStrongestField_13 rfl rfl (by decide) rfl ?_
    refine e_aload_n (pc' := 15) dX3_positionOfStrongestField_14 rfl rfl rfl ?_
    refine e_iconst (pc' := 16) (v := nI 0) dX3_positionOfStrongestField_15 rfl (by decide) ?_
    refine r_V (pc' := 19) (m' := mX3_unsignedFieldAt) (As := [.int (nI 0)]) (st := []) (c_ufield (d := d) h hw (p := 0) (by omega)) dX3_positionOfStrongestField_16 rfl rfl (Nat.le_of_ble_eq_true rfl) (fit_of (by omega) (by decide) (by decide) (by decide)) ml_X3_62 okX3_unsignedFieldAt rfl rfl (by decide) rfl ?_
    show EV _ _ _ _ _ 19 _ ([.double (ufl c (0))]) _
    refine e_dstore_n (pc' := 20) (L' := [some (.ref (ad 12)), some (.int (nI 0)), some (.double (ufl c (0))), none, none, none, none]) dX3_positionOfStrongestField_19 rfl rfl (by decide) rfl ?_
    refine e_iconst (pc' := 21) (v := nI 1) dX3_positionOfStrongestField_20 rfl (by decide) ?_
    refine e_istore (pc' := 23) (L' := [some (.ref (ad 12)), some (.int (nI 0)), some (.double (ufl c (0))), none, some (.int (nI 1)), none, none]) dX3_positionOfStrongestField_21 rfl (by decide) rfl ?_
    exact l_psf h hw h1 0 (by omega)
  · refine e_iconst (pc' := 11) (v := (-1)) dX3_positionOfStrongestField_10 rfl (by decide) ?_
    exact e_iret dX3_positionOfStrongestField_11 rfl (MP.ret (congrArg (fun z => some (Value.int z)) (by unfold psF; rw [if_pos h1]; rfl)) rfl) (by decide) (by decide)
def mig (c : Col) (i : Nat) : UInt64 := match mif c i with
  | none => FP.dconst0
  | some b => ufl c (cp c b)
theorem mif_o (hn : cn c ≤ 9) {i : Nat} (hi : i ≤ cn c) : oI (mif c i) = -1 ↔ mif c i = none := oI_ne (fun j e => by have := mif_lt i j e; omega)
theorem mif_s (i : Nat) : mif c (i + 1) = (match mif c i with | none => some i | some b => if Op.cmpValue (FP.dcmp (ufl c (cp c i)) (ufl c (cp c b))) .l ≤ 0 then some b else some i) := rfl
theorem mif_take {i : Nat} (h : mif c i = none ∨ ¬ Op.cmpValue (FP.dcmp (ufl c (cp c i)) (mig c i)) .l ≤ 0) : mif c (i + 1) = some i := by
  rw [mif_s]
  unfold mig at h
  cases q : mif c i with
  | none => rfl
  | some b =>
    rw [q] at h
    rcases h with h | h
    · cases h
    · exact if_neg h
theorem mif_skip {i : Nat} (h1 : ¬ mif c i = none) (h : Op.cmpValue (FP.dcmp (ufl c (cp c i)) (mig c i)) .l ≤ 0) : mif c (i + 1) = mif c i := by
  rw [mif_s]
  unfold mig at h
  cases q : mif c i with
  | none => exact absurd q h1
  | some b =>
    rw [q] at h
    exact if_pos h
theorem mig_eq {i j : Nat} (e : mif c i = mif c j) : mig c i = mig c j := by unfold mig; rw [e]
theorem mig_some {i b : Nat} (e : mif c i = some b) : mig c i = ufl c (cp c b) := by unfold mig; rw [e]
theorem l_mif (h : ColAt M 1 c) (hw : WF c) : ∀ i, i ≤ cn c → ER G ad (d + 3) mX3_magnetInStrongestField (0, 0) (PR (some (.int (oI (mif c (cn c))))) (M, o)) (0, 0) 7 [some (.ref (ad 12)), some (.int (oI (mif c i))), some (.double (mig c i)), none, some (.int (nI i)), none, none] [] (M, o) := down (cn c) _ (fun i hi ih  => by
  have hn := hw.n
  have hk := hw.k
  have hw9 := hw.w9
  refine e_iload (pc' := 9) dX3_magnetInStrongestField_7 rfl rfl ?_
  refine e_aload_n (pc' := 10) dX3_magnetInStrongestField_9 rfl rfl rfl ?_
  refine p_gfr (pc' := 13) (a := 12) (k := 0) (t := 1) dX3_magnetInStrongestField_10 rfl rfl (by decide) (by decide) rfl fl_X3_9 ?_
  refine p_gfi (pc' := 16) (a := 1) (k := 0) (x := nI (cn c)) dX3_magnetInStrongestField_13 rfl (rfl) (by decide) (by decide) rfl fl_X3_15 (h.n) ?_
  refine e_icmp_geN (pc' := 19) (tgt := 59) dX3_magnetInStrongestField_16 rfl (by decide) (by omega) (by omega) (fun hz1 => ?_) (fun hz1 => ?_)
  · refine e_iload_n (pc' := 60) dX3_magnetInStrongestField_59 rfl rfl rfl ?_
    exact e_iret dX3_magnetInStrongestField_60 rfl (MP.ret (congrArg (fun z => some (Value.int z)) (by rw [show i = cn c by omega])) rfl) (by decide) (by decide)
  · refine e_aload_n (pc' := 20) dX3_magnetInStrongestField_19 rfl rfl rfl ?_
    refine e_aload_n (pc' := 21) dX3_magnetInStrongestField_20 rfl rfl rfl ?_
    refine p_gfr (pc' := 24) (a := 12) (k := 0) (t := 1) dX3_magnetInStrongestField_21 rfl rfl (by decide) (by decide) rfl fl_X3_9 ?_
    refine p_gfr (pc' := 27) (a := 1) (k := 1) (t := 2) dX3_magnetInStrongestField_24 rfl rfl (by decide) (by decide) rfl fl_X3_21 ?_
    refine e_iload (pc' := 29) dX3_magnetInStrongestField_27 rfl rfl ?_
    have hi1 : i < cn c := by omega
    have hb1 := hw.p hi1
    refine p_iald (pc' := 30) (a := 2) (k := i) (x := nI (cp c i)) dX3_magnetInStrongestField_29 rfl (rfl) (rfl) (by omega) (by decide) (h.p hi1) ?_
    refine r_V (pc' := 33) (m' := mX3_unsignedFieldAt) (As := [.int (nI (cp c i))]) (st := []) (c_ufield (d := d) h hw (p := cp c i) (by omega)) dX3_magnetInStrongestField_30 rfl rfl (Nat.le_of_ble_eq_true rfl) (fit_of (by omega) (by decide) (by decide) (by decide)) ml_X3_62 okX3_unsignedFieldAt rfl rfl (by decide) rfl ?_
    show EV _ _ _ _ _ 33 _ ([.double (ufl c (cp c i))]) _
    refine e_dstore (pc' := 35) (L' := [some (.ref (ad 12)), some (.int (oI (mif c i))), some (.double (mig c i)), none, some (.int (nI i)), some (.double (ufl c (cp c i))), none]) dX3_magnetInStrongestField_33 rfl (by decide) rfl ?_
    refine e_iload_n (pc' := 36) dX3_magnetInStrongestField_35 rfl rfl rfl ?_
    refine e_iconst (pc' := 37) (v := (-1)) dX3_magnetInStrongestField_36 rfl (by decide) ?_
    refine e_icmp_eq (pc' := 40) (tgt := 47) dX3_magnetInStrongestField_37 rfl (by decide) (fun h1 => ?_) (fun h1 => ?_)
    · refine e_iload (pc' := 49) dX3_magnetInStrongestField_47 rfl rfl ?_
      refine e_istore_n (pc' := 50) (L' := [some (.ref (ad 12)), some (.int (nI i)), some (.double (mig c i)), none, some (.int (nI i)), some (.double (ufl c (cp c i))), none]) dX3_magnetInStrongestField_49 rfl rfl (by decide) rfl ?_
      refine e_dload (pc' := 52) dX3_magnetInStrongestField_50 rfl rfl ?_
      refine e_dstore_n (pc' := 53) (L' := [some (.ref (ad 12)), some (.int (nI i)), some (.double (ufl c (cp c i))), none, some (.int (nI i)), some (.double (ufl c (cp c i))), none]) dX3_magnetInStrongestField_52 rfl rfl (by decide) rfl ?_
      refine e_iincN (pc' := 56) (k := 1) (L' := [some (.ref (ad 12)), some (.int (nI i)), some (.double (ufl c (cp c i))), none, some (.int (nI (i + 1))), some (.double (ufl c (cp c i))), none]) dX3_magnetInStrongestField_53 rfl rfl rfl (by decide) rfl ?_
      refine e_goto (tgt := 7) dX3_magnetInStrongestField_56 (by decide) ?_
      refine e_fg (i := 5) (L' := [some (.ref (ad 12)), some (.int (nI i)), some (.double (ufl c (cp c i))), none, some (.int (nI (i + 1))), none, none]) rfl ?_
      have e := mif_take (c := c) (i := i) (by first | exact Or.inl ((mif_o hn hi).mp h1) | exact Or.inr h2)
      exact ih (by omega) |> fun q => by rw [mig_some e, e] at q; exact q
    · refine e_dload (pc' := 42) dX3_magnetInStrongestField_40 rfl rfl ?_
      refine e_dload_n (pc' := 43) dX3_magnetInStrongestField_42 rfl rfl rfl ?_
      refine e_dcmp (pc' := 44) dX3_magnetInStrongestField_43 rfl ?_
      refine e_if_le (pc' := 47) (tgt := 53) dX3_magnetInStrongestField_44 rfl (by decide) (fun h2 => ?_) (fun h2 => ?_)
      · refine e_iincN (pc' := 56) (k := 1) (L' := [some (.ref (ad 12)), some (.int (oI (mif c i))), some (.double (mig c i)), none, some (.int (nI (i + 1))), some (.double (ufl c (cp c i))), none]) dX3_magnetInStrongestField_53 rfl rfl rfl (by decide) rfl ?_
        refine e_goto (tgt := 7) dX3_magnetInStrongestField_56 (by decide) ?_
        refine e_fg (i := 5) (L' := [some (.ref (ad 12)), some (.int (oI (mif c i))), some (.double (mig c i)), none, some (.int (nI (i + 1))), none, none]) rfl ?_
        have e := mif_skip (c := c) (i := i) (fun z => h1 ((mif_o hn hi).mpr z)) h2
        exact ih (by omega) |> fun q => by rw [mig_eq e, e] at q; exact q
      · refine e_iload (pc' := 49) dX3_magnetInStrongestField_47 rfl rfl ?_
        refine e_istore_n (pc' := 50) (L' := [some (.ref (ad 12)), some (.int (nI i)), some (.double (mig c i)), none, some (.int (nI i)), some (.double (ufl c (cp c i))), none]) dX3_magnetInStrongestField_49 rfl rfl (by decide) rfl ?_
        refine e_dload (pc' := 52) dX3_magnetInStrongestField_50 rfl rfl ?_
        refine e_dstore_n (pc' := 53) (L' := [some (.ref (ad 12)), some (.int (nI i)), some (.double (ufl c (cp c i))), none, some (.int (nI i)), some (.double (ufl c (cp c i))), none]) dX3_magnetInStrongestField_52 rfl rfl (by decide) rfl ?_
        refine e_iincN (pc' := 56) (k := 1) (L' := [some (.ref (ad 12)), some (.int (nI i)), some (.double (ufl c (cp c i))), none, some (.int (nI (i + 1))), some (.double (ufl c (cp c i))), none]) dX3_magnetInStrongestField_53 rfl rfl rfl (by decide) rfl ?_
        refine e_goto (tgt := 7) dX3_magnetInStrongestField_56 (by decide) ?_
        refine e_fg (i := 5) (L' := [some (.ref (ad 12)), some (.int (nI i)), some (.double (ufl c (cp c i))), none, some (.int (nI (i + 1))), none, none]) rfl ?_
        have e := mif_take (c := c) (i := i) (by first | exact Or.inl ((mif_o hn hi).mp h1) | exact Or.inr h2)
        exact ih (by omega) |> fun q => by rw [mig_some e, e] at q; exact q)
theorem c_mif (h : ColAt M 1 c) (hw : WF c) : RET G ad (d + 3) mX3_magnetInStrongestField [.ref (ad 12)] (M, o) (some (.int (oI (mif c (cn c))))) (M, o) := by
  refine CM_of rfl (by decide) rfl (Nat.le_of_ble_eq_true rfl) rfl ?_
  have hn := hw.n
  have hk := hw.k
  have hw9 := hw.w9
  refine e_iconst (pc' := 1) (v := (-1)) dX3_magnetInStrongestField_0 rfl (by decide) ?_
  refine e_istore_n (pc' := 2) (L' := [some (.ref (ad 12)), some (.int ((-1))), none, none, none, none, none]) dX3_magnetInStrongestField_1 rfl rfl (by decide) rfl ?_
  refine e_dconst0 (pc' := 3) dX3_magnetInStrongestField_2 rfl ?_
  refine e_dstore_n (pc' := 4) (L' := [some (.ref (ad 12)), some (.int ((-1))), some (.double (FP.dconst0)), none, none, none, none]) dX3_magnetInStrongestField_3 rfl rfl (by decide) rfl ?_
  refine e_iconst (pc' := 5) (v := nI 0) dX3_magnetInStrongestField_4 rfl (by decide) ?_
  refine e_istore (pc' := 7) (L' := [some (.ref (ad 12)), some (.int ((-1))), some (.double (FP.dconst0)), none, some (.int (nI 0)), none, none]) dX3_magnetInStrongestField_5 rfl (by decide) rfl ?_
  exact l_mif h hw 0 (by omega)
end T17

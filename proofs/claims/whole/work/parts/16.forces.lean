set_option maxHeartbeats 400000
/-! FORCES -/
theorem vf32_of {x : UInt32} (h : FP.Core.fIsNaN x = false) : vf_n32 x := by
  have h1 := mt (FP.Core.isNaN_bits32 x).mpr (by rw [h]; decide)
  show x &&& 0x7fffffff ≤ 0x7f800000
  rw [UInt32.le_iff_toNat_le, UInt32.toNat_and]
  show x.toNat &&& 2147483647 ≤ 2139095040
  rw [show (2147483647 : Nat) = 2 ^ 31 - 1 by decide, Nat.and_two_pow_sub_one_eq_mod]
  omega
theorem vf64_of {x : UInt64} (h : FP.Core.dIsNaN x = false) : vf_n64 x := by
  have h1 := mt (FP.Core.isNaN_bits x).mpr (by rw [h]; decide)
  show x &&& 0x7fffffffffffffff ≤ 0x7ff0000000000000
  rw [UInt64.le_iff_toNat_le, UInt64.toNat_and]
  show x.toNat &&& 9223372036854775807 ≤ 9218868437227405312
  rw [show (9223372036854775807 : Nat) = 2 ^ 63 - 1 by decide, Nat.and_two_pow_sub_one_eq_mod]
  omega
def gapI (c : Col) (m o : Nat) : Int32 := nI (cp c m) - nI (cp c o)
def fsz (c : Col) (m o : Nat) : UInt32 := FP.fdiv (FP.i2f (nI (cs c m * cs c o))) (FP.i2f (gapI c m o * gapI c m o))
def fup (c : Col) (m o : Nat) : Bool := decide ((cw c).testBit m = (cw c).testBit o) == decide (¬ gapI c m o ≤ 0)
def fst2 (c : Col) (m o : Nat) (s : UInt32) : UInt32 := if gapI c m o = 0 then s else if fup c m o = true then FP.fadd s (fsz c m o) else FP.fsub s (fsz c m o)
def frc (c : Col) (m : Nat) : UInt32 := iter (fst2 c m) (cn c) FP.fconst0
theorem sq_mag : ∀ k, 1 ≤ k → k < 100 → 127 * 2 ^ 23 ≤ (FP.i2f (nI (k * k))).toNat % 2 ^ 31 := by
  have h : ∀ k, k < 100 → 1 ≤ k → 127 * 2 ^ 23 ≤ (FP.i2f (nI (k * k))).toNat % 2 ^ 31 := by decide +kernel
  exact fun k h1 h2 => h k h2 h1
theorem sub_sq {a b : Nat} (ha : a < 100) (hb : b < 100) (hne : ¬ nI a - nI b = 0) : ∃ k, 1 ≤ k ∧ k < 100 ∧ (nI a - nI b) * (nI a - nI b) = nI (k * k) := by
  rcases Nat.lt_trichotomy a b with h | h | h
  · refine ⟨b - a, by omega, by omega, ?_⟩
    rw [show nI a - nI b = -(nI b - nI a) from Int32.neg_sub.symm, Int32.neg_mul_neg, pk_sub (Nat.le_of_lt h), pk_mul]
  · subst h; exact absurd (Int32.sub_self ..) hne
  · refine ⟨a - b, by omega, by omega, ?_⟩
    rw [pk_sub (Nat.le_of_lt h), pk_mul]
theorem fsz_fin {c : Col} (hw : WF c) {m o : Nat} (hm : m < cn c) (ho : o < cn c) (hne : ¬ gapI c m o = 0) : FP.Core.FFin (fsz c m o) := by
  obtain ⟨k, h1, h2, h3⟩ := sub_sq (hw.p hm) (hw.p ho) hne
  unfold fsz
  show FP.Core.FFin (FP.fdiv _ (FP.i2f ((nI (cp c m) - nI (cp c o)) * (nI (cp c m) - nI (cp c o)))))
  rw [h3]
  have h4 := FP.Core.fdiv_mag (K := 160) (L := 127) (FP.Core.i2f_mag (nI (cs c m * cs c o))) (sq_mag k h1 h2) (Nat.lt_of_lt_of_le (FP.Core.i2f_mag _) (by decide)) (by decide) (by decide)
  exact FP.Core.fin_of_lt32 (K := 161) (Nat.lt_of_lt_of_le h4 (by decide)) (by decide)
theorem frc_nn {c : Col} (hw : WF c) {m : Nat} (hm : m < cn c) : ∀ i, i ≤ cn c → FP.fIsNaN (iter (fst2 c m) i FP.fconst0) = false
  | 0, _ => by show FP.fIsNaN FP.fconst0 = false; decide +kernel
  | i + 1, hi => by
    have h := frc_nn hw hm i (by omega)
    show FP.fIsNaN (fst2 c m i (iter (fst2 c m) i FP.fconst0)) = false
    unfold fst2
    split
    · exact h
    · rename_i hg
      have hf := fsz_fin hw hm (by omega : i < cn c) hg
      split
      · exact FP.Core.fadd_out h hf
      · exact FP.Core.fsub_out h hf
theorem bI_inj {a b : Bool} : bI a = bI b ↔ a = b := by cases a <;> cases b <;> decide
theorem bI_lit1 {b : Bool} : bI b = nI 1 ↔ b = true := by cases b <;> decide
section T16
variable {G : gC} {ad : Nat → Nat} {d : Nat} {M : Nat → Nat → Int32} {o : (Nat → Int64) × (Nat → UInt64)} {c : Col}
theorem l_force (h : ColAt M 1 c) (hw : WF c) {m : Nat} (hm : m < cn c) : ∀ i, i ≤ cn c → ER G ad (d + 1) mX3_forceOn (0, 0) (PR (some (.float (frc c m))) (M, o)) (0, 0) 4 [some (.ref (ad 12)), some (.int (nI m)), some (.float (iter (fst2 c m) i FP.fconst0)), some (.int (nI i)), none, none, none, none] [] (M, o) := down (cn c) _ (fun i hi ih  => by
  have hn := hw.n
  have hk := hw.k
  have hw9 := hw.w9
  refine e_iload_n (pc' := 5) dX3_forceOn_4 rfl rfl rfl ?_
  refine e_aload_n (pc' := 6) dX3_forceOn_5 rfl rfl rfl ?_
  refine p_gfr (pc' := 9) (a := 12) (k := 0) (t := 1) dX3_forceOn_6 rfl rfl (by decide) (by decide) rfl fl_X3_9 ?_
  refine p_gfi (pc' := 12) (a := 1) (k := 0) (x := nI (cn c)) dX3_forceOn_9 rfl (rfl) (by decide) (by decide) rfl fl_X3_15 (h.n) ?_
  refine e_icmp_geN (pc' := 15) (tgt := 147) dX3_forceOn_12 rfl (by decide) (by omega) (by omega) (fun hz1 => ?_) (fun hz1 => ?_)
  · refine e_fload_n (pc' := 148) dX3_forceOn_147 rfl rfl rfl ?_
    exact e_fret dX3_forceOn_148 rfl (MP.ret (by rw [show i = cn c by omega]; rfl) rfl) (by decide) (by decide)
  · refine e_aload_n (pc' := 16) dX3_forceOn_15 rfl rfl rfl ?_
    refine p_gfr (pc' := 19) (a := 12) (k := 0) (t := 1) dX3_forceOn_16 rfl rfl (by decide) (by decide) rfl fl_X3_9 ?_
    refine p_gfr (pc' := 22) (a := 1) (k := 1) (t := 2) dX3_forceOn_19 rfl rfl (by decide) (by decide) rfl fl_X3_21 ?_
    refine e_iload_n (pc' := 23) dX3_forceOn_22 rfl rfl rfl ?_
    have hi1 : m < cn c := by omega
    have hb1 := hw.p hi1
    refine p_iald (pc' := 24) (a := 2) (k := m) (x := nI (cp c m)) dX3_forceOn_23 rfl (rfl) (rfl) (by omega) (by decide) (h.p hi1) ?_
    refine e_aload_n (pc' := 25) dX3_forceOn_24 rfl rfl rfl ?_
    refine p_gfr (pc' := 28) (a := 12) (k := 0) (t := 1) dX3_forceOn_25 rfl rfl (by decide) (by decide) rfl fl_X3_9 ?_
    refine p_gfr (pc' := 31) (a := 1) (k := 1) (t := 2) dX3_forceOn_28 rfl rfl (by decide) (by decide) rfl fl_X3_21 ?_
    refine e_iload_n (pc' := 32) dX3_forceOn_31 rfl rfl rfl ?_
    have hi2 : i < cn c := by omega
    have hb2 := hw.p hi2
    refine p_iald (pc' := 33) (a := 2) (k := i) (x := nI (cp c i)) dX3_forceOn_32 rfl (rfl) (rfl) (by omega) (by decide) (h.p hi2) ?_
    refine e_isub (pc' := 34) dX3_forceOn_33 rfl ?_
    rw [show ((nI (cp c m)) - (nI (cp c i))) = gapI c m i from rfl]
    refine e_istore (pc' := 36) (L' := [some (.ref (ad 12)), some (.int (nI m)), some (.float (iter (fst2 c m) i FP.fconst0)), some (.int (nI i)), some (.int (gapI c m i)), none, none, none]) dX3_forceOn_34 rfl (by decide) rfl ?_
    refine e_iload (pc' := 38) dX3_forceOn_36 rfl rfl ?_
    refine e_if_eq (pc' := 41) (tgt := 141) dX3_forceOn_38 rfl (by decide) (fun h1 => ?_) (fun h1 => ?_)
    · refine e_iincN (pc' := 144) (k := 1) (L' := [some (.ref (ad 12)), some (.int (nI m)), some (.float (iter (fst2 c m) i FP.fconst0)), some (.int (nI (i + 1))), some (.int (gapI c m i)), none, none, none]) dX3_forceOn_141 rfl rfl rfl (by decide) rfl ?_
      refine e_goto (tgt := 4) dX3_forceOn_144 (by decide) ?_
      refine e_fg (i := 4) (L' := [some (.ref (ad 12)), some (.int (nI m)), some (.float (iter (fst2 c m) i FP.fconst0)), some (.int (nI (i + 1))), none, none, none, none]) rfl ?_
      have e : iter (fst2 c m) (i + 1) FP.fconst0 = iter (fst2 c m) i FP.fconst0 := (show fst2 c m i _ = _ from if_pos h1)
      exact ih (by omega) |> fun q => by rw [e] at q; exact q
    · refine e_aload_n (pc' := 42) dX3_forceOn_41 rfl rfl rfl ?_
      refine p_gfr (pc' := 45) (a := 12) (k := 0) (t := 1) dX3_forceOn_42 rfl rfl (by decide) (by decide) rfl fl_X3_9 ?_
      refine p_gfr (pc' := 48) (a := 1) (k := 2) (t := 3) dX3_forceOn_45 rfl rfl (by decide) (by decide) rfl fl_X3_25 ?_
      refine e_iload_n (pc' := 49) dX3_forceOn_48 rfl rfl rfl ?_
      have hi3 : m < cn c := by omega
      have hb3 := hw.s1 hi3
      have hc3 := hw.s2 hi3
      refine p_iald (pc' := 50) (a := 3) (k := m) (x := nI (cs c m)) dX3_forceOn_49 rfl (rfl) (rfl) (by omega) (by decide) (h.s hi3) ?_
      refine e_aload_n (pc' := 51) dX3_forceOn_50 rfl rfl rfl ?_
      refine p_gfr (pc' := 54) (a := 12) (k := 0) (t := 1) dX3_forceOn_51 rfl rfl (by decide) (by decide) rfl fl_X3_9 ?_
      refine p_gfr (pc' := 57) (a := 1) (k := 2) (t := 3) dX3_forceOn_54 rfl rfl (by decide) (by decide) rfl fl_X3_25 ?_
      refine e_iload_n (pc' := 58) dX3_forceOn_57 rfl rfl rfl ?_
      have hi4 : i < cn c := by omega
      have hb4 := hw.s1 hi4
      have hc4 := hw.s2 hi4
      refine p_iald (pc' := 59) (a := 3) (k := i) (x := nI (cs c i)) dX3_forceOn_58 rfl (rfl) (rfl) (by omega) (by decide) (h.s hi4) ?_
      refine e_imulN (pc' := 60) dX3_forceOn_59 rfl ?_
      refine e_i2f (pc' := 61) dX3_forceOn_60 rfl ?_
      refine e_iload (pc' := 63) dX3_forceOn_61 rfl rfl ?_
      refine e_iload (pc' := 65) dX3_forceOn_63 rfl rfl ?_
      refine e_imul (pc' := 66) dX3_forceOn_65 rfl ?_
      refine e_i2f (pc' := 67) dX3_forceOn_66 rfl ?_
      refine e_fdiv (pc' := 68) dX3_forceOn_67 rfl (vf32_of (FP.Core.FFin.notNaN (fsz_fin hw hm (by omega) h1))) ?_
      rw [show (FP.fdiv (FP.i2f (nI ((cs c m) * (cs c i)))) (FP.i2f ((gapI c m i) * (gapI c m i)))) = fsz c m i from rfl]
      refine e_fstore (pc' := 70) (L' := [some (.ref (ad 12)), some (.int (nI m)), some (.float (iter (fst2 c m) i FP.fconst0)), some (.int (nI i)), some (.int (gapI c m i)), some (.float (fsz c m i)), none, none]) dX3_forceOn_68 rfl (by decide) rfl ?_
      refine e_aload_n (pc' := 71) dX3_forceOn_70 rfl rfl rfl ?_
      refine p_gfr (pc' := 74) (a := 12) (k := 0) (t := 1) dX3_forceOn_71 rfl rfl (by decide) (by decide) rfl fl_X3_9 ?_
      refine p_gfi (pc' := 77) (a := 1) (k := 4) (x := nI (cw c)) dX3_forceOn_74 rfl (rfl) (by decide) (by decide) rfl fl_X3_28 (h.w) ?_
      refine e_iload_n (pc' := 78) dX3_forceOn_77 rfl rfl rfl ?_
      refine r_SN (pc' := 81) (m' := mX8_isIn) (As := [.int (nI (cw c)), .int (nI m)]) (st := []) (c_isIn (d := d) (w := cw c) (i := m) (by omega) (by omega)) dX3_forceOn_78 rfl rfl (Nat.le_of_ble_eq_true rfl) (fit_of (by omega) (by decide) (by decide) (by decide)) nl_X3_31 okX8_isIn rfl rfl ?_
      show EV _ _ _ _ _ 81 _ ([.int (bI (Nat.testBit (cw c) (m)))]) _
      refine e_aload_n (pc' := 82) dX3_forceOn_81 rfl rfl rfl ?_
      refine p_gfr (pc' := 85) (a := 12) (k := 0) (t := 1) dX3_forceOn_82 rfl rfl (by decide) (by decide) rfl fl_X3_9 ?_
      refine p_gfi (pc' := 88) (a := 1) (k := 4) (x := nI (cw c)) dX3_forceOn_85 rfl (rfl) (by decide) (by decide) rfl fl_X3_28 (h.w) ?_
      refine e_iload_n (pc' := 89) dX3_forceOn_88 rfl rfl rfl ?_
      refine r_SN (pc' := 92) (m' := mX8_isIn) (As := [.int (nI (cw c)), .int (nI i)]) (st := [.int (bI (Nat.testBit (cw c) (m)))]) (c_isIn (d := d) (w := cw c) (i := i) (by omega) (by omega)) dX3_forceOn_89 rfl rfl (Nat.le_of_ble_eq_true rfl) (fit_of (by omega) (by decide) (by decide) (by decide)) nl_X3_31 okX8_isIn rfl rfl ?_
      show EV _ _ _ _ _ 92 _ ([.int (bI (Nat.testBit (cw c) (i))), .int (bI (Nat.testBit (cw c) (m)))]) _
      refine e_icmp_ne (pc' := 95) (tgt := 99) dX3_forceOn_92 rfl (by decide) (fun h2 => ?_) (fun h2 => ?_)
      · refine e_iconst (pc' := 100) (v := nI 0) dX3_forceOn_99 rfl (by decide) ?_
        refine e_istore (pc' := 102) (L' := [some (.ref (ad 12)), some (.int (nI m)), some (.float (iter (fst2 c m) i FP.fconst0)), some (.int (nI i)), some (.int (gapI c m i)), some (.float (fsz c m i)), some (.int (nI 0)), none]) dX3_forceOn_100 rfl (by decide) rfl ?_
        refine e_iload (pc' := 104) dX3_forceOn_102 rfl rfl ?_
        refine e_iload (pc' := 106) dX3_forceOn_104 rfl rfl ?_
        refine e_if_le (pc' := 109) (tgt := 113) dX3_forceOn_106 rfl (by decide) (fun h3 => ?_) (fun h3 => ?_)
        · refine e_iconst (pc' := 114) (v := nI 0) dX3_forceOn_113 rfl (by decide) ?_
          refine e_icmp_neN (pc' := 117) (tgt := 121) dX3_forceOn_114 rfl (by decide) (by decide) (by decide) (fun h => absurd h (by decide)) (fun _ => ?_)
          refine e_iconst (pc' := 118) (v := nI 1) dX3_forceOn_117 rfl (by decide) ?_
          refine e_goto (tgt := 122) dX3_forceOn_118 (by decide) ?_
          refine e_istore (pc' := 124) (L' := [some (.ref (ad 12)), some (.int (nI m)), some (.float (iter (fst2 c m) i FP.fconst0)), some (.int (nI i)), some (.int (gapI c m i)), some (.float (fsz c m i)), some (.int (nI 0)), some (.int (nI 1))]) dX3_forceOn_122 rfl (by decide) rfl ?_
          refine e_iload (pc' := 126) dX3_forceOn_124 rfl rfl ?_
          refine e_if_eqN (pc' := 129) (tgt := 136) dX3_forceOn_126 rfl (by decide) (by decide) (fun h => absurd h (by decide)) (fun _ => ?_)
          refine e_fload_n (pc' := 130) dX3_forceOn_129 rfl rfl rfl ?_
          refine e_fload (pc' := 132) dX3_forceOn_130 rfl rfl ?_
          refine e_fadd (pc' := 133) dX3_forceOn_132 rfl (vf32_of (FP.Core.fadd_out (frc_nn hw hm i hi) (fsz_fin hw hm (by omega) h1))) ?_
          refine e_goto (tgt := 140) dX3_forceOn_133 (by decide) ?_
          refine e_fstore_n (pc' := 141) (L' := [some (.ref (ad 12)), some (.int (nI m)), some (.float (FP.fadd (iter (fst2 c m) i FP.fconst0) (fsz c m i))), some (.int (nI i)), some (.int (gapI c m i)), some (.float (fsz c m i)), some (.int (nI 0)), some (.int (nI 1))]) dX3_forceOn_140 rfl rfl (by decide) rfl ?_
          refine e_iincN (pc' := 144) (k := 1) (L' := [some (.ref (ad 12)), some (.int (nI m)), some (.float (FP.fadd (iter (fst2 c m) i FP.fconst0) (fsz c m i))), some (.int (nI (i + 1))), some (.int (gapI c m i)), some (.float (fsz c m i)), some (.int (nI 0)), some (.int (nI 1))]) dX3_forceOn_141 rfl rfl rfl (by decide) rfl ?_
          refine e_goto (tgt := 4) dX3_forceOn_144 (by decide) ?_
          refine e_fg (i := 4) (L' := [some (.ref (ad 12)), some (.int (nI m)), some (.float (FP.fadd (iter (fst2 c m) i FP.fconst0) (fsz c m i))), some (.int (nI (i + 1))), none, some (.float (fsz c m i)), some (.int (nI 0)), some (.int (nI 1))]) rfl ?_
          refine e_fg (i := 5) (L' := [some (.ref (ad 12)), some (.int (nI m)), some (.float (FP.fadd (iter (fst2 c m) i FP.fconst0) (fsz c m i))), some (.int (nI (i + 1))), none, none, some (.int (nI 0)), some (.int (nI 1))]) rfl ?_
          refine e_fg (i := 6) (L' := [some (.ref (ad 12)), some (.int (nI m)), some (.float (FP.fadd (iter (fst2 c m) i FP.fconst0) (fsz c m i))), some (.int (nI (i + 1))), none, none, none, some (.int (nI 1))]) rfl ?_
          refine e_fg (i := 7) (L' := [some (.ref (ad 12)), some (.int (nI m)), some (.float (FP.fadd (iter (fst2 c m) i FP.fconst0) (fsz c m i))), some (.int (nI (i + 1))), none, none, none, none]) rfl ?_
          have e : iter (fst2 c m) (i + 1) FP.fconst0 = FP.fadd (iter (fst2 c m) i FP.fconst0) (fsz c m i) := (show fst2 c m i _ = _ from (if_neg h1).trans (if_pos (by unfold fup; rw [bI_inj] at h2; simp [h2, h3])))
          exact ih (by omega) |> fun q => by rw [e] at q; exact q
        · refine e_iconst (pc' := 110) (v := nI 1) dX3_forceOn_109 rfl (by decide) ?_
          refine e_goto (tgt := 114) dX3_forceOn_110 (by decide) ?_
          refine e_icmp_neN (pc' := 117) (tgt := 121) dX3_forceOn_114 rfl (by decide) (by decide) (by decide) (fun _ => ?_) (fun h => absurd h (by decide))
          refine e_iconst (pc' := 122) (v := nI 0) dX3_forceOn_121 rfl (by decide) ?_
          refine e_istore (pc' := 124) (L' := [some (.ref (ad 12)), some (.int (nI m)), some (.float (iter (fst2 c m) i FP.fconst0)), some (.int (nI i)), some (.int (gapI c m i)), some (.float (fsz c m i)), some (.int (nI 0)), some (.int (nI 0))]) dX3_forceOn_122 rfl (by decide) rfl ?_
          refine e_iload (pc' := 126) dX3_forceOn_124 rfl rfl ?_
          refine e_if_eqN (pc' := 129) (tgt := 136) dX3_forceOn_126 rfl (by decide) (by decide) (fun _ => ?_) (fun h => absurd h (by decide))
          refine e_fload_n (pc' := 137) dX3_forceOn_136 rfl rfl rfl ?_
          refine e_fload (pc' := 139) dX3_forceOn_137 rfl rfl ?_
          refine e_fsub (pc' := 140) dX3_forceOn_139 rfl (vf32_of (FP.Core.fsub_out (frc_nn hw hm i hi) (fsz_fin hw hm (by omega) h1))) ?_
          refine e_fstore_n (pc' := 141) (L' := [some (.ref (ad 12)), some (.int (nI m)), some (.float (FP.fsub (iter (fst2 c m) i FP.fconst0) (fsz c m i))), some (.int (nI i)), some (.int (gapI c m i)), some (.float (fsz c m i)), some (.int (nI 0)), some (.int (nI 0))]) dX3_forceOn_140 rfl rfl (by decide) rfl ?_
          refine e_iincN (pc' := 144) (k := 1) (L' := [some (.ref (ad 12)), some (.int (nI m)), some (.float (FP.fsub (iter (fst2 c m) i FP.fconst0) (fsz c m i))), some (.int (nI (i + 1))), some (.int (gapI c m i)), some (.float (fsz c m i)), some (.int (nI 0)), some (.int (nI 0))]) dX3_forceOn_141 rfl rfl rfl (by decide) rfl ?_
          refine e_goto (tgt := 4) dX3_forceOn_144 (by decide) ?_
          refine e_fg (i := 4) (L' := [some (.ref (ad 12)), some (.int (nI m)), some (.float (FP.fsub (iter (fst2 c m) i FP.fconst0) (fsz c m i))), some (.int (nI (i + 1))), none, some (.float (fsz c m i)), some (.int (nI 0)), some (.int (nI 0))]) rfl ?_
          refine e_fg (i := 5) (L' := [some (.ref (ad 12)), some (.int (nI m)), some (.float (FP.fsub (iter (fst2 c m) i FP.fconst0) (fsz c m i))), some (.int (nI (i + 1))), none, none, some (.int (nI 0)), some (.int (nI 0))]) rfl ?_
          refine e_fg (i := 6) (L' := [some (.ref (ad 12)), some (.int (nI m)), some (.float (FP.fsub (iter (fst2 c m) i FP.fconst0) (fsz c m i))), some (.int (nI (i + 1))), none, none, none, some (.int (nI 0))]) rfl ?_
          refine e_fg (i := 7) (L' := [some (.ref (ad 12)), some (.int (nI m)), some (.float (FP.fsub (iter (fst2 c m) i FP.fconst0) (fsz c m i))), some (.int (nI (i + 1))), none, none, none, none]) rfl ?_
          have e : iter (fst2 c m) (i + 1) FP.fconst0 = FP.fsub (iter (fst2 c m) i FP.fconst0) (fsz c m i) := (show fst2 c m i _ = _ from (if_neg h1).trans (if_neg (by unfold fup; rw [bI_inj] at h2; simp [h2, h3])))
          exact ih (by omega) |> fun q => by rw [e] at q; exact q
      · refine e_iconst (pc' := 96) (v := nI 1) dX3_forceOn_95 rfl (by decide) ?_
        refine e_goto (tgt := 100) dX3_forceOn_96 (by decide) ?_
        refine e_istore (pc' := 102) (L' := [some (.ref (ad 12)), some (.int (nI m)), some (.float (iter (fst2 c m) i FP.fconst0)), some (.int (nI i)), some (.int (gapI c m i)), some (.float (fsz c m i)), some (.int (nI 1)), none]) dX3_forceOn_100 rfl (by decide) rfl ?_
        refine e_iload (pc' := 104) dX3_forceOn_102 rfl rfl ?_
        refine e_iload (pc' := 106) dX3_forceOn_104 rfl rfl ?_
        refine e_if_le (pc' := 109) (tgt := 113) dX3_forceOn_106 rfl (by decide) (fun h3 => ?_) (fun h3 => ?_)
        · refine e_iconst (pc' := 114) (v := nI 0) dX3_forceOn_113 rfl (by decide) ?_
          refine e_icmp_neN (pc' := 117) (tgt := 121) dX3_forceOn_114 rfl (by decide) (by decide) (by decide) (fun _ => ?_) (fun h => absurd h (by decide))
          refine e_iconst (pc' := 122) (v := nI 0) dX3_forceOn_121 rfl (by decide) ?_
          refine e_istore (pc' := 124) (L' := [some (.ref (ad 12)), some (.int (nI m)), some (.float (iter (fst2 c m) i FP.fconst0)), some (.int (nI i)), some (.int (gapI c m i)), some (.float (fsz c m i)), some (.int (nI 1)), some (.int (nI 0))]) dX3_forceOn_122 rfl (by decide) rfl ?_
          refine e_iload (pc' := 126) dX3_forceOn_124 rfl rfl ?_
          refine e_if_eqN (pc' := 129) (tgt := 136) dX3_forceOn_126 rfl (by decide) (by decide) (fun _ => ?_) (fun h => absurd h (by decide))
          refine e_fload_n (pc' := 137) dX3_forceOn_136 rfl rfl rfl ?_
          refine e_fload (pc' := 139) dX3_forceOn_137 rfl rfl ?_
          refine e_fsub (pc' := 140) dX3_forceOn_139 rfl (vf32_of (FP.Core.fsub_out (frc_nn hw hm i hi) (fsz_fin hw hm (by omega) h1))) ?_
          refine e_fstore_n (pc' := 141) (L' := [some (.ref (ad 12)), some (.int (nI m)), some (.float (FP.fsub (iter (fst2 c m) i FP.fconst0) (fsz c m i))), some (.int (nI i)), some (.int (gapI c m i)), some (.float (fsz c m i)), some (.int (nI 1)), some (.int (nI 0))]) dX3_forceOn_140 rfl rfl (by decide) rfl ?_
          refine e_iincN (pc' := 144) (k := 1) (L' := [some (.ref (ad 12)), some (.int (nI m)), some (.float (FP.fsub (iter (fst2 c m) i FP.fconst0) (fsz c m i))), some (.int (nI (i + 1))), some (.int (gapI c m i)), some (.float (fsz c m i)), some (.int (nI 1)), some (.int (nI 0))]) dX3_forceOn_141 rfl rfl rfl (by decide) rfl ?_
          refine e_goto (tgt := 4) dX3_forceOn_144 (by decide) ?_
          refine e_fg (i := 4) (L' := [some (.ref (ad 12)), some (.int (nI m)), some (.float (FP.fsub (iter (fst2 c m) i FP.fconst0) (fsz c m i))), some (.int (nI (i + 1))), none, some (.float (fsz c m i)), some (.int (nI 1)), some (.int (nI 0))]) rfl ?_
          refine e_fg (i := 5) (L' := [some (.ref (ad 12)), some (.int (nI m)), some (.float (FP.fsub (iter (fst2 c m) i FP.fconst0) (fsz c m i))), some (.int (nI (i + 1))), none, none, some (.int (nI 1)), some (.int (nI 0))]) rfl ?_
          refine e_fg (i := 6) (L' := [some (.ref (ad 12)), some (.int (nI m)), some (.float (FP.fsub (iter (fst2 c m) i FP.fconst0) (fsz c m i))), some (.int (nI (i + 1))), none, none, none, some (.int (nI 0))]) rfl ?_
          refine e_fg (i := 7) (L' := [some (.ref (ad 12)), some (.int (nI m)), some (.float (FP.fsub (iter (fst2 c m) i FP.fconst0) (fsz c m i))), some (.int (nI (i + 1))), none, none, none, none]) rfl ?_
          have e : iter (fst2 c m) (i + 1) FP.fconst0 = FP.fsub (iter (fst2 c m) i FP.fconst0) (fsz c m i) := (show fst2 c m i _ = _ from (if_neg h1).trans (if_neg (by unfold fup; rw [bI_inj] at h2; simp [h2, h3])))
          exact ih (by omega) |> fun q => by rw [e] at q; exact q
        · refine e_iconst (pc' := 110) (v := nI 1) dX3_forceOn_109 rfl (by decide) ?_
          refine e_goto (tgt := 114) dX3_forceOn_110 (by decide) ?_
          refine e_icmp_neN (pc' := 117) (tgt := 121) dX3_forceOn_114 rfl (by decide) (by decide) (by decide) (fun h => absurd h (by decide)) (fun _ => ?_)
          refine e_iconst (pc' := 118) (v := nI 1) dX3_forceOn_117 rfl (by decide) ?_
          refine e_goto (tgt := 122) dX3_forceOn_118 (by decide) ?_
          refine e_istore (pc' := 124) (L' := [some (.ref (ad 12)), some (.int (nI m)), some (.float (iter (fst2 c m) i FP.fconst0)), some (.int (nI i)), some (.int (gapI c m i)), some (.float (fsz c m i)), some (.int (nI 1)), some (.int (nI 1))]) dX3_forceOn_122 rfl (by decide) rfl ?_
          refine e_iload (pc' := 126) dX3_forceOn_124 rfl rfl ?_
          refine e_if_eqN (pc' := 129) (tgt := 136) dX3_forceOn_126 rfl (by decide) (by decide) (fun h => absurd h (by decide)) (fun _ => ?_)
          refine e_fload_n (pc' := 130) dX3_forceOn_129 rfl rfl rfl ?_
          refine e_fload (pc' := 132) dX3_forceOn_130 rfl rfl ?_
          refine e_fadd (pc' := 133) dX3_forceOn_132 rfl (vf32_of (FP.Core.fadd_out (frc_nn hw hm i hi) (fsz_fin hw hm (by omega) h1))) ?_
          refine e_goto (tgt := 140) dX3_forceOn_133 (by decide) ?_
          refine e_fstore_n (pc' := 141) (L' := [some (.ref (ad 12)), some (.int (nI m)), some (.float (FP.fadd (iter (fst2 c m) i FP.fconst0) (fsz c m i))), some (.int (nI i)), some (.int (gapI c m i)), some (.float (fsz c m i)), some (.int (nI 1)), some (.int (nI 1))]) dX3_forceOn_140 rfl rfl (by decide) rfl ?_
          refine e_iincN (pc' := 144) (k := 1) (L' := [some (.ref (ad 12)), some (.int (nI m)), some (.float (FP.fadd (iter (fst2 c m) i FP.fconst0) (fsz c m i))), some (.int (nI (i + 1))), some (.int (gapI c m i)), some (.float (fsz c m i)), some (.int (nI 1)), some (.int (nI 1))]) dX3_forceOn_141 rfl rfl rfl (by decide) rfl ?_
          refine e_goto (tgt := 4) dX3_forceOn_144 (by decide) ?_
          refine e_fg (i := 4) (L' := [some (.ref (ad 12)), some (.int (nI m)), some (.float (FP.fadd (iter (fst2 c m) i FP.fconst0) (fsz c m i))), some (.int (nI (i + 1))), none, some (.float (fsz c m i)), some (.int (nI 1)), some (.int (nI 1))]) rfl ?_
          refine e_fg (i := 5) (L' := [some (.ref (ad 12)), some (.int (nI m)), some (.float (FP.fadd (iter (fst2 c m) i FP.fconst0) (fsz c m i))), some (.int (nI (i + 1))), none, none, some (.int (nI 1)), some (.int (nI 1))]) rfl ?_
          refine e_fg (i := 6) (L' := [some (.ref (ad 12)), some (.int (nI m)), some (.float (FP.fadd (iter (fst2 c m) i FP.fconst0) (fsz c m i))), some (.int (nI (i + 1))), none, none, none, some (.int (nI 1))]) rfl ?_
          refine e_fg (i := 7) (L' := [some (.ref (ad 12)), some (.int (nI m)), some (.float (FP.fadd (iter (fst2 c m) i FP.fconst0) (fsz c m i))), some (.int (nI (i + 1))), none, none, none, none]) rfl ?_
          have e : iter (fst2 c m) (i + 1) FP.fconst0 = FP.fadd (iter (fst2 c m) i FP.fconst0) (fsz c m i) := (show fst2 c m i _ = _ from (if_neg h1).trans (if_pos (by unfold fup; rw [bI_inj] at h2; simp [h2, h3])))
          exact ih (by omega) |> fun q => by rw [e] at q; exact q)
theorem c_force (h : ColAt M 1 c) (hw : WF c) {m : Nat} (hm : m < cn c) : RET G ad (d + 1) mX3_forceOn [.ref (ad 12), .int (nI m)] (M, o) (some (.float (frc c m))) (M, o) := by
  refine CM_of rfl (by decide) rfl (Nat.le_of_ble_eq_true rfl) rfl ?_
  have hn := hw.n
  have hk := hw.k
  have hw9 := hw.w9
  refine e_fconst0 (pc' := 1) dX3_forceOn_0 rfl ?_
  refine e_fstore_n (pc' := 2) (L' := [some (.ref (ad 12)), some (.int (nI m)), some (.float (FP.fconst0)), none, none, none, none, none]) dX3_forceOn_1 rfl rfl (by decide) rfl ?_
  refine e_iconst (pc' := 3) (v := nI 0) dX3_forceOn_2 rfl (by decide) ?_
  refine e_istore_n (pc' := 4) (L' := [some (.ref (ad 12)), some (.int (nI m)), some (.float (FP.fconst0)), some (.int (nI 0)), none, none, none, none]) dX3_forceOn_3 rfl rfl (by decide) rfl ?_
  exact l_force h hw hm 0 (by omega)
def cgt (x : UInt32) : Bool := !decide (Op.cmpValue (FP.fcmp x FP.fconst0) .l ≤ 0)
def clt (x : UInt32) : Bool := !decide (0 ≤ Op.cmpValue (FP.fcmp x FP.fconst0) .g)
def tgtN (c : Col) (m : Nat) : Nat := if cgt (frc c m) then (if cp c m + 1 < 100 ∧ (mOn c (nI (cp c m + 1))).isNone = true then cp c m + 1 else cp c m) else if clt (frc c m) then (if 1 ≤ cp c m ∧ (mOn c (nI (cp c m - 1))).isNone = true then cp c m - 1 else cp c m) else cp c m
theorem mOn_lt {q : Int32} {i : Nat} (e : mOn c q = some i) : i < cn c ∧ nI (cp c i) = q := by
  rcases fnd_spec (fun i => decide (nI (cp c i) = q)) (cn c) with ⟨h1, _⟩ | ⟨k, h1, h2, h3, _⟩
  · exact absurd (h1.symm.trans e) (by intro h; cases h)
  · have h4 := h1.symm.trans e
    cases h4
    exact ⟨h2, of_decide_eq_true h3⟩
theorem mOn_o (hw : WF c) {q : Int32} : oI (mOn c q) = -1 ↔ mOn c q = none := oI_ne (fun i e => by have := (mOn_lt e).1; have := hw.n; omega)
theorem isp_t {k : Nat} (hk : k < 100) : decide (0 ≤ nI k ∧ nI k < nI 100) = true := decide_eq_true (nI_in2 hk (by decide))
theorem isp_iff {k : Nat} (hk : k < 2 ^ 31) : decide (0 ≤ nI k ∧ nI k < nI 100) = true ↔ k < 100 := ⟨fun h => (nI_ltI hk (by decide)).mp (of_decide_eq_true h).2, isp_t⟩
theorem isp_m1 : decide (0 ≤ (nI 0 - nI 1) ∧ (nI 0 - nI 1) < nI 100) = false := by decide
theorem mOn_n (hw : WF c) {q : Int32} : oI (mOn c q) = -1 ↔ (mOn c q).isNone = true := by rw [mOn_o hw]; cases mOn c q <;> simp
theorem t_eq {m : Nat} (hw : WF c) (hm : m < cn c) (h1 : Op.cmpValue (FP.fcmp (frc c m) FP.fconst0) .l ≤ 0) (h2 : 0 ≤ Op.cmpValue (FP.fcmp (frc c m) FP.fconst0) .g) : nI (cp c m) = nI (tgtN c m) := by
  unfold tgtN cgt clt
  rw [decide_eq_true h1, decide_eq_true h2]
  rfl
theorem t_up {m : Nat} (hw : WF c) (hm : m < cn c) (h1 : ¬ Op.cmpValue (FP.fcmp (frc c m) FP.fconst0) .l ≤ 0) : tgtN c m = if cp c m + 1 < 100 ∧ (mOn c (nI (cp c m + 1))).isNone = true then cp c m + 1 else cp c m := by
  unfold tgtN cgt clt
  rw [decide_eq_false h1]
  rfl
theorem t_dn {m : Nat} (hw : WF c) (hm : m < cn c) (h1 : Op.cmpValue (FP.fcmp (frc c m) FP.fconst0) .l ≤ 0) (h2 : ¬ 0 ≤ Op.cmpValue (FP.fcmp (frc c m) FP.fconst0) .g) : tgtN c m = if 1 ≤ cp c m ∧ (mOn c (nI (cp c m - 1))).isNone = true then cp c m - 1 else cp c m := by
  unfold tgtN cgt clt
  rw [decide_eq_true h1, decide_eq_false h2]
  rfl
theorem t_up1 {m : Nat} (hw : WF c) (hm : m < cn c) (h1 : ¬ Op.cmpValue (FP.fcmp (frc c m) FP.fconst0) .l ≤ 0) (h3 : decide (0 ≤ nI (cp c m + 1) ∧ nI (cp c m + 1) < nI 100) = true) (h4 : oI (mOn c (nI (cp c m + 1))) = -1) : nI (cp c m + 1) = nI (tgtN c m) := by
  have hb := hw.p hm
  rw [t_up hw hm h1, if_pos ⟨(isp_iff (by omega)).mp h3, (mOn_n hw).mp h4⟩]
theorem t_up2 {m : Nat} (hw : WF c) (hm : m < cn c) (h1 : ¬ Op.cmpValue (FP.fcmp (frc c m) FP.fconst0) .l ≤ 0) (h3 : decide (0 ≤ nI (cp c m + 1) ∧ nI (cp c m + 1) < nI 100) = false) : nI (cp c m) = nI (tgtN c m) := by
  have hb := hw.p hm
  rw [t_up hw hm h1, if_neg (fun q => by rw [(isp_iff (by omega)).mpr q.1] at h3; cases h3)]
theorem t_up3 {m : Nat} (hw : WF c) (hm : m < cn c) (h1 : ¬ Op.cmpValue (FP.fcmp (frc c m) FP.fconst0) .l ≤ 0) (h4 : ¬ oI (mOn c (nI (cp c m + 1))) = -1) : nI (cp c m) = nI (tgtN c m) := by
  rw [t_up hw hm h1, if_neg (fun q => h4 ((mOn_n hw).mpr q.2))]
theorem t_m1 {m : Nat} (hw : WF c) (hm : m < cn c) (h0 : cp c m = 0) : decide (0 ≤ (nI (cp c m) - nI 1) ∧ (nI (cp c m) - nI 1) < nI 100) = false := by rw [h0]; exact isp_m1
theorem t_dn1 {m : Nat} (hw : WF c) (hm : m < cn c) (h1 : Op.cmpValue (FP.fcmp (frc c m) FP.fconst0) .l ≤ 0) (h2 : ¬ 0 ≤ Op.cmpValue (FP.fcmp (frc c m) FP.fconst0) .g) (h3 : decide (0 ≤ (nI (cp c m) - nI 1) ∧ (nI (cp c m) - nI 1) < nI 100) = true) (h4 : oI (mOn c (nI (cp c m) - nI 1)) = -1) : nI (cp c m) - nI 1 = nI (tgtN c m) := by
  have hb := hw.p hm
  by_cases h0 : cp c m = 0
  · rw [t_m1 hw hm h0] at h3; cases h3
  · have e3 : nI (cp c m) - nI 1 = nI (cp c m - 1) := pk_sub (by omega)
    rw [e3] at h4 ⊢
    rw [t_dn hw hm h1 h2, if_pos ⟨by omega, (mOn_n hw).mp h4⟩]
theorem t_dn2 {m : Nat} (hw : WF c) (hm : m < cn c) (h1 : Op.cmpValue (FP.fcmp (frc c m) FP.fconst0) .l ≤ 0) (h2 : ¬ 0 ≤ Op.cmpValue (FP.fcmp (frc c m) FP.fconst0) .g) (h3 : decide (0 ≤ (nI (cp c m) - nI 1) ∧ (nI (cp c m) - nI 1) < nI 100) = false) : nI (cp c m) = nI (tgtN c m) := by
  have hb := hw.p hm
  by_cases h0 : cp c m = 0
  · rw [t_dn hw hm h1 h2, if_neg (by omega)]
  · have e3 : nI (cp c m) - nI 1 = nI (cp c m - 1) := pk_sub (by omega)
    rw [e3, (isp_iff (k := cp c m - 1) (by omega)).mpr (by omega)] at h3
    cases h3
theorem t_dn3 {m : Nat} (hw : WF c) (hm : m < cn c) (h1 : Op.cmpValue (FP.fcmp (frc c m) FP.fconst0) .l ≤ 0) (h2 : ¬ 0 ≤ Op.cmpValue (FP.fcmp (frc c m) FP.fconst0) .g) (h4 : ¬ oI (mOn c (nI (cp c m) - nI 1)) = -1) : nI (cp c m) = nI (tgtN c m) := by
  rw [t_dn hw hm h1 h2]
  by_cases h0 : cp c m = 0
  · rw [if_neg (by omega)]
  · have e3 : nI (cp c m) - nI 1 = nI (cp c m - 1) := pk_sub (by omega)
    rw [e3] at h4
    rw [if_neg (fun q => h4 ((mOn_n hw).mpr q.2))]
theorem c_target (h : ColAt M 1 c) (hw : WF c) {m : Nat} (hm : m < cn c) : RET G ad (d + 2) mX3_targetOf [.ref (ad 12), .int (nI m)] (M, o) (some (.int (nI (tgtN c m)))) (M, o) := by
  refine CM_of rfl (by decide) rfl (Nat.le_of_ble_eq_true rfl) rfl ?_
  have hn := hw.n
  have hk := hw.k
  have hw9 := hw.w9
  refine e_aload_n (pc' := 1) dX3_targetOf_0 rfl rfl rfl ?_
  refine p_gfr (pc' := 4) (a := 12) (k := 0) (t := 1) dX3_targetOf_1 rfl rfl (by decide) (by decide) rfl fl_X3_9 ?_
  refine p_gfr (pc' := 7) (a := 1) (k := 1) (t := 2) dX3_targetOf_4 rfl rfl (by decide) (by decide) rfl fl_X3_21 ?_
  refine e_iload_n (pc' := 8) dX3_targetOf_7 rfl rfl rfl ?_
  have hi1 : m < cn c := by omega
  have hb1 := hw.p hi1
  refine p_iald (pc' := 9) (a := 2) (k := m) (x := nI (cp c m)) dX3_targetOf_8 rfl (rfl) (rfl) (by omega) (by decide) (h.p hi1) ?_
  refine e_istore_n (pc' := 10) (L' := [some (.ref (ad 12)), some (.int (nI m)), some (.int (nI (cp c m))), none, none]) dX3_targetOf_9 rfl rfl (by decide) rfl ?_
  refine e_aload_n (pc' := 11) dX3_targetOf_10 rfl rfl rfl ?_
  refine e_iload_n (pc' := 12) dX3_targetOf_11 rfl rfl rfl ?_
  refine r_V (pc' := 15) (m' := mX3_forceOn) (As := [.int (nI m)]) (st := []) (c_force (d := d) h hw (m := m) (by omega)) dX3_targetOf_12 rfl rfl (Nat.le_of_ble_eq_true rfl) (fit_of (by omega) (by decide) (by decide) (by decide)) ml_X3_42 okX3_forceOn rfl rfl (by decide) rfl ?_
  show EV _ _ _ _ _ 15 _ ([.float (frc c (m))]) _
  refine e_fstore_n (pc' := 16) (L' := [some (.ref (ad 12)), some (.int (nI m)), some (.int (nI (cp c m))), some (.float (frc c (m))), none]) dX3_targetOf_15 rfl rfl (by decide) rfl ?_
  refine e_iload_n (pc' := 17) dX3_targetOf_16 rfl rfl rfl ?_
  refine e_istore (pc' := 19) (L' := [some (.ref (ad 12)), some (.int (nI m)), some (.int (nI (cp c m))), some (.float (frc c (m))), some (.int (nI (cp c m)))]) dX3_targetOf_17 rfl (by decide) rfl ?_
  refine e_fload_n (pc' := 20) dX3_targetOf_19 rfl rfl rfl ?_
  refine e_fconst0 (pc' := 21) dX3_targetOf_20 rfl ?_
  refine e_fcmp (pc' := 22) dX3_targetOf_21 rfl ?_
  refine e_if_le (pc' := 25) (tgt := 33) dX3_targetOf_22 rfl (by decide) (fun h1 => ?_) (fun h1 => ?_)
  · refine e_fload_n (pc' := 34) dX3_targetOf_33 rfl rfl rfl ?_
    refine e_fconst0 (pc' := 35) dX3_targetOf_34 rfl ?_
    refine e_fcmp (pc' := 36) dX3_targetOf_35 rfl ?_
    refine e_if_ge (pc' := 39) (tgt := 44) dX3_targetOf_36 rfl (by decide) (fun h2 => ?_) (fun h2 => ?_)
    · refine e_iload (pc' := 46) dX3_targetOf_44 rfl rfl ?_
      refine r_SN (pc' := 49) (m' := mX8_isPosition) (As := [.int (nI (cp c m))]) (st := []) (c_isPosition (d := d) (nI (cp c m))) dX3_targetOf_46 rfl rfl (Nat.le_of_ble_eq_true rfl) (fit_of (by omega) (by decide) (by decide) (by decide)) nl_X3_46 okX8_isPosition rfl rfl ?_
      show EV _ _ _ _ _ 49 _ ([.int (bI (decide (0 ≤ (nI (cp c m)) ∧ (nI (cp c m)) < nI 100)))]) _
      refine e_if_eqB (pc' := 52) (tgt := 70) dX3_targetOf_49 rfl (by decide) (fun h3 => ?_) (fun h3 => ?_)
      · refine e_iload_n (pc' := 71) dX3_targetOf_70 rfl rfl rfl ?_
        exact e_iret dX3_targetOf_71 rfl (MP.ret (congrArg (fun z => some (Value.int z)) (by first | exact t_eq hw hm h1 h2 | exact t_up1 hw hm h1 h3 h4 | exact t_up2 hw hm h1 h3 | exact t_up3 hw hm h1 h4 | exact t_dn1 hw hm h1 h2 h3 h4 | exact t_dn2 hw hm h1 h2 h3 | exact t_dn3 hw hm h1 h2 h4)) rfl) (by decide) (by decide)
      · refine e_aload_n (pc' := 53) dX3_targetOf_52 rfl rfl rfl ?_
        refine p_gfr (pc' := 56) (a := 12) (k := 0) (t := 1) dX3_targetOf_53 rfl rfl (by decide) (by decide) rfl fl_X3_9 ?_
        refine e_iload (pc' := 58) dX3_targetOf_56 rfl rfl ?_
        refine r_V (pc' := 61) (m' := mX1_magnetOn) (As := [.int (nI (cp c m))]) (st := []) (c_magnetOn (d := d) h hw (nI (cp c m))) dX3_targetOf_58 rfl rfl (Nat.le_of_ble_eq_true rfl) (fit_of (by omega) (by decide) (by decide) (by decide)) ml_X3_50 okX1_magnetOn rfl rfl (by decide) rfl ?_
        show EV _ _ _ _ _ 61 _ ([.int (oI (mOn c (nI (cp c m))))]) _
        refine e_iconst (pc' := 62) (v := (-1)) dX3_targetOf_61 rfl (by decide) ?_
        refine e_icmp_ne (pc' := 65) (tgt := 70) dX3_targetOf_62 rfl (by decide) (fun h4 => ?_) (fun h4 => ?_)
        · refine e_iload_n (pc' := 71) dX3_targetOf_70 rfl rfl rfl ?_
          exact e_iret dX3_targetOf_71 rfl (MP.ret (congrArg (fun z => some (Value.int z)) (by first | exact t_eq hw hm h1 h2 | exact t_up1 hw hm h1 h3 h4 | exact t_up2 hw hm h1 h3 | exact t_up3 hw hm h1 h4 | exact t_dn1 hw hm h1 h2 h3 h4 | exact t_dn2 hw hm h1 h2 h3 | exact t_dn3 hw hm h1 h2 h4)) rfl) (by decide) (by decide)
        · refine e_iload (pc' := 67) dX3_targetOf_65 rfl rfl ?_
          refine e_goto (tgt := 71) dX3_targetOf_67 (by decide) ?_
          exact e_iret dX3_targetOf_71 rfl (MP.ret (congrArg (fun z => some (Value.int z)) (by first | exact t_eq hw hm h1 h2 | exact t_up1 hw hm h1 h3 h4 | exact t_up2 hw hm h1 h3 | exact t_up3 hw hm h1 h4 | exact t_dn1 hw hm h1 h2 h3 h4 | exact t_dn2 hw hm h1 h2 h3 | exact t_dn3 hw hm h1 h2 h4)) rfl) (by decide) (by decide)
    · refine e_iload_n (pc' := 40) dX3_targetOf_39 rfl rfl rfl ?_
      refine e_iconst (pc' := 41) (v := nI 1) dX3_targetOf_40 rfl (by decide) ?_
      refine e_isub (pc' := 42) dX3_targetOf_41 rfl ?_
      refine e_istore (pc' := 44) (L' := [some (.ref (ad 12)), some (.int (nI m)), some (.int (nI (cp c m))), some (.float (frc c (m))), some (.int ((nI (cp c m)) - (nI 1)))]) dX3_targetOf_42 rfl (by decide) rfl ?_
      refine e_iload (pc' := 46) dX3_targetOf_44 rfl rfl ?_
      refine r_SN (pc' := 49) (m' := mX8_isPosition) (As := [.int ((nI (cp c m)) - (nI 1))]) (st := []) (c_isPosition (d := d) ((nI (cp c m)) - (nI 1))) dX3_targetOf_46 rfl rfl (Nat.le_of_ble_eq_true rfl) (fit_of (by omega) (by decide) (by decide) (by decide)) nl_X3_46 okX8_isPosition rfl rfl ?_
      show EV _ _ _ _ _ 49 _ ([.int (bI (decide (0 ≤ ((nI (cp c m)) - (nI 1)) ∧ ((nI (cp c m)) - (nI 1)) < nI 100)))]) _
      refine e_if_eqB (pc' := 52) (tgt := 70) dX3_targetOf_49 rfl (by decide) (fun h3 => ?_) (fun h3 => ?_)
      · refine e_iload_n (pc' := 71) dX3_targetOf_70 rfl rfl rfl ?_
        exact e_iret dX3_targetOf_71 rfl (MP.ret (congrArg (fun z => some (Value.int z)) (by first | exact t_eq hw hm h1 h2 | exact t_up1 hw hm h1 h3 h4 | exact t_up2 hw hm h1 h3 | exact t_up3 hw hm h1 h4 | exact t_dn1 hw hm h1 h2 h3 h4 | exact t_dn2 hw hm h1 h2 h3 | exact t_dn3 hw hm h1 h2 h4)) rfl) (by decide) (by decide)
      · refine e_aload_n (pc' := 53) dX3_targetOf_52 rfl rfl rfl ?_
        refine p_gfr (pc' := 56) (a := 12) (k := 0) (t := 1) dX3_targetOf_53 rfl rfl (by decide) (by decide) rfl fl_X3_9 ?_
        refine e_iload (pc' := 58) dX3_targetOf_56 rfl rfl ?_
        refine r_V (pc' := 61) (m' := mX1_magnetOn) (As := [.int ((nI (cp c m)) - (nI 1))]) (st := []) (c_magnetOn (d := d) h hw ((nI (cp c m)) - (nI 1))) dX3_targetOf_58 rfl rfl (Nat.le_of_ble_eq_true rfl) (fit_of (by omega) (by decide) (by decide) (by decide)) ml_X3_50 okX1_magnetOn rfl rfl (by decide) rfl ?_
        show EV _ _ _ _ _ 61 _ ([.int (oI (mOn c ((nI (cp c m)) - (nI 1))))]) _
        refine e_iconst (pc' := 62) (v := (-1)) dX3_targetOf_61 rfl (by decide) ?_
        refine e_icmp_ne (pc' := 65) (tgt := 70) dX3_targetOf_62 rfl (by decide) (fun h4 => ?_) (fun h4 => ?_)
        · refine e_iload_n (pc' := 71) dX3_targetOf_70 rfl rfl rfl ?_
          exact e_iret dX3_targetOf_71 rfl (MP.ret (congrArg (fun z => some (Value.int z)) (by first | exact t_eq hw hm h1 h2 | exact t_up1 hw hm h1 h3 h4 | exact t_up2 hw hm h1 h3 | exact t_up3 hw hm h1 h4 | exact t_dn1 hw hm h1 h2 h3 h4 | exact t_dn2 hw hm h1 h2 h3 | exact t_dn3 hw hm h1 h2 h4)) rfl) (by decide) (by decide)
        · refine e_iload (pc' := 67) dX3_targetOf_65 rfl rfl ?_
          refine e_goto (tgt := 71) dX3_targetOf_67 (by decide) ?_
          exact e_iret dX3_targetOf_71 rfl (MP.ret (congrArg (fun z => some (Value.int z)) (by first | exact t_eq hw hm h1 h2 | exact t_up1 hw hm h1 h3 h4 | exact t_up2 hw hm h1 h3 | exact t_up3 hw hm h1 h4 | exact t_dn1 hw hm h1 h2 h3 h4 | exact t_dn2 hw hm h1 h2 h3 | exact t_dn3 hw hm h1 h2 h4)) rfl) (by decide) (by decide)
  · refine e_iload_n (pc' := 26) dX3_targetOf_25 rfl rfl rfl ?_
    refine e_iconst (pc' := 27) (v := nI 1) dX3_targetOf_26 rfl (by decide) ?_
    refine e_iaddN (pc' := 28) dX3_targetOf_27 rfl ?_
    refine e_istore (pc' := 30) (L' := [some (.ref (ad 12)), some (.int (nI m)), some (.int (nI (cp c m))), some (.float (frc c (m))), some (.int (nI ((cp c m) + 1)))]) dX3_targetOf_28 rfl (by decide) rfl ?_
    refine e_goto (tgt := 44) dX3_targetOf_30 (by decide) ?_
    refine e_iload (pc' := 46) dX3_targetOf_44 rfl rfl ?_
    refine r_SN (pc' := 49) (m' := mX8_isPosition) (As := [.int (nI ((cp c m) + 1))]) (st := []) (c_isPosition (d := d) (nI ((cp c m) + 1))) dX3_targetOf_46 rfl rfl (Nat.le_of_ble_eq_true rfl) (fit_of (by omega) (by decide) (by decide) (by decide)) nl_X3_46 okX8_isPosition rfl rfl ?_
    show EV _ _ _ _ _ 49 _ ([.int (bI (decide (0 ≤ (nI ((cp c m) + 1)) ∧ (nI ((cp c m) + 1)) < nI 100)))]) _
    refine e_if_eqB (pc' := 52) (tgt := 70) dX3_targetOf_49 rfl (by decide) (fun h3 => ?_) (fun h3 => ?_)
    · refine e_iload_n (pc' := 71) dX3_targetOf_70 rfl rfl rfl ?_
      exact e_iret dX3_targetOf_71 rfl (MP.ret (congrArg (fun z => some (Value.int z)) (by first | exact t_eq hw hm h1 h2 | exact t_up1 hw hm h1 h3 h4 | exact t_up2 hw hm h1 h3 | exact t_up3 hw hm h1 h4 | exact t_dn1 hw hm h1 h2 h3 h4 | exact t_dn2 hw hm h1 h2 h3 | exact t_dn3 hw hm h1 h2 h4)) rfl) (by decide) (by decide)
    · refine e_aload_n (pc' := 53) dX3_targetOf_52 rfl rfl rfl ?_
      refine p_gfr (pc' := 56) (a := 12) (k := 0) (t := 1) dX3_targetOf_53 rfl rfl (by decide) (by decide) rfl fl_X3_9 ?_
      refine e_iload (pc' := 58) dX3_targetOf_56 rfl rfl ?_
      refine r_V (pc' := 61) (m' := mX1_magnetOn) (As := [.int (nI ((cp c m) + 1))]) (st := []) (c_magnetOn (d := d) h hw (nI ((cp c m) + 1))) dX3_targetOf_58 rfl rfl (Nat.le_of_ble_eq_true rfl) (fit_of (by omega) (by decide) (by decide) (by decide)) ml_X3_50 okX1_magnetOn rfl rfl (by decide) rfl ?_
      show EV _ _ _ _ _ 61 _ ([.int (oI (mOn c (nI ((cp c m) + 1))))]) _
      refine e_iconst (pc' := 62) (v := (-1)) dX3_targetOf_61 rfl (by decide) ?_
      refine e_icmp_ne (pc' := 65) (tgt := 70) dX3_targetOf_62 rfl (by decide) (fun h4 => ?_) (fun h4 => ?_)
      · refine e_iload_n (pc' := 71) dX3_targetOf_70 rfl rfl rfl ?_
        exact e_iret dX3_targetOf_71 rfl (MP.ret (congrArg (fun z => some (Value.int z)) (by first | exact t_eq hw hm h1 h2 | exact t_up1 hw hm h1 h3 h4 | exact t_up2 hw hm h1 h3 | exact t_up3 hw hm h1 h4 | exact t_dn1 hw hm h1 h2 h3 h4 | exact t_dn2 hw hm h1 h2 h3 | exact t_dn3 hw hm h1 h2 h4)) rfl) (by decide) (by decide)
      · refine e_iload (pc' := 67) dX3_targetOf_65 rfl rfl ?_
        refine e_goto (tgt := 71) dX3_targetOf_67 (by decide) ?_
        exact e_iret dX3_targetOf_71 rfl (MP.ret (congrArg (fun z => some (Value.int z)) (by first | exact t_eq hw hm h1 h2 | exact t_up1 hw hm h1 h3 h4 | exact t_up2 hw hm h1 h3 | exact t_up3 hw hm h1 h4 | exact t_dn1 hw hm h1 h2 h3 h4 | exact t_dn2 hw hm h1 h2 h3 | exact t_dn3 hw hm h1 h2 h4)) rfl) (by decide) (by decide)
end T16

set_option maxHeartbeats 400000
/-! THE REFERENCE: rows kept; a row's lengths -/
def hsW (w : Bool) (hs : Nat → Col) (sz : Nat) (c : Col) : Nat → Col := if w = true then hs else psh hs sz c
def szW (w : Bool) (sz : Nat) : Nat := if w = true then sz else min (sz + 1) 8
/-- the rows that are kept stay alike -/
def KWF (hs : Nat → Col) (sz : Nat) : Prop := ∀ k, k < sz → WF (hs k)
theorem KWF.push {hs : Nat → Col} {sz : Nat} {c : Col} (h : KWF hs sz) (hw : WF c) : KWF (psh hs sz c) (min (sz + 1) 8) := fun k hk => by
  unfold psh
  split
  · exact hw
  · split
    · exact h _ (by omega)
    · exact h _ (by omega)
theorem KWF.w {b : Bool} {hs : Nat → Col} {sz : Nat} {c : Col} (h : KWF hs sz) (hw : WF c) : KWF (hsW b hs sz c) (szW b sz) := by
  unfold hsW szW
  cases b
  · exact h.push hw
  · exact h
section ROWD
variable {M : Nat → Nat → Int32} {c : Col} {p s : Nat} {b : Bool}
theorem row_add (h : RowAt M 97 0 c) (hn : cn c < 9) (hw : cw c < 2 ^ cn c) {x : Int32} (hx : x = nI b.toNat) : RowAt (up2 (up2 (up2 (up2 (up2 M 97 0 (nI (cn c + 1))) 97 (4 + (4 * cn c) + 0) (nI p)) 97 (4 + (4 * cn c) + 1) (nI s)) 97 (4 + (4 * cn c) + 2) x) 97 (4 + (4 * cn c) + 3) (nI 0)) 97 0 (addC c p s b) := by
  obtain ⟨h1, h2, h3, h4, h5, h6⟩ := h
  subst hx
  have rd : ∀ z, z ≠ 0 → z ≠ 4 + (4 * cn c) + 0 → z ≠ 4 + (4 * cn c) + 1 → z ≠ 4 + (4 * cn c) + 2 → z ≠ 4 + (4 * cn c) + 3 → (up2 (up2 (up2 (up2 (up2 M 97 0 (nI (cn c + 1))) 97 (4 + (4 * cn c) + 0) (nI p)) 97 (4 + (4 * cn c) + 1) (nI s)) 97 (4 + (4 * cn c) + 2) (nI b.toNat)) 97 (4 + (4 * cn c) + 3) (nI 0)) 97 z = M 97 z := fun z g0 g1 g2 g3 g4 => by rw [up2_k g4, up2_k g3, up2_k g2, up2_k g1, up2_k g0]
  refine ⟨?_, (rd _ (by omega) (by omega) (by omega) (by omega) (by omega)).trans h2, (rd _ (by omega) (by omega) (by omega) (by omega) (by omega)).trans h3, (rd _ (by omega) (by omega) (by omega) (by omega) (by omega)).trans h4, fun i hi => ?_, fun z hz => ?_⟩
  · rw [up2_k (by omega), up2_k (by omega), up2_k (by omega), up2_k (by omega)]; exact up2_s
  · have hi2 : i < cn c + 1 := hi
    by_cases e : i = cn c
    · subst e
      have t1 : (if b = true then cw c ||| 2 ^ cn c else cw c).testBit (cn c) = b := by
        have h0 : (cw c).testBit (cn c) = false := Nat.testBit_lt_two_pow hw
        cases b
        · simpa using h0
        · rw [if_pos rfl, Nat.testBit_or, h0, Nat.testBit_two_pow_self]; rfl
      refine ⟨?_, ?_, ?_, ?_⟩
      · rw [show 0 + (4 + 4 * cn c) = 4 + (4 * cn c) + 0 by omega, up2_k (by omega), up2_k (by omega), up2_k (by omega), up2_s]; exact congrArg nI ups_s.symm
      · rw [show 0 + (5 + 4 * cn c) = 4 + (4 * cn c) + 1 by omega, up2_k (by omega), up2_k (by omega), up2_s]; exact congrArg nI ups_s.symm
      · rw [show 0 + (6 + 4 * cn c) = 4 + (4 * cn c) + 2 by omega, up2_k (by omega), up2_s]; exact congrArg (fun z : Bool => nI z.toNat) t1.symm
      · rw [show 0 + (7 + 4 * cn c) = 4 + (4 * cn c) + 3 by omega, up2_s]; exact (ups_s (f := ct c) (k := cn c) (x := (0 : Int32))).symm
    · have h7 := h5 i (by omega)
      have t1 : (if b = true then cw c ||| 2 ^ cn c else cw c).testBit i = (cw c).testBit i := by
        cases b
        · rfl
        · rw [if_pos rfl, Nat.testBit_or, Nat.testBit_two_pow, decide_eq_false (fun q => e q.symm), Bool.or_false]
      refine ⟨(rd _ (by omega) (by omega) (by omega) (by omega) (by omega)).trans (h7.1.trans (congrArg nI (ups_n e).symm)), (rd _ (by omega) (by omega) (by omega) (by omega) (by omega)).trans (h7.2.1.trans (congrArg nI (ups_n e).symm)), (rd _ (by omega) (by omega) (by omega) (by omega) (by omega)).trans (h7.2.2.1.trans (congrArg (fun z : Bool => nI z.toNat) t1.symm)), (rd _ (by omega) (by omega) (by omega) (by omega) (by omega)).trans (h7.2.2.2.trans (ups_n e).symm)⟩
  · exact ⟨(rd _ (by omega) (by omega) (by omega) (by omega) (by omega)).trans (h6 z hz).1, (rd _ (by omega) (by omega) (by omega) (by omega) (by omega)).trans (h6 z hz).2⟩
theorem row_dig (h : RowAt M 97 0 c) (hk : ck c < 16) (hn : cn c ≤ 9) {p s : Nat} : RowAt (up2 (up2 (up2 M 97 (40 + (2 * ck c) + 0) (nI p)) 97 (40 + (2 * ck c) + 1) (nI s)) 97 1 (nI (ck c + 1))) 97 0 (digC c p s) := by
  obtain ⟨h1, h2, h3, h4, h5, h6⟩ := h
  have rd : ∀ z, z ≠ 1 → z ≠ 40 + (2 * ck c) + 0 → z ≠ 40 + (2 * ck c) + 1 → (up2 (up2 (up2 M 97 (40 + (2 * ck c) + 0) (nI p)) 97 (40 + (2 * ck c) + 1) (nI s)) 97 1 (nI (ck c + 1))) 97 z = M 97 z := fun z g0 g1 g2 => by rw [up2_k g0, up2_k g2, up2_k g1]
  refine ⟨(rd _ (by omega) (by omega) (by omega)).trans h1, up2_s, (rd _ (by omega) (by omega) (by omega)).trans h3, (rd _ (by omega) (by omega) (by omega)).trans h4, fun i hi => ?_, fun z hz => ?_⟩
  · have hi2 : i < cn c := hi
    have h7 := h5 i hi2
    exact ⟨(rd _ (by omega) (by omega) (by omega)).trans h7.1, (rd _ (by omega) (by omega) (by omega)).trans h7.2.1, (rd _ (by omega) (by omega) (by omega)).trans h7.2.2.1, (rd _ (by omega) (by omega) (by omega)).trans h7.2.2.2⟩
  · have hz2 : z < ck c + 1 := hz
    by_cases e : z = ck c
    · subst e
      refine ⟨?_, ?_⟩
      · rw [show 0 + (40 + 2 * ck c) = 40 + (2 * ck c) + 0 by omega, up2_k (by omega), up2_k (by omega), up2_s]; exact congrArg nI ups_s.symm
      · rw [show 0 + (41 + 2 * ck c) = 40 + (2 * ck c) + 1 by omega, up2_k (by omega), up2_s]; exact congrArg nI ups_s.symm
    · have h7 := h6 z (by omega)
      exact ⟨(rd _ (by omega) (by omega) (by omega)).trans (h7.1.trans (congrArg nI (ups_n e).symm)), (rd _ (by omega) (by omega) (by omega)).trans (h7.2.trans (congrArg nI (ups_n e).symm))⟩
/-- a row of which the tunnels behind t have moved -/
theorem row_fil {M' : Nat → Nat → Int32} (h : RowAt M 97 0 c) (hn : cn c ≤ 9) {t : Nat} (ht : t < ck c) (h1 : M' 97 1 = nI (ck c - 1)) (hl : ∀ z, z ≠ 1 → z < 40 + 2 * t → M' 97 z = M 97 z) (hm : ∀ z, 40 + 2 * t ≤ z → z < 40 + 2 * (ck c - 1) → M' 97 z = M 97 (z + 2)) : RowAt M' 97 0 (filC c t) := by
  obtain ⟨g1, g2, g3, g4, g5, g6⟩ := h
  refine ⟨(hl _ (by omega) (by omega)).trans g1, h1, (hl _ (by omega) (by omega)).trans g3, (hl _ (by omega) (by omega)).trans g4, fun i hi => ?_, fun z hz => ?_⟩
  · have hi2 : i < cn c := hi
    have h7 := g5 i hi2
    exact ⟨(hl _ (by omega) (by omega)).trans h7.1, (hl _ (by omega) (by omega)).trans h7.2.1, (hl _ (by omega) (by omega)).trans h7.2.2.1, (hl _ (by omega) (by omega)).trans h7.2.2.2⟩
  · have hz2 : z < ck c - 1 := hz
    by_cases e : z < t
    · have h7 := g6 z (by omega)
      exact ⟨(hl _ (by omega) (by omega)).trans (h7.1.trans (congrArg nI (if_pos e).symm)), (hl _ (by omega) (by omega)).trans (h7.2.trans (congrArg nI (if_pos e).symm))⟩
    · have h7 := g6 (z + 1) (by omega)
      refine ⟨(hm _ (by omega) (by omega)).trans ?_, (hm _ (by omega) (by omega)).trans ?_⟩
      · rw [show 0 + (40 + 2 * z) + 2 = 0 + (40 + 2 * (z + 1)) by omega]
        exact h7.1.trans (congrArg nI (if_neg e).symm)
      · rw [show 0 + (41 + 2 * z) + 2 = 0 + (41 + 2 * (z + 1)) by omega]
        exact h7.2.trans (congrArg nI (if_neg e).symm)
end ROWD
section T47
variable {G : gC} {ad : Nat → Nat} {d : Nat} {M : Nat → Nat → Int32} {o : (Nat → Int64) × (Nat → UInt64)} {c : Col} {hs : Nat → Col} {sz : Nat} {w : Bool}
theorem KtR.copy {M M1 : Nat → Nat → Int32} {R : Nat} (hK : ∀ k, k < sz → RowAt M 98 (72 * k) (hs k)) (hW : KWF hs sz) (hz : sz ≤ 7) (r : RowAt M R 0 c) (hw : WF c) (k1 : ∀ k, k < 72 → M1 98 (72 * sz + k) = M R (0 + k)) (k2 : ∀ k, (k < 72 * sz ∨ 72 * sz + 72 ≤ k) → M1 98 k = M 98 k) : ∀ k, k < sz + 1 → RowAt M1 98 (72 * k) (if k = sz then c else hs k) := fun k hk => by
  by_cases e : k = sz
  · subst e
    rw [if_pos rfl]
    exact r.cpy hw k1
  · rw [if_neg e]
    exact (hK k (by omega)).part (hW k (by omega)) (fun z hz1 hz2 => k2 z (Or.inl (by omega)))
theorem psh_lt {k : Nat} (h : sz ≤ 7) : psh hs sz c k = if k = sz then c else hs k := by
  unfold psh
  rw [Nat.min_eq_left h, if_neg (by omega : ¬ sz = 8)]
theorem psh_8 {k : Nat} : psh hs 8 c k = if k = 7 then c else hs (k + 1) := rfl
theorem R_shp {R : Nat} (hR : R = 97 ∨ R = 100) : shp[R]? = some (100, 72, []) := by rcases hR with rfl | rfl <;> rfl
theorem gl_kpT {M0 M : Nat → Nat → Int32} {R s1 : Nat} {h1 : Nat → Col} (hR : R = 97 ∨ R = 100) (r : RowAt M R 0 c) (hw : WF c) (h8 : M 96 8 = nI 0) (h5 : M 96 5 = nI s1) (hs7 : s1 ≤ 7) (hK : ∀ k, k < s1 → RowAt M 98 (72 * k) (h1 k)) (hW : KWF h1 s1) (hj : ∀ j, j ≠ 5 → j ≠ 8 → M 96 j = M0 96 j) (hkp : KP (fun a => a == 96 || a == 98) M0 M) (hout : ∀ M1, (∀ k, k < s1 + 1 → RowAt M1 98 (72 * k) (if k = s1 then c else h1 k)) → M1 96 5 = nI (s1 + 1) → KtR M1 (psh hs sz c) (min (sz + 1) 8)) : ER G ad (d + 1) mX9_keeps (0, 0) (PI none o (fun M' => M' 96 8 = nI 0 ∧ KtR M' (psh hs sz c) (min (sz + 1) 8) ∧ (∀ j, j ≠ 5 → j ≠ 8 → M' 96 j = M0 96 j) ∧ KP (fun a => a == 96 || a == 98) M0 M')) (0, 0) 62 [some (.ref (ad 96)), some (.ref (ad (R))), none] [] (M, o) := by
  have hR9 : R ≠ 98 ∧ R ≠ 96 := by omega
  refine e_aload_n (pc' := 63) dX9_keeps_62 rfl rfl rfl ?_
  refine e_iconst (pc' := 64) (v := nI 0) dX9_keeps_63 rfl (by decide) ?_
  refine e_aload_n (pc' := 65) dX9_keeps_64 rfl rfl rfl ?_
  refine p_gfr (pc' := 68) (a := 96) (k := 1) (t := 98) dX9_keeps_65 rfl rfl (by decide) (by decide) rfl fl_X9_13 ?_
  refine e_bipush (pc' := 70) (v := nI 72) dX9_keeps_68 rfl (by decide) ?_
  refine e_aload_n (pc' := 71) dX9_keeps_70 rfl rfl rfl ?_
  refine p_gfi (pc' := 74) (a := 96) (k := 5) (x := nI s1) dX9_keeps_71 rfl (rfl) (by decide) (by decide) rfl fl_X9_55 (h5) ?_
  refine e_imulN (pc' := 75) dX9_keeps_74 rfl ?_
  refine r_SI (pc' := 78) (m' := mX9_copies) (As := [.ref (ad (R)), .int (nI 0), .ref (ad 98), .int (nI (72 * s1))]) (st := []) (g_copies (d := d) (R := R) (Q := 98) (n0 := 72) (n1 := 576) (p := 0) (q := 72 * s1) (R_shp hR) rfl hR9.1 (by omega) (by omega) (by decide) (by decide)) dX9_keeps_75 rfl rfl (Nat.le_of_ble_eq_true rfl) (fit_of (by omega) (by decide) (by decide) (by decide)) ml_X9_58 okX9_copies rfl rfl (fun M1 ⟨k1, k2, k3⟩ => ?_)
  show EV _ _ _ _ _ 78 _ ([]) _
  refine e_aload_n (pc' := 79) dX9_keeps_78 rfl rfl rfl ?_
  refine e_dup (pc' := 80) dX9_keeps_79 rfl rfl ?_
  refine p_gfi (pc' := 83) (a := 96) (k := 5) (x := nI s1) dX9_keeps_80 rfl (rfl) (by decide) (by decide) rfl fl_X9_55 (((k3.at (by decide) 5).trans h5)) ?_
  refine e_iconst (pc' := 84) (v := nI 1) dX9_keeps_83 rfl (by decide) ?_
  refine e_iaddN (pc' := 85) dX9_keeps_84 rfl ?_
  refine p_pfi (pc' := 88) (a := 96) (k := 5) dX9_keeps_85 rfl (rfl) (by decide) (by decide) rfl fl_X9_55 rfl rfl ?_
  exact e_vret dX9_keeps_88 rfl (MP.retI rfl ⟨by rw [up2_k (by decide), k3 96 (by decide)]; exact h8, hout _ (fun k hk => by
    have := KtR.copy hK hW hs7 r hw k1 k2 k hk
    unfold RowAt at this ⊢
    rw [up2_n (by decide)]; exact this) up2_s, fun j g1 g2 => by rw [up2_k g1, k3 96 (by decide)]; exact hj j g1 g2, (hkp.trans (k3.wide (fun a ha => by simp at ha ⊢; exact ha.2))).up (by decide)⟩) (by decide) (by decide)
theorem gl_kpS {M0 : Nat → Nat → Int32} {R : Nat} {P : PM} (hfin : ∀ (M : Nat → Nat → Int32), (∀ k, k < 504 → M 98 k = M0 98 (k + 72)) → (∀ a, a ≠ 98 → M a = M0 a) → ER G ad (d + 1) mX9_keeps (0, 0) (P) (0, 0) 52 [some (.ref (ad 96)), some (.ref (ad (R))), none] [] (M, o)) : ∀ i, i ≤ 504 → ∀ (M : Nat → Nat → Int32), (∀ k, k < i → M 98 k = M0 98 (k + 72)) → (∀ k, i ≤ k → M 98 k = M0 98 k) → (∀ a, a ≠ 98 → M a = M0 a) → ER G ad (d + 1) mX9_keeps (0, 0) (P) (0, 0) 24 [some (.ref (ad 96)), some (.ref (ad (R))), some (.int (nI i))] [] (M, o) := down 504 _ (fun i hi ih M g1 g2 g3 => by
  refine e_iload_n (pc' := 25) dX9_keeps_24 rfl rfl rfl ?_
  refine e_sipush (pc' := 28) (v := nI 504) dX9_keeps_25 rfl (by decide) ?_
  refine e_icmp_geN (pc' := 31) (tgt := 52) dX9_keeps_28 rfl (by decide) (by omega) (by omega) (fun hz1 => ?_) (fun hz1 => ?_)
  · refine e_fg (i := 2) (L' := [some (.ref (ad 96)), some (.ref (ad (R))), none]) rfl ?_
    exact hfin M (fun k hk => g1 k (by omega)) g3
  · refine e_aload_n (pc' := 32) dX9_keeps_31 rfl rfl rfl ?_
    refine p_gfr (pc' := 35) (a := 96) (k := 1) (t := 98) dX9_keeps_32 rfl rfl (by decide) (by decide) rfl fl_X9_13 ?_
    refine e_iload_n (pc' := 36) dX9_keeps_35 rfl rfl rfl ?_
    refine e_aload_n (pc' := 37) dX9_keeps_36 rfl rfl rfl ?_
    refine p_gfr (pc' := 40) (a := 96) (k := 1) (t := 98) dX9_keeps_37 rfl rfl (by decide) (by decide) rfl fl_X9_13 ?_
    refine e_iload_n (pc' := 41) dX9_keeps_40 rfl rfl rfl ?_
    refine e_bipush (pc' := 43) (v := nI 72) dX9_keeps_41 rfl (by decide) ?_
    refine e_iaddN (pc' := 44) dX9_keeps_43 rfl ?_
    refine p_iald (pc' := 45) (a := 98) (k := i + 72) (x := M0 98 (i + 72)) dX9_keeps_44 rfl (rfl) (rfl) (by omega) (by decide) (g2 _ (by omega)) ?_
    refine p_iast (pc' := 46) (a := 98) (k := i) dX9_keeps_45 rfl (rfl) (rfl) (by omega) (by decide) ?_
    refine e_iincN (pc' := 49) (k := 1) (L' := [some (.ref (ad 96)), some (.ref (ad (R))), some (.int (nI (i + 1)))]) dX9_keeps_46 rfl rfl rfl (by decide) rfl ?_
    refine e_goto (tgt := 24) dX9_keeps_49 (by decide) ?_
    exact ih (by omega) _ (fun k hk => by by_cases e : k = i; rw [e]; exact up2_s; rw [up2_k e]; exact g1 k (by omega)) (fun k hk => by rw [up2_k (by omega)]; exact g2 k (by omega)) (fun a ha => by rw [up2_n ha]; exact g3 a ha))
theorem g_keeps0 {R : Nat} (hR : R = 97 ∨ R = 100) (r : RowAt M R 0 c) (hw : WF c) (hK : KtR M hs sz) (hW : KWF hs sz) (h6 : M 96 6 = nI 0) : RETI G ad (d + 1) mX9_keeps [.ref (ad 96), .ref (ad (R))] (M, o) none (fun M' => M' 96 8 = nI 0 ∧ KtR M' (psh hs sz c) (min (sz + 1) 8) ∧ (∀ j, j ≠ 5 → j ≠ 8 → M' 96 j = M 96 j) ∧ KP (fun a => a == 96 || a == 98) M M') := by
  refine CM_of rfl (by decide) rfl (Nat.le_of_ble_eq_true rfl) rfl ?_
  have hz8 := hK.2.1
  have hR9 : R ≠ 98 ∧ R ≠ 96 := by omega
  refine e_aload_n (pc' := 1) dX9_keeps_0 rfl rfl rfl ?_
  refine e_iconst (pc' := 2) (v := nI 0) dX9_keeps_1 rfl (by decide) ?_
  refine p_pfi (pc' := 5) (a := 96) (k := 8) dX9_keeps_2 rfl (rfl) (by decide) (by decide) rfl fl_X9_36 rfl rfl ?_
  refine e_aload_n (pc' := 6) dX9_keeps_5 rfl rfl rfl ?_
  refine p_gfi (pc' := 9) (a := 96) (k := 6) (x := nI 0) dX9_keeps_6 rfl (rfl) (by decide) (by decide) rfl fl_X9_52 (by rw [up2_k (by decide)]; exact h6) ?_
  refine e_if_eqN (pc' := 12) (tgt := 13) dX9_keeps_9 rfl (by decide) (by omega) (fun hz1 => ?_) (fun hz1 => absurd hz1 (by omega))
  refine e_aload_n (pc' := 14) dX9_keeps_13 rfl rfl rfl ?_
  refine p_gfi (pc' := 17) (a := 96) (k := 5) (x := nI sz) dX9_keeps_14 rfl (rfl) (by decide) (by decide) rfl fl_X9_55 (by rw [up2_k (by decide)]; exact hK.1) ?_
  refine e_bipush (pc' := 19) (v := nI 8) dX9_keeps_17 rfl (by decide) ?_
  refine e_icmp_neN (pc' := 22) (tgt := 62) dX9_keeps_19 rfl (by decide) (by omega) (by omega) (fun h7 => ?_) (fun h7 => ?_)
  · exact gl_kpT hR (r.cpy hw (fun k _ => by rw [up2_n hR9.2])) hw up2_s (by rw [up2_k (by decide)]; exact hK.1) (by omega) (fun k hk => (hK.2.2 k hk).cpy (hW k hk) (fun z _ => by rw [up2_n (by decide)])) hW (fun j g1 g2 => by rw [up2_k g2]) (KP.refl.up (by decide)) (fun M1 h1 h5 => ⟨by rw [h5, Nat.min_eq_left (by omega)], by omega, fun k hk => by rw [psh_lt (by omega)]; exact h1 k (by omega)⟩)
  · refine e_iconst (pc' := 23) (v := nI 0) dX9_keeps_22 rfl (by decide) ?_
    refine e_istore_n (pc' := 24) (L' := [some (.ref (ad 96)), some (.ref (ad (R))), some (.int (nI 0))]) dX9_keeps_23 rfl rfl (by decide) rfl ?_
    obtain rfl : sz = 8 := h7
    refine gl_kpS (M0 := up2 M 96 8 (nI 0)) (fun M2 g1 g2 => ?_) 0 (by omega) _ (fun k hk => absurd hk (Nat.not_lt_zero k)) (fun k _ => rfl) (fun a _ => rfl)
    refine e_aload_n (pc' := 53) dX9_keeps_52 rfl rfl rfl ?_
    refine e_dup (pc' := 54) dX9_keeps_53 rfl rfl ?_
    refine p_gfi (pc' := 57) (a := 96) (k := 5) (x := nI 8) dX9_keeps_54 rfl (rfl) (by decide) (by decide) rfl fl_X9_55 ((by rw [g2 96 (by decide), up2_k (by decide)]; exact hK.1)) ?_
    refine e_iconst (pc' := 58) (v := nI 1) dX9_keeps_57 rfl (by decide) ?_
    refine e_isubN (pc' := 59) dX9_keeps_58 rfl (by decide) ?_
    refine p_pfi (pc' := 62) (a := 96) (k := 5) dX9_keeps_59 rfl (rfl) (by decide) (by decide) rfl fl_X9_55 rfl rfl ?_
    exact gl_kpT (s1 := 7) (h1 := fun k => hs (k + 1)) hR (r.cpy hw (fun k _ => by rw [up2_n hR9.2, g2 _ hR9.1, up2_n hR9.2])) hw (by rw [up2_k (by decide), g2 96 (by decide)]; exact up2_s) up2_s (by omega) (fun k hk => (hK.2.2 (k + 1) (by omega)).cpy (hW (k + 1) (by omega)) (fun z hz => by rw [up2_n (by decide), g1 _ (by omega), up2_n (by decide), show 72 * k + z + 72 = 72 * (k + 1) + z by omega])) (fun k hk => hW (k + 1) (by omega)) (fun j q1 q2 => by rw [up2_k q1, g2 96 (by decide), up2_k q2]) (((KP.refl.up (by decide)).trans (fun a ha => g2 a (fun e => by subst e; cases ha))).up (by decide)) (fun M1 h1 h5 => ⟨h5, by omega, fun k hk => by rw [psh_8]; exact h1 k (by omega)⟩)
theorem g_keeps1 {R : Nat} (h6 : M 96 6 = nI 1) : RET G ad (d + 1) mX9_keeps [.ref (ad 96), .ref (ad (R))] (M, o) none ((up2 M 96 8 (nI 0)), o) := by
  refine CM_of rfl (by decide) rfl (Nat.le_of_ble_eq_true rfl) rfl ?_
  refine e_aload_n (pc' := 1) dX9_keeps_0 rfl rfl rfl ?_
  refine e_iconst (pc' := 2) (v := nI 0) dX9_keeps_1 rfl (by decide) ?_
  refine p_pfi (pc' := 5) (a := 96) (k := 8) dX9_keeps_2 rfl (rfl) (by decide) (by decide) rfl fl_X9_36 rfl rfl ?_
  refine e_aload_n (pc' := 6) dX9_keeps_5 rfl rfl rfl ?_
  refine p_gfi (pc' := 9) (a := 96) (k := 6) (x := nI 1) dX9_keeps_6 rfl (rfl) (by decide) (by decide) rfl fl_X9_52 (by rw [up2_k (by decide)]; exact h6) ?_
  refine e_if_eqN (pc' := 12) (tgt := 13) dX9_keeps_9 rfl (by decide) (by omega) (fun hz1 => absurd hz1 (by omega)) (fun hz1 => ?_)
  exact e_vret dX9_keeps_12 rfl (MP.ret rfl rfl) (by decide) (by decide)
def KWI (w : Bool) (hs : Nat → Col) (sz : Nat) (c : Col) (M M' : Nat → Nat → Int32) : Prop := M' 96 8 = nI 0 ∧ KtR M' (hsW w hs sz c) (szW w sz) ∧ (∀ j, j ≠ 5 → j ≠ 8 → M' 96 j = M 96 j) ∧ KP (fun a => a == 96 || a == 98) M M'
theorem g_keeps (r : RowAt M 97 0 c) (hw : WF c) (hK : KtR M hs sz) (hW : KWF hs sz) (h6 : M 96 6 = bI w) : RETI G ad (d + 1) mX9_keeps [.ref (ad 96), .ref (ad 97)] (M, o) none (KWI w hs sz c M) := by
  cases w with
  | false => exact g_keeps0 (Or.inl rfl) r hw hK hW h6
  | true => exact (g_keeps1 (R := 97) h6).toI ⟨up2_s, hK.kp (up2_k (by decide)) (up2_n (by decide)), fun j _ h2 => up2_k h2, KP.refl.up (by decide)⟩
end T47

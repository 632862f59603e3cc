set_option maxHeartbeats 400000
/-! THE LAW: what each pair of calls answers -/
section T65
variable {G : gC} {ad : Nat → Nat} {M : Nat → Nat → Int32} {o : (Nat → Int64) × (Nat → UInt64)}
theorem mif_one {c : Col} : ∀ {k : Nat}, ¬ k = 0 → ¬ mif c k = none
  | 0, h => absurd rfl h
  | k + 1, _ => by
    rw [mif_s]
    split
    · simp
    · split <;> simp
theorem mRank_ol {c : Col} (hw : WF c) {x : Int32} : oI (mRank c x) = -1 ↔ mRank c x = none := oI_ne (fun i e => by have := (fnd_lt e).1; have := hw.n; omega)
theorem oI_sm {n : Nat} (h : n < 2 ^ 31) : ¬ oI (some n) = -1 := fun q => absurd ((oI_ne (a := some n) (fun i e => by cases e; exact h)).mp q) (by simp)
theorem f2d_nn {x : UInt32} (h : FP.Core.fIsNaN x = false) : FP.Core.dIsNaN (FP.f2d x) = false := (FP.f2d_nan x).trans h
theorem jdc0 (c : Col) (a b : Int32) : (jd c 0 a b).1 ≤ 5 ∨ (jd c 0 a b).1 = 9 := by
  show (jdAdd c a b).1 ≤ 5 ∨ (jdAdd c a b).1 = 9
  unfold jdAdd; repeat' split
  all_goals simp
theorem jdc1 (c : Col) (a b : Int32) : (jd c 1 a b).1 = 0 ∨ (jd c 1 a b).1 = 8 ∨ (jd c 1 a b).1 = 9 := by
  show (jdStr c a b).1 = 0 ∨ (jdStr c a b).1 = 8 ∨ (jdStr c a b).1 = 9
  unfold jdStr; repeat' split
  all_goals simp
theorem jdc2 (c : Col) (a b : Int32) : (jd c 2 a b).1 = 0 ∨ (jd c 2 a b).1 = 8 := by
  show (if hasM c a = true then ((0, 0) : Nat × Int32) else (8, 0)).1 = 0 ∨ (if hasM c a = true then ((0, 0) : Nat × Int32) else (8, 0)).1 = 8
  split <;> simp
theorem jdc3 (c : Col) (a b : Int32) : (jd c 3 a b).1 = 0 ∨ (jd c 3 a b).1 = 9 := by
  show (if isP a = true then ((0, 0) : Nat × Int32) else (9, 0)).1 = 0 ∨ (if isP a = true then ((0, 0) : Nat × Int32) else (9, 0)).1 = 9
  split <;> simp
theorem jdc6 (c : Col) (a b : Int32) : (jd c 6 a b).1 = 0 ∨ (jd c 6 a b).1 = 8 := by
  show (if hasT c a = true then ((0, 0) : Nat × Int32) else (8, 0)).1 = 0 ∨ (if hasT c a = true then ((0, 0) : Nat × Int32) else (8, 0)).1 = 8
  split <;> simp
theorem jdc7 (c : Col) (a b : Int32) : (jd c 7 a b).1 ≤ 5 := by
  show (jdSet c).1 ≤ 5
  unfold jdSet; repeat' split
  all_goals simp
theorem plc5 {r : Nat} (h : r ≤ 5) : plc 5 r = 3 := by unfold plc; rw [if_neg (by decide), if_neg (by decide), if_pos rfl, if_neg (by omega), if_neg (by omega)]
theorem exc5 {r : Nat} (h : r ≤ 5) : excN r = "java/lang/UnsupportedOperationException" := by unfold excN; rw [if_neg (by omega), if_neg (by omega)]
theorem exc8 {r : Nat} (h : r = 8) : excN r = "java/lang/IndexOutOfBoundsException" := by subst h; rfl
theorem exc9 {r : Nat} (h : r = 9) : excN r = "java/lang/IllegalArgumentException" := by subst h; rfl
theorem op_position (hL : LV M) (x : Int32) : OPT G ad mkI rlI mL_position mX9_position [.ref (ad 0), .int (x), .ref (ad 104)] [.ref (ad 96), .int (x)] M o := by
  obtain ⟨c, hs, nx, sz, sn, l, ln, ft, d1, d2, d3, hc, hm, hp⟩ := hL
  have hn := hp.1.n
  have hk := hp.1.k
  by_cases h : hasM c x = true
  · obtain ⟨i, hi, rfl, -⟩ := hasM_nI hn h
    exact OPT.q (k := 0) (b := nI (cp c i)) hc hm hp (by decide) (wo_position _ ((m_position hc.1 hp.1 hi).toI KP.refl)) (fun M1 o1 h1 => g_position h1.1 hp.1 hi) (fun _ o1 e => e)
  · exact OPT.q (k := 1) (b := nI 0) hc hm hp (by decide) (wt1_position _ ((m_position_x hc.1 hp.1 x (hasM_f h)).toI KP.refl)) (fun M1 o1 h1 => g_position_no h1.1 hp.1 x (hasM_f h)) (fun q => absurd q (by decide))
theorem op_strength (hL : LV M) (x : Int32) : OPT G ad mkI rlI mL_strength mX9_strength [.ref (ad 0), .int (x), .ref (ad 104)] [.ref (ad 96), .int (x)] M o := by
  obtain ⟨c, hs, nx, sz, sn, l, ln, ft, d1, d2, d3, hc, hm, hp⟩ := hL
  have hn := hp.1.n
  have hk := hp.1.k
  by_cases h : hasM c x = true
  · obtain ⟨i, hi, rfl, -⟩ := hasM_nI hn h
    exact OPT.q (k := 0) (b := nI (cs c i)) hc hm hp (by decide) (wo_strength _ ((m_strength hc.1 hp.1 hi).toI KP.refl)) (fun M1 o1 h1 => g_strength h1.1 hp.1 hi) (fun _ o1 e => e)
  · exact OPT.q (k := 1) (b := nI 0) hc hm hp (by decide) (wt1_strength _ ((m_strength_x hc.1 hp.1 x (hasM_f h)).toI KP.refl)) (fun M1 o1 h1 => g_strength_no h1.1 hp.1 x (hasM_f h)) (fun q => absurd q (by decide))
theorem op_turnsOf (hL : LV M) (x : Int32) : OPT G ad mkI rlI mL_turnsOf mX9_turnsOf [.ref (ad 0), .int (x), .ref (ad 104)] [.ref (ad 96), .int (x)] M o := by
  obtain ⟨c, hs, nx, sz, sn, l, ln, ft, d1, d2, d3, hc, hm, hp⟩ := hL
  have hn := hp.1.n
  have hk := hp.1.k
  by_cases h : hasM c x = true
  · obtain ⟨i, hi, rfl, -⟩ := hasM_nI hn h
    exact OPT.q (k := 0) (b := ct c i) hc hm hp (by decide) (wo_turnsOf _ ((m_turnsOf hc.1 hp.1 hi).toI KP.refl)) (fun M1 o1 h1 => g_turnsOf h1.1 hp.1 hi) (fun _ o1 e => e)
  · exact OPT.q (k := 1) (b := nI 0) hc hm hp (by decide) (wt1_turnsOf _ ((m_turnsOf_x hc.1 hp.1 x (hasM_f h)).toI KP.refl)) (fun M1 o1 h1 => g_turnsOf_no h1.1 hp.1 x (hasM_f h)) (fun q => absurd q (by decide))
theorem op_pole (hL : LV M) (x : Int32) : OPT G ad mkI rlI mL_pole mX9_pole [.ref (ad 0), .int (x), .ref (ad 104)] [.ref (ad 96), .int (x)] M o := by
  obtain ⟨c, hs, nx, sz, sn, l, ln, ft, d1, d2, d3, hc, hm, hp⟩ := hL
  have hn := hp.1.n
  have hk := hp.1.k
  by_cases h : hasM c x = true
  · obtain ⟨i, hi, rfl, -⟩ := hasM_nI hn h
    exact OPT.q (k := 0) (b := nI (sgn c i)) hc hm hp (by decide) (wo_pole _ ((m_pole hc.1 hp.1 hi).toI KP.refl)) (fun M1 o1 h1 => g_pole h1.1 hp.1 hi) (fun _ o1 e => e)
  · exact OPT.q (k := 1) (b := nI 32) hc hm hp (by decide) (wt1_pole _ ((m_pole_x hc.1 hp.1 x (hasM_f h)).toI KP.refl)) (fun M1 o1 h1 => g_pole_no h1.1 hp.1 x (hasM_f h)) (fun q => absurd q (by decide))
theorem op_wholeForce (hL : LV M) (x : Int32) : OPT G ad mkI rlI mL_wholeForce mX9_wholeForce [.ref (ad 0), .int (x), .ref (ad 104)] [.ref (ad 96), .int (x)] M o := by
  obtain ⟨c, hs, nx, sz, sn, l, ln, ft, d1, d2, d3, hc, hm, hp⟩ := hL
  have hn := hp.1.n
  have hk := hp.1.k
  by_cases h : hasM c x = true
  · obtain ⟨i, hi, rfl, -⟩ := hasM_nI hn h
    exact OPT.q (k := 0) (b := FP.f2i (frc c i)) hc hm hp (by decide) (wo_wholeForce _ ((m_wholeForce hc.1 hp.1 hi).toI KP.refl)) (fun M1 o1 h1 => g_whole h1.1 hp.1 hi) (fun _ o1 e => e)
  · exact OPT.q (k := 1) (b := nI 0) hc hm hp (by decide) (wt1_wholeForce _ ((m_wholeForce_x hc.1 hp.1 x (hasM_f h)).toI KP.refl)) (fun M1 o1 h1 => g_whole_no h1.1 hp.1 x (hasM_f h)) (fun q => absurd q (by decide))
theorem op_force (hL : LV M) (x : Int32) : OPT G ad mkF rlF mL_force mX9_force [.ref (ad 0), .int (x), .ref (ad 105)] [.ref (ad 96), .int (x)] M o := by
  obtain ⟨c, hs, nx, sz, sn, l, ln, ft, d1, d2, d3, hc, hm, hp⟩ := hL
  have hn := hp.1.n
  have hk := hp.1.k
  by_cases h : hasM c x = true
  · obtain ⟨i, hi, rfl, -⟩ := hasM_nI hn h
    exact OPT.q (k := 0) (b := frc c i) hc hm hp (by decide) (wo_force _ (vf64_of (f2d_nn (frc_nn hp.1 hi _ (Nat.le_refl _)))) ((m_force hc.1 hp.1 hi).toI KP.refl)) (fun M1 o1 h1 => g_force h1.1 hp.1 hi) (fun _ o1 e => ⟨e, f2d_nn (frc_nn hp.1 hi _ (Nat.le_refl _))⟩)
  · exact OPT.q (k := 1) (b := FP.fconst0) hc hm hp (by decide) (wt1_force _ ((m_force_x hc.1 hp.1 x (hasM_f h)).toI KP.refl)) (fun M1 o1 h1 => g_force_no h1.1 hp.1 x (hasM_f h)) (fun q => absurd q (by decide))
theorem op_isOpen (hL : LV M) (x : Int32) : OPT G ad mkB rlB mL_isOpen mX9_isOpen [.ref (ad 0), .int (x), .ref (ad 104)] [.ref (ad 96), .int (x)] M o := by
  obtain ⟨c, hs, nx, sz, sn, l, ln, ft, d1, d2, d3, hc, hm, hp⟩ := hL
  have hn := hp.1.n
  have hk := hp.1.k
  by_cases h : hasT c x = true
  · obtain ⟨i, hi, rfl, -⟩ := hasT_nI hk h
    exact OPT.q (k := 0) (b := !blk c (cw c) i) hc hm hp (by decide) (wo_isOpen _ ((m_isOpen hc.1 hp.1 hi).toI KP.refl)) (fun M1 o1 h1 => g_isOpen h1.1 hp.1 hi) (fun _ o1 e => e)
  · exact OPT.q (k := 1) (b := false) hc hm hp (by decide) (wt1_isOpen _ ((m_isOpen_x hc.1 hp.1 x (hasT_f h)).toI KP.refl)) (fun M1 o1 h1 => g_isOpen_no h1.1 hp.1 x (hasT_f h)) (fun q => absurd q (by decide))
theorem op_field (hL : LV M) (x : Int32) : OPT G ad mkD rlD mL_field mX9_field [.ref (ad 0), .int (x), .ref (ad 105)] [.ref (ad 96), .int (x)] M o := by
  obtain ⟨c, hs, nx, sz, sn, l, ln, ft, d1, d2, d3, hc, hm, hp⟩ := hL
  have hn := hp.1.n
  have hk := hp.1.k
  by_cases h : isP x = true
  · obtain ⟨i, hi, rfl, -⟩ := isP_nI h
    exact OPT.q (k := 0) (b := fld c i) hc hm hp (by decide) (wo_field _ ((m_field hc.1 hp.1 hi).toI KP.refl)) (fun M1 o1 h1 => g_fieldP h1.1 hp.1 hi) (fun _ o1 e => ⟨e, fld_n hp.1 hi⟩)
  · exact OPT.q (k := 1) (b := FP.dconst0) hc hm hp (by decide) (wt1_field _ ((m_field_x hc.1 hp.1 x (isP_f h)).toI KP.refl)) (fun M1 o1 h1 => g_fieldP_no h1.1 hp.1 x (isP_f h)) (fun q => absurd q (by decide))
theorem op_magnetAt (hL : LV M) (x : Int32) : OPT G ad mkI rlI mL_magnetAt mX9_magnetAt [.ref (ad 0), .int (x), .ref (ad 104)] [.ref (ad 96), .int (x)] M o := by
  obtain ⟨c, hs, nx, sz, sn, l, ln, ft, d1, d2, d3, hc, hm, hp⟩ := hL
  have hn := hp.1.n
  have hk := hp.1.k
  by_cases h : isP x = true
  · obtain ⟨i, hi, rfl, -⟩ := isP_nI h
    by_cases h2 : mOn c (nI i) = none
    · exact OPT.q (k := 2) (b := nI 0) hc hm hp (by decide) (wt2_magnetAt _ ((m_magnetAt_n hc.1 hp.1 hi ((mOn_o hp.1).mpr h2)).toI KP.refl)) (fun M1 o1 h1 => g_magnetAt_n h1.1 hp.1 hi h2) (fun q => absurd q (by decide))
    · exact OPT.q (k := 0) (b := oI (mOn c (nI i))) hc hm hp (by decide) (wo_magnetAt _ ((m_magnetAt hc.1 hp.1 hi (fun q => h2 ((mOn_o hp.1).mp q))).toI KP.refl)) (fun M1 o1 h1 => g_magnetAt h1.1 hp.1 hi h2) (fun _ o1 e => e)
  · exact OPT.q (k := 1) (b := nI 0) hc hm hp (by decide) (wt1_magnetAt _ ((m_magnetAt_x hc.1 hp.1 x (isP_f h)).toI KP.refl)) (fun M1 o1 h1 => g_magnetAt_no h1.1 hp.1 x (isP_f h)) (fun q => absurd q (by decide))
theorem op_magnetByStrength (hL : LV M) (x : Int32) : OPT G ad mkI rlI mL_magnetByStrength mX9_magnetByStrength [.ref (ad 0), .int (x), .ref (ad 104)] [.ref (ad 96), .int (x)] M o := by
  obtain ⟨c, hs, nx, sz, sn, l, ln, ft, d1, d2, d3, hc, hm, hp⟩ := hL
  have hn := hp.1.n
  have hk := hp.1.k
  by_cases h2 : mRank c x = none
  · exact OPT.q (k := 1) (b := nI 0) hc hm hp (by decide) (wt1_magnetByStrength _ ((m_magnetByStrength_n hc.1 hp.1 x ((mRank_ol hp.1).mpr h2)).toI KP.refl)) (fun M1 o1 h1 => (by have g := g_byStr (G := G) (ad := ad) (d := 18) (o := o1) h1.1 hp.1 x; simp only [if_pos h2] at g; exact g)) (fun q => absurd q (by decide))
  · exact OPT.q (k := 0) (b := oI (mRank c x)) hc hm hp (by decide) (wo_magnetByStrength _ ((m_magnetByStrength hc.1 hp.1 x (fun q => h2 ((mRank_ol hp.1).mp q))).toI KP.refl)) (fun M1 o1 h1 => (by have g := g_byStr (G := G) (ad := ad) (d := 18) (o := o1) h1.1 hp.1 x; simp only [if_neg h2] at g; exact g)) (fun _ o1 e => e)
theorem op_walk (hL : LV M) (x y : Int32) : OPT G ad mkI rlI mL_walk mX9_walk [.ref (ad 0), .int (x), .int (y), .ref (ad 104)] [.ref (ad 96), .int (x), .int (y)] M o := by
  obtain ⟨c, hs, nx, sz, sn, l, ln, ft, d1, d2, d3, hc, hm, hp⟩ := hL
  have hn := hp.1.n
  have hk := hp.1.k
  by_cases h : hasM c x = true
  · obtain ⟨a, ha, rfl, -⟩ := hasM_nI hn h
    by_cases h3 : hasM c y = true
    · obtain ⟨b, hb, rfl, -⟩ := hasM_nI hn h3
      have e := wal_wR (b := b) hp.1 ha
      have eo : oI (wal c a (cn c) b) = -1 ↔ wal c a (cn c) b = none := oI_ne (fun i q => by have := wal_le _ _ _ q; omega)
      by_cases h2 : wR c a b = none
      · exact OPT.q (k := 2) (b := nI 0) hc hm hp (by decide) (wt2_walk _ _ (m_walk_n hc.1 hp.1 ha hb (eo.mpr (e.trans h2)))) (fun M1 o1 h1 => (by have g := g_walk (G := G) (ad := ad) (d := 18) (o := o1) h1.1 hp.1 ha hb; simp only [if_pos h2] at g; exact g)) (fun q => absurd q (by decide))
      · exact OPT.q (k := 0) (b := oI (wR c a b)) hc hm hp (by decide) (wo_walk _ _ ((by have q := m_walk (G := G) (ad := ad) (d := 15) (o := o) hc.1 hp.1 ha hb (fun q => h2 (e.symm.trans (eo.mp q))); rw [e] at q; exact q))) (fun M1 o1 h1 => (by have g := g_walk (G := G) (ad := ad) (d := 18) (o := o1) h1.1 hp.1 ha hb; simp only [if_neg h2] at g; exact g)) (fun _ o1 e => e)
    · exact OPT.q (k := 1) (b := nI 0) hc hm hp (by decide) (wt1_walk _ _ ((m_walk_x2 hc.1 hp.1 ha y (hasM_f h3)).toI KP.refl)) (fun M1 o1 h1 => g_walk_no2 h1.1 hp.1 ha y (hasM_f h3)) (fun q => absurd q (by decide))
  · exact OPT.q (k := 1) (b := nI 0) hc hm hp (by decide) (wt1_walk _ _ ((m_walk_x1 hc.1 hp.1 x y (hasM_f h)).toI KP.refl)) (fun M1 o1 h1 => g_walk_no1 h1.1 hp.1 x y (hasM_f h)) (fun q => absurd q (by decide))
theorem op_fewestTurns (hL : LV M) : OPT G ad mkI rlI mL_fewestTurns mX9_fewestTurns [.ref (ad 0), .ref (ad 104)] [.ref (ad 96)] M o := by
  obtain ⟨c, hs, nx, sz, sn, l, ln, ft, d1, d2, d3, hc, hm, hp⟩ := hL
  have hn := hp.1.n
  have hk := hp.1.k
  cases e : mbF c (2 ^ cn c) with
  | none =>
    have q : (bestF c).map pop = none := by rw [best_eq hp.1, e]; rfl
    exact OPT.q (k := 1) (b := nI 0) hc hm hp (by decide) (wt1_fewestTurns (m_fewest_n hc.1 hp.1 (by rw [q]; rfl))) (fun M1 o1 h1 => g_fewestTurns_n h1.1 hp.1 e) (fun q => absurd q (by decide))
  | some b =>
    have q : (bestF c).map pop = some (pop b) := by rw [best_eq hp.1, e]; rfl
    have hb := pop_le b
    exact OPT.q (k := 0) (b := nI (pop b)) hc hm hp (by decide) (wo_fewestTurns ((by have z := m_fewest (G := G) (ad := ad) (d := 15) (o := o) hc.1 hp.1 (by rw [q]; exact oI_sm (by omega)); rw [q] at z; exact z))) (fun M1 o1 h1 => g_fewestTurns h1.1 hp.1 e) (fun _ o1 e => e)
theorem op_fewestTurnsBySets (hL : LV M) : OPT G ad mkI rlI mL_fewestTurnsBySets mX9_fewestTurnsBySets [.ref (ad 0), .ref (ad 104)] [.ref (ad 96)] M o := by
  obtain ⟨c, hs, nx, sz, sn, l, ln, ft, d1, d2, d3, hc, hm, hp⟩ := hL
  have hn := hp.1.n
  have hk := hp.1.k
  cases e : mbF c (2 ^ cn c) with
  | none =>
    have q : sstF c (2 ^ cn c) = none := by rw [sst_mb, e]; rfl
    exact OPT.q (k := 1) (b := nI 0) hc hm hp (by decide) (wt1_fewestTurnsBySets ((m_fewestSets_n hc.1 hp.1 (by rw [q]; rfl)).toI KP.refl)) (fun M1 o1 h1 => g_fewestTurnsBySets_n h1.1 hp.1 e) (fun q => absurd q (by decide))
  | some b =>
    have q : sstF c (2 ^ cn c) = some (pop b) := by rw [sst_mb, e]; rfl
    have hb := pop_le b
    exact OPT.q (k := 0) (b := nI (pop b)) hc hm hp (by decide) (wo_fewestTurnsBySets ((by have z := m_fewestSets (G := G) (ad := ad) (d := 15) (o := o) hc.1 hp.1 (by rw [q]; exact oI_sm (by omega)); rw [q] at z; exact z.toI KP.refl))) (fun M1 o1 h1 => g_fewestTurnsBySets h1.1 hp.1 e) (fun _ o1 e => e)
theorem op_strongestPosition (hL : LV M) : OPT G ad mkI rlI mL_strongestPosition mX9_strongestPosition [.ref (ad 0), .ref (ad 104)] [.ref (ad 96)] M o := by
  obtain ⟨c, hs, nx, sz, sn, l, ln, ft, d1, d2, d3, hc, hm, hp⟩ := hL
  have hn := hp.1.n
  have hk := hp.1.k
  by_cases h0 : cn c = 0
  · exact OPT.q (k := 1) (b := nI 0) hc hm hp (by decide) (wt1_strongestPosition ((m_strongest_n hc.1 hp.1 (by rw [psF_n h0]; rfl)).toI KP.refl)) (fun M1 o1 h1 => g_spos_n h1.1 hp.1 h0) (fun q => absurd q (by decide))
  · have q := psf_le (c := c) 99
    exact OPT.q (k := 0) (b := nI (psf c 99)) hc hm hp (by decide) (wo_strongestPosition ((by have z := m_strongest (G := G) (ad := ad) (d := 15) (o := o) hc.1 hp.1 (by rw [psF_t h0]; exact oI_sm (by omega)); rw [psF_t h0] at z; exact z.toI KP.refl))) (fun M1 o1 h1 => g_spos h1.1 hp.1 h0) (fun _ o1 e => e)
theorem op_queen (hL : LV M) : OPT G ad mkI rlI mL_queen mX9_queen [.ref (ad 0), .ref (ad 104)] [.ref (ad 96)] M o := by
  obtain ⟨c, hs, nx, sz, sn, l, ln, ft, d1, d2, d3, hc, hm, hp⟩ := hL
  have hn := hp.1.n
  have hk := hp.1.k
  by_cases h0 : cn c = 0
  · exact OPT.q (k := 1) (b := nI 0) hc hm hp (by decide) (wt1_queen ((m_queen_n hc.1 hp.1 (by rw [h0]; rfl)).toI KP.refl)) (fun M1 o1 h1 => g_queen_n h1.1 hp.1 h0) (fun q => absurd q (by decide))
  · exact OPT.q (k := 0) (b := oI (mif c (cn c))) hc hm hp (by decide) (wo_queen ((m_queen hc.1 hp.1 (fun q => mif_one h0 ((mif_o hn (Nat.le_refl _)).mp q))).toI KP.refl)) (fun M1 o1 h1 => g_queen h1.1 hp.1 h0) (fun _ o1 e => e)
theorem op_meanStrength (hL : LV M) : OPT G ad mkD rlD mL_meanStrength mX9_meanStrength [.ref (ad 0), .ref (ad 105)] [.ref (ad 96)] M o := by
  obtain ⟨c, hs, nx, sz, sn, l, ln, ft, d1, d2, d3, hc, hm, hp⟩ := hL
  have hn := hp.1.n
  have hk := hp.1.k
  by_cases h0 : cn c = 0
  · exact OPT.q (k := 1) (b := FP.dconst0) hc hm hp (by decide) (wt1_meanStrength ((m_mean_n hc.1 hp.1 h0).toI KP.refl)) (fun M1 o1 h1 => g_mean_n h1.1 hp.1 h0) (fun q => absurd q (by decide))
  · exact OPT.q (k := 0) (b := meanF c) hc hm hp (by decide) (wo_meanStrength ((m_mean hc.1 hp.1 h0).toI KP.refl)) (fun M1 o1 h1 => g_mean h1.1 hp.1 h0) (fun _ o1 e => ⟨e, FP.Core.DFin.notNaN (ddiv_fin (by omega) (by omega))⟩)
theorem op_openShare (hL : LV M) : OPT G ad mkF rlF mL_openShare mX9_openShare [.ref (ad 0), .ref (ad 105)] [.ref (ad 96)] M o := by
  obtain ⟨c, hs, nx, sz, sn, l, ln, ft, d1, d2, d3, hc, hm, hp⟩ := hL
  have hn := hp.1.n
  have hk := hp.1.k
  by_cases h0 : ck c = 0
  · exact OPT.q (k := 1) (b := FP.fconst0) hc hm hp (by decide) (wt1_openShare ((m_share_n hc.1 hp.1 h0).toI KP.refl)) (fun M1 o1 h1 => g_share_n h1.1 hp.1 h0) (fun q => absurd q (by decide))
  · have nn : FP.Core.dIsNaN (FP.f2d (shareF c)) = false := f2d_nn (FP.Core.FFin.notNaN (fdiv_fin (by omega) (by omega)))
    exact OPT.q (k := 0) (b := shareF c) hc hm hp (by decide) (wo_openShare (vf64_of nn) ((m_share hc.1 hp.1 h0).toI KP.refl)) (fun M1 o1 h1 => g_share h1.1 hp.1 h0) (fun _ o1 e => ⟨e, nn⟩)
theorem op_denial (hL : LV M) : OPT G ad mkI rlI mL_denial mX9_denial [.ref (ad 0), .ref (ad 104)] [.ref (ad 96)] M o := by
  obtain ⟨c, hs, nx, sz, sn, l, ln, ft, d1, d2, d3, hc, hm, hp⟩ := hL
  have hn := hp.1.n
  have hk := hp.1.k
  by_cases h0 : d1 = 0
  · exact OPT.q (k := 1) (b := nI 0) hc hm hp (by decide) (wt1_denial ((m_denial_n (hc.2.2.2.2.2.2.2.1.trans h0)).toI KP.refl)) (fun M1 o1 h1 => g_denial_no (h1.2.2.2.2.2.2.2.2.1.trans h0)) (fun q => absurd q (by decide))
  · exact OPT.q (k := 0) (b := d1) hc hm hp (by decide) (wo_denial ((by have z := m_denial (G := G) (ad := ad) (d := 18) (M := M) (o := o) (fun q => h0 (hc.2.2.2.2.2.2.2.1.symm.trans q)); rw [hc.2.2.2.2.2.2.2.1] at z; exact z.toI KP.refl))) (fun M1 o1 h1 => (by have z := g_denial (G := G) (ad := ad) (d := 19) (M := M1) (o := o1) (fun q => h0 (h1.2.2.2.2.2.2.2.2.1.symm.trans q)); rw [h1.2.2.2.2.2.2.2.2.1] at z; exact z)) (fun _ o1 e => e)
theorem op_denialDetail (hL : LV M) : OPT G ad mkI rlI mL_denialDetail mX9_denialDetail [.ref (ad 0), .ref (ad 104)] [.ref (ad 96)] M o := by
  obtain ⟨c, hs, nx, sz, sn, l, ln, ft, d1, d2, d3, hc, hm, hp⟩ := hL
  have hn := hp.1.n
  have hk := hp.1.k
  by_cases h0 : d1 = 0
  · exact OPT.q (k := 1) (b := nI 0) hc hm hp (by decide) (wt1_denialDetail ((m_denialDetail_n (hc.2.2.2.2.2.2.2.1.trans h0)).toI KP.refl)) (fun M1 o1 h1 => g_denialDetail_no (h1.2.2.2.2.2.2.2.2.1.trans h0)) (fun q => absurd q (by decide))
  · exact OPT.q (k := 0) (b := d2) hc hm hp (by decide) (wo_denialDetail ((by have z := m_denialDetail (G := G) (ad := ad) (d := 18) (M := M) (o := o) (fun q => h0 (hc.2.2.2.2.2.2.2.1.symm.trans q)); rw [hc.2.2.2.2.2.2.2.2.1] at z; exact z.toI KP.refl))) (fun M1 o1 h1 => (by have z := g_denialDetail (G := G) (ad := ad) (d := 19) (M := M1) (o := o1) (fun q => h0 (h1.2.2.2.2.2.2.2.2.1.symm.trans q)); rw [h1.2.2.2.2.2.2.2.2.2.1] at z; exact z)) (fun _ o1 e => e)
theorem op_denialCause (hL : LV M) : OPT G ad mkI rlI mL_denialCause mX9_denialCause [.ref (ad 0), .ref (ad 104)] [.ref (ad 96)] M o := by
  obtain ⟨c, hs, nx, sz, sn, l, ln, ft, d1, d2, d3, hc, hm, hp⟩ := hL
  have hn := hp.1.n
  have hk := hp.1.k
  by_cases h0 : d3 = 0
  · exact OPT.q (k := 1) (b := nI 0) hc hm hp (by decide) (wt1_denialCause ((m_denialCause_n (hc.2.2.2.2.2.2.2.2.2.trans h0)).toI KP.refl)) (fun M1 o1 h1 => g_denialCause_no (h1.2.2.2.2.2.2.2.2.2.2.trans h0)) (fun q => absurd q (by decide))
  · exact OPT.q (k := 0) (b := d3) hc hm hp (by decide) (wo_denialCause ((by have z := m_denialCause (G := G) (ad := ad) (d := 19) (M := M) (o := o) (fun q => h0 (hc.2.2.2.2.2.2.2.2.2.symm.trans q)); rw [hc.2.2.2.2.2.2.2.2.2] at z; exact z.toI KP.refl))) (fun M1 o1 h1 => (by have z := g_denialCause (G := G) (ad := ad) (d := 19) (M := M1) (o := o1) (fun q => h0 (h1.2.2.2.2.2.2.2.2.2.2.symm.trans q)); rw [h1.2.2.2.2.2.2.2.2.2.2] at z; exact z)) (fun _ o1 e => e)
theorem op_faultPosition (hL : LV M) : OPT G ad mkI rlI mL_faultPosition mX9_faultPosition [.ref (ad 0), .ref (ad 104)] [.ref (ad 96)] M o := by
  obtain ⟨c, hs, nx, sz, sn, l, ln, ft, d1, d2, d3, hc, hm, hp⟩ := hL
  have hn := hp.1.n
  have hk := hp.1.k
  have fc := hc.2.2.2.2.2.2.1
  rcases hp.2.2.2.2.2.2.2 with h0 | ⟨f, hf, h0⟩
  · exact OPT.q (k := 1) (b := nI 0) hc hm hp (by decide) (wt1_faultPosition ((m_fault_n (fc.trans h0)).toI KP.refl)) (fun M1 o1 h1 => g_faultPosition_no (by rw [h1.2.2.2.2.2.2.2.1, h0]; decide)) (fun q => absurd q (by decide))
  · exact OPT.q (k := 0) (b := ft) hc hm hp (by decide) (wo_faultPosition ((by have z := m_fault (G := G) (ad := ad) (d := 18) (M := M) (o := o) (by rw [fc, h0]; exact oI_sm (n := f) (by omega)); rw [fc] at z; exact z.toI KP.refl))) (fun M1 o1 h1 => (by have z := g_faultPosition (G := G) (ad := ad) (d := 19) (M := M1) (o := o1) (by rw [h1.2.2.2.2.2.2.2.1, h0]; exact nI_pos' (by omega)); rw [h1.2.2.2.2.2.2.2.1] at z; exact z)) (fun _ o1 e => e)
theorem op_lineCharacter (hL : LV M) (x : Int32) : OPT G ad mkI rlI mL_lineCharacter mX9_lineCharacter [.ref (ad 0), .int (x), .ref (ad 104)] [.ref (ad 96), .int (x)] M o := by
  obtain ⟨c, hs, nx, sz, sn, l, ln, ft, d1, d2, d3, hc, hm, hp⟩ := hL
  have hn := hp.1.n
  have hk := hp.1.k
  have h23 := hp.2.2.2.2.2.1
  have hg := hp.2.2.2.2.2.2.1
  by_cases h : 0 ≤ x ∧ x < nI ln.length
  · obtain ⟨j, hj, rfl⟩ := in_nI (n := ln.length) (by omega) h.1 h.2
    exact OPT.q (k := 0) (b := nI (ln.getD j 0)) hc hm hp (by decide) (wo_lineCharacter _ ((m_lineC hc.2.2.2.2.2.1 h23 hj (hg j)).toI KP.refl)) (fun M1 o1 h1 => g_lineC h1.2.2.2.2.2.2.1 h23 hj (hg j)) (fun _ o1 e => e)
  · exact OPT.q (k := 1) (b := nI 32) hc hm hp (by decide) (wt1_lineCharacter _ ((m_lineC_x hc.2.2.2.2.2.1 h23 x h).toI KP.refl)) (fun M1 o1 h1 => g_lineC_no h1.2.2.2.2.2.2.1 h23 x h) (fun q => absurd q (by decide))
theorem od_magnetCount (hL : LV M) : OPD G ad mX8_magnetCount mX9_magnetCount M o := by
  obtain ⟨c, hs, nx, sz, sn, l, ln, ft, d1, d2, d3, hc, hm, hp⟩ := hL
  have hn := hp.1.n
  have hk := hp.1.k
  exact OPD.q (k := 0) hc hm hp ((m_magnetCount hc.1 hp.1).toI KP.refl) (fun M1 h1 => g_magnetCount h1.1 hp.1)
theorem od_tunnelCount (hL : LV M) : OPD G ad mX8_tunnelCount mX9_tunnelCount M o := by
  obtain ⟨c, hs, nx, sz, sn, l, ln, ft, d1, d2, d3, hc, hm, hp⟩ := hL
  have hn := hp.1.n
  have hk := hp.1.k
  exact OPD.q (k := 0) hc hm hp ((m_tunnelCount hc.1 hp.1).toI KP.refl) (fun M1 h1 => g_tunnelCount h1.1 hp.1)
theorem od_turnTotal (hL : LV M) : OPD G ad mX8_turnTotal mX9_turnTotal M o := by
  obtain ⟨c, hs, nx, sz, sn, l, ln, ft, d1, d2, d3, hc, hm, hp⟩ := hL
  have hn := hp.1.n
  have hk := hp.1.k
  exact OPD.q (k := 0) hc hm hp ((m_turnTotal hc.1 hp.1).toI KP.refl) (fun M1 h1 => g_turnTotal h1.1 hp.1)
theorem od_moved (hL : LV M) : OPD G ad mX8_moved mX9_moved M o := by
  obtain ⟨c, hs, nx, sz, sn, l, ln, ft, d1, d2, d3, hc, hm, hp⟩ := hL
  have hn := hp.1.n
  have hk := hp.1.k
  exact OPD.q (k := 0) hc hm hp ((m_moved hc.1 hp.1).toI KP.refl) (fun M1 h1 => g_moved h1.1 hp.1)
theorem od_blocked (hL : LV M) : OPD G ad mX8_blocked mX9_blocked M o := by
  obtain ⟨c, hs, nx, sz, sn, l, ln, ft, d1, d2, d3, hc, hm, hp⟩ := hL
  have hn := hp.1.n
  have hk := hp.1.k
  exact OPD.q (k := 0) hc hm hp ((m_blocked hc.1 hp.1).toI KP.refl) (fun M1 h1 => g_blocked h1.1 hp.1)
theorem od_undoCount (hL : LV M) : OPD G ad mX8_undoCount mX9_undoCount M o := by
  obtain ⟨c, hs, nx, sz, sn, l, ln, ft, d1, d2, d3, hc, hm, hp⟩ := hL
  have hn := hp.1.n
  have hk := hp.1.k
  exact OPD.q (k := 0) hc hm hp ((m_undoCount hc.2.1).toI KP.refl) (fun M1 h1 => (by have z := g_undoCount (G := G) (ad := ad) (d := 17) (M := M1) (o := o); rw [h1.2.1.1] at z; exact z))
theorem od_parts (hL : LV M) : OPD G ad mX8_parts mX9_parts M o := by
  obtain ⟨c, hs, nx, sz, sn, l, ln, ft, d1, d2, d3, hc, hm, hp⟩ := hL
  have hn := hp.1.n
  have hk := hp.1.k
  exact OPD.q (k := 0) hc hm hp ((by have z := m_parts (G := G) (ad := ad) (d := 16) (o := o) hc.1 hp.1; rw [ptsI_eq hp.1] at z; exact z)) (fun M1 h1 => g_parts h1.1 hp.1)
theorem od_bridges (hL : LV M) : OPD G ad mX8_bridges mX9_bridges M o := by
  obtain ⟨c, hs, nx, sz, sn, l, ln, ft, d1, d2, d3, hc, hm, hp⟩ := hL
  have hn := hp.1.n
  have hk := hp.1.k
  exact OPD.q (k := 0) hc hm hp ((by have z := m_bridges (G := G) (ad := ad) (d := 6) (o := o) hc.1 hp.1; rw [brs_brg hp.1] at z; exact z)) (fun M1 h1 => g_bridges h1.1 hp.1)
theorem od_bridgesByFilling (hL : LV M) : OPD G ad mX8_bridgesByFilling mX9_bridgesByFilling M o := by
  obtain ⟨c, hs, nx, sz, sn, l, ln, ft, d1, d2, d3, hc, hm, hp⟩ := hL
  have hn := hp.1.n
  have hk := hp.1.k
  exact OPD.q (k := 0) hc hm hp ((by have z := m_bridgesF (G := G) (ad := ad) (d := 16) (o := o) hc.1 hp.1; rw [cbf_brg hp.1] at z; exact z)) (fun M1 h1 => g_bridgesByFilling h1.1 hp.1)
theorem od_canSettle (hL : LV M) : OPD G ad mX8_canSettle mX9_canSettle M o := by
  obtain ⟨c, hs, nx, sz, sn, l, ln, ft, d1, d2, d3, hc, hm, hp⟩ := hL
  have hn := hp.1.n
  have hk := hp.1.k
  exact OPD.q (k := 0) hc hm hp ((by have z := m_canSettle (G := G) (ad := ad) (d := 16) (o := o) hc.1 hp.1; rw [best_eq hp.1] at z; exact z)) (fun M1 h1 => g_canSettle h1.1 hp.1)
theorem od_canSettleByUnions (hL : LV M) : OPD G ad mX8_canSettleByUnions mX9_canSettleByUnions M o := by
  obtain ⟨c, hs, nx, sz, sn, l, ln, ft, d1, d2, d3, hc, hm, hp⟩ := hL
  have hn := hp.1.n
  have hk := hp.1.k
  exact OPD.q (k := 0) hc hm hp ((by have z := m_canUnions (G := G) (ad := ad) (d := 16) (o := o) hc.1 hp.1; rw [sep_best hp.1, best_eq hp.1] at z; exact z)) (fun M1 h1 => g_canSettleByUnions h1.1 hp.1)
theorem od_leastBlocked (hL : LV M) : OPD G ad mX8_leastBlocked mX9_leastBlocked M o := by
  obtain ⟨c, hs, nx, sz, sn, l, ln, ft, d1, d2, d3, hc, hm, hp⟩ := hL
  have hn := hp.1.n
  have hk := hp.1.k
  exact OPD.q (k := 0) hc hm hp (((m_leastBlocked hc.1 hp.1).toI KP.refl)) (fun M1 h1 => (by have z := g_leastBlocked (G := G) (ad := ad) (d := 16) (o := o) h1.1 hp.1; rw [lsF_all hp.1] at z; exact z))
theorem od_leastBlockedByBounds (hL : LV M) : OPD G ad mX8_leastBlockedByBounds mX9_leastBlockedByBounds M o := by
  obtain ⟨c, hs, nx, sz, sn, l, ln, ft, d1, d2, d3, hc, hm, hp⟩ := hL
  have hn := hp.1.n
  have hk := hp.1.k
  exact OPD.q (k := 0) hc hm hp ((by have z := m_leastBounds (G := G) (ad := ad) (d := 6) (o := o) hc.1 hp.1; rw [bnd_lob hp.1] at z; exact z.toI KP.refl)) (fun M1 h1 => (by have z := g_leastBlockedByBounds (G := G) (ad := ad) (d := 16) (o := o) h1.1 hp.1; rw [lsF_all hp.1] at z; exact z))
theorem op_addMagnet (hL : LV M) (x y : Int32) (t : Bool) : OPT G ad mkI rlI mL_addMagnet mX9_addMagnet [.ref (ad 0), .int (x), .int (y), .int (bI t), .ref (ad 104)] [.ref (ad 96), .int (x), .int (y), .int (bI t)] M o := by
  obtain ⟨c, hs, nx, sz, sn, l, ln, ft, d1, d2, d3, hc, hm, hp⟩ := hL
  have hn := hp.1.n
  have hk := hp.1.k
  by_cases h : (jd c 0 x y).1 = 0
  · exact OPT.chg (b := (cy c 0 x y (bI t)).1) hc hm hp (cy_wf hp.1 (by decide) h) (wo_addMagnet _ _ _ (m_addMagnet hc.1 hp.1 hc.2.1 x y t h)) (fun M1 o1 h1 => gg_add (w := false) h1.1 hp.1 h1.2.1 hp.2.1 h1.2.2.1 x y t h) (fun o1 e => e)
  · rcases jdc0 c x y with e | e
    · exact OPT.fail (k := 2) (b := nI 0) (kd := 0) (j := jd c 0 x y) hc hm hp (by decide) (by decide) (by unfold plc; simp; omega) (wt2_addMagnet _ _ _ (by have z := m_addMagnet_x (G := G) (ad := ad) (d := 12) (o := o) hc.1 hp.1 hc.2.1 x y t h; rw [exc5 e] at z; exact z)) (fun M1 o1 h1 => gg_add_x h1.1 hp.1 x y t h)
    · exact OPT.fail (k := 1) (b := nI 0) (kd := 0) (j := jd c 0 x y) hc hm hp (by decide) (by decide) (by unfold plc; simp [e]) (wt1_addMagnet _ _ _ (by have z := m_addMagnet_x (G := G) (ad := ad) (d := 12) (o := o) hc.1 hp.1 hc.2.1 x y t h; rw [exc9 e] at z; exact z)) (fun M1 o1 h1 => gg_add_x h1.1 hp.1 x y t h)
theorem op_setStrength (hL : LV M) (x y : Int32) : OPT G ad mkI rlI mL_setStrength mX9_setStrength [.ref (ad 0), .int (x), .int (y), .ref (ad 104)] [.ref (ad 96), .int (x), .int (y)] M o := by
  obtain ⟨c, hs, nx, sz, sn, l, ln, ft, d1, d2, d3, hc, hm, hp⟩ := hL
  have hn := hp.1.n
  have hk := hp.1.k
  by_cases h : (jd c 1 x y).1 = 0
  · exact OPT.chg (b := (cy c 1 x y (nI 0)).1) hc hm hp (cy_wf hp.1 (by decide) h) (wo_setStrength _ _ (m_setStrength hc.1 hp.1 hc.2.1 x y h)) (fun M1 o1 h1 => gg_str (w := false) h1.1 hp.1 h1.2.1 hp.2.1 h1.2.2.1 x y (nI 0) h) (fun o1 e => e)
  · rcases jdc1 c x y with e | e | e
    · exact absurd e h
    · exact OPT.fail (k := 1) (b := nI 0) (kd := 1) (j := jd c 1 x y) hc hm hp (by decide) (by decide) (by unfold plc; simp [e]) (wt1_setStrength _ _ (by have z := m_setStrength_x (G := G) (ad := ad) (d := 12) (o := o) hc.1 hp.1 hc.2.1 x y h; rw [exc8 e] at z; exact z)) (fun M1 o1 h1 => gg_str_x h1.1 hp.1 x y h)
    · exact OPT.fail (k := 2) (b := nI 0) (kd := 1) (j := jd c 1 x y) hc hm hp (by decide) (by decide) (by unfold plc; simp [e]) (wt2_setStrength _ _ (by have z := m_setStrength_x (G := G) (ad := ad) (d := 12) (o := o) hc.1 hp.1 hc.2.1 x y h; rw [exc9 e] at z; exact z)) (fun M1 o1 h1 => gg_str_x h1.1 hp.1 x y h)
theorem op_turn (hL : LV M) (x : Int32) : OPT G ad mkI rlI mL_turn mX9_turn [.ref (ad 0), .int (x), .ref (ad 104)] [.ref (ad 96), .int (x)] M o := by
  obtain ⟨c, hs, nx, sz, sn, l, ln, ft, d1, d2, d3, hc, hm, hp⟩ := hL
  have hn := hp.1.n
  have hk := hp.1.k
  by_cases h : (jd c 2 x (nI 0)).1 = 0
  · exact OPT.chg (b := (cy c 2 x (nI 0) (nI 0)).1) hc hm hp (cy_wf hp.1 (by decide) h) (wo_turn _ (m_turn hc.1 hp.1 hc.2.1 x h)) (fun M1 o1 h1 => gg_turn (w := false) h1.1 hp.1 h1.2.1 hp.2.1 h1.2.2.1 x (nI 0) (nI 0) h) (fun o1 e => e)
  · rcases jdc2 c x (nI 0) with e | e
    · exact absurd e h
    · exact OPT.fail (k := 1) (b := nI 0) (kd := 2) (j := jd c 2 x (nI 0)) hc hm hp (by decide) (by decide) (by unfold plc; simp [e]) (wt1_turn _ (by have z := m_turn_x (G := G) (ad := ad) (d := 12) (o := o) hc.1 hp.1 hc.2.1 x h; rw [exc8 e] at z; exact z)) (fun M1 o1 h1 => gg_turn_x h1.1 hp.1 x (nI 0) h)
theorem op_shift (hL : LV M) (x : Int32) : OPT G ad mkI rlI mL_shift mX9_shift [.ref (ad 0), .int (x), .ref (ad 104)] [.ref (ad 96), .int (x)] M o := by
  obtain ⟨c, hs, nx, sz, sn, l, ln, ft, d1, d2, d3, hc, hm, hp⟩ := hL
  have hn := hp.1.n
  have hk := hp.1.k
  by_cases h : (jd c 3 x (nI 0)).1 = 0
  · exact OPT.chg (b := (cy c 3 x (nI 0) (nI 0)).1) hc hm hp (cy_wf hp.1 (by decide) h) (wo_shift _ (m_shift hc.1 hp.1 hc.2.1 x h)) (fun M1 o1 h1 => gg_shift (w := false) h1.1 hp.1 h1.2.1 hp.2.1 h1.2.2.1 x (nI 0) (nI 0) h) (fun o1 e => e)
  · rcases jdc3 c x (nI 0) with e | e
    · exact absurd e h
    · exact OPT.fail (k := 1) (b := nI 0) (kd := 3) (j := jd c 3 x (nI 0)) hc hm hp (by decide) (by decide) (by unfold plc; simp [e]) (wt1_shift _ (by have z := m_shift_x (G := G) (ad := ad) (d := 12) (o := o) hc.1 hp.1 hc.2.1 x h; rw [exc9 e] at z; exact z)) (fun M1 o1 h1 => gg_shift_x h1.1 hp.1 x (nI 0) h)
theorem op_fill (hL : LV M) (x : Int32) : OPT G ad mkI rlI mL_fill mX9_fill [.ref (ad 0), .int (x), .ref (ad 104)] [.ref (ad 96), .int (x)] M o := by
  obtain ⟨c, hs, nx, sz, sn, l, ln, ft, d1, d2, d3, hc, hm, hp⟩ := hL
  have hn := hp.1.n
  have hk := hp.1.k
  by_cases h : (jd c 6 x (nI 0)).1 = 0
  · exact OPT.chg (b := (cy c 6 x (nI 0) (nI 0)).1) hc hm hp (cy_wf hp.1 (by decide) h) (wo_fill _ (m_fill hc.1 hp.1 hc.2.1 x h)) (fun M1 o1 h1 => gg_fill (w := false) h1.1 hp.1 h1.2.1 hp.2.1 h1.2.2.1 x (nI 0) (nI 0) h) (fun o1 e => e)
  · rcases jdc6 c x (nI 0) with e | e
    · exact absurd e h
    · exact OPT.fail (k := 1) (b := nI 0) (kd := 6) (j := jd c 6 x (nI 0)) hc hm hp (by decide) (by decide) (by unfold plc; simp [e]) (wt1_fill _ (by have z := m_fill_x (G := G) (ad := ad) (d := 12) (o := o) hc.1 hp.1 hc.2.1 x h; rw [exc8 e] at z; exact z)) (fun M1 o1 h1 => gg_fill_x h1.1 hp.1 x (nI 0) h)
theorem op_settle (hL : LV M) : OPT G ad mkI rlI mL_settle mX9_settle [.ref (ad 0), .ref (ad 104)] [.ref (ad 96)] M o := by
  obtain ⟨c, hs, nx, sz, sn, l, ln, ft, d1, d2, d3, hc, hm, hp⟩ := hL
  have hn := hp.1.n
  have hk := hp.1.k
  by_cases h : (jd c 7 (nI 0) (nI 0)).1 = 0
  · exact OPT.chg (b := (cy c 7 (nI 0) (nI 0) (nI 0)).1) hc hm hp (cy_wf hp.1 (by decide) h) (wo_settle  (m_settle hc.1 hp.1 hc.2.1  h)) (fun M1 o1 h1 => gg_settle (w := false) h1.1 hp.1 h1.2.1 hp.2.1 h1.2.2.1 (nI 0) (nI 0) (nI 0) h) (fun o1 e => e)
  · have e := jdc7 c (nI 0) (nI 0)
    exact OPT.fail (k := 1) (b := nI 0) (kd := 7) (j := jd c 7 (nI 0) (nI 0)) hc hm hp (by decide) (by decide) (by unfold plc; simp) (wt1_settle  (by have z := m_settle_x (G := G) (ad := ad) (d := 12) (o := o) hc.1 hp.1 hc.2.1 h; rw [exc5 e] at z; exact z)) (fun M1 o1 h1 => gg_settle_x h1.1 hp.1 (nI 0) (nI 0) h)
theorem op_dig (hL : LV M) (x y : Int32) : OPT G ad mkI rlI mL_dig mX9_dig [.ref (ad 0), .int (x), .int (y), .ref (ad 104)] [.ref (ad 96), .int (x), .int (y)] M o := by
  obtain ⟨c, hs, nx, sz, sn, l, ln, ft, d1, d2, d3, hc, hm, hp⟩ := hL
  have hn := hp.1.n
  have hk := hp.1.k
  by_cases h : (jd c 5 x y).1 = 0
  · exact OPT.chg (b := (cy c 5 x y (nI 0)).1) hc hm hp (cy_wf hp.1 (by decide) h) (wo_dig _ _ (m_dig hc.1 hp.1 hc.2.1 x y h)) (fun M1 o1 h1 => gg_dig (w := false) h1.1 hp.1 h1.2.1 hp.2.1 h1.2.2.1 x y (nI 0) h) (fun o1 e => e)
  · rcases jd_codes c 5 x y with e | e | e
    · exact OPT.fail (k := 3) (b := nI 0) (kd := 5) (j := jd c 5 x y) hc hm hp (by decide) (by decide) (by exact plc5 e) (wt3_dig _ _ (by have z := m_dig_x (G := G) (ad := ad) (d := 12) (o := o) hc.1 hp.1 hc.2.1 x y h; rw [exc5 e] at z; exact z)) (fun M1 o1 h1 => gg_dig_x h1.1 hp.1 x y h)
    · exact OPT.fail (k := 1) (b := nI 0) (kd := 5) (j := jd c 5 x y) hc hm hp (by decide) (by decide) (by unfold plc; simp [e]) (wt1_dig _ _ (by have z := m_dig_x (G := G) (ad := ad) (d := 12) (o := o) hc.1 hp.1 hc.2.1 x y h; rw [exc8 e] at z; exact z)) (fun M1 o1 h1 => gg_dig_x h1.1 hp.1 x y h)
    · exact OPT.fail (k := 2) (b := nI 0) (kd := 5) (j := jd c 5 x y) hc hm hp (by decide) (by decide) (by unfold plc; simp [e]) (wt2_dig _ _ (by have z := m_dig_x (G := G) (ad := ad) (d := 12) (o := o) hc.1 hp.1 hc.2.1 x y h; rw [exc9 e] at z; exact z)) (fun M1 o1 h1 => gg_dig_x h1.1 hp.1 x y h)
theorem od_move (hL : LV M) : OPD G ad mX8_move mX9_move M o := by
  obtain ⟨c, hs, nx, sz, sn, l, ln, ft, d1, d2, d3, hc, hm, hp⟩ := hL
  have hn := hp.1.n
  have hk := hp.1.k
  have h : (jd c 4 (nI 0) (nI 0)).1 = 0 := rfl
  exact ⟨_, _, m_move (d := 13) hc.1 hp.1 hc.2.1 h, fun M1 h1 => (gg_move (d := 16) (w := false) (hm.c63 h1.2.2).1 hp.1 (hm.c63 h1.2.2).2.1 hp.2.1 (hm.c63 h1.2.2).2.2.1 (nI 0) (nI 0) (nI 0)).imp (fun M2 h2 => (LV.chg hc hm hp (cy_wf hp.1 (by decide) h) h1 h2).2)⟩
end T65

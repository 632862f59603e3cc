set_option maxHeartbeats 400000
/-! THE LAW: text, line, undo, snapshots -/
section T66
variable {G : gC} {ad : Nat → Nat} {M M1 M2 : Nat → Nat → Int32} {o : (Nat → Int64) × (Nat → UInt64)} {c c' : Col} {hs : Nat → Col} {nx sz : Nat} {sn : Option Col} {l ln : List Nat} {ft d1 d2 d3 : Int32}
theorem getD_add {l : List Nat} {v : Nat} (h : ∀ i, l.getD i 0 < 65536) (hv : v < 65536) : ∀ i, (l ++ [v]).getD i 0 < 65536 := fun i => by
  by_cases q : i < l.length
  · have e := h i
    rw [List.getD_eq_getElem?_getD] at e ⊢
    rw [List.getElem?_append_left q]; exact e
  · rw [List.getD_eq_getElem?_getD, List.getElem?_append_right (by omega)]
    match i - l.length with
    | 0 => exact hv
    | k + 1 => exact Nat.zero_lt_succ _
theorem op_feed (hL : LV M) {v : Nat} (hv : v < 65536) : OPT G ad mkI rlI mL_feed mX9_feed [.ref (ad 0), .int (nI v), .ref (ad 104)] [.ref (ad 96), .int (nI v)] M o := by
  obtain ⟨c, hs, nx, sz, sn, l, ln, ft, d1, d2, d3, hc, hm, hp⟩ := hL
  by_cases h : l.length = 60
  · exact OPT.q (k := 1) (b := nI 0) hc hm hp (by decide) (wt1_feed _ ((m_feed_x hc.2.2.2.2.1 h v).toI KP.refl)) (fun M1 o1 h1 => g_feed_no h1.2.2.2.2.2.1 h v) (fun q => absurd q (by decide))
  · have hl : l.length < 60 := by have := hp.2.2.2.1; omega
    refine ⟨0, _, _, nI (l.length + 1), by decide, wo_feed _ (m_feed hc.2.2.2.2.1 hl hv), fun M1 o1 h1 => ?_, fun _ o1 e => e⟩
    obtain ⟨g1, g2⟩ := h1
    have hm1 := hm.kp g2 (fun a x1 x2 => inR_f (by omega))
    refine (g_feed hm1.2.2.2.2.2.1 hl hv).imp (fun M2 h2 => ?_)
    obtain ⟨e1, e2, e3, e4⟩ := h2
    obtain ⟨a1, a2, a3, a4, a5, a6, a7, a8, a9, a10⟩ := hc
    obtain ⟨b1, b2, b3, b4, b5, b6, b7, b8, b9, b10, b11⟩ := hm1
    have z0 : ∀ j, M2 0 j = M 0 j := fun j => (e4.at (by decide) j).trans (g2.at (by decide) j)
    exact ⟨e1, c, hs, nx, sz, sn, l ++ [v], ln, ft, d1, d2, d3, ⟨(a1.kp g2 (fun i hi => inR_f (by omega))).kp e4 (fun i hi => by simp; omega), (a2.kp g2 (fun a x1 x2 => inR_f (by omega))).kp e4 (fun a x1 x2 => by simp; omega), (z0 9).trans a3, fun s e => ((a4 s e).kp g2 (fun i hi => inR_f (by omega))).kp e4 (fun i hi => by simp; omega), g1.kp e4 (by decide) (by decide), (a6.kp g2 (by decide) (by decide)).kp e4 (by decide) (by decide), (z0 10).trans a7, (z0 11).trans a8, (z0 12).trans a9, (z0 13).trans a10⟩, ⟨b1.kp e4 (by decide), b2.kp (e3 5 (by decide) (by decide) (by decide)) (e4 98 (by decide)), (e3 6 (by decide) (by decide) (by decide)).trans b3, (e3 4 (by decide) (by decide) (by decide)).trans b4, fun s e => (b5 s e).kp e4 (by decide), e2, b7.kp (e3 16 (by decide) (by decide) (by decide)) (e4 102 (by decide)), (e3 14 (by decide) (by decide) (by decide)).trans b8, (e3 9 (by decide) (by decide) (by decide)).trans b9, (e3 10 (by decide) (by decide) (by decide)).trans b10, (e3 11 (by decide) (by decide) (by decide)).trans b11⟩, hp.1, hp.2.1, hp.2.2.1, by simp; omega, getD_add hp.2.2.2.2.1 hv, hp.2.2.2.2.2⟩
theorem op_writeMagnet (hL : LV M) (x : Int32) : OPT G ad mkI rlI mL_writeMagnet mX9_writeMagnet [.ref (ad 0), .int x, .ref (ad 104)] [.ref (ad 96), .int x] M o := by
  obtain ⟨c, hs, nx, sz, sn, l, ln, ft, d1, d2, d3, hc, hm, hp⟩ := hL
  by_cases h : hasM c x = true
  · obtain ⟨i, hi, rfl, -⟩ := hasM_nI hp.1.n h
    obtain ⟨q1, q2⟩ := dln_mln hp.1 hi
    refine ⟨0, _, _, nI ((dln c i).length), by decide, wo_writeMagnet _ (m_write hc.1 hp.1 hi), fun M1 o1 h1 => ?_, fun _ o1 e => e⟩
    obtain ⟨g1, g2⟩ := h1
    have hm1 := hm.kp g2 (fun a x1 x2 => inR_f (by omega))
    rw [q1]
    refine (g_write hm1.1 hp.1 hi).imp (fun M2 h2 => ?_)
    obtain ⟨e1, e2, e3, e4⟩ := h2
    rw [q1] at g1
    obtain ⟨a1, a2, a3, a4, a5, a6, a7, a8, a9, a10⟩ := hc
    obtain ⟨b1, b2, b3, b4, b5, b6, b7, b8, b9, b10, b11⟩ := hm1
    have z0 : ∀ j, M2 0 j = M 0 j := fun j => (e4.at (by decide) j).trans (g2.at (by decide) j)
    exact ⟨e1, c, hs, nx, sz, sn, l, mln c i, ft, d1, d2, d3, ⟨(a1.kp g2 (fun i hi => inR_f (by omega))).kp e4 (fun i hi => by simp; omega), (a2.kp g2 (fun a x1 x2 => inR_f (by omega))).kp e4 (fun a x1 x2 => by simp; omega), (z0 9).trans a3, fun s e => ((a4 s e).kp g2 (fun i hi => inR_f (by omega))).kp e4 (fun i hi => by simp; omega), (a5.kp g2 (by decide) (by decide)).kp e4 (by decide) (by decide), g1.kp e4 (by decide) (by decide), (z0 10).trans a7, (z0 11).trans a8, (z0 12).trans a9, (z0 13).trans a10⟩, ⟨b1.kp e4 (by decide), b2.kp (e3 5 (by decide) (by decide) (by decide)) (e4 98 (by decide)), (e3 6 (by decide) (by decide) (by decide)).trans b3, (e3 4 (by decide) (by decide) (by decide)).trans b4, fun s e => (b5 s e).kp e4 (by decide), b6.kp (e3 13 (by decide) (by decide) (by decide)) (e4 101 (by decide)), e2, (e3 14 (by decide) (by decide) (by decide)).trans b8, (e3 9 (by decide) (by decide) (by decide)).trans b9, (e3 10 (by decide) (by decide) (by decide)).trans b10, (e3 11 (by decide) (by decide) (by decide)).trans b11⟩, hp.1, hp.2.1, hp.2.2.1, hp.2.2.2.1, hp.2.2.2.2.1, q2, mln_lt hp.1 hi, hp.2.2.2.2.2.2.2⟩
  · exact OPT.q (k := 1) (b := nI 0) hc hm hp (by decide) (wt1_writeMagnet _ ((m_write_x hc.1 hp.1 x (hasM_f h)).toI KP.refl)) (fun M1 o1 h1 => g_write_no h1.1 hp.1 x (hasM_f h)) (fun q => absurd q (by decide))
theorem op_undo (hL : LV M) : OPT G ad mkI rlI mL_undo mX9_undo [.ref (ad 0), .ref (ad 104)] [.ref (ad 96)] M o := by
  obtain ⟨c, hs, nx, sz, sn, l, ln, ft, d1, d2, d3, hc, hm, hp⟩ := hL
  by_cases h : sz = 0
  · exact OPT.q (k := 1) (b := nI 0) hc hm hp (by decide) (wt1_undo ((m_undo_x hc.2.1 h).toI KP.refl)) (fun M1 o1 h1 => g_undo_no h1.2.1 h) (fun q => absurd q (by decide))
  · have h0 : 0 < sz := by omega
    have hw' := hp.2.1 (sz - 1) (by omega)
    refine ⟨0, _, _, nI (sz - 1), by decide, wo_undo (m_undo hc.2.1 h0 hw'), fun M1 o1 h1 => ?_, fun _ o1 e => e⟩
    obtain ⟨g1, g3, g2⟩ := h1
    have hm1 := hm.kp g2 (fun a x1 x2 => by unfold inR; simp; omega)
    refine (g_undo hm1.2.1 h0 hw').imp (fun M2 h2 => ?_)
    obtain ⟨e1, e2, e5, e3, e4⟩ := h2
    obtain ⟨a1, a2, a3, a4, a5, a6, a7, a8, a9, a10⟩ := hc
    obtain ⟨b1, b2, b3, b4, b5, b6, b7, b8, b9, b10, b11⟩ := hm1
    have z0 : ∀ j, M2 0 j = M 0 j := fun j => (e4.at (by decide) j).trans (g2.at (by decide) j)
    exact ⟨e1, hs (sz - 1), hs, (nx + 8 - 1) % 8, sz - 1, sn, l, ln, ft, d1, d2, d3, ⟨g1.kp e4 (fun i hi => by simp; omega), g3.kp e4 (fun a x1 x2 => by simp; omega), (z0 9).trans a3, fun s e => ((a4 s e).kp g2 (fun i hi => by unfold inR; simp; omega)).kp e4 (fun i hi => by simp; omega), (a5.kp g2 (by decide) (by decide)).kp e4 (by decide) (by decide), (a6.kp g2 (by decide) (by decide)).kp e4 (by decide) (by decide), (z0 10).trans a7, (z0 11).trans a8, (z0 12).trans a9, (z0 13).trans a10⟩, ⟨e2, e5, (e3 6 (by decide) (by decide) (by decide)).trans b3, (e3 4 (by decide) (by decide) (by decide)).trans b4, fun s e => (b5 s e).kp e4 (by decide), b6.kp (e3 13 (by decide) (by decide) (by decide)) (e4 101 (by decide)), b7.kp (e3 16 (by decide) (by decide) (by decide)) (e4 102 (by decide)), (e3 14 (by decide) (by decide) (by decide)).trans b8, (e3 9 (by decide) (by decide) (by decide)).trans b9, (e3 10 (by decide) (by decide) (by decide)).trans b10, (e3 11 (by decide) (by decide) (by decide)).trans b11⟩, hw', fun k hk => hp.2.1 k (by omega), hp.2.2⟩
theorem op_restoreSnapshot (hL : LV M) : OPT G ad mkI rlI mL_restoreSnapshot mX9_restoreSnapshot [.ref (ad 0), .ref (ad 104)] [.ref (ad 96)] M o := by
  obtain ⟨c, hs, nx, sz, sn, l, ln, ft, d1, d2, d3, hc, hm, hp⟩ := hL
  cases hs1 : sn with
  | none =>
    subst hs1
    exact OPT.q (k := 1) (b := nI 0) hc hm hp (by decide) (wt1_restoreSnapshot ((m_restore_x hc.2.2.1).toI KP.refl)) (fun M1 o1 h1 => g_restore_no h1.2.2.2.1) (fun q => absurd q (by decide))
  | some c' =>
    subst hs1
    have hw' := hp.2.2.1 c' rfl
    refine ⟨0, _, _, nI (cn c'), by decide, wo_restoreSnapshot (m_restore (hc.2.2.2.1 c' rfl) hw' hc.2.1 hc.2.2.1), fun M1 o1 h1 => ?_, fun _ o1 e => e⟩
    obtain ⟨g1, g3, g2⟩ := h1
    have hm1 := hm.kp g2 (fun a x1 x2 => by unfold inR; simp; omega)
    refine (g_restore (hm1.2.2.2.2.1 c' rfl) hw' hm1.2.2.2.1).imp (fun M2 h2 => ?_)
    obtain ⟨e1, e2, e5, e3, e4⟩ := h2
    obtain ⟨a1, a2, a3, a4, a5, a6, a7, a8, a9, a10⟩ := hc
    obtain ⟨b1, b2, b3, b4, b5, b6, b7, b8, b9, b10, b11⟩ := hm1
    have z0 : ∀ j, M2 0 j = M 0 j := fun j => (e4.at (by decide) j).trans (g2.at (by decide) j)
    exact ⟨e1, c', hs, nx, 0, some c', l, ln, ft, d1, d2, d3, ⟨g1.kp e4 (fun i hi => by simp; omega), g3.kp e4 (fun a x1 x2 => by simp; omega), (z0 9).trans a3, fun s e => ((a4 s e).kp g2 (fun i hi => by unfold inR; simp; omega)).kp e4 (fun i hi => by simp; omega), (a5.kp g2 (by decide) (by decide)).kp e4 (by decide) (by decide), (a6.kp g2 (by decide) (by decide)).kp e4 (by decide) (by decide), (z0 10).trans a7, (z0 11).trans a8, (z0 12).trans a9, (z0 13).trans a10⟩, ⟨e2, ⟨e5, Nat.zero_le _, fun k hk => absurd hk (Nat.not_lt_zero k)⟩, (e3 6 (by decide) (by decide) (by decide)).trans b3, (e3 4 (by decide) (by decide) (by decide)).trans b4, fun s e => (b5 s e).kp e4 (by decide), b6.kp (e3 13 (by decide) (by decide) (by decide)) (e4 101 (by decide)), b7.kp (e3 16 (by decide) (by decide) (by decide)) (e4 102 (by decide)), (e3 14 (by decide) (by decide) (by decide)).trans b8, (e3 9 (by decide) (by decide) (by decide)).trans b9, (e3 10 (by decide) (by decide) (by decide)).trans b10, (e3 11 (by decide) (by decide) (by decide)).trans b11⟩, hw', fun k hk => absurd hk (Nat.not_lt_zero k), hp.2.2⟩
theorem od_save (hL : LV M) : OPD G ad mX8_saveSnapshot mX9_saveSnapshot M o := by
  obtain ⟨c, hs, nx, sz, sn, l, ln, ft, d1, d2, d3, hc, hm, hp⟩ := hL
  refine ⟨_, _, m_save (d := 18) hc.1 hp.1, fun M1 h1 => ?_⟩
  obtain ⟨g1, g9, g0, g2⟩ := h1
  have hm1 := hm.kp g2 (fun a x1 x2 => by unfold inR; simp; omega)
  refine (g_save hm1.1 hp.1).imp (fun M2 h2 => ?_)
  obtain ⟨e1, e5, e2, e3, e4⟩ := h2
  obtain ⟨a1, a2, a3, a4, a5, a6, a7, a8, a9, a10⟩ := hc
  obtain ⟨b1, b2, b3, b4, b5, b6, b7, b8, b9, b10, b11⟩ := hm1
  have z0 : ∀ j, j ≠ 9 → M2 0 j = M 0 j := fun j q => (e4.at (by decide) j).trans (g0 j q)
  exact ⟨c, hs, nx, sz, some c, l, ln, ft, d1, d2, d3, ⟨(a1.kp g2 (fun i hi => by unfold inR; simp; omega)).kp e4 (fun i hi => by simp; omega), (a2.kp g2 (fun a x1 x2 => by unfold inR; simp; omega)).kp e4 (fun a x1 x2 => by simp; omega), (e4.at (by decide) 9).trans g9, fun s e => by { cases e; exact g1.kp e4 (fun i hi => by simp; omega) }, (a5.kp g2 (by decide) (by decide)).kp e4 (by decide) (by decide), (a6.kp g2 (by decide) (by decide)).kp e4 (by decide) (by decide), (z0 10 (by decide)).trans a7, (z0 11 (by decide)).trans a8, (z0 12 (by decide)).trans a9, (z0 13 (by decide)).trans a10⟩, ⟨b1.kp e4 (by decide), b2.kp (e3 5 (by decide) (by decide)) (e4 98 (by decide)), (e3 6 (by decide) (by decide)).trans b3, e5, fun s e => by { cases e; exact e2 }, b6.kp (e3 13 (by decide) (by decide)) (e4 101 (by decide)), b7.kp (e3 16 (by decide) (by decide)) (e4 102 (by decide)), (e3 14 (by decide) (by decide)).trans b8, (e3 9 (by decide) (by decide)).trans b9, (e3 10 (by decide) (by decide)).trans b10, (e3 11 (by decide) (by decide)).trans b11⟩, hp.1, hp.2.1, fun s e => by { cases e; exact hp.1 }, hp.2.2.2⟩
theorem fst_no (P : Nat → Prop) (hd : ∀ j, P j ∨ ¬ P j) : ∀ n, (∀ j, j < n → P j) ∨ ∃ z, z < n ∧ (∀ j, j < z → P j) ∧ ¬ P z
  | 0 => Or.inl (fun j hj => absurd hj (Nat.not_lt_zero j))
  | n + 1 => by
    rcases fst_no P hd n with h | ⟨z, h1, h2, h3⟩
    · rcases hd n with q | q
      · exact Or.inl (fun j hj => by
          by_cases e : j = n
          · rw [e]; exact q
          · exact h j (by omega))
      · exact Or.inr ⟨n, by omega, h, q⟩
    · exact Or.inr ⟨z, by omega, h2, h3⟩
theorem op_execute (hL : LV M) : OPT G ad mkI rlI mL_execute mX9_execute [.ref (ad 0), .ref (ad 104)] [.ref (ad 96)] M o := by
  obtain ⟨c, hs, nx, sz, sn, l, ln, ft, d1, d2, d3, hc, hm, hp⟩ := hL
  have h60 := hp.2.2.2.1
  have hch := hp.2.2.2.2.1
  by_cases hb : (prR l (fun j => M (79 + j))).1 = true
  · rcases fst_no (fun j => exJ c (qK l (fun j => M (79 + j))) (kK l (fun j => M (79 + j))) j = 0) (fun j => Decidable.em _) (prR l (fun j => M (79 + j))).2.1 with hok | ⟨z, hz, hok, hnz⟩
    · have hw' : WF (exC c (qK l (fun j => M (79 + j))) (kK l (fun j => M (79 + j))) (prR l (fun j => M (79 + j))).2.1) := exC_wf hp.1 _ (fun j hj => (kK_ok hb j hj).2) hok
      refine ⟨0, _, _, nI (prR l (fun j => M (79 + j))).2.1, by decide, wo_execute (m_exec hc.1 hp.1 hc.2.1 hc.2.2.2.2.1 h60 hch hb hok), fun M1 o1 h1 => ?_, fun _ o1 e => e⟩
      obtain ⟨g1, g3, g4, g0, g2⟩ := h1
      have hm1 := hm.kp g2 (fun a x1 x2 => by unfold inR; simp; omega)
      refine (g_exec_ok hm1.2.2.2.2.2.1 h60 hch hm1.1 hp.1 hm1.2.1 hp.2.1 hb hok).imp (fun M2 h2 => ?_)
      obtain ⟨e1, e2, e5, e6, e7, e3, e4⟩ := h2
      obtain ⟨a1, a2, a3, a4, a5, a6, a7, a8, a9, a10⟩ := hc
      obtain ⟨b1, b2, b3, b4, b5, b6, b7, b8, b9, b10, b11⟩ := hm1
      have z0 : ∀ j, M2 0 j = M 0 j := fun j => (e4.at (by decide) j).trans (by rw [g0])
      exact ⟨e1, _, psh hs sz c, (nx + 1) % 8, min (sz + 1) 8, sn, [], ln, ft, d1, d2, d3, ⟨g1.kp e4 (fun i hi => by simp; omega), g3.kp e4 (fun a x1 x2 => by simp; omega), (z0 9).trans a3, fun s e => ((a4 s e).kp g2 (fun i hi => by unfold inR; simp; omega)).kp e4 (fun i hi => by simp; omega), g4.kp e4 (by decide) (by decide), (a6.kp g2 (by decide) (by decide)).kp e4 (by decide) (by decide), (z0 10).trans a7, (z0 11).trans a8, (z0 12).trans a9, (z0 13).trans a10⟩, ⟨e2, e5, e6, (e3 4 (by decide) (by decide) (by decide) (by decide) (by decide) (by decide) (by decide)).trans b4, fun s e => (b5 s e).kp e4 (by decide), e7, b7.kp (e3 16 (by decide) (by decide) (by decide) (by decide) (by decide) (by decide) (by decide)) (e4 102 (by decide)), (e3 14 (by decide) (by decide) (by decide) (by decide) (by decide) (by decide) (by decide)).trans b8, (e3 9 (by decide) (by decide) (by decide) (by decide) (by decide) (by decide) (by decide)).trans b9, (e3 10 (by decide) (by decide) (by decide) (by decide) (by decide) (by decide) (by decide)).trans b10, (e3 11 (by decide) (by decide) (by decide) (by decide) (by decide) (by decide) (by decide)).trans b11⟩, hw', hp.2.1.push hp.1, hp.2.2.1, Nat.zero_le _, fun i => by simp, hp.2.2.2.2.2⟩
    · refine ⟨2, _, _, nI 0, by decide, wt2_execute (m_exec_no hc.1 hp.1 hc.2.1 hc.2.2.2.2.1 h60 hch hb hz hok hnz), fun M1 o1 h1 => ?_, fun q => absurd q (by decide)⟩
      obtain ⟨g1, g3, g11, g12, g13, g0, g4, g2⟩ := h1
      have hm1 := hm.kp g2 (fun a x1 x2 => by unfold inR; simp; omega)
      refine (g_exec_no hm1.2.2.2.2.2.1 h60 hch hm1.1 hp.1 hm1.2.1 hp.2.1 hb hz hok hnz).imp (fun M2 h2 => ?_)
      obtain ⟨e1, e2, e5, e6, e9, e10, e11, e7, e3, e4⟩ := h2
      obtain ⟨a1, a2, a3, a4, a5, a6, a7, a8, a9, a10⟩ := hc
      obtain ⟨b1, b2, b3, b4, b5, b6, b7, b8, b9, b10, b11⟩ := hm1
      have z0 : ∀ j, M2 0 j = M1 0 j := fun j => e4.at (by decide) j
      exact ⟨e1, c, hs, nx, sz, sn, [], ln, ft, _, _, _, ⟨g1.kp e4 (fun i hi => by simp; omega), g3.kp e4 (fun a x1 x2 => by simp; omega), ((z0 9).trans (g0 9 (by decide))).trans a3, fun s e => ((a4 s e).kp g2 (fun i hi => by unfold inR; simp; omega)).kp e4 (fun i hi => by simp; omega), g4.kp e4 (by decide) (by decide), (a6.kp g2 (by decide) (by decide)).kp e4 (by decide) (by decide), ((z0 10).trans (g0 10 (by decide))).trans a7, (z0 11).trans g11, (z0 12).trans g12, (z0 13).trans g13⟩, ⟨e2, e5, e6, (e3 4 (by decide) (by decide) (by decide) (by decide) (by decide) (by decide) (by decide) (by decide) (by decide) (by decide)).trans b4, fun s e => (b5 s e).kp e4 (by decide), e7, b7.kp (e3 16 (by decide) (by decide) (by decide) (by decide) (by decide) (by decide) (by decide) (by decide) (by decide) (by decide)) (e4 102 (by decide)), (e3 14 (by decide) (by decide) (by decide) (by decide) (by decide) (by decide) (by decide) (by decide) (by decide) (by decide)).trans b8, e9, e10, e11⟩, hp.1, hp.2.1, hp.2.2.1, Nat.zero_le _, fun i => by simp, hp.2.2.2.2.2⟩
  · have hbf : (prR l (fun j => M (79 + j))).1 = false := by simpa using hb
    refine ⟨1, _, _, nI 0, by decide, wt1_execute (m_exec_bad hc.1 hp.1 hc.2.1 hc.2.2.2.2.1 h60 hch hbf), fun M1 o1 h1 => ?_, fun q => absurd q (by decide)⟩
    obtain ⟨g10, g0, g4, g2⟩ := h1
    have hm1 := hm.kp g2 (fun a x1 x2 => by unfold inR; simp; omega)
    refine (g_exec_bad hm1.2.2.2.2.2.1 h60 hch hbf).imp (fun M2 h2 => ?_)
    obtain ⟨e1, e14, ef, e7, e3, e4⟩ := h2
    obtain ⟨a1, a2, a3, a4, a5, a6, a7, a8, a9, a10⟩ := hc
    obtain ⟨b1, b2, b3, b4, b5, b6, b7, b8, b9, b10, b11⟩ := hm1
    have z0 : ∀ j, M2 0 j = M1 0 j := fun j => e4.at (by decide) j
    exact ⟨e1, c, hs, nx, sz, sn, [], ln, _, d1, d2, d3, ⟨(a1.kp g2 (fun i hi => by unfold inR; simp; omega)).kp e4 (fun i hi => by simp; omega), (a2.kp g2 (fun a x1 x2 => by unfold inR; simp; omega)).kp e4 (fun a x1 x2 => by simp; omega), ((z0 9).trans (g0 9 (by decide))).trans a3, fun s e => ((a4 s e).kp g2 (fun i hi => by unfold inR; simp; omega)).kp e4 (fun i hi => by simp; omega), g4.kp e4 (by decide) (by decide), (a6.kp g2 (by decide) (by decide)).kp e4 (by decide) (by decide), (z0 10).trans g10, ((z0 11).trans (g0 11 (by decide))).trans a8, ((z0 12).trans (g0 12 (by decide))).trans a9, ((z0 13).trans (g0 13 (by decide))).trans a10⟩, ⟨b1.kp e4 (by decide), b2.kp (e3 5 (by decide) (by decide) (by decide) (by decide) (by decide) (by decide)) (e4 98 (by decide)), (e3 6 (by decide) (by decide) (by decide) (by decide) (by decide) (by decide)).trans b3, (e3 4 (by decide) (by decide) (by decide) (by decide) (by decide) (by decide)).trans b4, fun s e => (b5 s e).kp e4 (by decide), e7, b7.kp (e3 16 (by decide) (by decide) (by decide) (by decide) (by decide) (by decide)) (e4 102 (by decide)), e14, (e3 9 (by decide) (by decide) (by decide) (by decide) (by decide) (by decide)).trans b9, (e3 10 (by decide) (by decide) (by decide) (by decide) (by decide) (by decide)).trans b10, (e3 11 (by decide) (by decide) (by decide) (by decide) (by decide) (by decide)).trans b11⟩, hp.1, hp.2.1, hp.2.2.1, Nat.zero_le _, fun i => by simp, hp.2.2.2.2.2.1, hp.2.2.2.2.2.2.1, Or.inr ⟨_, ef, rfl⟩⟩
end T66

set_option maxHeartbeats 1000000
/-! MATHEMATICS: the search in depth, step by step -/
section BRG2
variable {c : Col}
theorem jo_o {j v x : Nat} (hw : WF c) (hj : j < ck c) : oEnd c j v = some x ↔ jo c j v x := oEnd_iff hw hj
theorem jo_uq {j v x y : Nat} (hw : WF c) (hj : j < ck c) (h1 : jo c j v x) (h2 : jo c j v y) : x = y := by
  have e1 := (jo_o hw hj).mpr h1
  have e2 := (jo_o hw hj).mpr h2
  rw [e1] at e2
  cases e2; rfl
theorem nI_j {t j : Nat} (hw : WF c) (ht : t < ck c) (hj : j < ck c) : nI t = nI j ↔ t = j := by
  have hk := hw.k
  exact nI_eq (by omega) (by omega)
theorem Con_jo {use : Nat → Bool} {j v x : Nat} (h : jo c j v x) (h2 : Con c use (ck c) v x) : Con c use (ck c) (cf c j) (cg c j) := by
  rcases h with ⟨e1, e2⟩ | ⟨e1, e2⟩
  · rw [e1, e2]; exact h2
  · rw [e1, e2]; exact h2.symm
theorem jo_Con {use : Nat → Bool} {j v x : Nat} (h : jo c j v x) (h2 : Con c use (ck c) (cf c j) (cg c j)) : Con c use (ck c) v x := by
  rcases h with ⟨e1, e2⟩ | ⟨e1, e2⟩
  · rw [e1, e2] at h2; exact h2
  · rw [e1, e2] at h2; exact h2.symm
theorem edge_ne {t j y z : Nat} (ht : t < ck c) (hne : ¬ t = j) (h : jo c t y z) : Con c (fun t => !decide (t = j)) (ck c) y z := by
  have e : Con c (fun t => !decide (t = j)) (ck c) (cf c t) (cg c t) := Con.edge ht (by show (!decide (t = j)) = true; rw [decide_eq_false hne]; rfl)
  exact jo_Con h e
theorem end_in {j v x : Nat} {S : Nat → Prop} (h : jo c j v x) (hx : ¬ S x) : ¬ S (cf c j) ∨ ¬ S (cg c j) := by
  rcases h with ⟨e1, e2⟩ | ⟨e1, e2⟩
  · exact Or.inr (by rw [e2]; exact hx)
  · exact Or.inl (by rw [e1]; exact hx)
theorem SR.bd {s : BS} {N Lw : Nat → Nat} {fo : Nat} (h : SR c s N Lw fo) (y : Nat) : N y ≤ vN c N := by
  rcases Nat.lt_or_ge y (cn c) with q | q
  · exact (h.1 y q).2
  · rw [h.2.2.2.2 y q]; exact Nat.zero_le _
/-- a child of v is explored: its test -/
theorem child_bridge (hw : WF c) {v x j : Nat} {e : Int32} {N Lw N1 L1 N2 L2 : Nat → Nat} {fo f1 f2 : Nat} (hj : j < ck c) (hjo : jo c j v x) (hb : ∀ y, N y ≤ vN c N) (hb1 : ∀ y, N1 y ≤ vN c N1) (hP : Pre c v e N) (hI : Inv c v e N Lw fo j N1 L1 f1) (hx1 : N1 x = 0) (h2 : Post c x (nI j) N1 L1 f1 N2 L2 f2) : (N1 v < L2 x ↔ isB c j) := by
  obtain ⟨p1, p2, p3, p4⟩ := hP
  obtain ⟨i1, i2, i3, i4, i5, i6, i7⟩ := hI
  obtain ⟨q1, q2, q3, q4, q5, ⟨q6, q7, q8⟩, q9⟩ := h2
  have hv1 : vs N1 v := by unfold vs; omega
  have hNv : ¬ vs N v := fun k => k p2
  have hxl := (hjo.lt hw hj)
  have hx2 : vs N2 x := by unfold vs; omega
  have hx1' : ¬ vs N1 x := fun k => k hx1
  have hsub : ∀ z, vs N z → vs N1 z := fun z hz => by
    have := (i1 z hz).1
    unfold vs at *; omega
  by_cases hO : ∃ t z y, t < ck c ∧ ¬ t = j ∧ jo c t z y ∧ (vs N2 z ∧ ¬ vs N1 z) ∧ vs N1 y
  · obtain ⟨t, z, y, t1, t2, t3, ⟨t4, t5⟩, t6⟩ := hO
    have hl : L2 x ≤ N1 y := q7 t z y t1 (fun k => t2 ((nI_j hw t1 hj).mp k)) t3 t4 t5 t6
    have hy : vs N y ∨ y = v := by
      by_cases k : vs N y
      · exact Or.inl k
      · by_cases k2 : y = v
        · exact Or.inr k2
        · exact absurd (i5 t y z t1 t3.symm t6 k (Or.inl k2)) t5
    have hle : N1 y ≤ N1 v := by
      rcases hy with k | k
      · have h3 := (i1 y k).1
        have h4 := hb y
        omega
      · rw [k]; exact Nat.le_refl _
    refine ⟨fun k => by omega, fun k => absurd ?_ k⟩
    refine Con_jo hjo ?_
    have c1 : Con c (fun t => !decide (t = j)) (ck c) y v := by
      rcases hy with k2 | k2
      · have hz : ¬ vs N z := fun k3 => t5 (hsub z k3)
        exact (p3 y z t t1 t3.symm k2 hz).con (end_in (S := fun z => vs N z ∨ z = v) hjo (fun k3 => by
          rcases k3 with k3 | k3
          · exact hx1' (hsub x k3)
          · exact hxl.2.2 k3.symm))
      · rw [k2]; exact Con.refl
    have c2 : Con c (fun t => !decide (t = j)) (ck c) y z := edge_ne t1 t2 t3.symm
    have c3 : Con c (fun t => !decide (t = j)) (ck c) x z := (q4 z t4 t5).con (end_in (S := fun z => vs N2 z ∧ ¬ vs N1 z) hjo.symm (fun k3 => k3.2 hv1))
    exact c1.symm.trans (c2.trans c3.symm)
  · have hL : L2 x = N2 x := by
      rcases q8 with k | ⟨t, z, y, t1, t2, t3, t4, t5, t6, t7⟩
      · exact k
      · exact absurd ⟨t, z, y, t1, fun k => t2 (by rw [k]), t3, ⟨t4, t5⟩, t6⟩ hO
    have hlt : N1 v < L2 x := by
      have := hb1 v
      omega
    refine ⟨fun _ hc => ?_, fun _ => hlt⟩
    have hc2 := (jo_Con hjo hc).symm
    have := hc2 (fun z => vs N2 z ∧ ¬ vs N1 z) (fun t ht hu => by
      have hne : ¬ t = j := fun k => by
        have hu2 : (!decide (t = j)) = true := hu
        rw [decide_eq_true k] at hu2; cases hu2
      constructor
      · rintro ⟨k1, k2⟩
        have g1 := q5 t _ _ ht (Or.inl ⟨rfl, rfl⟩) k1 k2
        exact ⟨g1, fun g2 => hO ⟨t, _, _, ht, hne, Or.inl ⟨rfl, rfl⟩, ⟨k1, k2⟩, g2⟩⟩
      · rintro ⟨k1, k2⟩
        have g1 := q5 t _ _ ht (Or.inr ⟨rfl, rfl⟩) k1 k2
        exact ⟨g1, fun g2 => hO ⟨t, _, _, ht, hne, Or.inr ⟨rfl, rfl⟩, ⟨k1, k2⟩, g2⟩⟩) ⟨hx2, hx1'⟩
    exact this.2 hv1
/-- .. and what is known behind it -/
theorem Inv.child (hw : WF c) {v x j : Nat} {e : Int32} {N Lw N1 L1 N2 L2 : Nat → Nat} {fo f1 f2 : Nat} (hj : j < ck c) (hjo : jo c j v x) (hb : ∀ y, N y ≤ vN c N) (hb1 : ∀ y, N1 y ≤ vN c N1) (hP : Pre c v e N) (hI : Inv c v e N Lw fo j N1 L1 f1) (hx1 : N1 x = 0) (h2 : Post c x (nI j) N1 L1 f1 N2 L2 f2) : Inv c v e N Lw fo (j + 1) N2 (ups L2 v (min (L2 v) (L2 x))) (if N2 v < L2 x then f2 + 1 else f2) := by
  have hcb := child_bridge hw hj hjo hb hb1 hP hI hx1 h2
  obtain ⟨p1, p2, p3, p4⟩ := hP
  obtain ⟨i1, i2, i3, i4, i5, ⟨i6, i7, i8⟩, i9⟩ := hI
  obtain ⟨q1, q2, q3, q4, q5, ⟨q6, q7, q8⟩, q9⟩ := h2
  have hv1 : vs N1 v := by unfold vs; omega
  have hNv : ¬ vs N v := fun k => k p2
  have hxl := (hjo.lt hw hj)
  have hx2 : vs N2 x := by unfold vs; omega
  have hx1' : ¬ vs N1 x := fun k => k hx1
  have hsub : ∀ z, vs N z → vs N1 z := fun z hz => by
    have := (i1 z hz).1
    unfold vs at *; omega
  have hsub2 : ∀ z, vs N1 z → vs N2 z := fun z hz => by
    have := (q1 z hz).1
    unfold vs at *; omega
  have e2v : N2 v = N1 v := (q1 v hv1).1
  have el2v : L2 v = L1 v := (q1 v hv1).2
  have hxN : ¬ vs N x := fun k => hx1' (hsub x k)
  have hb1v := hb1 v
  -- an end with v, seen before, is v itself where it leads to what is new
  have front : ∀ t y z, t < ck c → jo c t y z → vs N1 y → vs N2 z → ¬ vs N1 z → vs N y ∨ y = v := fun t y z ht h3 h4 _ h6 => by
    by_cases k : vs N y
    · exact Or.inl k
    · by_cases k2 : y = v
      · exact Or.inr k2
      · exact absurd (i5 t y z ht h3 h4 k (Or.inl k2)) h6
  refine ⟨fun y hy => ?_, by rw [e2v]; exact i2, fun y hy2 hyN hyv => ?_, fun y hy2 hyN => ?_, fun t y z ht hjt hy2 hyN hor => ?_, ⟨?_, fun t y z ht hte hjt hy2 hyN hor hzN => ?_, ?_⟩, ?_⟩
  · have hyv : y ≠ v := fun k => hNv (by rw [← k]; exact hy)
    have h3 := i1 y hy
    have h4 := q1 y (hsub y hy)
    rw [ups_n hyv]
    exact ⟨h4.1.trans h3.1, h4.2.trans h3.2⟩
  · rw [e2v]
    by_cases k : vs N1 y
    · rw [(q1 y k).1]; exact i3 y k hyN hyv
    · have := q3 y hy2 k
      omega
  · by_cases k : vs N1 y
    · exact (i4 y k hyN).mono (fun z hz => ⟨hsub2 z hz.1, hz.2⟩)
    · exact (CW.edge (S := fun z => vs N2 z ∧ ¬ vs N z) hj hjo ⟨hsub2 v hv1, hNv⟩ ⟨hx2, hxN⟩).trans ((q4 y hy2 k).mono (fun z hz => ⟨hz.1, fun k3 => hz.2 (hsub z k3)⟩))
  · by_cases k : vs N1 y
    · by_cases k2 : y ≠ v ∨ t < j
      · exact hsub2 z (i5 t y z ht hjt k hyN k2)
      · have k3 : y = v := Classical.byContradiction (fun g => k2 (Or.inl g))
        have k4 : t = j := by
          rcases hor with g | g
          · exact absurd k3 g
          · have : ¬ t < j := fun g2 => k2 (Or.inr g2)
            omega
        subst k3 k4
        rw [← jo_uq hw hj hjo hjt]; exact hx2
    · exact q5 t y z ht hjt hy2 k
  · rw [ups_s, e2v]; omega
  · rw [ups_s]
    by_cases k : vs N1 y
    · by_cases k2 : y ≠ v ∨ t < j
      · have := i7 t y z ht hte hjt k hyN k2 hzN
        omega
      · have k3 : y = v := Classical.byContradiction (fun g => k2 (Or.inl g))
        have k4 : t = j := by
          rcases hor with g | g
          · exact absurd k3 g
          · have : ¬ t < j := fun g2 => k2 (Or.inr g2)
            omega
        subst k3 k4
        exact absurd (by rw [jo_uq hw hj hjo hjt]; exact hzN) hxN
    · have hne : ¬ t = j := fun k2 => by
        subst k2
        -- y is new, z is old: neither is v and x
        rcases hjo with ⟨a1, a2⟩ | ⟨a1, a2⟩ <;> rcases hjt with ⟨b1, b2⟩ | ⟨b1, b2⟩
        · exact k (by rw [← b1, a1]; exact hv1)
        · exact hNv (by rw [← a1, b1]; exact hzN)
        · exact hNv (by rw [← a2, b2]; exact hzN)
        · exact k (by rw [← b2, a2]; exact hv1)
      have := q7 t y z ht (fun g => hne ((nI_j hw ht hj).mp g)) hjt hy2 k (hsub z hzN)
      have h3 := (i1 z hzN).1
      omega
  · rw [ups_s, e2v]
    rcases Nat.le_total (L2 v) (L2 x) with g | g
    · rw [Nat.min_eq_left g, el2v]
      rcases i8 with k | ⟨t, y, z, t1, t2, t3, t4, t5, t6, t7⟩
      · exact Or.inl k
      · exact Or.inr ⟨t, y, z, t1, t2, t3, hsub2 y t4, t5, t6, t7⟩
    · by_cases g2 : L2 x = L2 v
      · rw [Nat.min_eq_right g, g2, el2v]
        rcases i8 with k | ⟨t, y, z, t1, t2, t3, t4, t5, t6, t7⟩
        · exact Or.inl k
        · exact Or.inr ⟨t, y, z, t1, t2, t3, hsub2 y t4, t5, t6, t7⟩
      · rw [Nat.min_eq_right g]
        rcases q8 with k | ⟨t, z, y, t1, t2, t3, t4, t5, t6, t7⟩
        · exfalso; omega
        · have hy := front t y z t1 t3.symm t6 t4 t5
          rcases hy with hy | hy
          · refine Or.inr ⟨t, z, y, t1, fun k => ?_, t3, t4, fun k => t5 (hsub z k), hy, by rw [t7, (i1 y hy).1]⟩
            obtain ⟨p, hp1, hp2⟩ := p4 t t1 k
            rcases t3 with ⟨a1, a2⟩ | ⟨a1, a2⟩ <;> rcases hp1 with ⟨b1, b2⟩ | ⟨b1, b2⟩
            · exact t5 (by rw [← a1, b1]; exact hv1)
            · exact t5 (by rw [← a1, b1]; exact hsub p hp2)
            · exact t5 (by rw [← a2, b2]; exact hsub p hp2)
            · exact t5 (by rw [← a2, b2]; exact hv1)
          · exfalso; rw [hy] at t7; omega
  · -- the bridges
    have e1 : nB c (fun z => (vs N2 z ∧ ¬ vs N1 z) ∨ z = v) = nB c (fun z => vs N2 z ∧ ¬ vs N1 z) + (if isBb c j = true then 1 else 0) := nB_one hj (fun t ht hbr => by
      constructor
      · rintro ⟨k1, k2⟩
        by_cases ht2 : t = j
        · exact Or.inr ht2
        · have other : ∀ z, jo c t v z → (vs N2 z ∧ ¬ vs N1 z) → False := fun z h3 h4 => by
            refine hbr (Con_jo h3 ?_)
            have c1 : Con c (fun s => !decide (s = t)) (ck c) v x := edge_ne hj (fun k => ht2 k.symm) hjo
            have c2 : Con c (fun s => !decide (s = t)) (ck c) x z := (q4 z h4.1 h4.2).con (end_in (S := fun z => vs N2 z ∧ ¬ vs N1 z) h3.symm (fun k3 => k3.2 hv1))
            exact c1.trans c2
          have hfg := hw.fg ht
          rcases k1 with k1 | k1 <;> rcases k2 with k2 | k2
          · exact Or.inl ⟨k1, k2⟩
          · exact (other _ (Or.inr ⟨rfl, k2⟩) k1).elim
          · exact (other _ (Or.inl ⟨k1, rfl⟩) k2).elim
          · exact absurd (k1.trans k2.symm) hfg
      · rintro (⟨k1, k2⟩ | rfl)
        · exact ⟨Or.inl k1, Or.inl k2⟩
        · exact (hjo.ends (P := fun z => (vs N2 z ∧ ¬ vs N1 z) ∨ z = v)).mpr ⟨Or.inr rfl, Or.inl ⟨hx2, hx1'⟩⟩) (fun k => ((hjo.ends (P := fun z => vs N2 z ∧ ¬ vs N1 z)).mp k).1.2 hv1)
    have e2 : nB c (fun z => vs N2 z ∧ ¬ vs N z) = nB c (fun z => vs N1 z ∧ ¬ vs N z) + nB c (fun z => (vs N2 z ∧ ¬ vs N1 z) ∨ z = v) := nB_add (fun t ht _ => by
      have hjt : jo c t (cf c t) (cg c t) := Or.inl ⟨rfl, rfl⟩
      constructor
      · rintro ⟨⟨k1, k2⟩, k3, k4⟩
        by_cases g1 : vs N1 (cf c t) <;> by_cases g2 : vs N1 (cg c t)
        · exact Or.inl ⟨⟨g1, k2⟩, g2, k4⟩
        · have := (front t _ _ ht hjt g1 k3 g2).resolve_left k2
          exact Or.inr ⟨Or.inr this, Or.inl ⟨k3, g2⟩⟩
        · have := (front t _ _ ht hjt.symm g2 k1 g1).resolve_left k4
          exact Or.inr ⟨Or.inl ⟨k1, g1⟩, Or.inr this⟩
        · exact Or.inr ⟨Or.inl ⟨k1, g1⟩, Or.inl ⟨k3, g2⟩⟩
      · have hvv : vs N2 v ∧ ¬ vs N v := ⟨hsub2 v hv1, hNv⟩
        have up : ∀ z, (vs N2 z ∧ ¬ vs N1 z) ∨ z = v → vs N2 z ∧ ¬ vs N z := fun z hz => by
          rcases hz with hz | hz
          · exact ⟨hz.1, fun k => hz.2 (hsub z k)⟩
          · rw [hz]; exact hvv
        rintro (⟨k1, k2⟩ | ⟨k1, k2⟩)
        · exact ⟨⟨hsub2 _ k1.1, k1.2⟩, hsub2 _ k2.1, k2.2⟩
        · exact ⟨up _ k1, up _ k2⟩) (fun t ht k1 k2 => by
      have hfg := hw.fg ht
      have r1 : cf c t = v := k2.1.resolve_left (fun g => g.2 k1.1.1)
      have r2 : cg c t = v := k2.2.resolve_left (fun g => g.2 k1.2.1)
      exact hfg (r1.trans r2.symm))
    rw [e2, e1, q9, i9]
    have hcb2 : isBb c j = true ↔ N2 v < L2 x := by rw [isBb_t, e2v]; exact hcb.symm
    by_cases g : N2 v < L2 x
    · rw [if_pos g, if_pos (hcb2.mpr g)]; omega
    · rw [if_neg g, if_neg (fun k => g (hcb2.mp k))]; omega
theorem vN_lt {N : Nat → Nat} {v : Nat} (hv : v < cn c) (h0 : N v = 0) : vN c N + 1 ≤ cn c := by
  have := vN_new hv h0 (a := 1) (by decide)
  have h2 := vN_le (c := c) (N := ups N v 1)
  omega
theorem vN_mono {N N' : Nat → Nat} (h : ∀ z, vs N z → vs N' z) : vN c N ≤ vN c N' := cnt_sub (fun z hz => by
  have h1 : vs N z := by
    intro k
    rw [decide_eq_true k] at hz; cases hz
  have h2 := h z h1
  show (!decide (N' z = 0)) = true
  rw [decide_eq_false h2]; rfl)
/-- exploring -/
theorem expl_post (hw : WF c) : ∀ fu v e s N Lw fo, SR c s N Lw fo → Pre c v e N → cn c ≤ fu + vN c N → ∃ N' Lw' fo', SR c (expl c fu v e s) N' Lw' fo' ∧ Post c v e N Lw fo N' Lw' fo'
  | 0, v, e, s, N, Lw, fo, hS, hP, hf => by
    have := vN_lt hP.1 hP.2.1
    omega
  | fu + 1, v, e, s, N, Lw, fo, hS, hP, hf => by
    have hn := hw.n
    have hk := hw.k
    have hb := hS.bd
    obtain ⟨p1, p2, p3, p4⟩ := id hP
    have hNv : ¬ vs N v := fun k => k p2
    have hrec := expl_post hw fu
    have key : ∀ j, j ≤ ck c → ∃ N1 L1 f1, SR c (iter (exst c (expl c fu) v e) j (numM v s)) N1 L1 f1 ∧ Inv c v e N Lw fo j N1 L1 f1 := by
      intro j
      induction j with
      | zero =>
        intro _
        have h0 := SR.num hn hS p1 p2
        have hvN : ∀ x, vs (ups N v (vN c N + 1)) x → ¬ vs N x → x = v := fun x h1 h2 => by
          by_cases q : x = v
          · exact q
          · unfold vs at h1; rw [ups_n q] at h1; exact absurd h1 h2
        refine ⟨_, _, fo, h0, fun x hx => ?_, ups_s, fun x h1 h2 h3 => absurd (hvN x h1 h2) h3, fun x h1 h2 => by rw [hvN x h1 h2]; exact CW.refl, fun t x z _ _ h1 h2 h3 => ?_, ⟨by rw [ups_s, ups_s]; exact Nat.le_refl _, fun t x y _ _ _ h1 h2 h3 => ?_, Or.inl (by rw [ups_s, ups_s])⟩, ?_⟩
        · have hxv : x ≠ v := fun k => hNv (by rw [← k]; exact hx)
          rw [ups_n hxv, ups_n hxv]; exact ⟨rfl, rfl⟩
        · rcases h3 with h3 | h3
          · exact absurd (hvN x h1 h2) h3
          · exact absurd h3 (Nat.not_lt_zero t)
        · rcases h3 with h3 | h3
          · exact absurd (hvN x h1 h2) h3
          · exact absurd h3 (Nat.not_lt_zero t)
        · have : nB c (fun z => vs (ups N v (vN c N + 1)) z ∧ ¬ vs N z) = 0 := cnt_zero.mpr (fun t ht => by
            cases k : (inS (fun z => vs (ups N v (vN c N + 1)) z ∧ ¬ vs N z) (cf c t) && inS (fun z => vs (ups N v (vN c N + 1)) z ∧ ¬ vs N z) (cg c t))
            · rw [Bool.and_false]
            · have hh := both.mp k
              exact absurd ((hvN _ hh.1.1 hh.1.2).trans (hvN _ hh.2.1 hh.2.2).symm) (hw.fg ht))
          rw [this]; rfl
      | succ j ih =>
        intro hj1
        obtain ⟨N1, L1, f1, hS1, hI⟩ := ih (by omega)
        have hj : j < ck c := by omega
        generalize hs1 : iter (exst c (expl c fu) v e) j (numM v s) = s1 at hS1
        have es : iter (exst c (expl c fu) v e) (j + 1) (numM v s) = exst c (expl c fu) v e j s1 := by
          show exst c (expl c fu) v e j (iter (exst c (expl c fu) v e) j (numM v s)) = _
          rw [hs1]
        rw [es]
        obtain ⟨i1, i2, i3, i4, i5, ⟨i6, i7, i8⟩, i9⟩ := id hI
        have hv1 : vs N1 v := by unfold vs; omega
        have hsub : ∀ z, vs N z → vs N1 z := fun z hz => by
          have := (i1 z hz).1
          unfold vs at *; omega
        unfold exst
        cases ho : oEnd c j v with
        | none =>
          have hno : ∀ z, ¬ jo c j v z := fun z hz => by rw [(jo_o hw hj).mpr hz] at ho; cases ho
          have hor : ∀ t y z, jo c t y z → (y ≠ v ∨ t < j + 1) → (y ≠ v ∨ t < j) := fun t y z h3 h4 => by
            by_cases k : y = v
            · refine Or.inr ?_
              have : t < j + 1 := h4.resolve_left (fun g => g k)
              have : ¬ t = j := fun g => by subst g; subst k; exact hno z h3
              omega
            · exact Or.inl k
          exact ⟨N1, L1, f1, hS1, i1, i2, i3, i4, fun t y z ht h3 h4 h5 h6 => i5 t y z ht h3 h4 h5 (hor t y z h3 h6), ⟨i6, fun t y z ht h2 h3 h4 h5 h6 h7 => i7 t y z ht h2 h3 h4 h5 (hor t y z h3 h6) h7, i8⟩, i9⟩
        | some x =>
          have hjo : jo c j v x := (jo_o hw hj).mp ho
          have hxl := hjo.lt hw hj
          show ∃ N1 L1 f1, SR c (if nI j = e then s1 else if ¬ s1.1 x = 0 then reaM v (s1.1 x) s1 else foundM v x (reaM v ((expl c fu x (nI j) s1).2.1 x) (expl c fu x (nI j) s1))) N1 L1 f1 ∧ _
          by_cases he : nI j = e
          · rw [if_pos he]
            obtain ⟨p, hp1, hp2⟩ := p4 j hj he
            have hpx : p = x := jo_uq hw hj hp1 hjo
            refine ⟨N1, L1, f1, hS1, i1, i2, i3, i4, fun t y z ht h3 h4 h5 h6 => ?_, ⟨i6, fun t y z ht h2 h3 h4 h5 h6 h7 => ?_, i8⟩, i9⟩
            · by_cases k : y ≠ v ∨ t < j
              · exact i5 t y z ht h3 h4 h5 k
              · have k3 : y = v := Classical.byContradiction (fun g => k (Or.inl g))
                have k4 : t = j := by
                  have : ¬ t < j := fun g => k (Or.inr g)
                  have : t < j + 1 := h6.resolve_left (fun g => g k3)
                  omega
                subst k3 k4
                rw [← jo_uq hw hj hjo h3, ← hpx]
                exact hsub p hp2
            · refine i7 t y z ht h2 h3 h4 h5 ?_ h7
              rcases h6 with h6 | h6
              · exact Or.inl h6
              · have : ¬ t = j := fun g => h2 (by rw [g]; exact he)
                exact Or.inr (by omega)
          · rw [if_neg he]
            have ex := hS1.1 x hxl.2.1
            have hvN1 := vN_le (c := c) (N := N1)
            have ex0 : s1.1 x = 0 ↔ N1 x = 0 := by rw [ex.1]; exact nI_eq0 (by omega)
            by_cases hx0 : N1 x = 0
            · rw [if_neg (fun k => k (ex0.mpr hx0))]
              have hPx : Pre c x (nI j) N1 := by
                refine ⟨hxl.2.1, hx0, fun y z t ht h3 h4 h5 => ?_, fun t ht h3 => ?_⟩
                · have ed : CW c (fun z => vs N1 z ∨ z = x) v x := CW.edge hj hjo (Or.inl hv1) (Or.inr rfl)
                  by_cases k : vs N y
                  · exact ((p3 y z t ht h3 k (fun g => h5 (hsub z g))).mono (fun w hw2 => Or.inl (by rcases hw2 with g | g; exact hsub w g; rw [g]; exact hv1))).trans ed
                  · by_cases k2 : y = v
                    · rw [k2]; exact ed
                    · exact absurd (i5 t y z ht h3 h4 k (Or.inl k2)) h5
                · have : t = j := (nI_j hw ht hj).mp h3
                  subst this
                  exact ⟨v, hjo.symm, hv1⟩
              have hvv : vN c N + 1 ≤ vN c N1 := by
                rw [← vN_new p1 p2 (a := 1) (by decide)]
                refine vN_mono (fun z hz => ?_)
                by_cases k : z = v
                · rw [k]; exact hv1
                · unfold vs at hz; rw [ups_n k] at hz; exact hsub z hz
              obtain ⟨N2, L2, f2, hS2, hQ⟩ := hrec x (nI j) s1 N1 L1 f1 hS1 hPx (by omega)
              have hx2 : vs N2 x := by have := hQ.2.1; unfold vs; omega
              have hv2 : vs N2 v := by have := (hQ.1 v hv1).1; unfold vs at *; omega
              have el := hS2.2.1 x hxl.2.1 hx2
              rw [el.1]
              have h3 := (hS2.rea (v := v) (a := L2 x) p1 hv2 el.2).fnd (v := v) (x := x) hn p1 hxl.2.1 hx2
              rw [ups_n hxl.2.2.symm] at h3
              exact ⟨_, _, _, h3, Inv.child hw hj hjo hb hS1.bd hP hI hx0 hQ⟩
            · rw [if_pos (fun k => hx0 (ex0.mp k)), ex.1]
              have hR3 := hS1.rea (v := v) (a := N1 x) p1 hv1 (by omega)
              refine ⟨_, _, _, hR3, fun y hy => ?_, i2, i3, i4, fun t y z ht h3 h4 h5 h6 => ?_, ⟨by rw [ups_s]; omega, fun t y z ht h2 h3 h4 h5 h6 h7 => ?_, ?_⟩, i9⟩
              · have hyv : y ≠ v := fun k => hNv (by rw [← k]; exact hy)
                rw [ups_n hyv]; exact i1 y hy
              · by_cases k : y ≠ v ∨ t < j
                · exact i5 t y z ht h3 h4 h5 k
                · have k3 : y = v := Classical.byContradiction (fun g => k (Or.inl g))
                  have k4 : t = j := by
                    have : ¬ t < j := fun g => k (Or.inr g)
                    have : t < j + 1 := h6.resolve_left (fun g => g k3)
                    omega
                  subst k3 k4
                  rw [← jo_uq hw hj hjo h3]
                  exact hx0
              · rw [ups_s]
                by_cases k : y ≠ v ∨ t < j
                · have := i7 t y z ht h2 h3 h4 h5 k h7
                  omega
                · have k3 : y = v := Classical.byContradiction (fun g => k (Or.inl g))
                  have k4 : t = j := by
                    have : ¬ t < j := fun g => k (Or.inr g)
                    have : t < j + 1 := h6.resolve_left (fun g => g k3)
                    omega
                  subst k3 k4
                  have e5 := jo_uq hw hj hjo h3
                  rw [← e5] at h7 ⊢
                  have := (i1 x h7).1
                  omega
              · rw [ups_s]
                rcases Nat.le_total (L1 v) (N1 x) with g | g
                · rw [Nat.min_eq_left g]; exact i8
                · by_cases g2 : N1 x = L1 v
                  · rw [Nat.min_eq_right g, g2]; exact i8
                  · rw [Nat.min_eq_right g]
                    have hxN : vs N x := Classical.byContradiction (fun k => by
                      have := i3 x hx0 k hxl.2.2.symm
                      omega)
                    exact Or.inr ⟨j, v, x, hj, he, hjo, hv1, hNv, hxN, (i1 x hxN).1⟩
    obtain ⟨N1, L1, f1, hS1, i1, i2, i3, i4, i5, ⟨i6, i7, i8⟩, i9⟩ := key (ck c) (Nat.le_refl _)
    refine ⟨N1, L1, f1, hS1, i1, i2, fun x h1 h2 => ?_, i4, fun t x z ht h1 h2 h3 => i5 t x z ht h1 h2 h3 (Or.inr ht), ⟨i6, fun t x y ht h1 h2 h3 h4 h5 => i7 t x y ht h1 h2 h3 h4 (Or.inr ht) h5, i8⟩, i9⟩
    by_cases k : x = v
    · rw [k]; exact Nat.le_refl _
    · exact Nat.le_of_lt (i3 x h1 h2 k)
/-- all magnets in their order -/
theorem brs_run (hw : WF c) (low : Nat → Int32) : ∀ m, m ≤ cn c → ∃ N Lw fo, SR c (brs c low m) N Lw fo ∧ (∀ t x z, t < ck c → jo c t x z → vs N x → vs N z) ∧ (∀ x, x < m → vs N x) ∧ fo = nB c (vs N)
  | 0, _ => by
    have h0 : vN c (fun _ => 0) = 0 := cnt_zero.mpr (fun _ _ => rfl)
    refine ⟨fun _ => 0, fun _ => 0, 0, ⟨fun x _ => ⟨rfl, Nat.zero_le _⟩, fun x _ h => absurd rfl h, ?_, rfl, fun _ _ => rfl⟩, fun t x z _ _ h => absurd rfl h, fun x hx => absurd hx (Nat.not_lt_zero x), ?_⟩
    · rw [h0]; rfl
    · symm
      exact cnt_zero.mpr (fun t _ => by
        cases k : (inS (vs (fun _ => 0)) (cf c t) && inS (vs (fun _ => 0)) (cg c t))
        · rw [Bool.and_false]
        · exact absurd rfl (both.mp k).1)
  | m + 1, hm => by
    obtain ⟨N, Lw, fo, hS, h1, h2, h3⟩ := brs_run hw low m (by omega)
    have hn := hw.n
    have es : brs c low (m + 1) = if (brs c low m).1 m = 0 then expl c 9 m (-1) (brs c low m) else brs c low m := rfl
    have hvN := vN_le (c := c) (N := N)
    have em := hS.1 m (by omega)
    have em0 : (brs c low m).1 m = 0 ↔ N m = 0 := by rw [em.1]; exact nI_eq0 (by omega)
    rw [es]
    by_cases q : N m = 0
    · rw [if_pos (em0.mpr q)]
      have hP : Pre c m (-1) N := ⟨by omega, q, fun y z t ht h4 h5 h6 => absurd (h1 t y z ht h4 h5) h6, fun t ht h4 => absurd h4.symm (neg1_ne (by have := hw.k; omega))⟩
      obtain ⟨N', L', f', hS', g1, g2, g3, g4, g5, g6, g7⟩ := expl_post hw 9 m (-1) _ N Lw fo hS hP (by omega)
      have hsub : ∀ z, vs N z → vs N' z := fun z hz => by
        have := (g1 z hz).1
        unfold vs at *; omega
      refine ⟨N', L', f', hS', fun t x z ht h4 h5 => ?_, fun x hx => ?_, ?_⟩
      · by_cases k : vs N x
        · exact hsub z (h1 t x z ht h4 k)
        · exact g5 t x z ht h4 h5 k
      · by_cases k : x = m
        · rw [k]; unfold vs; omega
        · exact hsub x (h2 x (by omega))
      · rw [g7, h3]
        symm
        refine nB_add (fun t ht _ => ?_) (fun t ht k1 k2 => k2.1.2 k1.1)
        have hjt : jo c t (cf c t) (cg c t) := Or.inl ⟨rfl, rfl⟩
        constructor
        · rintro ⟨k1, k2⟩
          by_cases k : vs N (cf c t)
          · exact Or.inl ⟨k, h1 t _ _ ht hjt k⟩
          · exact Or.inr ⟨⟨k1, k⟩, k2, fun g => k (h1 t _ _ ht hjt.symm g)⟩
        · rintro (⟨k1, k2⟩ | ⟨k1, k2⟩)
          · exact ⟨hsub _ k1, hsub _ k2⟩
          · exact ⟨k1.1, k2.1⟩
    · rw [if_neg (fun k => q (em0.mp k))]
      exact ⟨N, Lw, fo, hS, h1, fun x hx => by
        by_cases k : x = m
        · rw [k]; exact q
        · exact h2 x (by omega), h3⟩
/-- a bridge's leaving makes a part more -/
theorem isB_prt (hw : WF c) {j : Nat} (hj : j < ck c) : prtN c (US (-1)) < prtN c (US (nI j)) ↔ isB c j := by
  have hk := hw.k
  have e0 : prtN c (US (-1)) = prtN c (fun _ => true) := (prtN_min (c := c) (use := fun _ => true) (Q := isMin (labs c (US (-1)) (ck c))) (fun m _ => by
    rw [isMin_t]
    have hc : ∀ x y, Con c (US (-1)) (ck c) x y ↔ Con c (fun _ => true) (ck c) x y := fun x y => ⟨fun h => h.wide (fun _ _ _ => rfl), fun h => h.wide (fun t ht _ => by
      show (!decide (nI t = -1)) = true
      rw [decide_eq_false (fun k => neg1_ne (x := t) (by omega) k.symm)]; rfl)⟩
    exact ⟨fun h z hz k => h z hz ((labs_con _ _ _).mpr ((hc _ _).mpr k)), fun h z hz k => h z hz ((hc _ _).mp ((labs_con _ _ _).mp k))⟩))
  have hU : ∀ t, t < ck c → US (nI j) t = !decide (t = j) := fun t ht => by
    show (!decide (nI t = nI j)) = _
    rw [decide_eq_decide.mpr (nI_j hw ht hj)]
  have hC : ∀ x y, Con c (US (nI j)) (ck c) x y ↔ Con c (fun t => !decide (t = j)) (ck c) x y := fun x y => ⟨fun h => h.wide (fun t ht k => by rw [← hU t ht]; exact k), fun h => h.wide (fun t ht k => by rw [hU t ht]; exact k)⟩
  rw [e0]
  -- all tunnels: the union over j behind the others
  have hkey : ∀ x y, uni (labs c (US (nI j)) (ck c)) (cf c j) (cg c j) x = uni (labs c (US (nI j)) (ck c)) (cf c j) (cg c j) y ↔ Con c (fun _ => true) (ck c) x y := fun x y => by
    have ed : Con c (fun _ => true) (ck c) (cf c j) (cg c j) := Con.edge hj rfl
    have up : ∀ {p q}, labs c (US (nI j)) (ck c) p = labs c (US (nI j)) (ck c) q → Con c (fun _ => true) (ck c) p q := fun h => ((labs_con _ _ _).mp h).wide (fun _ _ _ => rfl)
    rw [uni_eq]
    constructor
    · rintro (h | ⟨h1, h2⟩)
      · exact up h
      · have g : ∀ {z}, labs c (US (nI j)) (ck c) z = labs c (US (nI j)) (ck c) (cf c j) ∨ labs c (US (nI j)) (ck c) z = labs c (US (nI j)) (ck c) (cg c j) → Con c (fun _ => true) (ck c) z (cf c j) := fun {z} h => by
          rcases h with h | h
          · exact up h
          · exact (up h).trans ed.symm
        exact (g h1).trans (g h2).symm
    · intro h
      rw [← uni_eq]
      exact h (fun z => uni (labs c (US (nI j)) (ck c)) (cf c j) (cg c j) x = uni (labs c (US (nI j)) (ck c)) (cf c j) (cg c j) z) (fun t ht _ => by
        have e : uni (labs c (US (nI j)) (ck c)) (cf c j) (cg c j) (cf c t) = uni (labs c (US (nI j)) (ck c)) (cf c j) (cg c j) (cg c t) := by
          rw [uni_eq]
          by_cases k : t = j
          · subst k; exact Or.inr ⟨Or.inl rfl, Or.inr rfl⟩
          · exact Or.inl ((labs_con _ _ _).mpr (Con.edge ht (by rw [hU t ht, decide_eq_false k]; rfl)))
        rw [e]) rfl
  have hall : cnt (isMin (uni (labs c (US (nI j)) (ck c)) (cf c j) (cg c j))) (cn c) = prtN c (fun _ => true) := prtN_min (fun m _ => by
    rw [isMin_t]
    exact ⟨fun h z hz k => h z hz ((hkey _ _).mpr k), fun h z hz k => h z hz ((hkey _ _).mp k)⟩)
  unfold isB
  rw [← hC, ← labs_con]
  by_cases q : labs c (US (nI j)) (ck c) (cf c j) = labs c (US (nI j)) (ck c) (cg c j)
  · have e : uni (labs c (US (nI j)) (ck c)) (cf c j) (cg c j) = labs c (US (nI j)) (ck c) := by
      funext x; unfold uni; split
      · rename_i h9; rw [h9, q]
      · rfl
    rw [e] at hall
    have h9 : prtN c (US (nI j)) = prtN c (fun _ => true) := hall
    rw [h9]
    exact ⟨fun k => absurd k (Nat.lt_irrefl _), fun k => absurd q k⟩
  · have h9 := isMin_uni (L := labs c (US (nI j)) (ck c)) (n := cn c) (hw.f hj) (hw.g hj) q
    rw [hall] at h9
    have h10 : prtN c (US (nI j)) = cnt (isMin (labs c (US (nI j)) (ck c))) (cn c) := rfl
    exact ⟨fun _ => q, fun _ => by omega⟩
theorem brs_brg (hw : WF c) (low : Nat → Int32) : (brs c low (cn c)).2.2.2 = nI (brgN c) := by
  obtain ⟨N, Lw, fo, hS, h1, h2, h3⟩ := brs_run hw low (cn c) (Nat.le_refl _)
  rw [hS.2.2.2.1, h3]
  refine congrArg nI (cnt_cong (fun t ht => ?_))
  have hf := h2 _ (hw.f ht)
  have hg := h2 _ (hw.g ht)
  have e : (inS (vs N) (cf c t) && inS (vs N) (cg c t)) = true := both.mpr ⟨hf, hg⟩
  rw [e, Bool.and_true]
  have hq := isB_prt hw ht
  cases k : isBb c t
  · rw [decide_eq_false (fun g => by rw [isBb_t.mpr (hq.mp g)] at k; cases k)]
  · rw [decide_eq_true (hq.mpr (isBb_t.mp k))]
end BRG2

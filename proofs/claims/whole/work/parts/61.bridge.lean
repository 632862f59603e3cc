set_option maxHeartbeats 400000
/-! MATHEMATICS: the bridges that a search in depth counts -/
section BRG
variable {c : Col}
/-- a tunnel joins x and y -/
def jo (c : Col) (t x y : Nat) : Prop := cf c t = x ∧ cg c t = y ∨ cf c t = y ∧ cg c t = x
theorem jo.symm {t x y : Nat} (h : jo c t x y) : jo c t y x := h.elim (fun q => Or.inr ⟨q.1, q.2⟩) (fun q => Or.inl ⟨q.1, q.2⟩)
theorem jo.lt {t x y : Nat} (hw : WF c) (ht : t < ck c) (h : jo c t x y) : x < cn c ∧ y < cn c ∧ x ≠ y := by
  have h1 := hw.f ht
  have h2 := hw.g ht
  have h3 := hw.fg ht
  rcases h with ⟨h4, h5⟩ | ⟨h4, h5⟩
  · exact ⟨by omega, by omega, by omega⟩
  · exact ⟨by omega, by omega, by omega⟩
theorem jo.ends {t x y : Nat} (h : jo c t x y) {P : Nat → Prop} : (P (cf c t) ∧ P (cg c t)) ↔ (P x ∧ P y) := by
  rcases h with ⟨h4, h5⟩ | ⟨h4, h5⟩
  · rw [h4, h5]
  · rw [h4, h5]; exact And.comm
/-- connected by tunnels of which both ends are in S -/
def CW (c : Col) (S : Nat → Prop) (a b : Nat) : Prop := ∀ P : Nat → Prop, (∀ t, t < ck c → S (cf c t) → S (cg c t) → (P (cf c t) ↔ P (cg c t))) → P a → P b
theorem CW.refl {S : Nat → Prop} {a : Nat} : CW c S a a := fun _ _ h => h
theorem CW.trans {S : Nat → Prop} {a b d : Nat} (h1 : CW c S a b) (h2 : CW c S b d) : CW c S a d := fun P hP h => h2 P hP (h1 P hP h)
theorem CW.edge {S : Nat → Prop} {t x y : Nat} (ht : t < ck c) (h : jo c t x y) (hx : S x) (hy : S y) : CW c S x y := fun P hP h2 => by
  rcases h with ⟨h4, h5⟩ | ⟨h4, h5⟩
  · have := hP t ht (by rw [h4]; exact hx) (by rw [h5]; exact hy)
    rw [h4, h5] at this; exact this.mp h2
  · have := hP t ht (by rw [h4]; exact hy) (by rw [h5]; exact hx)
    rw [h4, h5] at this; exact this.mpr h2
theorem CW.symm {S : Nat → Prop} {a b : Nat} (h : CW c S a b) : CW c S b a := h (fun z => CW c S z a) (fun t ht h1 h2 => ⟨fun q => (CW.edge ht (Or.inr ⟨rfl, rfl⟩) h2 h1).trans q, fun q => (CW.edge ht (Or.inl ⟨rfl, rfl⟩) h1 h2).trans q⟩) CW.refl
theorem CW.mono {S T : Nat → Prop} {a b : Nat} (h : CW c S a b) (hS : ∀ x, S x → T x) : CW c T a b := fun P hP h2 => h P (fun t ht h3 h4 => hP t ht (hS _ h3) (hS _ h4)) h2
/-- without one of the ends in S, the tunnel isn't needed -/
theorem CW.con {S : Nat → Prop} {a b j : Nat} (h : CW c S a b) (hj : ¬ S (cf c j) ∨ ¬ S (cg c j)) : Con c (fun t => !decide (t = j)) (ck c) a b := fun P hP h2 => h P (fun t ht h3 h4 => hP t ht (by
  have : ¬ t = j := fun e => by subst e; rcases hj with q | q; exact q h3; exact q h4
  show (!decide (t = j)) = true
  rw [decide_eq_false this]; rfl)) h2
/-- a bridge -/
def isB (c : Col) (j : Nat) : Prop := ¬ Con c (fun t => !decide (t = j)) (ck c) (cf c j) (cg c j)
noncomputable def isBb (c : Col) (j : Nat) : Bool := @decide (isB c j) (Classical.propDecidable _)
theorem isBb_t {j : Nat} : isBb c j = true ↔ isB c j := by unfold isBb; exact @decide_eq_true_iff _ (Classical.propDecidable _)
noncomputable def inS (S : Nat → Prop) (x : Nat) : Bool := @decide (S x) (Classical.propDecidable _)
theorem inS_t {S : Nat → Prop} {x : Nat} : inS S x = true ↔ S x := by unfold inS; exact @decide_eq_true_iff _ (Classical.propDecidable _)
theorem both {S : Nat → Prop} {x y : Nat} : (inS S x && inS S y) = true ↔ (S x ∧ S y) := by rw [Bool.and_eq_true, inS_t, inS_t]
/-- the bridges of which both ends are in S -/
noncomputable def nB (c : Col) (S : Nat → Prop) : Nat := cnt (fun t => isBb c t && (inS S (cf c t) && inS S (cg c t))) (ck c)
theorem nB_ext {S T : Nat → Prop} (h : ∀ t, t < ck c → isB c t → ((S (cf c t) ∧ S (cg c t)) ↔ (T (cf c t) ∧ T (cg c t)))) : nB c S = nB c T := cnt_cong (fun t ht => by
  cases q : isBb c t
  · rfl
  · have := h t ht (isBb_t.mp q)
    rw [← both (S := S), ← both (S := T)] at this
    rw [Bool.true_and, Bool.true_and]
    cases k1 : (inS S (cf c t) && inS S (cg c t)) <;> cases k2 : (inS T (cf c t) && inS T (cg c t))
    · rfl
    · rw [k1, k2] at this; cases this.mpr rfl
    · rw [k1, k2] at this; cases this.mp rfl
    · rfl)
/-- disjoint sets, with at most one bridge between -/
theorem nB_add {S T U : Nat → Prop} (hU : ∀ t, t < ck c → isB c t → ((U (cf c t) ∧ U (cg c t)) ↔ ((S (cf c t) ∧ S (cg c t)) ∨ (T (cf c t) ∧ T (cg c t))))) (hd : ∀ t, t < ck c → S (cf c t) ∧ S (cg c t) → T (cf c t) ∧ T (cg c t) → False) : nB c U = nB c S + nB c T := cnt_add (fun t ht => by
  cases q : isBb c t
  · exact ⟨rfl, rfl⟩
  · have h := hU t ht (isBb_t.mp q)
    rw [← both (S := U), ← both (S := S), ← both (S := T), ← Bool.or_eq_true] at h
    have hn : ((inS S (cf c t) && inS S (cg c t)) && (inS T (cf c t) && inS T (cg c t))) = false := by
      cases k : ((inS S (cf c t) && inS S (cg c t)) && (inS T (cf c t) && inS T (cg c t)))
      · rfl
      · rw [Bool.and_eq_true] at k
        exact (hd t ht (both.mp k.1) (both.mp k.2)).elim
    refine ⟨?_, by rw [Bool.true_and, Bool.true_and]; exact hn⟩
    rw [Bool.true_and, Bool.true_and, Bool.true_and]
    cases k1 : (inS U (cf c t) && inS U (cg c t)) <;> cases k2 : ((inS S (cf c t) && inS S (cg c t)) || (inS T (cf c t) && inS T (cg c t)))
    · rfl
    · rw [k1, k2] at h; cases h.mpr rfl
    · rw [k1, k2] at h; cases h.mp rfl
    · rfl)
theorem cnt_one {j : Nat} {b : Bool} : ∀ {n}, cnt (fun t => decide (t = j) && b) n = if j < n ∧ b = true then 1 else 0
  | 0 => by rw [if_neg (fun h => absurd h.1 (Nat.not_lt_zero j))]; rfl
  | n + 1 => by
    unfold cnt
    rw [cnt_one]
    by_cases e : n = j
    · subst e
      cases b <;> simp
    · rw [decide_eq_false e]
      have : j < n + 1 ↔ j < n := by omega
      cases b <;> simp [this]
/-- one more tunnel between the two -/
theorem nB_one {S U : Nat → Prop} {j : Nat} (hj : j < ck c) (hU : ∀ t, t < ck c → isB c t → ((U (cf c t) ∧ U (cg c t)) ↔ ((S (cf c t) ∧ S (cg c t)) ∨ t = j))) (hd : ¬ (S (cf c j) ∧ S (cg c j))) : nB c U = nB c S + (if isBb c j = true then 1 else 0) := by
  have e : nB c U = nB c S + cnt (fun t => decide (t = j) && isBb c j) (ck c) := cnt_add (fun t ht => by
    by_cases q : t = j
    · subst q
      rw [decide_eq_true rfl, Bool.true_and]
      cases k : isBb c t
      · exact ⟨rfl, rfl⟩
      · have hu := (hU t ht (isBb_t.mp k)).mpr (Or.inr rfl)
        have hs : (inS S (cf c t) && inS S (cg c t)) = false := by
          cases k2 : (inS S (cf c t) && inS S (cg c t))
          · rfl
          · rw [Bool.and_eq_true] at k2; exact absurd ⟨inS_t.mp k2.1, inS_t.mp k2.2⟩ hd
        rw [inS_t.mpr hu.1, inS_t.mpr hu.2, hs]
        exact ⟨rfl, rfl⟩
    · rw [decide_eq_false q, Bool.false_and, Bool.or_false, Bool.and_false]
      refine ⟨?_, rfl⟩
      cases k : isBb c t
      · rfl
      · have h := hU t ht (isBb_t.mp k)
        have h : (U (cf c t) ∧ U (cg c t)) ↔ (S (cf c t) ∧ S (cg c t)) := ⟨fun r => (h.mp r).resolve_right q, fun r => h.mpr (Or.inl r)⟩
        rw [← both (S := U), ← both (S := S)] at h
        rw [Bool.true_and, Bool.true_and]
        cases k1 : (inS U (cf c t) && inS U (cg c t)) <;> cases k2 : (inS S (cf c t) && inS S (cg c t))
        · rfl
        · rw [k1, k2] at h; cases h.mpr rfl
        · rw [k1, k2] at h; cases h.mp rfl
        · rfl)
  rw [e, cnt_one]
  cases k : isBb c j
  · simp
  · simp [hj]
/-! the state of the search in natural numbers: numbers, lowest, found -/
def vs (N : Nat → Nat) (x : Nat) : Prop := ¬ N x = 0
def vN (c : Col) (N : Nat → Nat) : Nat := cnt (fun x => !decide (N x = 0)) (cn c)
def SR (c : Col) (s : BS) (N Lw : Nat → Nat) (fo : Nat) : Prop := (∀ x, x < cn c → s.1 x = nI (N x) ∧ N x ≤ vN c N) ∧ (∀ x, x < cn c → vs N x → s.2.1 x = nI (Lw x) ∧ Lw x ≤ 9) ∧ s.2.2.1 = nI (vN c N) ∧ s.2.2.2 = nI fo ∧ (∀ x, cn c ≤ x → N x = 0)
theorem vN_le {N : Nat → Nat} : vN c N ≤ cn c := cnt_le _ _
theorem vs_lt {s : BS} {N Lw : Nat → Nat} {fo x : Nat} (h : SR c s N Lw fo) (hx : vs N x) : x < cn c := by
  rcases Nat.lt_or_ge x (cn c) with q | q
  · exact q
  · exact absurd (h.2.2.2.2 x q) hx
/-- what exploring v, entered by e, leaves -/
def Post (c : Col) (v : Nat) (e : Int32) (N Lw : Nat → Nat) (fo : Nat) (N' Lw' : Nat → Nat) (fo' : Nat) : Prop :=
  (∀ x, vs N x → N' x = N x ∧ Lw' x = Lw x) ∧ (N' v = vN c N + 1) ∧ (∀ x, vs N' x → ¬ vs N x → N' v ≤ N' x) ∧ (∀ x, vs N' x → ¬ vs N x → CW c (fun z => vs N' z ∧ ¬ vs N z) v x) ∧ (∀ t x z, t < ck c → jo c t x z → vs N' x → ¬ vs N x → vs N' z) ∧
  (Lw' v ≤ N' v ∧ (∀ t x y, t < ck c → ¬ nI t = e → jo c t x y → vs N' x → ¬ vs N x → vs N y → Lw' v ≤ N y) ∧ (Lw' v = N' v ∨ ∃ t x y, t < ck c ∧ ¬ nI t = e ∧ jo c t x y ∧ vs N' x ∧ ¬ vs N x ∧ vs N y ∧ Lw' v = N y)) ∧
  fo' = fo + nB c (fun z => vs N' z ∧ ¬ vs N z)
/-- what it asks -/
def Pre (c : Col) (v : Nat) (e : Int32) (N : Nat → Nat) : Prop := v < cn c ∧ N v = 0 ∧ (∀ y z t, t < ck c → jo c t y z → vs N y → ¬ vs N z → CW c (fun x => vs N x ∨ x = v) y v) ∧ (∀ t, t < ck c → nI t = e → ∃ p, jo c t v p ∧ vs N p)
/-- within a magnet's exploring: the tunnels below j are done -/
def Inv (c : Col) (v : Nat) (e : Int32) (N Lw : Nat → Nat) (fo j : Nat) (N' Lw' : Nat → Nat) (fo' : Nat) : Prop :=
  (∀ x, vs N x → N' x = N x ∧ Lw' x = Lw x) ∧ (N' v = vN c N + 1) ∧ (∀ x, vs N' x → ¬ vs N x → x ≠ v → N' v < N' x) ∧ (∀ x, vs N' x → ¬ vs N x → CW c (fun z => vs N' z ∧ ¬ vs N z) v x) ∧ (∀ t x z, t < ck c → jo c t x z → vs N' x → ¬ vs N x → (x ≠ v ∨ t < j) → vs N' z) ∧
  (Lw' v ≤ N' v ∧ (∀ t x y, t < ck c → ¬ nI t = e → jo c t x y → vs N' x → ¬ vs N x → (x ≠ v ∨ t < j) → vs N y → Lw' v ≤ N y) ∧ (Lw' v = N' v ∨ ∃ t x y, t < ck c ∧ ¬ nI t = e ∧ jo c t x y ∧ vs N' x ∧ ¬ vs N x ∧ vs N y ∧ Lw' v = N y)) ∧
  fo' = fo + nB c (fun z => vs N' z ∧ ¬ vs N z)
theorem vN_new {N : Nat → Nat} {v : Nat} (hv : v < cn c) (h0 : N v = 0) {a : Nat} (ha : ¬ a = 0) : vN c (ups N v a) = vN c N + 1 := by
  unfold vN
  refine (cnt_drop (P := fun x => !decide (ups N v a x = 0)) (Q := fun x => !decide (N x = 0)) (D := v) ?_ ?_ (fun m hm => ?_) hv).symm
  · show (!decide (ups N v a v = 0)) = true; rw [ups_s, decide_eq_false ha]; rfl
  · show (!decide (N v = 0)) = false; rw [decide_eq_true h0]; rfl
  · show (!decide (ups N v a m = 0)) = _; rw [ups_n hm]
theorem SR.num {s : BS} {N Lw : Nat → Nat} {fo v : Nat} (hn : cn c ≤ 9) (h : SR c s N Lw fo) (hv : v < cn c) (h0 : N v = 0) : SR c (numM v s) (ups N v (vN c N + 1)) (ups Lw v (vN c N + 1)) fo := by
  obtain ⟨h1, h2, h3, h4, h5⟩ := h
  have e := vN_new hv h0 (a := vN c N + 1) (by omega)
  have hle := vN_le (c := c) (N := ups N v (vN c N + 1))
  have e1 : s.2.2.1 + nI 1 = nI (vN c N + 1) := by rw [h3, nI_add]
  refine ⟨fun x hx => ?_, fun x hx hvs => ?_, ?_, h4, fun x hx => ?_⟩
  · show ups s.1 v (s.2.2.1 + nI 1) x = _ ∧ _
    rw [e]
    by_cases q : x = v
    · subst q; rw [ups_s, ups_s]; exact ⟨e1, by omega⟩
    · rw [ups_n q, ups_n q]; exact ⟨(h1 x hx).1, by have := (h1 x hx).2; omega⟩
  · show ups s.2.1 v (s.2.2.1 + nI 1) x = _ ∧ _
    by_cases q : x = v
    · subst q; rw [ups_s, ups_s]; exact ⟨e1, by omega⟩
    · rw [ups_n q, ups_n q]
      exact h2 x hx (by unfold vs at hvs ⊢; rwa [ups_n q] at hvs)
  · show s.2.2.1 + nI 1 = _
    rw [e]; exact e1
  · rw [ups_n (by omega)]; exact h5 x hx
theorem SR.rea {s : BS} {N Lw : Nat → Nat} {fo v a : Nat} (h : SR c s N Lw fo) (hv : v < cn c) (hvs : vs N v) (ha : a ≤ 9) : SR c (reaM v (nI a) s) N (ups Lw v (min (Lw v) a)) fo := by
  obtain ⟨h1, h2, h3, h4, h5⟩ := h
  refine ⟨h1, fun x hx hx2 => ?_, h3, h4, h5⟩
  show ups s.2.1 v (if nI a < s.2.1 v then nI a else s.2.1 v) x = _ ∧ _
  by_cases q : x = v
  · subst q
    rw [ups_s, ups_s]
    obtain ⟨g1, g2⟩ := h2 x hv hvs
    rw [g1, min_nI (by omega) (by omega)]
    exact ⟨rfl, by omega⟩
  · rw [ups_n q, ups_n q]; exact h2 x hx hx2
theorem SR.fnd {s : BS} {N Lw : Nat → Nat} {fo v x : Nat} (h : SR c s N Lw fo) (hn : cn c ≤ 9) (hv : v < cn c) (hx : x < cn c) (hxs : vs N x) : SR c (foundM v x s) N Lw (if N v < Lw x then fo + 1 else fo) := by
  obtain ⟨h1, h2, h3, h4, h5⟩ := h
  have hN := vN_le (c := c) (N := N)
  have e1 := h1 v hv
  have e2 := h2 x hx hxs
  unfold foundM
  rw [e1.1, e2.1]
  by_cases q : N v < Lw x
  · rw [if_pos (nI_lt q (by omega)), if_pos q]
    exact ⟨h1, h2, h3, by rw [h4, nI_add], h5⟩
  · rw [if_neg (fun k => q ((nI_ltI (by omega) (by omega)).mp k)), if_neg q]
    exact ⟨h1, h2, h3, h4, h5⟩
end BRG

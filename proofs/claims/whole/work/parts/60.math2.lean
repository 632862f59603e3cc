set_option maxHeartbeats 400000
/-! MATHEMATICS: walks, unions with counterparts -/
section MATH2
variable {c : Col} {a b : Nat}
/-- an open tunnel joins x and y -/
def opn (c : Col) (x y : Nat) : Prop := ∃ j, j < ck c ∧ blk c (cw c) j = false ∧ (cf c j = x ∧ cg c j = y ∨ cf c j = y ∧ cg c j = x)
theorem wS_tb {n z : Nat} : (wS c a (n + 1)).testBit z = true ↔ (wS c a n).testBit z = true ∨ ∃ y, (wS c a n).testBit y = true ∧ opn c y z := by
  show (pwS c _ (wS c a n) (ck c)).testBit z = true ↔ _
  rw [pwS_tb]
  constructor
  · rintro (h | ⟨j, hj, hu, ht, hz⟩)
    · exact Or.inl h
    · have hb : blk c (cw c) j = false := by simpa using hu
      rcases ht with ht | ht
      · rcases hz with rfl | rfl
        · exact Or.inl ht
        · exact Or.inr ⟨_, ht, j, hj, hb, Or.inl ⟨rfl, rfl⟩⟩
      · rcases hz with rfl | rfl
        · exact Or.inr ⟨_, ht, j, hj, hb, Or.inr ⟨rfl, rfl⟩⟩
        · exact Or.inl ht
  · rintro (h | ⟨y, hy, j, hj, hb, h | h⟩)
    · exact Or.inl h
    · exact Or.inr ⟨j, hj, by simpa using hb, Or.inl (by rw [h.1]; exact hy), Or.inr h.2.symm⟩
    · exact Or.inr ⟨j, hj, by simpa using hb, Or.inr (by rw [h.2]; exact hy), Or.inl h.1.symm⟩
/-- the distance is l -/
def dst2 (c : Col) (a x l : Nat) : Prop := (wS c a l).testBit x = true ∧ ∀ k, k < l → (wS c a k).testBit x = false
theorem dst2_uq {x l k : Nat} (h1 : dst2 c a x l) (h2 : dst2 c a x k) : l = k := by
  rcases Nat.lt_trichotomy l k with q | q | q
  · have := h2.2 l q; rw [h1.1] at this; cases this
  · exact q
  · have := h1.2 k q; rw [h2.1] at this; cases this
theorem wS_mono2 {n k z : Nat} (h : (wS c a n).testBit z = true) : (wS c a (n + k)).testBit z = true := by
  induction k with
  | zero => exact h
  | succ k ih => exact wS_mono ih
theorem dst2_of {x k : Nat} (h : (wS c a k).testBit x = true) : ∃ l, l ≤ k ∧ dst2 c a x l := by
  rcases fnd_spec (fun l => (wS c a l).testBit x) (k + 1) with ⟨_, h2⟩ | ⟨l, _, h3, h4, h5⟩
  · have := h2 k (Nat.lt_succ_self k); rw [h] at this; cases this
  · exact ⟨l, by omega, h4, fun j hj => h5 j hj⟩
/-- the distances up to k -/
def DK (c : Col) (a k : Nat) (D : Nat → Option Nat) : Prop := ∀ x l, D x = some l ↔ (l ≤ k ∧ dst2 c a x l)
theorem DK.non {k x : Nat} {D : Nat → Option Nat} (h : DK c a k D) : D x = none ↔ (wS c a k).testBit x = false := by
  constructor
  · intro e
    cases q : (wS c a k).testBit x
    · rfl
    · obtain ⟨l, hl, hd⟩ := dst2_of q
      have := (h x l).mpr ⟨hl, hd⟩
      rw [e] at this; cases this
  · intro e
    cases q : D x with
    | none => rfl
    | some l =>
      obtain ⟨hl, hd⟩ := (h x l).mp q
      have := wS_mono2 (k := k - l) hd.1
      rw [show l + (k - l) = k by omega, e] at this
      cases this
/-- within a row -/
def RJ (c : Col) (a k j : Nat) (E : Nat → Option Nat) : Prop := ∀ x, (∀ l, l ≤ k → (E x = some l ↔ dst2 c a x l)) ∧ (E x = some (k + 1) ↔ (wS c a k).testBit x = false ∧ ∃ y t, t < j ∧ blk c (cw c) t = false ∧ (cf c t = y ∧ cg c t = x ∨ cf c t = x ∧ cg c t = y) ∧ dst2 c a y k) ∧ (∀ l, E x = some l → l ≤ k + 1)
theorem RJ.non {k j x : Nat} {E : Nat → Option Nat} (h : RJ c a k j E) (hn : E x = none) : (wS c a k).testBit x = false := by
  cases q : (wS c a k).testBit x
  · rfl
  · obtain ⟨l, hl, hd⟩ := dst2_of q
    have := ((h x).1 l hl).mpr hd
    rw [hn] at this; cases this
theorem RJ.start {k : Nat} {D : Nat → Option Nat} (h : DK c a k D) : RJ c a k 0 D := fun x => ⟨fun l hl => ⟨fun e => ((h x l).mp e).2, fun e => (h x l).mpr ⟨hl, e⟩⟩, ⟨fun e => by have := ((h x _).mp e).1; omega, fun ⟨_, _, t, ht, _⟩ => absurd ht (Nat.not_lt_zero t)⟩, fun l e => by have := ((h x l).mp e).1; omega⟩
theorem RJ.step {k j m nx : Nat} {E : Nat → Option Nat} {P : Nat → Nat → Prop} (h1 : ∀ x, (∀ l, l ≤ k → (E x = some l ↔ dst2 c a x l)) ∧ (E x = some (k + 1) ↔ (wS c a k).testBit x = false ∧ ∃ y, P y x ∧ dst2 c a y k) ∧ (∀ l, E x = some l → l ≤ k + 1)) (hne : ¬ m = nx) : ∀ x, (∀ l, l ≤ k → (won E m nx k x = some l ↔ dst2 c a x l)) ∧ (won E m nx k x = some (k + 1) ↔ (wS c a k).testBit x = false ∧ ∃ y, (P y x ∨ (y = m ∧ x = nx)) ∧ dst2 c a y k) ∧ (∀ l, won E m nx k x = some l → l ≤ k + 1) := fun x => by
  obtain ⟨g1, g2, g3⟩ := h1 x
  have hm : E m = some k ↔ dst2 c a m k := (h1 m).1 k (Nat.le_refl _)
  unfold won
  by_cases hc : E m = some k ∧ E nx = none
  · rw [if_pos hc]
    by_cases e : x = nx
    · subst e
      rw [ups_s]
      have hx0 : (wS c a k).testBit x = false := by
        cases q : (wS c a k).testBit x
        · rfl
        · obtain ⟨l, hl, hd⟩ := dst2_of q
          have := (g1 l hl).mpr hd
          rw [hc.2] at this; cases this
      refine ⟨fun l hl => ⟨fun q => (by cases q; omega), fun q => ?_⟩, ⟨fun _ => ⟨hx0, m, Or.inr ⟨rfl, rfl⟩, hm.mp hc.1⟩, fun _ => rfl⟩, fun l q => (by cases q; omega)⟩
      have := wS_mono2 (k := k - l) q.1
      rw [show l + (k - l) = k by omega, hx0] at this
      cases this
    · rw [ups_n e]
      refine ⟨g1, ?_, g3⟩
      rw [g2]
      exact ⟨fun ⟨q1, y, q2, q3⟩ => ⟨q1, y, Or.inl q2, q3⟩, fun ⟨q1, y, q2, q3⟩ => ⟨q1, y, q2.resolve_right (fun q => e q.2), q3⟩⟩
  · rw [if_neg hc]
    refine ⟨g1, ?_, g3⟩
    rw [g2]
    constructor
    · rintro ⟨q1, y, q2, q3⟩; exact ⟨q1, y, Or.inl q2, q3⟩
    · rintro ⟨q1, y, q2 | ⟨rfl, rfl⟩, q3⟩
      · exact ⟨q1, y, q2, q3⟩
      · -- x is reached already
        have hxn : ¬ E x = none := fun q => hc ⟨hm.mpr q3, q⟩
        cases q : E x with
        | none => exact absurd q hxn
        | some l =>
          have hl := g3 l q
          by_cases e : l = k + 1
          · subst e; exact g2.mp q
          · have hd := (g1 l (by omega)).mp q
            have := wS_mono2 (k := k - l) hd.1
            rw [show l + (k - l) = k by omega, q1] at this
            cases this
theorem RJ.next (hw : WF c) {k j : Nat} {E : Nat → Option Nat} (h : RJ c a k j E) (hj : j < ck c) : RJ c a k (j + 1) (wst c k j E) := by
  have h0 : ∀ x, (∀ l, l ≤ k → (E x = some l ↔ dst2 c a x l)) ∧ (E x = some (k + 1) ↔ (wS c a k).testBit x = false ∧ ∃ y, (∃ t, t < j ∧ blk c (cw c) t = false ∧ (cf c t = y ∧ cg c t = x ∨ cf c t = x ∧ cg c t = y)) ∧ dst2 c a y k) ∧ (∀ l, E x = some l → l ≤ k + 1) := fun x => by
    obtain ⟨g1, g2, g3⟩ := h x
    refine ⟨g1, ?_, g3⟩
    rw [g2]
    exact ⟨fun ⟨q1, y, t, t1, t2, t3, t4⟩ => ⟨q1, y, ⟨t, t1, t2, t3⟩, t4⟩, fun ⟨q1, y, ⟨t, t1, t2, t3⟩, t4⟩ => ⟨q1, y, t, t1, t2, t3, t4⟩⟩
  intro x
  unfold wst
  cases hb : blk c (cw c) j
  · rw [if_neg (by decide)]
    have hfg := hw.fg hj
    have h1 := RJ.step (j := j) h0 hfg
    have h2 := RJ.step (j := j) h1 (Ne.symm hfg)
    obtain ⟨g1, g2, g3⟩ := h2 x
    refine ⟨g1, ?_, g3⟩
    rw [g2]
    constructor
    · rintro ⟨q1, y, (⟨t, t1, t2, t3⟩ | ⟨rfl, rfl⟩) | ⟨rfl, rfl⟩, q3⟩
      · exact ⟨q1, y, t, by omega, t2, t3, q3⟩
      · exact ⟨q1, _, j, by omega, hb, Or.inl ⟨rfl, rfl⟩, q3⟩
      · exact ⟨q1, _, j, by omega, hb, Or.inr ⟨rfl, rfl⟩, q3⟩
    · rintro ⟨q1, y, t, t1, t2, t3, q3⟩
      by_cases e : t = j
      · subst e
        rcases t3 with ⟨e1, e2⟩ | ⟨e1, e2⟩
        · exact ⟨q1, y, Or.inl (Or.inr ⟨e1.symm, e2.symm⟩), q3⟩
        · exact ⟨q1, y, Or.inr ⟨e2.symm, e1.symm⟩, q3⟩
      · exact ⟨q1, y, Or.inl (Or.inl ⟨t, by omega, t2, t3⟩), q3⟩
  · rw [if_pos rfl]
    obtain ⟨g1, g2, g3⟩ := h x
    refine ⟨g1, ?_, g3⟩
    rw [g2]
    constructor
    · rintro ⟨q1, y, t, t1, t2, t3, t4⟩; exact ⟨q1, y, t, by omega, t2, t3, t4⟩
    · rintro ⟨q1, y, t, t1, t2, t3, t4⟩
      by_cases e : t = j
      · subst e; rw [hb] at t2; cases t2
      · exact ⟨q1, y, t, by omega, t2, t3, t4⟩
theorem RJ.run (hw : WF c) {k : Nat} {D : Nat → Option Nat} (h : DK c a k D) : ∀ j, j ≤ ck c → RJ c a k j (iter (wst c k) j D)
  | 0, _ => RJ.start h
  | j + 1, hj => (RJ.run hw h j (by omega)).next hw (by omega)
theorem DK.next (hw : WF c) {k : Nat} {D : Nat → Option Nat} (h : DK c a k D) : DK c a (k + 1) (wrow c k D) := fun x l => by
  have hr := RJ.run hw h (ck c) (Nat.le_refl _) x
  show iter (wst c k) (ck c) D x = some l ↔ _
  obtain ⟨g1, g2, g3⟩ := hr
  have key : dst2 c a x (k + 1) ↔ (wS c a k).testBit x = false ∧ ∃ y t, t < ck c ∧ blk c (cw c) t = false ∧ (cf c t = y ∧ cg c t = x ∨ cf c t = x ∧ cg c t = y) ∧ dst2 c a y k := by
    constructor
    · rintro ⟨h1, h2⟩
      have hx := h2 k (Nat.lt_succ_self k)
      refine ⟨hx, ?_⟩
      rcases wS_tb.mp h1 with q | ⟨y, hy, t, ht, hb, hj⟩
      · rw [hx] at q; cases q
      · refine ⟨y, t, ht, hb, hj, hy, fun i hi => ?_⟩
        cases q : (wS c a i).testBit y
        · rfl
        · have h5 : (wS c a (i + 1)).testBit x = true := wS_tb.mpr (Or.inr ⟨y, q, t, ht, hb, hj⟩)
          have := wS_mono2 (k := k - (i + 1)) h5
          rw [show i + 1 + (k - (i + 1)) = k by omega, hx] at this
          cases this
    · rintro ⟨hx, y, t, ht, hb, hj, hd⟩
      refine ⟨wS_tb.mpr (Or.inr ⟨y, hd.1, t, ht, hb, hj⟩), fun i hi => ?_⟩
      cases q : (wS c a i).testBit x
      · rfl
      · have := wS_mono2 (k := k - i) q
        rw [show i + (k - i) = k by omega, hx] at this
        cases this
  constructor
  · intro e
    have hl := g3 l e
    by_cases q : l = k + 1
    · subst q; exact ⟨Nat.le_refl _, key.mpr (g2.mp e)⟩
    · exact ⟨by omega, (g1 l (by omega)).mp e⟩
  · rintro ⟨hl, hd⟩
    by_cases q : l = k + 1
    · subst q; exact g2.mpr (key.mp hd)
    · exact (g1 l (by omega)).mpr hd
theorem wal_DK (hw : WF c) : ∀ k, DK c a k (wal c a k)
  | 0 => fun x l => by
    show ups (fun _ => none) a (some 0) x = some l ↔ _
    by_cases e : x = a
    · subst e
      rw [ups_s]
      constructor
      · intro q; cases q
        exact ⟨Nat.le_refl _, Nat.testBit_two_pow_self, fun k hk => absurd hk (Nat.not_lt_zero k)⟩
      · rintro ⟨h1, _⟩
        obtain rfl : l = 0 := by omega
        rfl
    · rw [ups_n e]
      constructor
      · intro q; cases q
      · rintro ⟨h1, h2, _⟩
        obtain rfl : l = 0 := by omega
        have h2 : (2 ^ a).testBit x = true := h2
        rw [Nat.testBit_two_pow, decide_eq_true_eq] at h2
        exact absurd h2.symm e
  | k + 1 => (wal_DK hw k).next hw
theorem wS_bd (hw : WF c) (ha : a < cn c) : ∀ n z, (wS c a n).testBit z = true → z < cn c
  | 0, z, h => by
    have h : (2 ^ a).testBit z = true := h
    rw [Nat.testBit_two_pow, decide_eq_true_eq] at h
    omega
  | n + 1, z, h => by
    rcases wS_tb.mp h with q | ⟨y, _, t, ht, _, q | q⟩
    · exact wS_bd hw ha n z q
    · rw [← q.2]; exact hw.g ht
    · rw [← q.1]; exact hw.f ht
/-- until the walks end, each round reaches a further magnet -/
theorem wS_card (hw : WF c) (ha : a < cn c) {x l : Nat} (h : dst2 c a x l) : ∀ k, k ≤ l → k + 1 ≤ cnt (wS c a k).testBit (cn c)
  | 0, _ => by
    have := cnt_more (P := fun _ => false) (Q := (wS c a 0).testBit) (z := a) (n := cn c) (fun i hi => (by cases hi)) Nat.testBit_two_pow_self rfl ha
    omega
  | k + 1, hk => by
    have ih := wS_card hw ha h k (by omega)
    have hne : ∃ z, (wS c a (k + 1)).testBit z = true ∧ (wS c a k).testBit z = false := Classical.byContradiction (fun q => by
      have e : wS c a (k + 1) = wS c a k := Nat.eq_of_testBit_eq (fun z => by
        cases q1 : (wS c a (k + 1)).testBit z <;> cases q2 : (wS c a k).testBit z
        · rfl
        · rw [wS_mono q2] at q1; cases q1
        · exact absurd ⟨z, q1, q2⟩ q
        · rfl)
      have e2 := wS_fix e (l - k)
      rw [show k + (l - k) = l by omega] at e2
      have h1 := h.1
      rw [e2, h.2 k (by omega)] at h1
      cases h1)
    obtain ⟨z, z1, z2⟩ := hne
    have := cnt_more (P := (wS c a k).testBit) (Q := (wS c a (k + 1)).testBit) (fun i hi => wS_mono hi) z1 z2 (wS_bd hw ha _ z z1)
    omega
theorem wal_wR (hw : WF c) (ha : a < cn c) : wal c a (cn c) b = wR c a b := by
  have hD := wal_DK (a := a) hw (cn c)
  have hn := hw.n
  have hlt : ∀ l, dst2 c a b l → l < cn c := fun l h => by
    have h1 := wS_card hw ha h l (Nat.le_refl _)
    have h2 := cnt_le (wS c a l).testBit (cn c)
    omega
  rcases fnd_spec (fun n => (wS c a n).testBit b) 600 with ⟨h1, h2⟩ | ⟨l, h1, h2, h3, h4⟩
  · have e : wR c a b = none := h1
    rw [e]
    exact hD.non.mpr (h2 _ (by omega))
  · have e : wR c a b = some l := h1
    rw [e]
    have hd : dst2 c a b l := ⟨h3, h4⟩
    exact (hD b l).mpr ⟨Nat.le_of_lt (hlt l hd), hd⟩
/-! unions with counterparts -/
/-- a magnet (below 9) or a counterpart (from 9 on) is one with another -/
def Con2 (c : Col) (k x y : Nat) : Prop := ∀ P : Nat → Prop, (∀ j, j < k → ((P (cf c j) ↔ P (cg c j + 9)) ∧ (P (cg c j) ↔ P (cf c j + 9)))) → P x → P y
theorem Con2.refl {k x : Nat} : Con2 c k x x := fun _ _ h => h
theorem Con2.trans {k x y z : Nat} (h1 : Con2 c k x y) (h2 : Con2 c k y z) : Con2 c k x z := fun P hP h => h2 P hP (h1 P hP h)
theorem Con2.e1 {k j : Nat} (hj : j < k) : Con2 c k (cf c j) (cg c j + 9) := fun _ hP h => (hP j hj).1.mp h
theorem Con2.e2 {k j : Nat} (hj : j < k) : Con2 c k (cg c j) (cf c j + 9) := fun _ hP h => (hP j hj).2.mp h
theorem Con2.symm {k x y : Nat} (h : Con2 c k x y) : Con2 c k y x := h (fun z => Con2 c k z x) (fun j hj => ⟨⟨fun q => Con2.trans (fun P hP h => (hP j hj).1.mpr h) q, fun q => Con2.trans (Con2.e1 hj) q⟩, ⟨fun q => Con2.trans (fun P hP h => (hP j hj).2.mpr h) q, fun q => Con2.trans (Con2.e2 hj) q⟩⟩) Con2.refl
theorem Con2.mono {k k' x y : Nat} (h : Con2 c k x y) (hk : k ≤ k') : Con2 c k' x y := fun P hP h2 => h P (fun j hj => hP j (by omega)) h2
theorem labs2_con : ∀ k x y, labs2 c k x = labs2 c k y ↔ Con2 c k x y
  | 0, x, y => ⟨fun h => by have h2 : x = y := h; rw [h2]; exact Con2.refl, fun h => (h (fun z => x = z) (fun j hj => absurd hj (Nat.not_lt_zero j)) rfl : x = y)⟩
  | k + 1, x, y => by
    have ih := labs2_con k
    have up : ∀ {p q}, labs2 c k p = labs2 c k q → Con2 c (k + 1) p q := fun h => ((ih _ _).mp h).mono (Nat.le_succ k)
    have d1 : Con2 c (k + 1) (cf c k) (cg c k + 9) := Con2.e1 (Nat.lt_succ_self k)
    have d2 : Con2 c (k + 1) (cg c k) (cf c k + 9) := Con2.e2 (Nat.lt_succ_self k)
    -- one union
    have u1 : ∀ {p q}, uni (labs2 c k) (cf c k) (cg c k + 9) p = uni (labs2 c k) (cf c k) (cg c k + 9) q → Con2 c (k + 1) p q := fun {p q} h => by
      rcases uni_eq.mp h with h | ⟨h1, h2⟩
      · exact up h
      · have g : ∀ {z}, labs2 c k z = labs2 c k (cf c k) ∨ labs2 c k z = labs2 c k (cg c k + 9) → Con2 c (k + 1) z (cf c k) := fun {z} h => by
          rcases h with h | h
          · exact up h
          · exact (up h).trans d1.symm
        exact (g h1).trans (g h2).symm
    show uni (uni (labs2 c k) (cf c k) (cg c k + 9)) (cg c k) (cf c k + 9) x = uni (uni (labs2 c k) (cf c k) (cg c k + 9)) (cg c k) (cf c k + 9) y ↔ _
    constructor
    · intro h
      rcases uni_eq.mp h with h | ⟨h1, h2⟩
      · exact u1 h
      · have g : ∀ {z}, uni (labs2 c k) (cf c k) (cg c k + 9) z = uni (labs2 c k) (cf c k) (cg c k + 9) (cg c k) ∨ uni (labs2 c k) (cf c k) (cg c k + 9) z = uni (labs2 c k) (cf c k) (cg c k + 9) (cf c k + 9) → Con2 c (k + 1) z (cg c k) := fun {z} h => by
          rcases h with h | h
          · exact u1 h
          · exact (u1 h).trans d2.symm
        exact (g h1).trans (g h2).symm
    · intro h
      have keep : ∀ {p q}, labs2 c k p = labs2 c k q → uni (uni (labs2 c k) (cf c k) (cg c k + 9)) (cg c k) (cf c k + 9) p = uni (uni (labs2 c k) (cf c k) (cg c k + 9)) (cg c k) (cf c k + 9) q := fun h => uni_eq.mpr (Or.inl (uni_eq.mpr (Or.inl h)))
      have hP := h (fun z => uni (uni (labs2 c k) (cf c k) (cg c k + 9)) (cg c k) (cf c k + 9) x = uni (uni (labs2 c k) (cf c k) (cg c k + 9)) (cg c k) (cf c k + 9) z) (fun j hj => by
        by_cases e : j = k
        · subst e
          have e1 : uni (uni (labs2 c j) (cf c j) (cg c j + 9)) (cg c j) (cf c j + 9) (cf c j) = uni (uni (labs2 c j) (cf c j) (cg c j + 9)) (cg c j) (cf c j + 9) (cg c j + 9) := uni_eq.mpr (Or.inl (uni_eq.mpr (Or.inr ⟨Or.inl rfl, Or.inr rfl⟩)))
          have e2 : uni (uni (labs2 c j) (cf c j) (cg c j + 9)) (cg c j) (cf c j + 9) (cg c j) = uni (uni (labs2 c j) (cf c j) (cg c j + 9)) (cg c j) (cf c j + 9) (cf c j + 9) := uni_eq.mpr (Or.inr ⟨Or.inl rfl, Or.inr rfl⟩)
          exact ⟨by rw [e1], by rw [e2]⟩
        · have e1 := keep ((ih _ _).mpr (Con2.e1 (show j < k by omega)))
          have e2 := keep ((ih _ _).mpr (Con2.e2 (show j < k by omega)))
          exact ⟨by rw [e1], by rw [e2]⟩) rfl
      exact hP
theorem par_con {m z : Nat} (h : CN c m z) : Con2 c (ck c) m z ∨ Con2 c (ck c) m (z + 9) := h (fun z => Con2 c (ck c) m z ∨ Con2 c (ck c) m (z + 9)) (fun j hj _ => by
  have d1 : Con2 c (ck c) (cf c j) (cg c j + 9) := Con2.e1 hj
  have d2 : Con2 c (ck c) (cg c j) (cf c j + 9) := Con2.e2 hj
  constructor
  · rintro (q | q)
    · exact Or.inr (q.trans d1)
    · exact Or.inl (q.trans d2.symm)
  · rintro (q | q)
    · exact Or.inr (q.trans d2)
    · exact Or.inl (q.trans d1.symm)) (Or.inl Con2.refl)
/-- the first of a magnet's part -/
def rep (c : Col) (z : Nat) : Nat := (fnd (fun y => decide (labs c (fun _ => true) (ck c) y = labs c (fun _ => true) (ck c) z)) (cn c)).getD 0
theorem rep_con {z : Nat} (hz : z < cn c) : CN c z (rep c z) := by
  unfold rep
  rcases fnd_spec (fun y => decide (labs c (fun _ => true) (ck c) y = labs c (fun _ => true) (ck c) z)) (cn c) with ⟨_, h2⟩ | ⟨y, h1, _, h3, _⟩
  · exact absurd rfl (of_decide_eq_false (h2 z hz))
  · rw [h1]
    exact ((labs_con _ _ _).mp (of_decide_eq_true h3)).symm
theorem rep_eq {x y : Nat} (h : CN c x y) : rep c x = rep c y := by
  unfold rep
  rw [(labs_con _ _ _).mpr h]
theorem Prp_of_sep (hw : WF c) (h : ∀ m, m < cn c → ¬ Con2 c (ck c) m (m + 9)) : ∃ W, Prp c W := by
  refine ⟨msk (fun z => decide (labs2 c (ck c) z = labs2 c (ck c) (rep c z))) (cn c), fun j hj => ?_⟩
  have hf := hw.f hj
  have hg := hw.g hj
  have hr : rep c (cf c j) = rep c (cg c j) := rep_eq (Con.edge hj rfl)
  rw [msk_tb, msk_tb, decide_eq_true hf, decide_eq_true hg, Bool.true_and, Bool.true_and]
  have d1 : Con2 c (ck c) (cf c j) (cg c j + 9) := Con2.e1 hj
  have d2 : Con2 c (ck c) (cg c j) (cf c j + 9) := Con2.e2 hj
  by_cases h1 : Con2 c (ck c) (cf c j) (rep c (cf c j))
  · have h2 : ¬ Con2 c (ck c) (cg c j) (rep c (cg c j)) := fun q => h _ hg (q.trans (by rw [← hr]; exact h1.symm.trans d1))
    rw [decide_eq_true ((labs2_con _ _ _).mpr h1), decide_eq_false (fun q => h2 ((labs2_con _ _ _).mp q))]
    decide
  · have h2 : Con2 c (ck c) (cg c j) (rep c (cg c j)) := by
      rcases par_con ((rep_con hf).symm) with q | q
      · exact absurd q.symm h1
      · rw [← hr]; exact d2.trans q.symm
    rw [decide_eq_false (fun q => h1 ((labs2_con _ _ _).mp q)), decide_eq_true ((labs2_con _ _ _).mpr h2)]
    decide
theorem sep_of_Prp (hw : WF c) {W : Nat} (hp : Prp c W) {m : Nat} (hm : m < cn c) : ¬ Con2 c (ck c) m (m + 9) := fun h => by
  have hn := hw.n
  have q := h (fun z => if z < 9 then W.testBit z = W.testBit m else ¬ W.testBit (z - 9) = W.testBit m) (fun j hj => by
    have hf := hw.f hj
    have hg := hw.g hj
    have hne := hp j hj
    have e1 : cf c j < 9 := by omega
    have e2 : cg c j < 9 := by omega
    simp only [if_pos e1, if_pos e2, if_neg (show ¬ cg c j + 9 < 9 by omega), if_neg (show ¬ cf c j + 9 < 9 by omega), Nat.add_sub_cancel]
    cases k1 : W.testBit (cf c j) <;> cases k2 : W.testBit (cg c j) <;> cases k3 : W.testBit m <;> simp_all) (by simp only [if_pos (show m < 9 by omega)])
  simp only [if_neg (show ¬ m + 9 < 9 by omega), Nat.add_sub_cancel] at q
  exact q trivial
theorem sep_best (hw : WF c) : sep2 c = (bestF c).isSome := by
  have hs : sep2 c = true ↔ ∀ m, m < cn c → ¬ Con2 c (ck c) m (m + 9) := by
    unfold sep2
    rcases fnd_spec (fun m => decide (labs2 c (ck c) m = labs2 c (ck c) (m + 9))) (cn c) with ⟨h1, h2⟩ | ⟨m, h1, h2, h3, _⟩
    · rw [h1]
      exact ⟨fun _ m hm q => absurd ((labs2_con _ _ _).mpr q) (of_decide_eq_false (h2 m hm)), fun _ => rfl⟩
    · rw [h1]
      exact ⟨fun q => (by cases q), fun q => absurd ((labs2_con _ _ _).mp (of_decide_eq_true h3)) (q m h2)⟩
  have hb : (bestF c).isSome = true ↔ ∃ W, Prp c W := by
    obtain ⟨m1, m2⟩ := mbF_spec hw (2 ^ cn c) (Nat.le_refl _)
    rw [best_eq hw]
    cases q : mbF c (2 ^ cn c) with
    | none =>
      refine ⟨fun k => (by cases k), fun ⟨W, hW⟩ => ?_⟩
      have hS : (cw c ^^^ W) % 2 ^ cn c < 2 ^ cn c := Nat.mod_lt _ (Nat.two_pow_pos _)
      refine absurd ?_ (m1 q _ hS)
      refine ⟨hS, fun j hj => ?_⟩
      have hf := hw.f hj
      have hg := hw.g hj
      have e : ∀ z, z < cn c → (cw c ^^^ (cw c ^^^ W) % 2 ^ cn c).testBit z = W.testBit z := fun z hz => by
        rw [Nat.testBit_xor, Nat.testBit_mod_two_pow, decide_eq_true hz, Bool.true_and, Nat.testBit_xor]
        cases (cw c).testBit z <;> cases W.testBit z <;> rfl
      rw [e _ hf, e _ hg]
      exact hW j hj
    | some s => exact ⟨fun _ => ⟨_, (m2 s q).1.2⟩, fun _ => rfl⟩
  cases h1 : sep2 c <;> cases h2 : (bestF c).isSome
  · rfl
  · obtain ⟨W, hW⟩ := hb.mp h2
    have := hs.mpr (fun m hm => sep_of_Prp hw hW hm)
    rw [h1] at this; cases this
  · have := hb.mpr (Prp_of_sep hw (hs.mp h1))
    rw [h2] at this; cases this
  · rfl
end MATH2

set_option maxHeartbeats 400000
/-! MATHEMATICS: the best turn set is the least in the reference's order -/
section BEST2
variable {c : Col} {i : Nat}
theorem cnt_or {P Q : Nat → Bool} (h : ∀ i, P i = true → Q i = false) : ∀ {n}, cnt (fun i => P i || Q i) n = cnt P n + cnt Q n
  | 0 => rfl
  | n + 1 => by
    have ih := cnt_or h (n := n)
    have := h n
    unfold cnt
    cases h1 : P n <;> cases h2 : Q n <;> simp_all <;> omega
theorem pop_or2 {a b : Nat} (h : ∀ z, a.testBit z = true → b.testBit z = false) : pop (a ||| b) = pop a + pop b := by
  unfold pop
  rw [← cnt_or h]
  exact cnt_cong (fun i _ => Nat.testBit_or a b i)
def Low (a b : Nat) : Prop := ∃ z, a.testBit z = true ∧ b.testBit z = false ∧ ∀ y, y < z → a.testBit y = b.testBit y
theorem Low.asym {a b : Nat} (h1 : Low a b) (h2 : Low b a) : False := by
  obtain ⟨z, z1, z2, z3⟩ := h1
  obtain ⟨y, y1, y2, y3⟩ := h2
  rcases Nat.lt_trichotomy z y with q | q | q
  · have := y3 z q; rw [z1, z2] at this; cases this
  · subst q; rw [z1] at y2; cases y2
  · have := z3 y q; rw [y1, y2] at this; cases this
theorem Low.trans {a b d : Nat} (h1 : Low a b) (h2 : Low b d) : Low a d := by
  obtain ⟨z, z1, z2, z3⟩ := h1
  obtain ⟨y, y1, y2, y3⟩ := h2
  rcases Nat.lt_trichotomy z y with q | q | q
  · exact ⟨z, z1, by rw [← y3 z q]; exact z2, fun x hx => (z3 x hx).trans (y3 x (by omega))⟩
  · subst q; rw [z2] at y1; cases y1
  · exact ⟨y, by rw [z3 y q]; exact y1, y2, fun x hx => (z3 x (by omega)).trans (y3 x hx)⟩
theorem Low.tri {a b : Nat} (h : ¬ a = b) : Low a b ∨ Low b a := by
  have h0 : ∃ z, ¬ a.testBit z = b.testBit z := Classical.byContradiction (fun q => h (Nat.eq_of_testBit_eq (fun i => Classical.byContradiction (fun q2 => q ⟨i, q2⟩))))
  obtain ⟨z0, h0⟩ := h0
  rcases fnd_spec (fun z => !decide (a.testBit z = b.testBit z)) (z0 + 1) with ⟨_, h2⟩ | ⟨z, _, _, h3, h4⟩
  · have := h2 z0 (by omega); simp at this; exact absurd this h0
  · have h5 : ∀ y, y < z → a.testBit y = b.testBit y := fun y hy => by have := h4 y hy; simpa using this
    have h6 : ¬ a.testBit z = b.testBit z := by simpa using h3
    cases h7 : a.testBit z <;> cases h8 : b.testBit z
    · rw [h7, h8] at h6; exact absurd rfl h6
    · exact Or.inr ⟨z, h8, h7, fun y hy => (h5 y hy).symm⟩
    · exact Or.inl ⟨z, h7, h8, h5⟩
    · rw [h7, h8] at h6; exact absurd rfl h6
/-- better: fewer, or as many and the lowest that differs is in it -/
def Btr (a b : Nat) : Prop := pop a < pop b ∨ (pop a = pop b ∧ Low a b)
theorem Btr.asym {a b : Nat} (h1 : Btr a b) (h2 : Btr b a) : False := by
  rcases h1 with h1 | h1 <;> rcases h2 with h2 | h2
  · omega
  · omega
  · omega
  · exact h1.2.asym h2.2
theorem Btr.trans {a b d : Nat} (h1 : Btr a b) (h2 : Btr b d) : Btr a d := by
  rcases h1 with h1 | h1 <;> rcases h2 with h2 | h2
  · exact Or.inl (by omega)
  · exact Or.inl (by omega)
  · exact Or.inl (by omega)
  · exact Or.inr ⟨by omega, h1.2.trans h2.2⟩
theorem Btr.tri {a b : Nat} (h : ¬ a = b) : Btr a b ∨ Btr b a := by
  rcases Nat.lt_trichotomy (pop a) (pop b) with q | q | q
  · exact Or.inl (Or.inl q)
  · rcases Low.tri h with k | k
    · exact Or.inl (Or.inr ⟨q, k⟩)
    · exact Or.inr (Or.inr ⟨q.symm, k⟩)
  · exact Or.inr (Or.inl q)
theorem xor0 {a b : Nat} (e : a ^^^ b = 0) : a = b := Nat.eq_of_testBit_eq (fun j => by
  have h : (a ^^^ b).testBit j = false := by rw [e, Nat.zero_testBit]
  rw [Nat.testBit_xor] at h
  cases h1 : a.testBit j <;> cases h2 : b.testBit j <;> simp_all)
/-! the reference's -/
theorem low_all : ∀ e, e < 512 → ¬ e = 0 → ∃ z, z < 9 ∧ nI e &&& -(nI e) = nI (2 ^ z) ∧ e.testBit z = true ∧ ∀ y, y < z → e.testBit y = false := by decide +kernel
theorem lowB_iff {a b : Nat} (ha : a < 512) (hb : b < 512) (hne : ¬ a = b) : lowB a b = true ↔ Low a b := by
  have hx : a ^^^ b < 512 := Nat.xor_lt_two_pow (n := 9) ha hb
  have h0 : ¬ a ^^^ b = 0 := fun e => hne (xor0 e)
  obtain ⟨z, hz, e1, e2, e3⟩ := low_all _ hx h0
  have e4 : (nI a &&& (nI a ^^^ nI b)) &&& (-(nI a ^^^ nI b)) = nI (a &&& 2 ^ z) := by
    rw [nx_xor, Int32.and_assoc, e1, fa_and]
  have e5 : nI (a &&& 2 ^ z) = 0 ↔ a.testBit z = false := by
    have hl : a &&& 2 ^ z < 512 := Nat.lt_of_le_of_lt Nat.and_le_left ha
    rw [nI_eq0 (by omega)]
    constructor
    · intro e
      have : (a &&& 2 ^ z).testBit z = false := by rw [e, Nat.zero_testBit]
      rw [Nat.testBit_and, Nat.testBit_two_pow_self, Bool.and_true] at this
      exact this
    · intro e
      refine Nat.eq_of_testBit_eq (fun j => ?_)
      rw [Nat.testBit_and, Nat.testBit_two_pow, Nat.zero_testBit]
      by_cases q : z = j
      · subst q; rw [e]; rfl
      · rw [decide_eq_false q, Bool.and_false]
  have hd : ∀ y, (a ^^^ b).testBit y = (a.testBit y != b.testBit y) := fun y => Nat.testBit_xor ..
  have e3' : ∀ y, y < z → a.testBit y = b.testBit y := fun y hy => by
    have := e3 y hy
    rw [hd] at this
    cases h1 : a.testBit y <;> cases h2 : b.testBit y <;> simp_all
  have hdz : a.testBit z = true → b.testBit z = false := fun h1 => by
    rw [hd] at e2
    cases h2 : b.testBit z
    · rfl
    · rw [h1, h2] at e2; cases e2
  unfold lowB
  rw [e4]
  constructor
  · intro h
    have h1 : a.testBit z = true := by
      cases q : a.testBit z
      · rw [decide_eq_true (e5.mpr q)] at h; cases h
      · rfl
    exact ⟨z, h1, hdz h1, e3'⟩
  · rintro ⟨y, y1, y2, y3⟩
    have hyz : y = z := by
      rcases Nat.lt_trichotomy y z with q | q | q
      · have := e3' y q; rw [y1, y2] at this; cases this
      · exact q
      · have := y3 z q
        rw [hd, this] at e2
        simp at e2
    subst hyz
    have : ¬ nI (a &&& 2 ^ y) = 0 := fun q => by rw [e5.mp q] at y1; cases y1
    rw [decide_eq_false this]
    rfl
/-- a turn set, below m -/
def Vld (c : Col) (S : Nat) : Prop := S < 2 ^ cn c ∧ Prp c (cw c ^^^ S)
theorem mbF_spec (hw : WF c) : ∀ n, n ≤ 2 ^ cn c → (mbF c n = none → ∀ S, S < n → ¬ Vld c S) ∧ (∀ b, mbF c n = some b → Vld c b ∧ ∀ S, S < n → Vld c S → S = b ∨ Btr b S)
  | 0, _ => ⟨fun _ S h => absurd h (Nat.not_lt_zero S), fun b e => by cases e⟩
  | n + 1, hn => by
    obtain ⟨h1, h2⟩ := mbF_spec hw n (by omega)
    have h9 : 2 ^ cn c ≤ 512 := p2_le (n := 9) hw.n
    have hv : Vld c n ↔ blkN c (cw c ^^^ n) = 0 := ⟨fun h => blkN0.mpr h.2, fun h => ⟨by omega, blkN0.mp h⟩⟩
    have eM : mbF c (n + 1) = if blkN c (cw c ^^^ n) = 0 ∧ mbB (mbF c n) n = true then some n else mbF c n := rfl
    rw [eM]
    by_cases hb0 : blkN c (cw c ^^^ n) = 0
    · cases q : mbF c n with
      | none =>
        rw [if_pos ⟨hb0, rfl⟩]
        refine ⟨fun e => (by cases e), fun b e => ?_⟩
        cases e
        exact ⟨hv.mpr hb0, fun S hS hV => by
          by_cases e : S = n
          · exact Or.inl e
          · exact absurd hV (h1 q S (by omega))⟩
      | some b =>
        obtain ⟨g1, g2⟩ := h2 b q
        have hbn := mbF_lt q
        have hne : ¬ n = b := by omega
        have hB : mbB (some b) n = true ↔ Btr n b := by
          unfold mbB Btr
          rw [Bool.or_eq_true, Bool.and_eq_true, decide_eq_true_eq, decide_eq_true_eq, lowB_iff (by omega) (by omega) hne]
        by_cases hm : mbB (some b) n = true
        · rw [if_pos ⟨hb0, hm⟩]
          refine ⟨fun e => (by cases e), fun b' e => ?_⟩
          cases e
          refine ⟨hv.mpr hb0, fun S hS hV => ?_⟩
          by_cases e : S = n
          · exact Or.inl e
          · rcases g2 S (by omega) hV with rfl | g3
            · exact Or.inr (hB.mp hm)
            · exact Or.inr ((hB.mp hm).trans g3)
        · rw [if_neg (fun k => hm k.2)]
          refine ⟨fun e => (by cases e), fun b' e => ?_⟩
          cases e
          refine ⟨g1, fun S hS hV => ?_⟩
          by_cases e : S = n
          · subst e
            rcases Btr.tri hne with k | k
            · exact absurd (hB.mpr k) hm
            · exact Or.inr k
          · exact g2 S (by omega) hV
    · rw [if_neg (fun k => hb0 k.1)]
      refine ⟨fun e S hS hV => ?_, fun b e => ?_⟩
      · by_cases k : S = n
        · subst k; exact hb0 (hv.mp hV)
        · exact h1 e S (by omega) hV
      · obtain ⟨g1, g2⟩ := h2 b e
        refine ⟨g1, fun S hS hV => ?_⟩
        by_cases k : S = n
        · subst k; exact absurd (hv.mp hV) hb0
        · exact g2 S (by omega) hV
/-! the class's -/
def BI (c : Col) (i : Nat) (s : Nat × Nat × Nat) : Prop := (∀ z, s.2.1.testBit z = true ↔ z < cn c ∧ ∃ m, m < i ∧ CN c m z) ∧ (∀ z, s.1.testBit z = true → s.2.1.testBit z = true) ∧ (∀ W, Prp c W → ∀ z y, s.2.1.testBit z = true → s.2.1.testBit y = true → CN c z y → (s.1.testBit z = s.1.testBit y ↔ W.testBit z = W.testBit y)) ∧
  (∀ z, s.2.2.testBit z = true → s.2.1.testBit z = true) ∧ (∀ W, Prp c W → ∀ j, j < ck c → s.2.1.testBit (cf c j) = true → ¬ (cw c ^^^ s.2.2).testBit (cf c j) = (cw c ^^^ s.2.2).testBit (cg c j)) ∧
  (∀ S, S < 2 ^ cn c → Prp c (cw c ^^^ S) → pop s.2.2 ≤ pop (S &&& s.2.1) ∧ (pop s.2.2 = pop (S &&& s.2.1) → s.2.2 = S &&& s.2.1 ∨ Low s.2.2 (S &&& s.2.1)))
def pick (t o m : Nat) : Nat := if pop t = pop o then (if t.testBit m = true then t else o) else if pop t < pop o then t else o
theorem pick_spec {t o m : Nat} (ho : o.testBit m = !t.testBit m) (X : Nat) (hX : X = t ∨ X = o) : pop (pick t o m) ≤ pop X ∧ (pop (pick t o m) = pop X → pick t o m = X ∨ ((pick t o m).testBit m = true ∧ X.testBit m = false)) := by
  unfold pick
  by_cases h1 : pop t = pop o
  · rw [if_pos h1]
    cases h2 : t.testBit m
    · rw [h2] at ho
      rw [if_neg (by decide)]
      rcases hX with rfl | rfl
      · exact ⟨by omega, fun _ => Or.inr ⟨ho, h2⟩⟩
      · exact ⟨Nat.le_refl _, fun _ => Or.inl rfl⟩
    · rw [h2] at ho
      rw [if_pos rfl]
      rcases hX with rfl | rfl
      · exact ⟨Nat.le_refl _, fun _ => Or.inl rfl⟩
      · exact ⟨by omega, fun _ => Or.inr ⟨h2, ho⟩⟩
  · rw [if_neg h1]
    by_cases h3 : pop t < pop o
    · rw [if_pos h3]
      rcases hX with rfl | rfl
      · exact ⟨Nat.le_refl _, fun _ => Or.inl rfl⟩
      · exact ⟨by omega, fun q => by omega⟩
    · rw [if_neg h3]
      rcases hX with rfl | rfl
      · exact ⟨by omega, fun q => by omega⟩
      · exact ⟨Nat.le_refl _, fun _ => Or.inl rfl⟩
theorem pick_or (t o m : Nat) : pick t o m = t ∨ pick t o m = o := by
  unfold pick
  split
  · split
    · exact Or.inl rfl
    · exact Or.inr rfl
  · split
    · exact Or.inl rfl
    · exact Or.inr rfl
theorem btO_eq (gn P m : Nat) : btO c gn P m = pick (P &&& (gn ^^^ cw c)) (P ^^^ (P &&& (gn ^^^ cw c))) m := rfl
theorem bl1 : ∀ gz gy wz wy wi : Bool, (gz = true ↔ wz = wi) → (gy = true ↔ wy = wi) → (gz = gy ↔ wz = wy) := by decide
theorem bl2 : ∀ gz gi xz xi : Bool, (gz = gi ↔ xz = xi) → (xz = gz ↔ xi = gi) := by decide
theorem bl3 : ∀ a b x y : Bool, ¬ a = b → ¬ (x ^^ (a ^^ x)) = (y ^^ (b ^^ y)) := by decide
theorem bl4 : ∀ a b x y : Bool, ¬ a = b → ¬ (x ^^ !(a ^^ x)) = (y ^^ !(b ^^ y)) := by decide
theorem bl5 : ∀ x s g : Bool, ¬ (x ^^ s) = g → s = !(g ^^ x) := by decide
theorem bl6 : ∀ x s g : Bool, (x ^^ s) = g → s = (g ^^ x) := by decide
set_option maxHeartbeats 2000000 in
/-- a new part -/
theorem BI.new (hw : WF c) (hi : i < cn c) {s : Nat × Nat × Nat} (h : BI c i s) (hs : s.2.1.testBit i = false) : BI c (i + 1) ((giv c i s.1).2, s.2.1 ||| (giv c i s.1).1, s.2.2 ||| btO c (giv c i s.1).2 (giv c i s.1).1 i) := by
  obtain ⟨gn, seen, set⟩ := s
  obtain ⟨b1, b2, b3, b4, b5, b6⟩ := h
  simp only at b1 b2 b3 b4 b5 b6 hs ⊢
  have hns : ∀ z, CN c i z → seen.testBit z = false := fun z hz => by
    cases q : seen.testBit z
    · rfl
    · obtain ⟨_, m, hm, hc⟩ := (b1 z).mp q
      have := (b1 i).mpr ⟨hi, m, hm, hc.trans hz.symm⟩
      rw [hs] at this; cases this
  have hfr : ∀ z, z < cn c → CN c i z → gn.testBit z = false := fun z _ hc => by
    cases q : gn.testBit z
    · rfl
    · have := b2 z q; rw [hns z hc] at this; cases this
  obtain ⟨⟨g1, g2, g3, g4⟩, g5⟩ := giv_GI hw hi hfr
  have gp := fun z => giv_part hw hi hfr (z := z)
  generalize hP : (giv c i gn).1 = P at g1 g2 g3 g4 g5 gp ⊢
  generalize hG : (giv c i gn).2 = G at g3 g4 ⊢
  have hPs : ∀ z, P.testBit z = true → seen.testBit z = false := fun z hz => hns z ((gp z).mp hz).2
  have hsP : ∀ z, seen.testBit z = true → P.testBit z = false := fun z hz => by
    cases q : P.testBit z
    · rfl
    · have := hPs z q; rw [hz] at this; cases this
  have hmin : ∀ z, P.testBit z = true → i ≤ z := fun z hz => by
    rcases Nat.lt_or_ge z i with q | q
    · have := (b1 z).mpr ⟨((gp z).mp hz).1, z, q, Con.refl⟩
      rw [hPs z hz] at this; cases this
    · exact q
  have hGs : ∀ z, P.testBit z = false → G.testBit z = gn.testBit z := g3
  have hPc : ∀ z y, P.testBit z = true → y < cn c → CN c z y → P.testBit y = true := fun z y hz hy hc => (gp y).mpr ⟨hy, ((gp z).mp hz).2.trans hc⟩
  -- poles in the new part
  have c3 : ∀ W, Prp c W → ∀ z y, P.testBit z = true → P.testBit y = true → (G.testBit z = G.testBit y ↔ W.testBit z = W.testBit y) := fun W hp z y hz hy => by
    exact bl1 _ _ _ _ _ (g4 W hp z hz) (g4 W hp y hy)
  -- the two sets
  have ht : ∀ z, P.testBit z = true → (P &&& (G ^^^ cw c)).testBit z = (G.testBit z ^^ (cw c).testBit z) := fun z hz => by rw [Nat.testBit_and, hz, Nat.testBit_xor, Bool.true_and]
  have htn : ∀ z, P.testBit z = false → (P &&& (G ^^^ cw c)).testBit z = false := fun z hz => by rw [Nat.testBit_and, hz, Bool.false_and]
  have ho : ∀ z, P.testBit z = true → (P ^^^ (P &&& (G ^^^ cw c))).testBit z = !(P &&& (G ^^^ cw c)).testBit z := fun z hz => by rw [Nat.testBit_xor, hz, Bool.true_xor]
  have hon : ∀ z, P.testBit z = false → (P ^^^ (P &&& (G ^^^ cw c))).testBit z = false := fun z hz => by rw [Nat.testBit_xor, hz, htn z hz]; rfl
  rw [btO_eq]
  have hps := fun X hX => pick_spec (t := P &&& (G ^^^ cw c)) (o := P ^^^ (P &&& (G ^^^ cw c))) (m := i) (ho i g1) X hX
  have hpo := pick_or (P &&& (G ^^^ cw c)) (P ^^^ (P &&& (G ^^^ cw c))) i
  generalize hB : pick (P &&& (G ^^^ cw c)) (P ^^^ (P &&& (G ^^^ cw c))) i = B at hps hpo ⊢
  have hBn : ∀ z, P.testBit z = false → B.testBit z = false := fun z hz => by
    rcases hpo with e | e
    · rw [e]; exact htn z hz
    · rw [e]; exact hon z hz
  have hBs : ∀ z, seen.testBit z = true → B.testBit z = false := fun z hz => hBn z (hsP z hz)
  have hsetP : ∀ z, P.testBit z = true → set.testBit z = false := fun z hz => by
    cases q : set.testBit z
    · rfl
    · have := b4 z q; rw [hPs z hz] at this; cases this
  refine ⟨fun z => ?_, fun z hz => ?_, fun W hp z y hz hy hc => ?_, fun z hz => ?_, fun W hp j hj hf => ?_, fun S hS hp => ?_⟩
  · rw [Nat.testBit_or, Bool.or_eq_true, b1, gp]
    constructor
    · rintro (⟨h1, m, h2, h3⟩ | ⟨h1, h2⟩)
      · exact ⟨h1, m, by omega, h3⟩
      · exact ⟨h1, i, by omega, h2⟩
    · rintro ⟨h1, m, h2, h3⟩
      by_cases e : m = i
      · subst e; exact Or.inr ⟨h1, h3⟩
      · exact Or.inl ⟨h1, m, by omega, h3⟩
  · rw [Nat.testBit_or, Bool.or_eq_true]
    cases q : P.testBit z
    · rw [hGs z q] at hz; exact Or.inl (b2 z hz)
    · exact Or.inr rfl
  · rw [Nat.testBit_or, Bool.or_eq_true] at hz hy
    cases q : P.testBit z
    · have hz2 : seen.testBit z = true := by rcases hz with k | k; exact k; rw [q] at k; cases k
      have hyP : P.testBit y = false := by
        cases k : P.testBit y
        · rfl
        · have := hPc y z k ((b1 z).mp hz2).1 hc.symm
          rw [q] at this; cases this
      have hy2 : seen.testBit y = true := by rcases hy with k | k; exact k; rw [hyP] at k; cases k
      rw [hGs z q, hGs y hyP]
      exact b3 W hp z y hz2 hy2 hc
    · have hyl : y < cn c := by
        rcases hy with k | k
        · exact ((b1 y).mp k).1
        · exact ((gp y).mp k).1
      exact c3 W hp z y q (hPc z y q hyl hc)
  · rw [Nat.testBit_or, Bool.or_eq_true] at hz ⊢
    rcases hz with k | k
    · exact Or.inl (b4 z k)
    · cases q : P.testBit z
      · rw [hBn z q] at k; cases k
      · exact Or.inr rfl
  · have hfg : CN c (cf c j) (cg c j) := Con.edge hj rfl
    rw [Nat.testBit_or, Bool.or_eq_true] at hf
    rw [Nat.testBit_xor, Nat.testBit_xor, Nat.testBit_or, Nat.testBit_or]
    cases q : P.testBit (cf c j)
    · have hf2 : seen.testBit (cf c j) = true := by rcases hf with k | k; exact k; rw [q] at k; cases k
      have hg2 : P.testBit (cg c j) = false := by
        cases k : P.testBit (cg c j)
        · rfl
        · have := hPc _ _ k (hw.f hj) hfg.symm
          rw [q] at this; cases this
      rw [hBn _ q, hBn _ hg2, Bool.or_false, Bool.or_false, ← Nat.testBit_xor, ← Nat.testBit_xor]
      exact b5 W hp j hj hf2
    · have hg2 := hPc _ _ q (hw.g hj) hfg
      have hne := (not_congr (c3 W hp _ _ q hg2)).mpr (hp j hj)
      rw [hsetP _ q, hsetP _ hg2, Bool.false_or, Bool.false_or]
      rcases hpo with e | e
      · rw [e, ht _ q, ht _ hg2]
        exact bl3 _ _ _ _ hne
      · rw [e, ho _ q, ho _ hg2, ht _ q, ht _ hg2]
        exact bl4 _ _ _ _ hne
  · obtain ⟨d1, d2⟩ := b6 S hS hp
    -- what S has of the new part
    have hX : S &&& P = P &&& (G ^^^ cw c) ∨ S &&& P = P ^^^ (P &&& (G ^^^ cw c)) := by
      have key : ∀ z, P.testBit z = true → (((cw c ^^^ S).testBit z = G.testBit z) ↔ ((cw c ^^^ S).testBit i = G.testBit i)) := fun z hz => by
        exact bl2 _ _ _ _ (c3 _ hp z i hz g1)
      by_cases e : (cw c ^^^ S).testBit i = G.testBit i
      · refine Or.inl (Nat.eq_of_testBit_eq (fun z => ?_))
        cases q : P.testBit z
        · rw [htn z q, Nat.testBit_and, q, Bool.and_false]
        · have := (key z q).mpr e
          rw [Nat.testBit_xor] at this
          rw [ht z q, Nat.testBit_and, q, Bool.and_true]
          exact bl6 _ _ _ this
      · refine Or.inr (Nat.eq_of_testBit_eq (fun z => ?_))
        cases q : P.testBit z
        · rw [hon z q, Nat.testBit_and, q, Bool.and_false]
        · have := (not_congr (key z q)).mpr e
          rw [Nat.testBit_xor] at this
          rw [ho z q, ht z q, Nat.testBit_and, q, Bool.and_true]
          exact bl5 _ _ _ this
    obtain ⟨p1, p2⟩ := hps (S &&& P) hX
    have eS : S &&& (seen ||| P) = (S &&& seen) ||| (S &&& P) := by
      refine Nat.eq_of_testBit_eq (fun z => ?_)
      rw [Nat.testBit_and, Nat.testBit_or, Nat.testBit_or, Nat.testBit_and, Nat.testBit_and, Bool.and_or_distrib_left]
    have ea : pop (set ||| B) = pop set + pop B := pop_or2 (fun z hz => hBs z (b4 z hz))
    have eb : pop (S &&& (seen ||| P)) = pop (S &&& seen) + pop (S &&& P) := by
      rw [eS]
      refine pop_or2 (fun z hz => ?_)
      rw [Nat.testBit_and, Bool.and_eq_true] at hz
      rw [Nat.testBit_and, hsP z hz.2, Bool.and_false]
    show pop (set ||| B) ≤ pop (S &&& (seen ||| P)) ∧ (pop (set ||| B) = pop (S &&& (seen ||| P)) → set ||| B = S &&& (seen ||| P) ∨ Low (set ||| B) (S &&& (seen ||| P)))
    refine ⟨by omega, fun q => ?_⟩
    have q1 := d2 (by omega)
    have q2 := p2 (by omega)
    have bS : ∀ z, (S &&& (seen ||| P)).testBit z = (S.testBit z && (seen.testBit z || P.testBit z)) := fun z => by rw [Nat.testBit_and, Nat.testBit_or]
    have bT : ∀ z, (set ||| B).testBit z = (set.testBit z || B.testBit z) := fun z => Nat.testBit_or ..
    rcases q1 with q1 | ⟨z1, z2, z3, z4⟩
    · rcases q2 with q2 | ⟨y1, y2⟩
      · exact Or.inl (by rw [eS, q1, q2])
      · refine Or.inr ⟨i, by rw [bT, y1, Bool.or_true], ?_, fun y hy => ?_⟩
        · rw [Nat.testBit_and, g1, Bool.and_true] at y2
          rw [bS, y2, Bool.false_and]
        · have hyP : P.testBit y = false := by
            cases k : P.testBit y
            · rfl
            · have := hmin y k; omega
          rw [bT, bS, hBn y hyP, hyP, Bool.or_false, Bool.or_false, ← Nat.testBit_and, q1]
    · have z1s := b4 z1 z2
      have z1P := hsP z1 z1s
      rw [Nat.testBit_and, z1s, Bool.and_true] at z3
      have base : ∀ y, y < z1 → P.testBit y = false → (set ||| B).testBit y = (S &&& (seen ||| P)).testBit y := fun y hy hyP => by
        rw [bT, bS, hBn y hyP, hyP, Bool.or_false, Bool.or_false, ← Nat.testBit_and]
        exact z4 y hy
      rcases q2 with q2 | ⟨y1, y2⟩
      · refine Or.inr ⟨z1, by rw [bT, z2, Bool.true_or], by rw [bS, z3, Bool.false_and], fun y hy => ?_⟩
        cases hyP : P.testBit y
        · exact base y hy hyP
        · have := congrArg (fun w => w.testBit y) q2
          simp only [Nat.testBit_and, hyP, Bool.and_true] at this
          rw [bT, bS, hsetP y hyP, hyP, this, Bool.false_or, Bool.or_true, Bool.and_true]
      · rw [Nat.testBit_and, g1, Bool.and_true] at y2
        rcases Nat.lt_trichotomy z1 i with k | k | k
        · refine Or.inr ⟨z1, by rw [bT, z2, Bool.true_or], by rw [bS, z3, Bool.false_and], fun y hy => base y hy ?_⟩
          cases hyP : P.testBit y
          · rfl
          · have := hmin y hyP; omega
        · subst k; rw [z1s] at hs; cases hs
        · refine Or.inr ⟨i, by rw [bT, y1, Bool.or_true], by rw [bS, y2, Bool.false_and], fun y hy => base y (by omega) ?_⟩
          cases hyP : P.testBit y
          · rfl
          · have := hmin y hyP; omega
theorem BI.run (hw : WF c) : ∀ i, i ≤ cn c → BI c i (bsts c i)
  | 0, _ => by
    refine ⟨fun z => ?_, fun z hz => ?_, fun W _ z y hz => ?_, fun z hz => ?_, fun W _ j _ hf => ?_, fun S _ _ => ?_⟩
    · show (0 : Nat).testBit z = true ↔ _
      rw [Nat.zero_testBit]
      exact ⟨fun h => (by cases h), fun ⟨_, m, h, _⟩ => absurd h (Nat.not_lt_zero m)⟩
    · have hz : (0 : Nat).testBit z = true := hz
      rw [Nat.zero_testBit] at hz; cases hz
    · have hz : (0 : Nat).testBit z = true := hz
      rw [Nat.zero_testBit] at hz; cases hz
    · have hz : (0 : Nat).testBit z = true := hz
      rw [Nat.zero_testBit] at hz; cases hz
    · have hf : (0 : Nat).testBit (cf c j) = true := hf
      rw [Nat.zero_testBit] at hf; cases hf
    · show pop 0 ≤ pop (S &&& 0) ∧ (_ → 0 = S &&& 0 ∨ _)
      rw [Nat.and_zero]
      exact ⟨Nat.le_refl _, fun _ => Or.inl rfl⟩
  | i + 1, hi => by
    have ih := BI.run hw i (by omega)
    show BI c (i + 1) (if (bsts c i).2.1.testBit i then bsts c i else _)
    cases q : (bsts c i).2.1.testBit i
    · rw [if_neg (by decide)]
      exact BI.new hw (by omega) ih q
    · rw [if_pos rfl]
      obtain ⟨b1, b2⟩ := ih
      refine ⟨fun z => ?_, b2⟩
      rw [b1]
      constructor
      · rintro ⟨h1, m, h2, h3⟩; exact ⟨h1, m, by omega, h3⟩
      · rintro ⟨h1, m, h2, h3⟩
        by_cases e : m = i
        · subst e
          obtain ⟨_, m2, k1, k2⟩ := (b1 m).mp q
          exact ⟨h1, m2, k1, k2.trans h3⟩
        · exact ⟨h1, m, by omega, h3⟩
/-- the class's best set is the reference's -/
theorem best_eq (hw : WF c) : bestF c = mbF c (2 ^ cn c) := by
  obtain ⟨b1, b2, b3, b4, b5, b6⟩ := BI.run hw (cn c) (Nat.le_refl _)
  obtain ⟨m1, m2⟩ := mbF_spec hw (2 ^ cn c) (Nat.le_refl _)
  have hseen : ∀ z, (bsts c (cn c)).2.1.testBit z = true ↔ z < cn c := fun z => by
    rw [b1]
    exact ⟨fun h => h.1, fun h => ⟨h, z, h, Con.refl⟩⟩
  have hlt : (bsts c (cn c)).2.2 < 2 ^ cn c := Nat.lt_pow_two_of_testBit _ (fun z hz => by
    cases q : (bsts c (cn c)).2.2.testBit z
    · rfl
    · have := (hseen z).mp (b4 z q); omega)
  have prp : ∀ W, Prp c W → Prp c (bsts c (cn c)).1 := fun W hp j hj => (not_congr (b3 W hp _ _ ((hseen _).mpr (hw.f hj)) ((hseen _).mpr (hw.g hj)) (Con.edge hj rfl))).mpr (hp j hj)
  unfold bestF
  by_cases h0 : blkN c (bsts c (cn c)).1 = 0
  · rw [if_pos h0]
    have hp := blkN0.mp h0
    have hv : Vld c (bsts c (cn c)).2.2 := ⟨hlt, fun j hj => b5 _ hp j hj ((hseen _).mpr (hw.f hj))⟩
    cases q : mbF c (2 ^ cn c) with
    | none => exact absurd hv (m1 q _ hlt)
    | some b =>
      obtain ⟨v1, v2⟩ := m2 b q
      refine congrArg some ?_
      rcases v2 _ hlt hv with e | e
      · exact e
      · obtain ⟨d1, d2⟩ := b6 b v1.1 v1.2
        have eb : b &&& (bsts c (cn c)).2.1 = b := Nat.eq_of_testBit_eq (fun z => by
          rw [Nat.testBit_and]
          cases k : b.testBit z
          · rfl
          · have : z < cn c := by
              rcases Nat.lt_or_ge z (cn c) with k2 | k2
              · exact k2
              · rw [Nat.testBit_lt_two_pow (Nat.lt_of_lt_of_le v1.1 (Nat.pow_le_pow_right (by decide) k2))] at k; cases k
            rw [(hseen z).mpr this]; rfl)
        rw [eb] at d1 d2
        rcases e with e | ⟨e1, e2⟩
        · omega
        · rcases d2 e1.symm with k | k
          · exact k
          · exact (k.asym e2).elim
  · rw [if_neg h0]
    cases q : mbF c (2 ^ cn c) with
    | none => rfl
    | some b =>
      exact absurd (blkN0.mpr (prp _ (m2 b q).1.2)) h0
end BEST2

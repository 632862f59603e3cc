set_option maxHeartbeats 400000
/-! MATHEMATICS: the best turn set -/
section BEST
variable {c : Col} {m gn w i n : Nat}
theorem cnt_zero {P : Nat → Bool} : ∀ {n}, cnt P n = 0 ↔ ∀ i, i < n → P i = false
  | 0 => ⟨fun _ i hi => absurd hi (Nat.not_lt_zero i), fun _ => rfl⟩
  | n + 1 => by
    have ih := cnt_zero (P := P) (n := n)
    unfold cnt
    cases h : P n
    · simp only [Bool.false_eq_true, if_false, Nat.add_zero]
      rw [ih]
      exact ⟨fun q i hi => by by_cases e : i = n; rw [e]; exact h; exact q i (by omega), fun q i hi => q i (by omega)⟩
    · simp only [if_true]
      exact ⟨fun q => by omega, fun q => by have := q n (by omega); rw [h] at this; cases this⟩
theorem cnt_sub {P Q : Nat → Bool} (h : ∀ i, P i = true → Q i = true) : ∀ {n}, cnt P n ≤ cnt Q n
  | 0 => Nat.le_refl _
  | n + 1 => by
    have ih := cnt_sub h (n := n)
    have := h n
    unfold cnt
    cases h1 : P n <;> cases h2 : Q n <;> simp_all <;> omega
theorem cnt_more {P Q : Nat → Bool} (h : ∀ i, P i = true → Q i = true) {z : Nat} (h1 : Q z = true) (h2 : P z = false) : ∀ {n}, z < n → cnt P n + 1 ≤ cnt Q n
  | 0, hz => absurd hz (Nat.not_lt_zero z)
  | n + 1, hz => by
    unfold cnt
    by_cases e : z = n
    · subst e
      have := cnt_sub h (n := z)
      rw [h1, h2]
      simp only [if_true, Bool.false_eq_true, if_false]
      omega
    · have ih := cnt_more h h1 h2 (n := n) (by omega)
      have := h n
      cases h3 : P n <;> cases h4 : Q n <;> simp_all <;> omega
theorem cnt_full {P : Nat → Bool} : ∀ {n}, n ≤ cnt P n → ∀ i, i < n → P i = true
  | 0, _, i, hi => absurd hi (Nat.not_lt_zero i)
  | n + 1, h, i, hi => by
    have h9 := cnt_le P n
    unfold cnt at h
    cases h1 : P n
    · rw [h1] at h; simp only [Bool.false_eq_true, if_false] at h; omega
    · rw [h1] at h
      simp only [if_true] at h
      by_cases e : i = n
      · rw [e]; exact h1
      · exact cnt_full (n := n) (by omega) i (by omega)
abbrev CN (c : Col) (a b : Nat) : Prop := Con c (fun _ => true) (ck c) a b
/-- all tunnels are open -/
def Prp (c : Col) (W : Nat) : Prop := ∀ j, j < ck c → ¬ W.testBit (cf c j) = W.testBit (cg c j)
theorem blkN0 : blkN c w = 0 ↔ Prp c w := by
  unfold blkN Prp
  rw [cnt_zero]
  unfold blk
  exact ⟨fun h j hj q => by have := h j hj; rw [q] at this; simp at this, fun h j hj => by simpa using h j hj⟩
theorem or_tb {a x z : Nat} : (a ||| 2 ^ x).testBit z = (a.testBit z || decide (x = z)) := by rw [Nat.testBit_or, Nat.testBit_two_pow]
/-- poles being given from m on -/
def GI (c : Col) (m gn : Nat) (s : Nat × Nat) : Prop := s.1.testBit m = true ∧ (∀ z, s.1.testBit z = true → z < cn c ∧ CN c m z) ∧ (∀ z, s.1.testBit z = false → s.2.testBit z = gn.testBit z) ∧ (∀ W, Prp c W → ∀ z, s.1.testBit z = true → (s.2.testBit z = true ↔ W.testBit z = W.testBit m))
theorem GI.add {s : Nat × Nat} {x y : Nat} (hfr : ∀ z, z < cn c → CN c m z → gn.testBit z = false) (h : GI c m gn s) (hy : s.1.testBit y = true) (hx : s.1.testBit x = false) (hyx : CN c y x) (hxl : x < cn c) (hW : ∀ W, Prp c W → ¬ W.testBit y = W.testBit x) : GI c m gn (s.1 ||| 2 ^ x, if s.2.testBit y = true then s.2 else s.2 ||| 2 ^ x) := by
  obtain ⟨h1, h2, h3, h4⟩ := h
  have hmx : CN c m x := (h2 y hy).2.trans hyx
  have hsx : s.2.testBit x = false := (h3 x hx).trans (hfr x hxl hmx)
  refine ⟨by rw [or_tb, h1]; rfl, fun z hz => ?_, fun z hz => ?_, fun W hp z hz => ?_⟩
  · rw [or_tb, Bool.or_eq_true, decide_eq_true_eq] at hz
    rcases hz with hz | rfl
    · exact h2 z hz
    · exact ⟨hxl, hmx⟩
  · rw [or_tb, Bool.or_eq_false_iff, decide_eq_false_iff_not] at hz
    show (if s.2.testBit y = true then s.2 else s.2 ||| 2 ^ x).testBit z = _
    split
    · exact h3 z hz.1
    · rw [or_tb, decide_eq_false hz.2, Bool.or_false]; exact h3 z hz.1
  · show (if s.2.testBit y = true then s.2 else s.2 ||| 2 ^ x).testBit z = true ↔ _
    rw [or_tb, Bool.or_eq_true, decide_eq_true_eq] at hz
    have hyW := h4 W hp y hy
    have hne := hW W hp
    rcases hz with hz | rfl
    · have hzx : ¬ x = z := fun e => by rw [e] at hx; rw [hx] at hz; cases hz
      split
      · exact h4 W hp z hz
      · rw [or_tb, decide_eq_false hzx, Bool.or_false]; exact h4 W hp z hz
    · split
      · rename_i q
        rw [hsx]
        have := hyW.mp q
        exact ⟨fun k => (by cases k), fun k => absurd (this.trans k.symm) hne⟩
      · rename_i q
        rw [or_tb]
        simp only [decide_true, Bool.or_true, true_iff]
        have h9 : ¬ W.testBit y = W.testBit m := fun k => q (hyW.mpr k)
        cases h5 : W.testBit y <;> cases h6 : W.testBit x <;> cases h7 : W.testBit m <;> simp_all
theorem pst_sub {s : Nat × Nat} {j z : Nat} (h : s.1.testBit z = true) : (pst c j s).1.testBit z = true := by
  unfold pst
  split
  · exact h
  · show (s.1 ||| 2 ^ _).testBit z = true
    rw [or_tb, h]; rfl
theorem GI.pst (hw : WF c) {s : Nat × Nat} {j : Nat} (hj : j < ck c) (hfr : ∀ z, z < cn c → CN c m z → gn.testBit z = false) (h : GI c m gn s) : GI c m gn (_root_.id (pst c j s)) := by
  have hfg : CN c (cf c j) (cg c j) := Con.edge hj rfl
  show GI c m gn (if s.1.testBit (cf c j) = s.1.testBit (cg c j) then s else _)
  split
  · exact h
  · rename_i q
    by_cases h1 : s.1.testBit (cf c j) = true
    · have h2 : s.1.testBit (cg c j) = false := by cases e : s.1.testBit (cg c j); rfl; rw [h1, e] at q; exact absurd rfl q
      have hg : s.2.testBit (cg c j) = false := (h.2.2.1 _ h2).trans (hfr _ (hw.g hj) ((h.2.1 _ h1).2.trans hfg))
      have := h.add hfr h1 h2 hfg (hw.g hj) (fun W hp => hp j hj)
      rw [if_pos h1, hg, Bool.or_false]
      exact this
    · have h1 : s.1.testBit (cf c j) = false := by simpa using h1
      have h2 : s.1.testBit (cg c j) = true := by cases e : s.1.testBit (cg c j); rw [h1, e] at q; exact absurd rfl q; rfl
      have hg : s.2.testBit (cf c j) = false := (h.2.2.1 _ h1).trans (hfr _ (hw.f hj) ((h.2.1 _ h2).2.trans hfg.symm))
      have := h.add hfr h2 h1 hfg.symm (hw.f hj) (fun W hp q2 => hp j hj q2.symm)
      rw [if_neg (by rw [h1]; decide), hg, Bool.false_or]
      exact this
def Cls (c : Col) (P : Nat) : Prop := ∀ j, j < ck c → P.testBit (cf c j) = P.testBit (cg c j)
theorem pass_sub {s : Nat × Nat} {z : Nat} (h : s.1.testBit z = true) : ∀ k, (iter (pst c) k s).1.testBit z = true
  | 0 => h
  | k + 1 => pst_sub (pass_sub h k)
theorem pass_GI (hw : WF c) {s : Nat × Nat} (hfr : ∀ z, z < cn c → CN c m z → gn.testBit z = false) (h : GI c m gn s) : ∀ k, k ≤ ck c → GI c m gn (iter (pst c) k s)
  | 0, _ => h
  | k + 1, hk => (pass_GI hw hfr h k (by omega)).pst hw (by omega) hfr
theorem pass_cls {s : Nat × Nat} (h : Cls c s.1) : ∀ k, k ≤ ck c → iter (pst c) k s = s
  | 0, _ => rfl
  | k + 1, hk => by
    show pst c k (iter (pst c) k s) = s
    rw [pass_cls h k (by omega)]
    exact if_pos (h k (by omega))
/-- a pass reaches a further magnet, or there is none left -/
theorem pass_or {s : Nat × Nat} : ∀ k, k ≤ ck c → (∃ z, (iter (pst c) k s).1.testBit z = true ∧ s.1.testBit z = false) ∨ (iter (pst c) k s = s ∧ ∀ j, j < k → s.1.testBit (cf c j) = s.1.testBit (cg c j))
  | 0, _ => Or.inr ⟨rfl, fun j hj => absurd hj (Nat.not_lt_zero j)⟩
  | k + 1, hk => by
    rcases pass_or (s := s) k (by omega) with ⟨z, h1, h2⟩ | ⟨h1, h2⟩
    · exact Or.inl ⟨z, pst_sub h1, h2⟩
    · by_cases q : s.1.testBit (cf c k) = s.1.testBit (cg c k)
      · refine Or.inr ⟨?_, fun j hj => ?_⟩
        · show pst c k (iter (pst c) k s) = s
          rw [h1]; exact if_pos q
        · by_cases e : j = k
          · rw [e]; exact q
          · exact h2 j (by omega)
      · refine Or.inl ⟨if s.1.testBit (cf c k) then cg c k else cf c k, ?_, ?_⟩
        · show (pst c k (iter (pst c) k s)).1.testBit _ = true
          rw [h1]
          unfold pst
          rw [if_neg q]
          show (s.1 ||| 2 ^ _).testBit _ = true
          rw [or_tb, decide_eq_true rfl, Bool.or_true]
        · cases h3 : s.1.testBit (cf c k) <;> cases h4 : s.1.testBit (cg c k) <;> simp_all
theorem giv_run (hw : WF c) {s : Nat × Nat} (hfr : ∀ z, z < cn c → CN c m z → gn.testBit z = false) (h : GI c m gn s) : ∀ t, GI c m gn (iter (prow c) t s) ∧ (Cls c (iter (prow c) t s).1 ∨ cnt s.1.testBit (cn c) + t ≤ cnt (iter (prow c) t s).1.testBit (cn c))
  | 0 => ⟨h, Or.inr (Nat.le_refl _)⟩
  | t + 1 => by
    obtain ⟨g1, g2⟩ := giv_run hw hfr h t
    generalize e : iter (prow c) t s = s1 at g1 g2
    have e2 : iter (prow c) (t + 1) s = iter (pst c) (ck c) s1 := by
      show prow c t (iter (prow c) t s) = _
      rw [e]; rfl
    rw [e2]
    refine ⟨pass_GI hw hfr g1 _ (Nat.le_refl _), ?_⟩
    rcases g2 with g2 | g2
    · rw [pass_cls g2 _ (Nat.le_refl _)]; exact Or.inl g2
    · rcases pass_or (c := c) (s := s1) (ck c) (Nat.le_refl _) with ⟨z, h1, h2⟩ | ⟨h1, h2⟩
      · have hz := ((pass_GI hw hfr g1 _ (Nat.le_refl _)).2.1 z h1).1
        have := cnt_more (P := s1.1.testBit) (Q := (iter (pst c) (ck c) s1).1.testBit) (fun i hi => pass_sub hi _) h1 h2 hz
        exact Or.inr (by omega)
      · rw [h1]; exact Or.inl h2
theorem two_tb {z : Nat} : (2 ^ m).testBit z = decide (m = z) := Nat.testBit_two_pow
theorem giv_GI (hw : WF c) (hm : m < cn c) (hfr : ∀ z, z < cn c → CN c m z → gn.testBit z = false) : GI c m gn (giv c m gn) ∧ Cls c (giv c m gn).1 := by
  have h0 : GI c m gn (2 ^ m, gn ||| 2 ^ m) := by
    refine ⟨by show (2 ^ m).testBit m = true; rw [two_tb]; exact decide_eq_true rfl, fun z hz => ?_, fun z hz => ?_, fun W hp z hz => ?_⟩
    · have hz : (2 ^ m).testBit z = true := hz
      rw [two_tb, decide_eq_true_eq] at hz
      subst hz
      exact ⟨hm, Con.refl⟩
    · have hz : (2 ^ m).testBit z = false := hz
      rw [two_tb] at hz
      show (gn ||| 2 ^ m).testBit z = _
      rw [or_tb, hz, Bool.or_false]
    · have hz : (2 ^ m).testBit z = true := hz
      rw [two_tb, decide_eq_true_eq] at hz
      subst hz
      show (gn ||| 2 ^ m).testBit m = true ↔ _
      rw [or_tb]; simp
  obtain ⟨g1, g2⟩ := giv_run hw hfr h0 (cn c - 1)
  refine ⟨g1, ?_⟩
  rcases g2 with g2 | g2
  · exact g2
  · have h1 : 1 ≤ cnt (2 ^ m).testBit (cn c) := by
      have := cnt_more (P := fun _ => false) (Q := (2 ^ m).testBit) (z := m) (n := cn c) (fun i hi => by cases hi) (by rw [two_tb]; exact decide_eq_true rfl) rfl hm
      omega
    have h2 : cn c ≤ cnt (giv c m gn).1.testBit (cn c) := by
      have g3 : cnt (2 ^ m).testBit (cn c) + (cn c - 1) ≤ cnt (giv c m gn).1.testBit (cn c) := g2
      omega
    have h3 := cnt_full h2
    exact fun j hj => (h3 _ (hw.f hj)).trans (h3 _ (hw.g hj)).symm
theorem giv_part (hw : WF c) (hm : m < cn c) (hfr : ∀ z, z < cn c → CN c m z → gn.testBit z = false) {z : Nat} : (giv c m gn).1.testBit z = true ↔ z < cn c ∧ CN c m z := by
  obtain ⟨h1, h2⟩ := giv_GI hw hm hfr
  exact ⟨fun h => h1.2.1 z h, fun h => h.2 (fun z => (giv c m gn).1.testBit z = true) (fun j hj _ => by show _ = true ↔ _ = true; rw [h2 j hj]) h1.1⟩
end BEST

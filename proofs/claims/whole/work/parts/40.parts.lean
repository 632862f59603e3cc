/-! MATHEMATICS: connection, parts -/
/-- b is connected to a by the tunnels below k that are used -/
def Con (c : Col) (use : Nat → Bool) (k a b : Nat) : Prop := ∀ P : Nat → Prop, (∀ j, j < k → use j = true → (P (cf c j) ↔ P (cg c j))) → P a → P b
section PARTS
variable {c : Col} {use : Nat → Bool} {k a b x y z : Nat}
theorem Con.refl : Con c use k x x := fun _ _ h => h
theorem Con.trans (h1 : Con c use k x y) (h2 : Con c use k y z) : Con c use k x z := fun P hP h => h2 P hP (h1 P hP h)
theorem Con.symm (h : Con c use k x y) : Con c use k y x := h (fun z => Con c use k z x) (fun j hj hu => ⟨fun q => Con.trans (fun P hP h => (hP j hj hu).mpr h) q, fun q => Con.trans (fun P hP h => (hP j hj hu).mp h) q⟩) Con.refl
theorem Con.edge {j : Nat} (hj : j < k) (hu : use j = true) : Con c use k (cf c j) (cg c j) := fun _ hP h => (hP j hj hu).mp h
theorem Con.mono {k' : Nat} (h : Con c use k x y) (hk : k ≤ k') : Con c use k' x y := fun P hP h2 => h P (fun j hj => hP j (by omega)) h2
theorem Con.wide {use' : Nat → Bool} (h : Con c use k x y) (hu : ∀ j, j < k → use j = true → use' j = true) : Con c use' k x y := fun P hP h2 => h P (fun j hj h3 => hP j hj (hu j hj h3)) h2
theorem uni_eq {L : Nat → Nat} : uni L a b x = uni L a b y ↔ L x = L y ∨ ((L x = L a ∨ L x = L b) ∧ (L y = L a ∨ L y = L b)) := by
  unfold uni
  by_cases h1 : L x = L b <;> by_cases h2 : L y = L b <;> simp only [h1, h2, if_true, if_false] <;> grind
theorem labs_con : ∀ k x y, labs c use k x = labs c use k y ↔ Con c use k x y
  | 0, x, y => ⟨fun h => by have h2 : x = y := h; rw [h2]; exact Con.refl, fun h => (h (fun z => x = z) (fun j hj => absurd hj (Nat.not_lt_zero j)) rfl : x = y)⟩
  | k + 1, x, y => by
    have ih := labs_con k
    unfold labs
    by_cases hu : use k = true
    · rw [if_pos hu, uni_eq]
      have up : ∀ {p q}, labs c use k p = labs c use k q → Con c use (k + 1) p q := fun h => ((ih _ _).mp h).mono (Nat.le_succ k)
      have ed : Con c use (k + 1) (cf c k) (cg c k) := Con.edge (Nat.lt_succ_self k) hu
      constructor
      · rintro (h | ⟨h1, h2⟩)
        · exact up h
        · have g1 : Con c use (k + 1) x (cf c k) := by
            rcases h1 with h1 | h1
            · exact up h1
            · exact (up h1).trans ed.symm
          have g2 : Con c use (k + 1) y (cf c k) := by
            rcases h2 with h2 | h2
            · exact up h2
            · exact (up h2).trans ed.symm
          exact g1.trans g2.symm
      · intro h
        refine h (fun z => labs c use k x = labs c use k z ∨ ((labs c use k x = labs c use k (cf c k) ∨ labs c use k x = labs c use k (cg c k)) ∧ (labs c use k z = labs c use k (cf c k) ∨ labs c use k z = labs c use k (cg c k)))) (fun j hj huj => ?_) (Or.inl rfl)
        by_cases e : j = k
        · subst e
          constructor
          · rintro (h1 | h1)
            · exact Or.inr ⟨Or.inl h1, Or.inr rfl⟩
            · exact Or.inr ⟨h1.1, Or.inr rfl⟩
          · rintro (h1 | h1)
            · exact Or.inr ⟨Or.inr h1, Or.inl rfl⟩
            · exact Or.inr ⟨h1.1, Or.inl rfl⟩
        · have e1 : labs c use k (cf c j) = labs c use k (cg c j) := (ih _ _).mpr (Con.edge (by omega) huj)
          rw [e1]
    · rw [if_neg hu, ih]
      exact ⟨fun h => h.mono (Nat.le_succ k), fun h P hP h2 => h P (fun j hj huj => by
        by_cases e : j = k
        · subst e; exact absurd huj hu
        · exact hP j (by omega) huj) h2⟩
def isMin (L : Nat → Nat) (m : Nat) : Bool := (fnd (fun z => decide (L z = L m)) m).isNone
theorem isMin_t {L : Nat → Nat} {m : Nat} : isMin L m = true ↔ ∀ z, z < m → ¬ L z = L m := by
  unfold isMin
  rcases fnd_spec (fun z => decide (L z = L m)) m with ⟨h1, h2⟩ | ⟨k, h1, h2, h3, h4⟩
  · rw [h1]
    exact ⟨fun _ z hz => of_decide_eq_false (h2 z hz), fun _ => rfl⟩
  · rw [h1]
    exact ⟨fun h => (by cases h), fun h => absurd (of_decide_eq_true h3) (h k h2)⟩
theorem cnt_drop {P Q : Nat → Bool} {D : Nat} (h1 : P D = true) (h2 : Q D = false) (h : ∀ m, m ≠ D → P m = Q m) : ∀ {n}, D < n → cnt Q n + 1 = cnt P n
  | 0, hn => absurd hn (Nat.not_lt_zero D)
  | n + 1, hn => by
    unfold cnt
    by_cases e : D = n
    · subst e
      rw [h1, h2, cnt_cong (fun i hi => (h i (by omega)))]
      simp
    · have := cnt_drop h1 h2 h (n := n) (by omega)
      rw [h n (by omega)]
      omega
theorem fst_in {L : Nat → Nat} (a : Nat) : ∃ A, A ≤ a ∧ L A = L a ∧ ∀ z, z < A → ¬ L z = L a := by
  rcases fnd_spec (fun z => decide (L z = L a)) (a + 1) with ⟨h1, h2⟩ | ⟨k, h1, h2, h3, h4⟩
  · exact absurd rfl (of_decide_eq_false (h2 a (Nat.lt_succ_self a)))
  · exact ⟨k, by omega, of_decide_eq_true h3, fun z hz => of_decide_eq_false (h4 z hz)⟩
theorem isMin_uni {L : Nat → Nat} {n : Nat} (ha : a < n) (hb : b < n) (hne : ¬ L a = L b) : cnt (isMin (uni L a b)) n + 1 = cnt (isMin L) n := by
  obtain ⟨A, hA1, hA2, hA3⟩ := fst_in (L := L) a
  obtain ⟨B, hB1, hB2, hB3⟩ := fst_in (L := L) b
  have hAB : A ≠ B := fun e => hne (by rw [← hA2, e, hB2])
  have key : ∀ D E, D < n → E < D → (L D = L a ∧ L E = L b ∨ L D = L b ∧ L E = L a) → (∀ z, z < D → ¬ L z = L D) → (∀ z, z < E → ¬ L z = L E) → cnt (isMin (uni L a b)) n + 1 = cnt (isMin L) n := by
    intro D E hD hE hL hm1 hm2
    refine cnt_drop (D := D) (isMin_t.mpr hm1) ?_ (fun m hm => ?_) hD
    · cases hq : isMin (uni L a b) D with
      | false => rfl
      | true => exact absurd (uni_eq.mpr (Or.inr (by rcases hL with ⟨h1, h2⟩ | ⟨h1, h2⟩ <;> simp [h1, h2]))) (isMin_t.mp hq E hE)
    · have e : isMin L m = true ↔ isMin (uni L a b) m = true := by
        rw [isMin_t, isMin_t]
        constructor
        · intro h z hz q
          rcases uni_eq.mp q with q | ⟨q1, q2⟩
          · exact h z hz q
          · -- both in the two classes; m is first of its own, so m = D or E
            have hmE : m = E ∨ m = D := by
              have h5 : L m = L E ∨ L m = L D := by rcases hL with ⟨h1, h2⟩ | ⟨h1, h2⟩ <;> rcases q2 with q2 | q2 <;> simp [h1, h2, q2]
              rcases h5 with h5 | h5
              · refine Or.inl ?_
                rcases Nat.lt_trichotomy m E with g | g | g
                · exact absurd h5 (hm2 m g)
                · exact g
                · exact absurd h5.symm (h E g)
              · refine Or.inr ?_
                rcases Nat.lt_trichotomy m D with g | g | g
                · exact absurd h5 (hm1 m g)
                · exact g
                · exact absurd h5.symm (h D g)
            have hmE : m = E := by rcases hmE with h5 | h5; exact h5; exact absurd h5 hm
            subst hmE
            have h6 : L z = L m ∨ L z = L D := by rcases hL with ⟨h1, h2⟩ | ⟨h1, h2⟩ <;> rcases q1 with q1 | q1 <;> simp [h1, h2, q1]
            rcases h6 with h6 | h6
            · exact h z hz h6
            · exact hm1 z (by omega) h6
        · intro h z hz q
          exact h z hz (uni_eq.mpr (Or.inl q))
      cases h1 : isMin L m <;> cases h2 : isMin (uni L a b) m <;> simp_all
  rcases Nat.lt_or_gt_of_ne hAB with h | h
  · exact key B A (by omega) h (Or.inr ⟨hB2, hA2⟩) (by rw [hB2]; exact hB3) (by rw [hA2]; exact hA3)
  · exact key A B (by omega) h (Or.inl ⟨hA2, hB2⟩) (by rw [hA2]; exact hA3) (by rw [hB2]; exact hB3)
/-- how many parts there are -/
def prtN (c : Col) (use : Nat → Bool) : Nat := cnt (isMin (labs c use (ck c))) (cn c)
theorem cnt_all {P : Nat → Bool} : ∀ {n}, (∀ i, i < n → P i = true) → cnt P n = n
  | 0, _ => rfl
  | n + 1, h => by unfold cnt; rw [cnt_all (fun i hi => h i (by omega)), h n (by omega)]; rfl
theorem prt_mrg (hw : WF c) : ∀ k, k ≤ ck c → cnt (isMin (labs c use k)) (cn c) + mrg c use k = cn c
  | 0, _ => by
    rw [cnt_all (fun i _ => isMin_t.mpr (fun z hz e => by have e2 : z = i := e; omega))]
    rfl
  | k + 1, h => by
    have ih := prt_mrg hw k (by omega)
    have e : mrg c use (k + 1) = mrg c use k + if mrgP c use k = true then 1 else 0 := rfl
    rw [e]
    unfold labs mrgP
    by_cases hu : use k = true
    · rw [if_pos hu, hu]
      by_cases q : labs c use k (cf c k) = labs c use k (cg c k)
      · have e2 : uni (labs c use k) (cf c k) (cg c k) = labs c use k := by
          funext x; unfold uni; split
          · rename_i h9; rw [h9, q]
          · rfl
        rw [e2, decide_eq_true q]
        simpa using ih
      · rw [decide_eq_false q]
        have := isMin_uni (L := labs c use k) (n := cn c) (hw.f (by omega)) (hw.g (by omega)) q
        simp
        omega
    · rw [if_neg hu]
      have hu : use k = false := by simpa using hu
      rw [hu]
      simpa using ih
theorem prtN_le : prtN c use ≤ cn c := cnt_le _ _
theorem ptsI_eq (hw : WF c) (t : Int32) : ptsI c t = nI (prtN c (fun j => !decide (nI j = t))) := by
  have h := prt_mrg (use := fun j => !decide (nI j = t)) hw (ck c) (Nat.le_refl _)
  unfold ptsI
  rw [show cn c = prtN c (fun j => !decide (nI j = t)) + mrg c (fun j => !decide (nI j = t)) (ck c) from h.symm, ← nI_add, Int32.add_sub_cancel]
theorem prtN_min {Q : Nat → Bool} (h : ∀ m, m < cn c → (Q m = true ↔ ∀ z, z < m → ¬ Con c use (ck c) z m)) : cnt Q (cn c) = prtN c use := by
  refine cnt_cong (fun m hm => ?_)
  have e : Q m = true ↔ isMin (labs c use (ck c)) m = true := by
    rw [h m hm, isMin_t]
    exact ⟨fun q z hz e => q z hz ((labs_con _ _ _).mp e), fun q z hz e => q z hz ((labs_con _ _ _).mpr e)⟩
  cases h1 : Q m <;> cases h2 : isMin (labs c use (ck c)) m <;> simp_all
end PARTS

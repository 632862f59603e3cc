/-! MATHEMATICS: the least number of blocked tunnels -/
theorem lsF_lobF {c : Col} (hw : WF c) : ∀ i, lsF c (i + 1) = lobF c (i + 1)
  | 0 => by
    have h1 := blkN_le (c := c) (cw c ^^^ 0)
    have h2 := hw.k
    show (if blkN c (cw c ^^^ 0) < 16 then blkN c (cw c ^^^ 0) else 16) = min (ck c) (blkN c (cw c ^^^ 0))
    split <;> omega
  | i + 1 => by
    have ih := lsF_lobF hw i
    show (if blkN c (cw c ^^^ (i + 1)) < lsF c (i + 1) then blkN c (cw c ^^^ (i + 1)) else lsF c (i + 1)) = min (lobF c (i + 1)) (blkN c (cw c ^^^ (i + 1)))
    rw [ih]
    split <;> omega
theorem lsF_all {c : Col} (hw : WF c) : lsF c (2 ^ cn c) = lobF c (2 ^ cn c) := by
  have h : 2 ^ cn c = (2 ^ cn c - 1) + 1 := by have := Nat.two_pow_pos (cn c); omega
  rw [h]
  exact lsF_lobF hw _
/-- the least is met, and it is the least -/
theorem lobF_le_all {c : Col} : ∀ {n i : Nat}, i < n → lobF c n ≤ blkN c (cw c ^^^ i)
  | 0, i, h => absurd h (Nat.not_lt_zero i)
  | n + 1, i, h => by
    show min (lobF c n) (blkN c (cw c ^^^ n)) ≤ _
    by_cases e : i = n
    · rw [e]; exact Nat.min_le_right _ _
    · exact Nat.le_trans (Nat.min_le_left _ _) (lobF_le_all (by omega))
theorem lobF_met {c : Col} : ∀ {n : Nat}, 0 < n → ∃ i, i < n ∧ lobF c n = blkN c (cw c ^^^ i)
  | 0, h => absurd h (Nat.not_lt_zero 0)
  | n + 1, _ => by
    have e : lobF c (n + 1) = min (lobF c n) (blkN c (cw c ^^^ n)) := rfl
    by_cases h0 : n = 0
    · subst h0
      have h1 := blkN_le (c := c) (cw c ^^^ 0)
      exact ⟨0, by omega, by rw [e]; show min (ck c) _ = _; omega⟩
    · obtain ⟨i, h1, h2⟩ := lobF_met (c := c) (n := n) (by omega)
      rcases Nat.le_total (lobF c n) (blkN c (cw c ^^^ n)) with g | g
      · exact ⟨i, by omega, by rw [e, Nat.min_eq_left g, h2]⟩
      · exact ⟨n, by omega, by rw [e, Nat.min_eq_right g]⟩

/-! MATHEMATICS: a turn of one -/
theorem pop_two : ∀ m, m < 9 → pop (2 ^ m) = 1 := by decide
theorem t1C_eq {c : Col} {m : Nat} (hm : m < 9) : t1C c m = trnC c (2 ^ m) := by
  have hp := pop_two m hm
  obtain ⟨n, k, w, p, s, t, f, g, tt, mm⟩ := c
  simp only [t1C, setTT, setT, setW, trnC, cn, ck, cw, cp, cs, ct, cf, cg, ctt, cmm, hp]
  congr 6
  · funext j
    rw [Nat.testBit_two_pow]
    by_cases e : j = m
    · subst e; simp [ups]; rfl
    · simp [ups, e, Ne.symm e]

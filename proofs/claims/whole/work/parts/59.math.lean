set_option maxHeartbeats 400000
/-! MATHEMATICS: the line, the fewest, the bounds, walks -/
section MATH
variable {c : Col} {m : Nat}
/-! the line -/
theorem lput_ok {l : List Nat} {x : Nat} (h : l.length < 23) : lput l x = l ++ [x] := if_pos h
theorem lnum_ok {l : List Nat} {n : Nat} (h : l.length + 2 ≤ 23) : lnum l n = l ++ wnL n := by
  unfold lnum wnL
  by_cases hn : n < 10
  · rw [if_pos hn, if_pos hn, lput_ok (by omega), Nat.mod_eq_of_lt hn]
  · rw [if_neg hn, if_neg hn, lput_ok (l := l) (by omega), lput_ok (by rw [List.length_append]; show l.length + 1 < 23; omega), List.append_assoc]
    rfl
theorem lnum_1 {l : List Nat} {n : Nat} (h : l.length < 23) (hn : n < 10) : lnum l n = l ++ wnL n := by
  unfold lnum wnL
  rw [if_pos hn, if_pos hn, lput_ok h, Nat.mod_eq_of_lt hn]
theorem oEnd_some {j x : Nat} (h : oEnd c j m = some x) : cf c j = m ∧ cg c j = x ∨ cg c j = m ∧ cf c j = x := by
  unfold oEnd at h
  split at h
  · rename_i e; cases h; exact Or.inl ⟨e, rfl⟩
  · split at h
    · rename_i e; cases h; exact Or.inr ⟨e, rfl⟩
    · cases h
/-- the other ends of the tunnels below k that join m -/
def hit (c : Col) (m k z : Nat) : Bool := (fnd (fun j => decide (oEnd c j m = some z)) k).isSome
theorem hit_t {k z : Nat} : hit c m k z = true ↔ ∃ j, j < k ∧ oEnd c j m = some z := by
  unfold hit
  rcases fnd_spec (fun j => decide (oEnd c j m = some z)) k with ⟨h1, h2⟩ | ⟨i, h1, h2, h3, _⟩
  · rw [h1]
    exact ⟨fun h => (by cases h), fun ⟨j, hj, e⟩ => absurd e (of_decide_eq_false (h2 j hj))⟩
  · rw [h1]
    exact ⟨fun _ => ⟨i, h2, of_decide_eq_true h3⟩, fun _ => rfl⟩
theorem deg_hit (hw : WF c) : ∀ k, k ≤ ck c → cnt (fun j => (oEnd c j m).isSome) k ≤ cnt (hit c m k) (cn c)
  | 0, _ => Nat.zero_le _
  | k + 1, hk => by
    have ih := deg_hit hw k (by omega)
    have hsub : ∀ z, hit c m k z = true → hit c m (k + 1) z = true := fun z h => by
      obtain ⟨j, hj, e⟩ := hit_t.mp h
      exact hit_t.mpr ⟨j, by omega, e⟩
    show cnt (fun j => (oEnd c j m).isSome) k + (if (oEnd c k m).isSome = true then 1 else 0) ≤ _
    cases e : oEnd c k m with
    | none =>
      have := cnt_sub hsub (n := cn c)
      simp only [Option.isSome_none, Bool.false_eq_true, if_false]
      omega
    | some x =>
      have hx : x < cn c := by
        rcases oEnd_some e with ⟨_, h⟩ | ⟨_, h⟩
        · rw [← h]; exact hw.g (by omega)
        · rw [← h]; exact hw.f (by omega)
      have h2 : hit c m k x = false := by
        cases q : hit c m k x
        · rfl
        · obtain ⟨j, hj, e2⟩ := hit_t.mp q
          have hu := hw.uq (i := j) (j := k) (by omega) (by omega) (by
            rcases oEnd_some e with ⟨h1, h2⟩ | ⟨h1, h2⟩ <;> rcases oEnd_some e2 with ⟨h3, h4⟩ | ⟨h3, h4⟩
            · exact Or.inl ⟨by rw [h1, h3], by rw [h2, h4]⟩
            · exact Or.inr ⟨by rw [h2, h4], by rw [h1, h3]⟩
            · exact Or.inr ⟨by rw [h1, h3], by rw [h2, h4]⟩
            · exact Or.inl ⟨by rw [h2, h4], by rw [h1, h3]⟩)
          omega
      have := cnt_more hsub (z := x) (hit_t.mpr ⟨k, by omega, e⟩) h2 hx
      simp only [Option.isSome_some, if_true]
      omega
theorem deg_le (hw : WF c) (hm : m < cn c) {k : Nat} (hk : k ≤ ck c) : cnt (fun j => (oEnd c j m).isSome) k ≤ 8 := by
  have h1 := deg_hit hw (m := m) k hk
  have h2 : hit c m k m = false := by
    cases q : hit c m k m
    · rfl
    · obtain ⟨j, hj, e⟩ := hit_t.mp q
      have hn := hw.fg (j := j) (by omega)
      rcases oEnd_some e with ⟨h1, h2⟩ | ⟨h1, h2⟩ <;> omega
  have h3 := cnt_more (P := hit c m k) (Q := fun _ => true) (z := m) (fun _ _ => rfl) rfl h2 hm
  have h4 := cnt_le (fun _ => true) (cn c)
  have hn := hw.n
  omega
theorem wn_1l {n : Nat} (h : n < 10) : (wnL n).length = 1 := by unfold wnL; rw [if_pos h]; rfl
theorem dln_mln (hw : WF c) (hm : m < cn c) : dln c m = mln c m ∧ (mln c m).length ≤ 23 := by
  have hn := hw.n
  have hp := hw.p hm
  have w1 := wn_1l (n := m) (by omega)
  have w2 := wn_len (cp c m)
  have w3 := wn_len (cs c m)
  have e0 : lnum (lput (lnum (lput (lnum [] m) 64) (cp c m)) (sgn c m)) (cs c m) = wnL m ++ [64] ++ wnL (cp c m) ++ [sgn c m] ++ wnL (cs c m) := by
    have a0 : lnum [] m = wnL m := lnum_ok (l := []) (by decide)
    have a1 : lput (wnL m) 64 = wnL m ++ [64] := lput_ok (by omega)
    have a2 : lnum (wnL m ++ [64]) (cp c m) = wnL m ++ [64] ++ wnL (cp c m) := lnum_ok (by simp only [List.length_append, List.length_cons, List.length_nil]; omega)
    have a3 : lput (wnL m ++ [64] ++ wnL (cp c m)) (sgn c m) = wnL m ++ [64] ++ wnL (cp c m) ++ [sgn c m] := lput_ok (by simp only [List.length_append, List.length_cons, List.length_nil]; omega)
    have a4 : lnum (wnL m ++ [64] ++ wnL (cp c m) ++ [sgn c m]) (cs c m) = wnL m ++ [64] ++ wnL (cp c m) ++ [sgn c m] ++ wnL (cs c m) := lnum_ok (by simp only [List.length_append, List.length_cons, List.length_nil]; omega)
    rw [a0, a1, a2, a3, a4]
  have key : ∀ k, k ≤ ck c → iter (dst c m) k (lnum (lput (lnum (lput (lnum [] m) 64) (cp c m)) (sgn c m)) (cs c m)) = iter (mst c m) k (wnL m ++ [64] ++ wnL (cp c m) ++ [sgn c m] ++ wnL (cs c m)) ∧ (iter (mst c m) k (wnL m ++ [64] ++ wnL (cp c m) ++ [sgn c m] ++ wnL (cs c m))).length ≤ 7 + 2 * cnt (fun j => (oEnd c j m).isSome) k := by
    intro k
    induction k with
    | zero =>
      intro _
      refine ⟨e0, ?_⟩
      show (wnL m ++ [64] ++ wnL (cp c m) ++ [sgn c m] ++ wnL (cs c m)).length ≤ 7 + 2 * 0
      simp only [List.length_append, List.length_cons, List.length_nil]
      omega
    | succ k ih =>
      intro hk
      obtain ⟨h1, h2⟩ := ih (by omega)
      have hd := deg_le hw hm (k := k + 1) hk
      have hd2 : cnt (fun j => (oEnd c j m).isSome) (k + 1) = cnt (fun j => (oEnd c j m).isSome) k + (if (oEnd c k m).isSome = true then 1 else 0) := rfl
      rw [hd2] at hd ⊢
      show dst c m k (iter (dst c m) k _) = mst c m k (iter (mst c m) k _) ∧ (mst c m k (iter (mst c m) k _)).length ≤ _
      rw [h1]
      generalize iter (mst c m) k (wnL m ++ [64] ++ wnL (cp c m) ++ [sgn c m] ++ wnL (cs c m)) = l at h2 ⊢
      unfold dst mst
      cases e : oEnd c k m with
      | none =>
        refine ⟨rfl, ?_⟩
        show l.length ≤ _
        omega
      | some x =>
        rw [e] at hd
        simp only [Option.isSome_some, if_true] at hd ⊢
        have hx : x < 10 := by
          rcases oEnd_some e with ⟨_, h⟩ | ⟨_, h⟩
          · have := hw.g (j := k) (by omega); omega
          · have := hw.f (j := k) (by omega); omega
        have hl : l.length < 22 := by omega
        rw [lput_ok (by omega), lnum_1 (by rw [List.length_append]; show l.length + 1 < 23; omega) hx]
        refine ⟨rfl, ?_⟩
        rw [List.length_append, List.length_append, wn_1l hx]
        show l.length + 1 + 1 ≤ _
        omega
  obtain ⟨k1, k2⟩ := key (ck c) (Nat.le_refl _)
  have hd := deg_le hw hm (k := ck c) (Nat.le_refl _)
  exact ⟨k1, by show (iter (mst c m) (ck c) _).length ≤ 23; omega⟩
theorem mln_lt (hw : WF c) (hm : m < cn c) : ∀ i, (mln c m).getD i 0 < 65536 := by
  have hp := hw.p hm
  have hs2 := hw.s2 hm
  have wn : ∀ n, n < 100 → ∀ x, x ∈ wnL n → x < 65536 := fun n hn x hx => by
    unfold wnL at hx
    split at hx
    · simp at hx; omega
    · simp at hx; omega
  have key : ∀ k, k ≤ ck c → ∀ x, x ∈ iter (mst c m) k (wnL m ++ [64] ++ wnL (cp c m) ++ [sgn c m] ++ wnL (cs c m)) → x < 65536 := by
    intro k
    induction k with
    | zero =>
      intro _ x hx
      have hx : x ∈ wnL m ++ [64] ++ wnL (cp c m) ++ [sgn c m] ++ wnL (cs c m) := hx
      simp only [List.mem_append, List.mem_singleton] at hx
      have hn := hw.n
      rcases hx with (((hx | hx) | hx) | hx) | hx
      · exact wn _ (by omega) x hx
      · omega
      · exact wn _ hp x hx
      · rw [hx]; exact sgn_lt
      · exact wn _ (by omega) x hx
    | succ k ih =>
      intro hk x hx
      have hx : x ∈ mst c m k (iter (mst c m) k (wnL m ++ [64] ++ wnL (cp c m) ++ [sgn c m] ++ wnL (cs c m))) := hx
      unfold mst at hx
      cases e : oEnd c k m with
      | none => rw [e] at hx; exact ih (by omega) x hx
      | some y =>
        rw [e] at hx
        have hy : y < 100 := by
          have hn := hw.n
          rcases oEnd_some e with ⟨_, h⟩ | ⟨_, h⟩
          · have := hw.g (j := k) (by omega); omega
          · have := hw.f (j := k) (by omega); omega
        simp only [List.mem_append, List.mem_singleton] at hx
        rcases hx with (hx | hx) | hx
        · exact ih (by omega) x hx
        · rw [hx]; split <;> decide
        · exact wn _ hy x hx
  intro i
  rw [List.getD_eq_getElem?_getD]
  cases q : (mln c m)[i]? with
  | none => show (0 : Nat) < 65536; decide
  | some x => exact key _ (Nat.le_refl _) x (List.mem_of_getElem? q)
/-! the fewest -/
theorem sst_mb : ∀ n, sstF c n = (mbF c n).map pop
  | 0 => rfl
  | n + 1 => by
    have ih := sst_mb n
    have e1 : sstF c (n + 1) = if sstB c (sstF c n) n = true then some (pop n) else sstF c n := rfl
    have e2 : mbF c (n + 1) = if blkN c (cw c ^^^ n) = 0 ∧ mbB (mbF c n) n = true then some n else mbF c n := rfl
    rw [e1, e2, ih]
    unfold sstB
    by_cases h0 : blkN c (cw c ^^^ n) = 0
    · rw [decide_eq_true h0, Bool.and_true]
      cases q : mbF c n with
      | none => exact (if_pos rfl).trans (congrArg (Option.map pop) (if_pos ⟨h0, rfl⟩ : (if blkN c (cw c ^^^ n) = 0 ∧ mbB none n = true then some n else none) = some n).symm)
      | some b =>
        have eB : mbB (some b) n = (decide (pop n < pop b) || (decide (pop n = pop b) && lowB n b)) := rfl
        show (if decide (pop n < pop b) = true then some (pop n) else some (pop b)) = _
        by_cases h1 : pop n < pop b
        · rw [if_pos (decide_eq_true h1), if_pos ⟨h0, (by rw [eB, decide_eq_true h1]; rfl)⟩]; rfl
        · rw [if_neg (by rw [decide_eq_false h1]; decide)]
          by_cases h2 : pop n = pop b ∧ lowB n b = true
          · rw [if_pos ⟨h0, (by rw [eB, decide_eq_true h2.1, h2.2]; simp)⟩]
            exact congrArg some h2.1.symm
          · rw [if_neg (fun k => h2 (by have := k.2; rw [eB, decide_eq_false h1, Bool.false_or, Bool.and_eq_true, decide_eq_true_eq] at this; exact this))]; rfl
    · rw [decide_eq_false h0, Bool.and_false, if_neg (by decide), if_neg (fun k => h0 k.1)]
/-! the bounds -/
def eBP (c : Col) (w m j : Nat) : Bool := (decide (cf c j < m) && decide (cg c j < m)) && blk c w j
def eB (c : Col) (w m : Nat) : Nat := cnt (eBP c w m) (ck c)
theorem cnt_add {P Q R : Nat → Bool} : ∀ {n}, (∀ j, j < n → (R j = (P j || Q j)) ∧ (P j && Q j) = false) → cnt R n = cnt P n + cnt Q n
  | 0, _ => rfl
  | n + 1, h => by
    have ih := cnt_add (n := n) (fun j hj => h j (by omega))
    obtain ⟨h1, h2⟩ := h n (by omega)
    unfold cnt
    rw [ih, h1]
    cases h3 : P n <;> cases h4 : Q n <;> simp_all <;> omega
theorem eB_next (hw : WF c) {w m : Nat} : eB c w (m + 1) = eB c w m + ear c w m := cnt_add (fun j hj => by
  have hfg := hw.fg hj
  unfold eBP earP oEnd
  by_cases h1 : cf c j = m
  · rw [if_pos h1]
    have e1 : decide (cf c j < m + 1) = true := decide_eq_true (by omega)
    have e2 : decide (cf c j < m) = false := decide_eq_false (by omega)
    have e3 : decide (cg c j < m + 1) = decide (cg c j < m) := decide_eq_decide.mpr (by omega)
    rw [e1, e2, e3]
    simp
  · rw [if_neg h1]
    by_cases h2 : cg c j = m
    · rw [if_pos h2]
      have e1 : decide (cg c j < m + 1) = true := decide_eq_true (by omega)
      have e2 : decide (cg c j < m) = false := decide_eq_false (by omega)
      have e3 : decide (cf c j < m + 1) = decide (cf c j < m) := decide_eq_decide.mpr (by omega)
      rw [e1, e2, e3]
      simp
    · rw [if_neg h2]
      have e1 : decide (cg c j < m + 1) = decide (cg c j < m) := decide_eq_decide.mpr (by omega)
      have e3 : decide (cf c j < m + 1) = decide (cf c j < m) := decide_eq_decide.mpr (by omega)
      rw [e1, e3]
      simp)
theorem eB_cong {w w' m : Nat} (h : ∀ z, z < m → w.testBit z = w'.testBit z) : eB c w m = eB c w' m := cnt_cong (fun j _ => by
  unfold eBP blk
  by_cases h1 : cf c j < m
  · by_cases h2 : cg c j < m
    · rw [h _ h1, h _ h2]
    · rw [decide_eq_false h2]; simp
  · rw [decide_eq_false h1]; simp)
theorem eB_le {w m : Nat} : eB c w m ≤ blkN c w := cnt_sub (fun j h => by
  unfold eBP at h
  rw [Bool.and_eq_true] at h
  exact h.2)
theorem eB_all (hw : WF c) {w : Nat} : eB c w (cn c) = blkN c w := cnt_cong (fun j hj => by
  unfold eBP
  rw [decide_eq_true (hw.f hj), decide_eq_true (hw.g hj)]; rfl)
theorem bndF_spec (hw : WF c) : ∀ fu m w least, cn c + 1 ≤ fu + m → m ≤ cn c → w < 2 ^ m → (bndF c fu m w (eB c w m) least ≤ least ∧ (∀ W, (∀ z, z < m → W.testBit z = w.testBit z) → bndF c fu m w (eB c w m) least ≤ blkN c W) ∧ (bndF c fu m w (eB c w m) least = least ∨ ∃ W, W < 2 ^ cn c ∧ bndF c fu m w (eB c w m) least = blkN c W))
  | 0, m, w, least, h1, h2, _ => by omega
  | fu + 1, m, w, least, h1, h2, hlt => by
    have hn := hw.n
    have e : bndF c (fu + 1) m w (eB c w m) least = if least ≤ eB c w m then least else if cn c ≤ m ∨ 9 ≤ m then eB c w m else bndF c fu (m + 1) (w ||| 2 ^ m) (eB c w m + ear c (w ||| 2 ^ m) m) (bndF c fu (m + 1) w (eB c w m + ear c w m) least) := rfl
    rw [e]
    by_cases g1 : least ≤ eB c w m
    · rw [if_pos g1]
      exact ⟨Nat.le_refl _, fun W hW => Nat.le_trans g1 (by rw [eB_cong (w' := W) (fun z hz => (hW z hz).symm)]; exact eB_le), Or.inl rfl⟩
    · rw [if_neg g1]
      by_cases g2 : cn c ≤ m ∨ 9 ≤ m
      · rw [if_pos g2]
        obtain rfl : m = cn c := by omega
        refine ⟨by omega, fun W hW => ?_, Or.inr ⟨w, hlt, eB_all hw⟩⟩
        rw [eB_cong (w' := W) (fun z hz => (hW z hz).symm)]; exact eB_le
      · rw [if_neg g2]
        have hx : ∀ z, (w ||| 2 ^ m).testBit z = (w.testBit z || decide (m = z)) := fun z => or_tb
        have eo : eB c (w ||| 2 ^ m) m = eB c w m := eB_cong (fun z hz => by rw [hx, decide_eq_false (by omega), Bool.or_false])
        rw [← eB_next hw]
        have e3 : eB c w m + ear c (w ||| 2 ^ m) m = eB c (w ||| 2 ^ m) (m + 1) := by rw [eB_next hw, eo]
        rw [e3]
        have hlt1 : w < 2 ^ (m + 1) := Nat.lt_of_lt_of_le hlt (Nat.pow_le_pow_right (by decide) (by omega))
        have hlt2 : w ||| 2 ^ m < 2 ^ (m + 1) := Nat.or_lt_two_pow hlt1 (Nat.pow_lt_pow_of_lt (by decide) (by omega))
        obtain ⟨a1, a2, a3⟩ := bndF_spec hw fu (m + 1) w least (by omega) (by omega) hlt1
        obtain ⟨b1, b2, b3⟩ := bndF_spec hw fu (m + 1) (w ||| 2 ^ m) (bndF c fu (m + 1) w (eB c w (m + 1)) least) (by omega) (by omega) hlt2
        refine ⟨Nat.le_trans b1 a1, fun W hW => ?_, ?_⟩
        · cases q : W.testBit m
          · refine Nat.le_trans b1 (a2 W (fun z hz => ?_))
            by_cases k : z = m
            · subst k; rw [q, Nat.testBit_lt_two_pow hlt]
            · exact hW z (by omega)
          · refine b2 W (fun z hz => ?_)
            by_cases k : z = m
            · subst k; rw [q, hx]; simp
            · rw [hx, decide_eq_false (fun k2 => k k2.symm), Bool.or_false]; exact hW z (by omega)
        · rcases b3 with b3 | b3
          · rw [b3]; exact a3
          · exact Or.inr b3
theorem bnd_lob (hw : WF c) : bndF c 10 0 0 0 (blkN c (cw c)) = lobF c (2 ^ cn c) := by
  have hn := hw.n
  have e0 : eB c 0 0 = 0 := cnt_zero.mpr (fun j _ => by unfold eBP; simp)
  obtain ⟨h1, h2, h3⟩ := bndF_spec hw 10 0 0 (blkN c (cw c)) (by omega) (Nat.zero_le _) (by decide)
  rw [e0] at h1 h2 h3
  obtain ⟨i, hi, hm⟩ := lobF_met (c := c) (n := 2 ^ cn c) (Nat.two_pow_pos _)
  have g1 : bndF c 10 0 0 0 (blkN c (cw c)) ≤ lobF c (2 ^ cn c) := by rw [hm]; exact h2 _ (fun z hz => absurd hz (Nat.not_lt_zero z))
  have g2 : lobF c (2 ^ cn c) ≤ bndF c 10 0 0 0 (blkN c (cw c)) := by
    rcases h3 with h3 | ⟨W, hW, h3⟩
    · rw [h3]
      have := lobF_le_all (c := c) (n := 2 ^ cn c) (i := 0) (Nat.two_pow_pos _)
      rwa [Nat.xor_zero] at this
    · rw [h3]
      have := lobF_le_all (c := c) (n := 2 ^ cn c) (i := cw c ^^^ W) (Nat.xor_lt_two_pow hw.w hW)
      rwa [← Nat.xor_assoc, Nat.xor_self, Nat.zero_xor] at this
  omega
end MATH

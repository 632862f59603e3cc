/-! WHAT A COLONY IS: a value of numbers, read off an object of the class (ColAt) or off a row of the reference (RowAt) -/
abbrev Col : Type := Nat × Nat × Nat × (Nat → Nat) × (Nat → Nat) × (Nat → Int32) × (Nat → Nat) × (Nat → Nat) × Int32 × Int32
abbrev cn (c : Col) : Nat := c.1
abbrev ck (c : Col) : Nat := c.2.1
abbrev cw (c : Col) : Nat := c.2.2.1
abbrev cp (c : Col) : Nat → Nat := c.2.2.2.1
abbrev cs (c : Col) : Nat → Nat := c.2.2.2.2.1
abbrev ct (c : Col) : Nat → Int32 := c.2.2.2.2.2.1
abbrev cf (c : Col) : Nat → Nat := c.2.2.2.2.2.2.1
abbrev cg (c : Col) : Nat → Nat := c.2.2.2.2.2.2.2.1
abbrev ctt (c : Col) : Int32 := c.2.2.2.2.2.2.2.2.1
abbrev cmm (c : Col) : Int32 := c.2.2.2.2.2.2.2.2.2
/-- what every colony keeps: limits, ranges, no two magnets at one position, no two tunnels between the same two -/
def WF (c : Col) : Prop := cn c ≤ 9 ∧ ck c ≤ 16 ∧ cw c < 2 ^ cn c ∧ (∀ i, i < cn c → cp c i < 100 ∧ 1 ≤ cs c i ∧ cs c i ≤ 30) ∧ (∀ i j, i < cn c → j < cn c → cp c i = cp c j → i = j) ∧
  (∀ j, j < ck c → cf c j < cn c ∧ cg c j < cn c ∧ cf c j ≠ cg c j) ∧ (∀ i j, i < ck c → j < ck c → (cf c i = cf c j ∧ cg c i = cg c j ∨ cf c i = cg c j ∧ cg c i = cf c j) → i = j)
/-- the class's object at the place A, its rows at A + 1 .. A + 5 -/
def ColAt (M : Nat → Nat → Int32) (A : Nat) (c : Col) : Prop := M A 0 = nI (cn c) ∧ M A 4 = nI (cw c) ∧ M A 5 = nI (ck c) ∧ (∀ i, i < cn c → M (A + 1) i = nI (cp c i)) ∧ (∀ i, i < cn c → M (A + 2) i = nI (cs c i)) ∧ (∀ i, i < cn c → M (A + 3) i = ct c i) ∧ (∀ j, j < ck c → M (A + 4) j = nI (cf c j)) ∧ (∀ j, j < ck c → M (A + 5) j = nI (cg c j)) ∧ M A 8 = ctt c ∧ M A 9 = cmm c
/-- the reference's row at the place R, from o on -/
def RowAt (M : Nat → Nat → Int32) (R o : Nat) (c : Col) : Prop := M R o = nI (cn c) ∧ M R (o + 1) = nI (ck c) ∧ M R (o + 2) = ctt c ∧ M R (o + 3) = cmm c ∧ (∀ i, i < cn c → M R (o + (4 + 4 * i)) = nI (cp c i) ∧ M R (o + (5 + 4 * i)) = nI (cs c i) ∧ M R (o + (6 + 4 * i)) = nI ((cw c).testBit i).toNat ∧ M R (o + (7 + 4 * i)) = ct c i) ∧ (∀ j, j < ck c → M R (o + (40 + 2 * j)) = nI (cf c j) ∧ M R (o + (41 + 2 * j)) = nI (cg c j))
theorem ColAt.n {M : Nat → Nat → Int32} {A : Nat} {c : Col} (h : ColAt M A c) : M A 0 = nI (cn c) := h.1
theorem ColAt.w {M : Nat → Nat → Int32} {A : Nat} {c : Col} (h : ColAt M A c) : M A 4 = nI (cw c) := h.2.1
theorem ColAt.k {M : Nat → Nat → Int32} {A : Nat} {c : Col} (h : ColAt M A c) : M A 5 = nI (ck c) := h.2.2.1
theorem ColAt.p {M : Nat → Nat → Int32} {A : Nat} {c : Col} (h : ColAt M A c) {i : Nat} (hi : i < cn c) : M (A + 1) i = nI (cp c i) := h.2.2.2.1 i hi
theorem ColAt.s {M : Nat → Nat → Int32} {A : Nat} {c : Col} (h : ColAt M A c) {i : Nat} (hi : i < cn c) : M (A + 2) i = nI (cs c i) := h.2.2.2.2.1 i hi
theorem ColAt.t {M : Nat → Nat → Int32} {A : Nat} {c : Col} (h : ColAt M A c) {i : Nat} (hi : i < cn c) : M (A + 3) i = ct c i := h.2.2.2.2.2.1 i hi
theorem ColAt.f {M : Nat → Nat → Int32} {A : Nat} {c : Col} (h : ColAt M A c) {j : Nat} (hj : j < ck c) : M (A + 4) j = nI (cf c j) := h.2.2.2.2.2.2.1 j hj
theorem ColAt.g {M : Nat → Nat → Int32} {A : Nat} {c : Col} (h : ColAt M A c) {j : Nat} (hj : j < ck c) : M (A + 5) j = nI (cg c j) := h.2.2.2.2.2.2.2.1 j hj
theorem ColAt.tt {M : Nat → Nat → Int32} {A : Nat} {c : Col} (h : ColAt M A c) : M A 8 = ctt c := h.2.2.2.2.2.2.2.2.1
theorem ColAt.mm {M : Nat → Nat → Int32} {A : Nat} {c : Col} (h : ColAt M A c) : M A 9 = cmm c := h.2.2.2.2.2.2.2.2.2
theorem WF.n {c : Col} (h : WF c) : cn c ≤ 9 := h.1
theorem WF.k {c : Col} (h : WF c) : ck c ≤ 16 := h.2.1
theorem WF.w {c : Col} (h : WF c) : cw c < 2 ^ cn c := h.2.2.1
theorem WF.p {c : Col} (h : WF c) {i : Nat} (hi : i < cn c) : cp c i < 100 := (h.2.2.2.1 i hi).1
theorem WF.s1 {c : Col} (h : WF c) {i : Nat} (hi : i < cn c) : 1 ≤ cs c i := (h.2.2.2.1 i hi).2.1
theorem WF.s2 {c : Col} (h : WF c) {i : Nat} (hi : i < cn c) : cs c i ≤ 30 := (h.2.2.2.1 i hi).2.2
theorem WF.pp {c : Col} (h : WF c) {i j : Nat} (hi : i < cn c) (hj : j < cn c) (e : cp c i = cp c j) : i = j := h.2.2.2.2.1 i j hi hj e
theorem WF.f {c : Col} (h : WF c) {j : Nat} (hj : j < ck c) : cf c j < cn c := (h.2.2.2.2.2.1 j hj).1
theorem WF.g {c : Col} (h : WF c) {j : Nat} (hj : j < ck c) : cg c j < cn c := (h.2.2.2.2.2.1 j hj).2.1
theorem WF.fg {c : Col} (h : WF c) {j : Nat} (hj : j < ck c) : cf c j ≠ cg c j := (h.2.2.2.2.2.1 j hj).2.2
theorem WF.uq {c : Col} (h : WF c) {i j : Nat} (hi : i < ck c) (hj : j < ck c) (e : cf c i = cf c j ∧ cg c i = cg c j ∨ cf c i = cg c j ∧ cg c i = cf c j) : i = j := h.2.2.2.2.2.2 i j hi hj e
theorem WF.w9 {c : Col} (h : WF c) : cw c < 512 := Nat.lt_of_lt_of_le h.w (Nat.pow_le_pow_right (by decide) h.n)
/-- a number found, or -1 -/
def oI (r : Option Nat) : Int32 := match r with
  | some i => nI i
  | none => (-1)
/-- the first below n -/
def fst1 (P : Nat → Bool) : Nat → Nat → Option Nat
  | _, 0 => none
  | i, n + 1 => if P i then some i else fst1 P (i + 1) n
def fnd (P : Nat → Bool) (n : Nat) : Option Nat := fst1 P 0 n
/-- how many below n -/
def cnt (P : Nat → Bool) : Nat → Nat
  | 0 => 0
  | n + 1 => cnt P n + if P n then 1 else 0
theorem cnt_le (P : Nat → Bool) : ∀ n, cnt P n ≤ n
  | 0 => Nat.le_refl 0
  | n + 1 => by have := cnt_le P n; unfold cnt; split <;> omega
theorem cnt_cong {P Q : Nat → Bool} : ∀ {n : Nat}, (∀ i, i < n → P i = Q i) → cnt P n = cnt Q n
  | 0, _ => rfl
  | n + 1, h => by unfold cnt; rw [cnt_cong (fun i hi => h i (by omega)), h n (by omega)]
/-- is the tunnel blocked when w are the norths? -/
def blk (c : Col) (w j : Nat) : Bool := w.testBit (cf c j) == w.testBit (cg c j)
/-- how many are -/
def blkN (c : Col) (w : Nat) : Nat := cnt (blk c w) (ck c)
theorem fst1_none {P : Nat → Bool} : ∀ {n i : Nat}, (∀ j, i ≤ j → j < i + n → P j = false) → fst1 P i n = none
  | 0, _, _ => rfl
  | n + 1, i, h => by
    unfold fst1
    rw [h i (Nat.le_refl _) (by omega)]
    exact fst1_none (fun j h1 h2 => h j (by omega) (by omega))
theorem fst1_some {P : Nat → Bool} : ∀ {n i k : Nat}, i ≤ k → k < i + n → (∀ j, i ≤ j → j < k → P j = false) → P k = true → fst1 P i n = some k
  | 0, i, k, h1, h2, _, _ => by omega
  | n + 1, i, k, h1, h2, h, hk => by
    unfold fst1
    by_cases e : i = k
    · subst e; rw [hk]; rfl
    · rw [h i (Nat.le_refl _) (by omega)]
      exact fst1_some (by omega) (by omega) (fun j h3 h4 => h j (by omega) h4) hk
theorem fnd_none {P : Nat → Bool} {n : Nat} (h : ∀ j, j < n → P j = false) : fnd P n = none := fst1_none (fun j _ h2 => h j (by omega))
theorem fnd_some {P : Nat → Bool} {n k : Nat} (h1 : k < n) (h2 : ∀ j, j < k → P j = false) (h3 : P k = true) : fnd P n = some k := fst1_some (Nat.zero_le _) (by omega) (fun j _ h4 => h2 j h4) h3
theorem fst1_spec {P : Nat → Bool} : ∀ {n i : Nat}, (fst1 P i n = none ∧ ∀ j, i ≤ j → j < i + n → P j = false) ∨ ∃ k, fst1 P i n = some k ∧ i ≤ k ∧ k < i + n ∧ P k = true ∧ ∀ j, i ≤ j → j < k → P j = false
  | 0, i => Or.inl ⟨rfl, fun j h1 h2 => by omega⟩
  | n + 1, i => by
    unfold fst1
    by_cases e : P i = true
    · rw [e]; exact Or.inr ⟨i, rfl, Nat.le_refl _, by omega, e, fun j h1 h2 => by omega⟩
    · have e : P i = false := by simpa using e
      rw [e]
      rcases fst1_spec (P := P) (n := n) (i := i + 1) with ⟨h1, h2⟩ | ⟨k, h1, h2, h3, h4, h5⟩
      · refine Or.inl ⟨h1, fun j g1 g2 => ?_⟩
        by_cases q : j = i
        · rw [q]; exact e
        · exact h2 j (by omega) (by omega)
      · refine Or.inr ⟨k, h1, by omega, by omega, h4, fun j g1 g2 => ?_⟩
        by_cases q : j = i
        · rw [q]; exact e
        · exact h5 j (by omega) g2
theorem fnd_spec (P : Nat → Bool) (n : Nat) : (fnd P n = none ∧ ∀ j, j < n → P j = false) ∨ ∃ k, fnd P n = some k ∧ k < n ∧ P k = true ∧ ∀ j, j < k → P j = false := by
  rcases fst1_spec (P := P) (n := n) (i := 0) with ⟨h1, h2⟩ | ⟨k, h1, h2, h3, h4, h5⟩
  · exact Or.inl ⟨h1, fun j h => h2 j (Nat.zero_le _) (by omega)⟩
  · exact Or.inr ⟨k, h1, by omega, h4, fun j h => h5 j (Nat.zero_le _) h⟩
theorem fnd_cong {P Q : Nat → Bool} {n : Nat} (h : ∀ j, j < n → P j = Q j) : fnd P n = fnd Q n := by
  rcases fnd_spec P n with ⟨h1, h2⟩ | ⟨k, h1, h2, h3, h4⟩
  · rw [h1, fnd_none (fun j hj => by rw [← h j hj]; exact h2 j hj)]
  · rw [h1, fnd_some h2 (fun j hj => by rw [← h j (by omega)]; exact h4 j hj) (by rw [← h k h2]; exact h3)]
/-- a number in range is one of the naturals below -/
theorem in_nI {x : Int32} {n : Nat} (hn : n < 2 ^ 31) (h0 : 0 ≤ x) (h1 : x < nI n) : ∃ i, i < n ∧ x = nI i := by
  rcases pk_ix x hn with h | h | h
  · exact absurd h (Int32.not_lt.mpr h0)
  · exact absurd h1 (Int32.not_lt.mpr h)
  · exact h
theorem nI_in2 {i n : Nat} (hi : i < n) (hn : n < 2 ^ 31) : 0 ≤ nI i ∧ nI i < nI n := ⟨nI_pos' (by omega), nI_lt hi hn⟩
/-! elementary changes -/
def ups {α : Type} (f : Nat → α) (k : Nat) (x : α) : Nat → α := fun i => if i = k then x else f i
theorem ups_s {α : Type} {f : Nat → α} {k : Nat} {x : α} : ups f k x k = x := if_pos rfl
theorem ups_n {α : Type} {f : Nat → α} {k i : Nat} {x : α} (h : i ≠ k) : ups f k x i = f i := if_neg h
def setN (c : Col) (n : Nat) : Col := (n, ck c, cw c, cp c, cs c, ct c, cf c, cg c, ctt c, cmm c)
def setK (c : Col) (k : Nat) : Col := (cn c, k, cw c, cp c, cs c, ct c, cf c, cg c, ctt c, cmm c)
def setW (c : Col) (w : Nat) : Col := (cn c, ck c, w, cp c, cs c, ct c, cf c, cg c, ctt c, cmm c)
def setP (c : Col) (i x : Nat) : Col := (cn c, ck c, cw c, ups (cp c) i x, cs c, ct c, cf c, cg c, ctt c, cmm c)
def setS (c : Col) (i x : Nat) : Col := (cn c, ck c, cw c, cp c, ups (cs c) i x, ct c, cf c, cg c, ctt c, cmm c)
def setT (c : Col) (i : Nat) (x : Int32) : Col := (cn c, ck c, cw c, cp c, cs c, ups (ct c) i x, cf c, cg c, ctt c, cmm c)
def setF (c : Col) (i x : Nat) : Col := (cn c, ck c, cw c, cp c, cs c, ct c, ups (cf c) i x, cg c, ctt c, cmm c)
def setG (c : Col) (i x : Nat) : Col := (cn c, ck c, cw c, cp c, cs c, ct c, cf c, ups (cg c) i x, ctt c, cmm c)
def setTT (c : Col) (x : Int32) : Col := (cn c, ck c, cw c, cp c, cs c, ct c, cf c, cg c, x, cmm c)
def setMM (c : Col) (x : Int32) : Col := (cn c, ck c, cw c, cp c, cs c, ct c, cf c, cg c, ctt c, x)
theorem up2_row {M : Nat → Nat → Int32} {A i z x : Nat} {f : Nat → Nat} (h : M A z = nI (f z)) : up2 M A i (nI x) A z = nI (ups f i x z) := by
  by_cases e : z = i
  · subst e; rw [up2_s, ups_s]
  · rw [up2_k e, ups_n e]; exact h
theorem up2_rowT {M : Nat → Nat → Int32} {A i z : Nat} {x : Int32} {f : Nat → Int32} (h : M A z = f z) : up2 M A i x A z = ups f i x z := by
  by_cases e : z = i
  · subst e; rw [up2_s, ups_s]
  · rw [up2_k e, ups_n e]; exact h
theorem up2_off {M : Nat → Nat → Int32} {A i j k z : Nat} {x : Int32} (h : j ≠ i) : up2 M (A + i) k x (A + j) z = M (A + j) z := by rw [up2_n (by omega)]
section CS
variable {M : Nat → Nat → Int32} {A : Nat} {c : Col}
theorem ColAt.sP (h : ColAt M A c) {i x : Nat} : ColAt (up2 M (A + 1) i (nI x)) A (setP c i x) := by
  obtain ⟨h1, h2, h3, h4, h5, h6, h7, h8, h9, h10⟩ := h
  have e : ∀ k, up2 M (A + 1) i (nI x) A k = M A k := fun k => up2_off (j := 0) (by decide)
  exact ⟨(e 0).trans h1, (e 4).trans h2, (e 5).trans h3, fun z hz => up2_row (h4 z hz), fun z hz => (up2_off (by decide)).trans (h5 z hz), fun z hz => (up2_off (by decide)).trans (h6 z hz), fun z hz => (up2_off (by decide)).trans (h7 z hz), fun z hz => (up2_off (by decide)).trans (h8 z hz), (e 8).trans h9, (e 9).trans h10⟩
theorem ColAt.sS (h : ColAt M A c) {i x : Nat} : ColAt (up2 M (A + 2) i (nI x)) A (setS c i x) := by
  obtain ⟨h1, h2, h3, h4, h5, h6, h7, h8, h9, h10⟩ := h
  have e : ∀ k, up2 M (A + 2) i (nI x) A k = M A k := fun k => up2_off (j := 0) (by decide)
  exact ⟨(e 0).trans h1, (e 4).trans h2, (e 5).trans h3, fun z hz => (up2_off (by decide)).trans (h4 z hz), fun z hz => up2_row (h5 z hz), fun z hz => (up2_off (by decide)).trans (h6 z hz), fun z hz => (up2_off (by decide)).trans (h7 z hz), fun z hz => (up2_off (by decide)).trans (h8 z hz), (e 8).trans h9, (e 9).trans h10⟩
theorem ColAt.sT (h : ColAt M A c) {i : Nat} {x : Int32} : ColAt (up2 M (A + 3) i x) A (setT c i x) := by
  obtain ⟨h1, h2, h3, h4, h5, h6, h7, h8, h9, h10⟩ := h
  have e : ∀ k, up2 M (A + 3) i x A k = M A k := fun k => up2_off (j := 0) (by decide)
  exact ⟨(e 0).trans h1, (e 4).trans h2, (e 5).trans h3, fun z hz => (up2_off (by decide)).trans (h4 z hz), fun z hz => (up2_off (by decide)).trans (h5 z hz), fun z hz => up2_rowT (h6 z hz), fun z hz => (up2_off (by decide)).trans (h7 z hz), fun z hz => (up2_off (by decide)).trans (h8 z hz), (e 8).trans h9, (e 9).trans h10⟩
theorem ColAt.sF (h : ColAt M A c) {i x : Nat} : ColAt (up2 M (A + 4) i (nI x)) A (setF c i x) := by
  obtain ⟨h1, h2, h3, h4, h5, h6, h7, h8, h9, h10⟩ := h
  have e : ∀ k, up2 M (A + 4) i (nI x) A k = M A k := fun k => up2_off (j := 0) (by decide)
  exact ⟨(e 0).trans h1, (e 4).trans h2, (e 5).trans h3, fun z hz => (up2_off (by decide)).trans (h4 z hz), fun z hz => (up2_off (by decide)).trans (h5 z hz), fun z hz => (up2_off (by decide)).trans (h6 z hz), fun z hz => up2_row (h7 z hz), fun z hz => (up2_off (by decide)).trans (h8 z hz), (e 8).trans h9, (e 9).trans h10⟩
theorem ColAt.sG (h : ColAt M A c) {i x : Nat} : ColAt (up2 M (A + 5) i (nI x)) A (setG c i x) := by
  obtain ⟨h1, h2, h3, h4, h5, h6, h7, h8, h9, h10⟩ := h
  have e : ∀ k, up2 M (A + 5) i (nI x) A k = M A k := fun k => up2_off (j := 0) (by decide)
  exact ⟨(e 0).trans h1, (e 4).trans h2, (e 5).trans h3, fun z hz => (up2_off (by decide)).trans (h4 z hz), fun z hz => (up2_off (by decide)).trans (h5 z hz), fun z hz => (up2_off (by decide)).trans (h6 z hz), fun z hz => (up2_off (by decide)).trans (h7 z hz), fun z hz => up2_row (h8 z hz), (e 8).trans h9, (e 9).trans h10⟩
theorem ColAt.sW (h : ColAt M A c) {x : Nat} : ColAt (up2 M A 4 (nI x)) A (setW c x) := by
  obtain ⟨h1, h2, h3, h4, h5, h6, h7, h8, h9, h10⟩ := h
  have e : ∀ j z, j ≠ 0 → up2 M A 4 (nI x) (A + j) z = M (A + j) z := fun j z hj => up2_off (i := 0) hj
  exact ⟨(up2_k (by decide)).trans h1, up2_s, (up2_k (by decide)).trans h3, fun z hz => (e 1 z (by decide)).trans (h4 z hz), fun z hz => (e 2 z (by decide)).trans (h5 z hz), fun z hz => (e 3 z (by decide)).trans (h6 z hz), fun z hz => (e 4 z (by decide)).trans (h7 z hz), fun z hz => (e 5 z (by decide)).trans (h8 z hz), (up2_k (by decide)).trans h9, (up2_k (by decide)).trans h10⟩
theorem ColAt.sTT (h : ColAt M A c) {x : Int32} : ColAt (up2 M A 8 x) A (setTT c x) := by
  obtain ⟨h1, h2, h3, h4, h5, h6, h7, h8, h9, h10⟩ := h
  have e : ∀ j z, j ≠ 0 → up2 M A 8 x (A + j) z = M (A + j) z := fun j z hj => up2_off (i := 0) hj
  exact ⟨(up2_k (by decide)).trans h1, (up2_k (by decide)).trans h2, (up2_k (by decide)).trans h3, fun z hz => (e 1 z (by decide)).trans (h4 z hz), fun z hz => (e 2 z (by decide)).trans (h5 z hz), fun z hz => (e 3 z (by decide)).trans (h6 z hz), fun z hz => (e 4 z (by decide)).trans (h7 z hz), fun z hz => (e 5 z (by decide)).trans (h8 z hz), up2_s, (up2_k (by decide)).trans h10⟩
theorem ColAt.sMM (h : ColAt M A c) {x : Int32} : ColAt (up2 M A 9 x) A (setMM c x) := by
  obtain ⟨h1, h2, h3, h4, h5, h6, h7, h8, h9, h10⟩ := h
  have e : ∀ j z, j ≠ 0 → up2 M A 9 x (A + j) z = M (A + j) z := fun j z hj => up2_off (i := 0) hj
  exact ⟨(up2_k (by decide)).trans h1, (up2_k (by decide)).trans h2, (up2_k (by decide)).trans h3, fun z hz => (e 1 z (by decide)).trans (h4 z hz), fun z hz => (e 2 z (by decide)).trans (h5 z hz), fun z hz => (e 3 z (by decide)).trans (h6 z hz), fun z hz => (e 4 z (by decide)).trans (h7 z hz), fun z hz => (e 5 z (by decide)).trans (h8 z hz), (up2_k (by decide)).trans h9, up2_s⟩
/-- a magnet more, when its rows are laid -/
theorem ColAt.sN (h : ColAt M A c) (hp : M (A + 1) (cn c) = nI (cp c (cn c))) (hs : M (A + 2) (cn c) = nI (cs c (cn c))) (ht : M (A + 3) (cn c) = ct c (cn c)) : ColAt (up2 M A 0 (nI (cn c + 1))) A (setN c (cn c + 1)) := by
  obtain ⟨h1, h2, h3, h4, h5, h6, h7, h8, h9, h10⟩ := h
  have e : ∀ j z, j ≠ 0 → up2 M A 0 (nI (cn c + 1)) (A + j) z = M (A + j) z := fun j z hj => up2_off (i := 0) hj
  have k : ∀ z, z < cn c + 1 → z < cn c ∨ z = cn c := fun z hz => by omega
  refine ⟨up2_s, (up2_k (by decide)).trans h2, (up2_k (by decide)).trans h3, fun z hz => (e 1 z (by decide)).trans ?_, fun z hz => (e 2 z (by decide)).trans ?_, fun z hz => (e 3 z (by decide)).trans ?_, fun z hz => (e 4 z (by decide)).trans (h7 z hz), fun z hz => (e 5 z (by decide)).trans (h8 z hz), (up2_k (by decide)).trans h9, (up2_k (by decide)).trans h10⟩
  · rcases k z hz with q | q
    · exact h4 z q
    · rw [q]; exact hp
  · rcases k z hz with q | q
    · exact h5 z q
    · rw [q]; exact hs
  · rcases k z hz with q | q
    · exact h6 z q
    · rw [q]; exact ht
theorem ColAt.sK (h : ColAt M A c) (hf : M (A + 4) (ck c) = nI (cf c (ck c))) (hg : M (A + 5) (ck c) = nI (cg c (ck c))) : ColAt (up2 M A 5 (nI (ck c + 1))) A (setK c (ck c + 1)) := by
  obtain ⟨h1, h2, h3, h4, h5, h6, h7, h8, h9, h10⟩ := h
  have e : ∀ j z, j ≠ 0 → up2 M A 5 (nI (ck c + 1)) (A + j) z = M (A + j) z := fun j z hj => up2_off (i := 0) hj
  have k : ∀ z, z < ck c + 1 → z < ck c ∨ z = ck c := fun z hz => by omega
  refine ⟨(up2_k (by decide)).trans h1, (up2_k (by decide)).trans h2, up2_s, fun z hz => (e 1 z (by decide)).trans (h4 z hz), fun z hz => (e 2 z (by decide)).trans (h5 z hz), fun z hz => (e 3 z (by decide)).trans (h6 z hz), fun z hz => (e 4 z (by decide)).trans ?_, fun z hz => (e 5 z (by decide)).trans ?_, (up2_k (by decide)).trans h9, (up2_k (by decide)).trans h10⟩
  · rcases k z hz with q | q
    · exact h7 z q
    · rw [q]; exact hf
  · rcases k z hz with q | q
    · exact h8 z q
    · rw [q]; exact hg
end CS

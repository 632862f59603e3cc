set_option maxHeartbeats 400000
/-! MATHEMATICS: a command, as the class reads it -/
/-- how many parameters a kind has -/
def ar (k : Nat) : Nat := [3, 2, 1, 1, 0, 2, 1, 0].getD k 0
/-- the kind's number in the reference -/
def mdK (k : Nat) : Nat := [0, 7, 1, 5, 6, 2, 3, 4].getD k 0
section PRS
variable {l : List Nat} {a k s t i x np f : Nat} {cmd C : Nat → Int32}
theorem hasA_ne (h : hasA l a s = true) (hst : ¬ s = t) : hasA l a t = false := by
  unfold hasA at *
  rw [decide_eq_true_eq] at h
  rw [decide_eq_false_iff_not]
  exact fun q => hst (h.2.symm.trans q.2)
theorem wid_lit (hs : parS s = false) : wid l s a = if hasA l a s = true then 1 else 0 := by
  have h := of_decide_eq_false hs
  unfold wid
  rw [if_neg (fun q => h (Or.inl q)), if_neg (fun q => h (Or.inr (Or.inl q))), if_neg (fun q => h (Or.inr (Or.inr q)))]
/-- the run of a kind stands so after i signs -/
def StR (l : List Nat) (k a : Nat) (cmd : Nat → Int32) (i x np : Nat) (C : Nat → Int32) : Prop := (∀ j, j < i → ¬ wid l (chr k j) (mrun l k a cmd j).1 = 0) ∧ mrun l k a cmd i = (x, np, C)
theorem StR.nil : StR l k a cmd 0 a 0 cmd := ⟨fun j h => absurd h (Nat.not_lt_zero j), rfl⟩
theorem StR.lit (h : StR l k a cmd i x np C) (hp : parS (chr k i) = false) (hs : hasA l x (chr k i) = true) : StR l k a cmd (i + 1) (x + 1) np C := by
  obtain ⟨h1, h2⟩ := h
  have hw : wid l (chr k i) x = 1 := by rw [wid_lit hp, if_pos hs]
  refine ⟨fun j hj => ?_, ?_⟩
  · by_cases e : j = i
    · subst e; rw [h2, hw]; decide
    · exact h1 j (by omega)
  · show mstep l k i (mrun l k a cmd i) = _
    rw [h2, mstep_n (of_decide_eq_false hp)]
    show (x + wid l (chr k i) x, np, C) = _
    rw [hw]
theorem StR.par (h : StR l k a cmd i x np C) (hp : parS (chr k i) = true) (hw : ¬ wid l (chr k i) x = 0) : StR l k a cmd (i + 1) (x + wid l (chr k i) x) (np + 1) (ups C (np + 1) (nI (vof l (chr k i) x (wid l (chr k i) x)))) := by
  obtain ⟨h1, h2⟩ := h
  refine ⟨fun j hj => ?_, ?_⟩
  · by_cases e : j = i
    · subst e; rw [h2]; exact hw
    · exact h1 j (by omega)
  · show mstep l k i (mrun l k a cmd i) = _
    rw [h2, mstep_p (of_decide_eq_true hp)]
theorem StR.fail (h : StR l k a cmd i x np C) (hi : i < slen k) (hw : wid l (chr k i) x = 0) : mkR l k a cmd f = (none, C, max f x) := by
  obtain ⟨h1, h2⟩ := h
  have := mkR_f (f := f) hi h1 (by rw [h2]; exact hw)
  rw [h2] at this
  exact this
theorem StR.fit (h : StR l k a cmd i x np C) (hi : i < slen k) (hp : parS (chr k i) = false) (hs : hasA l x (chr k i) = false) : mkR l k a cmd f = (none, C, max f x) := h.fail hi (by rw [wid_lit hp, hs]; rfl)
theorem StR.done (h : StR l k a cmd (slen k) x np C) : mkR l k a cmd f = (some x, ups C 0 (nI k), f) := by
  obtain ⟨h1, h2⟩ := h
  have := mkR_s (f := f) h1
  rw [h2] at this
  exact this
theorem StR.lits {n : Nat} (hp : ∀ i, i < n → parS (chr k i) = false) (hl : ∀ i, i < n → hasA l (a + i) (chr k i) = true) : StR l k a cmd n (a + n) 0 cmd := by
  induction n with
  | zero => exact StR.nil
  | succ n ih => exact (ih (fun i hi => hp i (by omega)) (fun i hi => hl i (by omega))).lit (hp n (by omega)) (hl n (by omega))
def FailAt (l : List Nat) (a k P : Nat) : Prop := ∀ (cmd : Nat → Int32) (f : Nat), ∃ cmd', mkR l k a cmd f = (none, cmd', max f P)
def OkAt (l : List Nat) (a k e : Nat) (p : Nat → Nat) : Prop := ∀ (cmd : Nat → Int32) (f : Nat), ∃ cmd', mkR l k a cmd f = (some e, cmd', f) ∧ cmd' 0 = nI k ∧ ∀ j, 1 ≤ j → j ≤ ar k → cmd' j = nI (p j)
theorem par0 : ∀ k, k < 8 → parS (chr k 0) = false ∧ parS (chr k 1) = false ∧ 1 < slen k := by decide
theorem fail0 (hk : k < 8) (h : hasA l a (chr k 0) = false) : FailAt l a k a := fun cmd f => ⟨cmd, (StR.nil (cmd := cmd)).fit (by have := par0 k hk; omega) (par0 k hk).1 h⟩
theorem fail1 (hk : k < 8) (h : hasA l a (chr k 0) = true) (h1 : hasA l (a + 1) (chr k 1) = false) : FailAt l a k (a + 1) := fun cmd f => ⟨cmd, ((StR.nil (cmd := cmd)).lit (par0 k hk).1 h).fit (par0 k hk).2.2 (par0 k hk).2.1 h1⟩
def othr (l : List Nat) (a K : Nat) : Prop := ∀ k, k < 8 → k ≠ K → ∃ P, P ≤ a + 1 ∧ FailAt l a k P
theorem oth0 {K : Nat} (hs : hasA l a s = true) (h : ∀ k, k < 8 → k ≠ K → chr k 0 = s → hasA l (a + 1) (chr k 1) = false) : othr l a K := fun k hk hK => by
  by_cases e : chr k 0 = s
  · exact ⟨a + 1, Nat.le_refl _, fail1 hk (by rw [e]; exact hs) (h k hk hK e)⟩
  · exact ⟨a, Nat.le_succ a, fail0 hk (hasA_ne hs (fun q => e q.symm))⟩
theorem oth_t (h : hasA l a 116 = true) : othr l a 2 := oth0 h (fun k hk h1 h2 => absurd h2 ((by decide : ∀ k, k < 8 → k ≠ 2 → ¬ chr k 0 = 116) k hk h1))
theorem oth_d (h : hasA l a 100 = true) : othr l a 5 := oth0 h (fun k hk h1 h2 => absurd h2 ((by decide : ∀ k, k < 8 → k ≠ 5 → ¬ chr k 0 = 100) k hk h1))
theorem oth_f (h : hasA l a 102 = true) : othr l a 6 := oth0 h (fun k hk h1 h2 => absurd h2 ((by decide : ∀ k, k < 8 → k ≠ 6 → ¬ chr k 0 = 102) k hk h1))
theorem oth_m4 (h : hasA l a 109 = true) (h1 : hasA l (a + 1) 111 = true) : othr l a 4 := oth0 h (fun k hk h2 h3 => by
  have : ∀ k, k < 8 → k ≠ 4 → chr k 0 = 109 → chr k 1 ≠ 111 := by decide
  exact hasA_ne h1 (this k hk h2 h3).symm)
theorem oth_m0 (h : hasA l a 109 = true) (h1 : hasA l (a + 1) 111 = false) : othr l a 0 := oth0 h (fun k hk h2 h3 => by
  have : ∀ k, k < 8 → k ≠ 0 → chr k 0 = 109 → chr k 1 = 111 := by decide
  rw [this k hk h2 h3]; exact h1)
theorem oth_s7 (h : hasA l a 115 = true) (h1 : hasA l (a + 1) 101 = true) : othr l a 7 := oth0 h (fun k hk h2 h3 => by
  have : ∀ k, k < 8 → k ≠ 7 → chr k 0 = 115 → chr k 1 ≠ 101 := by decide
  exact hasA_ne h1 (this k hk h2 h3).symm)
theorem oth_s3 (h : hasA l a 115 = true) (h1 : hasA l (a + 1) 104 = true) : othr l a 3 := oth0 h (fun k hk h2 h3 => by
  have : ∀ k, k < 8 → k ≠ 3 → chr k 0 = 115 → chr k 1 ≠ 104 := by decide
  exact hasA_ne h1 (this k hk h2 h3).symm)
theorem oth_s1 (h : hasA l a 115 = true) (h1 : hasA l (a + 1) 101 = false) (h2 : hasA l (a + 1) 104 = false) : othr l a 1 := oth0 h (fun k hk h3 h4 => by
  have : ∀ k, k < 8 → k ≠ 1 → chr k 0 = 115 → chr k 1 = 101 ∨ chr k 1 = 104 := by decide
  rcases this k hk h3 h4 with e | e
  · rw [e]; exact h1
  · rw [e]; exact h2)
/-- the faults while no kind matches -/
theorem pcS_run {n : Nat} (h : ∀ k, k < n → ∃ P, P ≤ x ∧ FailAt l a k P) (hf : f ≤ x) : ∀ k, k ≤ n → f ≤ (pcS l a cmd f k).2 ∧ (pcS l a cmd f k).2 ≤ x
  | 0, _ => ⟨Nat.le_refl _, hf⟩
  | k + 1, hk => by
    have ih := pcS_run h hf k (by omega)
    obtain ⟨P, hP, hF⟩ := h k (by omega)
    obtain ⟨cmd', e⟩ := hF (pcS l a cmd f k).1 (pcS l a cmd f k).2
    show f ≤ (mkR l k a _ _).2.2 ∧ (mkR l k a _ _).2.2 ≤ x
    rw [e]
    show f ≤ max _ P ∧ max _ P ≤ x
    omega
theorem pcS_ge {n K : Nat} (h : ∀ k, k < n → ∃ P, FailAt l a k P) (hK : FailAt l a K x) : ∀ k, k ≤ n → K < k → x ≤ (pcS l a cmd f k).2
  | 0, _, h0 => absurd h0 (Nat.not_lt_zero K)
  | k + 1, hk, h0 => by
    obtain ⟨P, hF⟩ := h k (by omega)
    show x ≤ (mkR l k a _ _).2.2
    by_cases e : K = k
    · subst e
      obtain ⟨cmd', e⟩ := hK (pcS l a cmd f K).1 (pcS l a cmd f K).2
      rw [e]
      exact Nat.le_max_right _ _
    · have ih := pcS_ge h hK k (by omega) (by omega)
      obtain ⟨cmd', e⟩ := hF (pcS l a cmd f k).1 (pcS l a cmd f k).2
      rw [e]
      exact Nat.le_trans ih (Nat.le_max_left _ _)
theorem fail_m {P : Nat} (h : FailAt l a k P) : (pcM l a cmd f k).1 = none := by
  obtain ⟨cmd', e⟩ := h (pcS l a cmd f k).1 (pcS l a cmd f k).2
  unfold pcM
  rw [e]
theorem pc_all (h : ∀ k, k < 8 → ∃ P, P ≤ x ∧ FailAt l a k P) {K : Nat} (hK8 : K < 8) (hK : FailAt l a K x) (hf : f ≤ x) : (pcR l a cmd f).1 = none ∧ (pcR l a cmd f).2.2 = x := by
  have e := pcR_n (l := l) (a0 := a) (cmd := cmd) (f := f) (fun j hj => by obtain ⟨P, _, hF⟩ := h j hj; exact fail_m hF)
  rw [e]
  refine ⟨rfl, ?_⟩
  have h1 := (pcS_run (cmd := cmd) h hf 8 (Nat.le_refl _)).2
  have h2 := pcS_ge (cmd := cmd) (f := f) (n := 8) (fun k hk => by obtain ⟨P, _, hF⟩ := h k hk; exact ⟨P, hF⟩) hK 8 (Nat.le_refl _) hK8
  show (pcS l a cmd f 8).2 = x
  omega
theorem pc_n {K : Nat} (hK8 : K < 8) (ho : othr l a K) (hK : FailAt l a K x) (hx : a + 1 ≤ x) (hf : f ≤ a) : (pcR l a cmd f).1 = none ∧ (pcR l a cmd f).2.2 = x :=
  pc_all (fun k hk => by
    by_cases e : k = K
    · subst e; exact ⟨x, Nat.le_refl _, hK⟩
    · obtain ⟨P, h1, h2⟩ := ho k hk e; exact ⟨P, by omega, h2⟩) hK8 hK (by omega)
theorem pc_0 (h : ∀ k, k < 8 → hasA l a (chr k 0) = false) (hf : f ≤ a) : (pcR l a cmd f).1 = none ∧ (pcR l a cmd f).2.2 = a :=
  pc_all (fun k hk => ⟨a, Nat.le_refl _, fail0 hk (h k hk)⟩) (K := 0) (by decide) (fail0 (by decide) (h 0 (by decide))) hf
theorem pc_s {K e : Nat} {p : Nat → Nat} (hK8 : K < 8) (ho : othr l a K) (hK : OkAt l a K e p) (hf : f ≤ a) : (pcR l a cmd f).1 = some e ∧ (pcR l a cmd f).2.2 ≤ a + 1 ∧ (pcR l a cmd f).2.1 0 = nI K ∧ ∀ j, 1 ≤ j → j ≤ ar K → (pcR l a cmd f).2.1 j = nI (p j) := by
  obtain ⟨cmd', e1, e2, e3⟩ := hK (pcS l a cmd f K).1 (pcS l a cmd f K).2
  have hr := pcR_s (l := l) (a0 := a) (cmd := cmd) (f := f) hK8 (fun j hj => by obtain ⟨P, _, hF⟩ := ho j (by omega) (by omega); exact fail_m hF) (by unfold pcM; rw [e1]; intro q; cases q)
  have hb := (pcS_run (l := l) (a := a) (cmd := cmd) (f := f) (x := a + 1) (n := K) (fun k hk => ho k (by omega) (by omega)) (by omega) K (Nat.le_refl _)).2
  rw [hr]
  unfold pcM
  rw [e1]
  exact ⟨rfl, hb, e2, e3⟩
/-! words of the reference within the shapes -/
/-- the word w of the reference is the shape k from its place b on -/
def wordAt (k b w : Nat) : Prop := ∀ j, j < slen w → chr k (b + j) = chr w j ∧ parS (chr k (b + j)) = false
theorem wa : wordAt 2 1 8 ∧ wordAt 5 1 9 ∧ wordAt 6 1 10 ∧ wordAt 4 2 11 ∧ wordAt 0 1 12 ∧ wordAt 7 2 13 ∧ wordAt 3 2 14 ∧ wordAt 1 1 15 := by unfold wordAt; decide
theorem wd_t {w : Nat} (h : wdN l a w = none) : ∀ j, j < slen w → hasA l (a + j) (chr w j) = true := fun j hj => by
  rcases fnd_spec (fun j => !hasA l (a + j) (chr w j)) (slen w) with ⟨_, h2⟩ | ⟨k, h1, _⟩
  · have := h2 j hj; simpa using this
  · have h3 : fnd (fun j => !hasA l (a + j) (chr w j)) (slen w) = none := h
    rw [h1] at h3; cases h3
theorem wd_f {w j : Nat} (h : wdN l a w = some j) : j < slen w ∧ (∀ z, z < j → hasA l (a + z) (chr w z) = true) ∧ hasA l (a + j) (chr w j) = false := by
  rcases fnd_spec (fun j => !hasA l (a + j) (chr w j)) (slen w) with ⟨h1, _⟩ | ⟨k, h1, h2, h3, h4⟩
  · have h5 : fnd (fun j => !hasA l (a + j) (chr w j)) (slen w) = some j := h
    rw [h1] at h5; cases h5
  · have h5 : fnd (fun j => !hasA l (a + j) (chr w j)) (slen w) = some j := h
    rw [h1] at h5; cases h5
    exact ⟨h2, fun z hz => by have := h4 z hz; simpa using this, by simpa using h3⟩
/-- behind a word -/
theorem StR.word {b w : Nat} (h : StR l k a cmd b (a + b) 0 cmd) (hw : wordAt k b w) (hd : wdN l (a + b) w = none) : StR l k a cmd (b + slen w) (a + b + slen w) 0 cmd := by
  have hl := wd_t hd
  have key : ∀ n, n ≤ slen w → StR l k a cmd (b + n) (a + b + n) 0 cmd := fun n => by
    induction n with
    | zero => exact fun _ => h
    | succ n ih => exact fun hn => (ih (by omega)).lit (hw n (by omega)).2 (by rw [(hw n (by omega)).1]; exact hl n (by omega))
  exact key _ (Nat.le_refl _)
theorem StR.wordF {b w j : Nat} (h : StR l k a cmd b (a + b) 0 cmd) (hw : wordAt k b w) (hd : wdN l (a + b) w = some j) (hs : b + slen w ≤ slen k) : mkR l k a cmd f = (none, cmd, max f (a + b + j)) := by
  obtain ⟨h1, h2, h3⟩ := wd_f hd
  have key : ∀ n, n ≤ j → StR l k a cmd (b + n) (a + b + n) 0 cmd := fun n => by
    induction n with
    | zero => exact fun _ => h
    | succ n ih => exact fun hn => (ih (by omega)).lit (hw n (by omega)).2 (by rw [(hw n (by omega)).1]; exact h2 n (by omega))
  exact (key j (Nat.le_refl _)).fit (by omega) (hw j h1).2 (by rw [(hw j h1).1]; exact h3)
theorem StR.lit2 (h : StR l k a cmd i x np C) (e : chr k i = s ∧ parS (chr k i) = false) (hs : hasA l x s = true) : StR l k a cmd (i + 1) (x + 1) np C := h.lit e.2 (by rw [e.1]; exact hs)
theorem StR.fit2 (h : StR l k a cmd i x np C) (e : i < slen k ∧ chr k i = s ∧ parS (chr k i) = false) (hs : hasA l x s = false) : mkR l k a cmd f = (none, C, max f x) := h.fit e.1 e.2.2 (by rw [e.2.1]; exact hs)
theorem StR.par2 (h : StR l k a cmd i x np C) (e : chr k i = s ∧ parS (chr k i) = true) (hw : ¬ wid l s x = 0) : StR l k a cmd (i + 1) (x + wid l s x) (np + 1) (ups C (np + 1) (nI (vof l s x (wid l s x)))) := by
  have h2 := h.par e.2 (by rw [e.1]; exact hw)
  rw [e.1] at h2
  exact h2
theorem StR.fai2 (h : StR l k a cmd i x np C) (e : i < slen k ∧ chr k i = s) (hw : wid l s x = 0) : mkR l k a cmd f = (none, C, max f x) := h.fail e.1 (by rw [e.2]; exact hw)
theorem StR.word2 {b w n : Nat} (h : StR l k a cmd b (a + b) 0 cmd) (hw : wordAt k b w) (hn : slen w = n) (hd : wdN l (a + b) w = none) : StR l k a cmd (b + n) (a + b + n) 0 cmd := by
  subst hn
  exact h.word hw hd
theorem ok0 {e : Nat} (h : ∀ cmd, StR l k a cmd i e 0 cmd) (hi : slen k = i) (har : ar k = 0) : OkAt l a k e (fun _ => 0) := fun cmd f => by
  subst hi
  exact ⟨_, (h cmd).done, ups_s, fun j h1 h2 => by omega⟩
theorem ok1 {e v1 : Nat} (h : ∀ cmd, StR l k a cmd i e 1 (ups cmd 1 (nI v1))) (hi : slen k = i) (har : ar k = 1) : OkAt l a k e (fun _ => v1) := fun cmd f => by
  subst hi
  refine ⟨_, (h cmd).done, ups_s, fun j h1 h2 => ?_⟩
  obtain rfl : j = 1 := by omega
  rw [ups_n (by decide), ups_s]
theorem ok2 {e v1 v2 : Nat} (h : ∀ cmd, StR l k a cmd i e 2 (ups (ups cmd 1 (nI v1)) 2 (nI v2))) (hi : slen k = i) (har : ar k = 2) : OkAt l a k e (fun j => if j = 1 then v1 else v2) := fun cmd f => by
  subst hi
  refine ⟨_, (h cmd).done, ups_s, fun j h1 h2 => ?_⟩
  have h3 : j = 1 ∨ j = 2 := by omega
  rcases h3 with rfl | rfl
  · rw [ups_n (by decide), ups_n (by decide), ups_s]; rfl
  · rw [ups_n (by decide), ups_s]; rfl
theorem ok3 {e v1 v2 v3 : Nat} (h : ∀ cmd, StR l k a cmd i e 3 (ups (ups (ups cmd 1 (nI v1)) 2 (nI v2)) 3 (nI v3))) (hi : slen k = i) (har : ar k = 3) : OkAt l a k e (fun j => if j = 1 then v1 else if j = 2 then v2 else v3) := fun cmd f => by
  subst hi
  refine ⟨_, (h cmd).done, ups_s, fun j h1 h2 => ?_⟩
  have h3 : j = 1 ∨ j = 2 ∨ j = 3 := by omega
  rcases h3 with rfl | rfl | rfl
  · rw [ups_n (by decide), ups_n (by decide), ups_n (by decide), ups_s]; rfl
  · rw [ups_n (by decide), ups_n (by decide), ups_s]; rfl
  · rw [ups_n (by decide), ups_s]; rfl
end PRS

set_option maxHeartbeats 400000
/-! TEXT: parsing -/
theorem slen13 {k : Nat} (h : k < 8) : slen k ≤ 12 := by have := slen_lt k (by omega); omega
theorem fnd_lt {P : Nat → Bool} {n i : Nat} (h : fnd P n = some i) : i < n ∧ P i = true := by
  rcases fnd_spec P n with ⟨h1, _⟩ | ⟨k, h1, h2, h3, _⟩
  · rw [h1] at h; cases h
  · rw [h1] at h; cases h; exact ⟨h2, h3⟩
theorem mkR_le {l : List Nat} {k a0 f : Nat} {cmd : Nat → Int32} (hk : k < 8) : (mkR l k a0 cmd f).2.2 ≤ max f (a0 + 24) := by
  have h12 := slen13 hk
  unfold mkR
  cases q : mfail l k a0 cmd with
  | none => exact Nat.le_max_left _ _
  | some i =>
    have hi := (fnd_lt q).1
    have := mrun_le (l := l) (k := k) (a0 := a0) (cmd := cmd) i
    show max f _ ≤ _
    omega
theorem mkR_e {l : List Nat} {k a0 f e : Nat} {cmd : Nat → Int32} (hk : k < 8) (h : (mkR l k a0 cmd f).1 = some e) : e ≤ a0 + 24 := by
  have h12 := slen13 hk
  unfold mkR at h
  cases q : mfail l k a0 cmd with
  | none =>
    rw [q] at h
    have := mrun_le (l := l) (k := k) (a0 := a0) (cmd := cmd) (slen k)
    have h2 : some (mrun l k a0 cmd (slen k)).1 = some e := h
    cases h2
    omega
  | some i => rw [q] at h; cases h
def pcS (l : List Nat) (a0 : Nat) (cmd : Nat → Int32) (f : Nat) : Nat → (Nat → Int32) × Nat
  | 0 => (cmd, f)
  | k + 1 => (mkR l k a0 (pcS l a0 cmd f k).1 (pcS l a0 cmd f k).2).2
def pcM (l : List Nat) (a0 : Nat) (cmd : Nat → Int32) (f k : Nat) : Option Nat × (Nat → Int32) × Nat := mkR l k a0 (pcS l a0 cmd f k).1 (pcS l a0 cmd f k).2
def pcR (l : List Nat) (a0 : Nat) (cmd : Nat → Int32) (f : Nat) : Option Nat × (Nat → Int32) × Nat := match fnd (fun k => (pcM l a0 cmd f k).1.isSome) 8 with
  | some k => pcM l a0 cmd f k
  | none => (none, pcS l a0 cmd f 8)
theorem pcS_le {l : List Nat} {a0 f : Nat} {cmd : Nat → Int32} : ∀ k, k ≤ 8 → (pcS l a0 cmd f k).2 ≤ max f (a0 + 24)
  | 0, _ => Nat.le_max_left _ _
  | k + 1, hk => by
    have h := pcS_le (l := l) (a0 := a0) (f := f) (cmd := cmd) k (by omega)
    have h2 := mkR_le (l := l) (k := k) (a0 := a0) (f := (pcS l a0 cmd f k).2) (cmd := (pcS l a0 cmd f k).1) (by omega)
    show (mkR l k a0 _ _).2.2 ≤ _
    omega
theorem pcR_le {l : List Nat} {a0 f : Nat} {cmd : Nat → Int32} : (pcR l a0 cmd f).2.2 ≤ max f (a0 + 24) := by
  unfold pcR
  cases q : fnd (fun k => (pcM l a0 cmd f k).1.isSome) 8 with
  | none => exact pcS_le 8 (Nat.le_refl _)
  | some k =>
    have hk := (fnd_lt q).1
    have h := pcS_le (l := l) (a0 := a0) (f := f) (cmd := cmd) k (by omega)
    have h2 := mkR_le (l := l) (k := k) (a0 := a0) (f := (pcS l a0 cmd f k).2) (cmd := (pcS l a0 cmd f k).1) (by omega)
    show (pcM l a0 cmd f k).2.2 ≤ _
    unfold pcM
    omega
theorem pcR_e {l : List Nat} {a0 f e : Nat} {cmd : Nat → Int32} (h : (pcR l a0 cmd f).1 = some e) : e ≤ a0 + 24 := by
  unfold pcR at h
  cases q : fnd (fun k => (pcM l a0 cmd f k).1.isSome) 8 with
  | none => rw [q] at h; cases h
  | some k => rw [q] at h; exact mkR_e (fnd_lt q).1 h
theorem pcR_s {l : List Nat} {a0 f i : Nat} {cmd : Nat → Int32} (hi : i < 8) (hj : ∀ j, j < i → (pcM l a0 cmd f j).1 = none) (h : ¬ (pcM l a0 cmd f i).1 = none) : pcR l a0 cmd f = pcM l a0 cmd f i := by
  unfold pcR
  rw [fnd_some hi (fun j h2 => by rw [hj j h2]; rfl) (by cases q : (pcM l a0 cmd f i).1 with | none => exact absurd q h | some x => rfl)]
theorem pcR_n {l : List Nat} {a0 f : Nat} {cmd : Nat → Int32} (hj : ∀ j, j < 8 → (pcM l a0 cmd f j).1 = none) : pcR l a0 cmd f = (none, pcS l a0 cmd f 8) := by
  unfold pcR
  rw [fnd_none (fun j h2 => by rw [hj j h2]; rfl)]
theorem MkI.tx {M0 M : Nat → Nat → Int32} {A : Nat} {r : Option Nat × (Nat → Int32) × Nat} {l : List Nat} (h : MkI M0 A r M) (hT : SgAt M0 76 l) (hA : 79 ≤ A) : SgAt M 76 l := ⟨(h.2.2.1 1 (by decide)).trans hT.1, fun i hi => (h.2.2.2.at (by simp; omega) i).trans (hT.2 i hi)⟩
theorem MkI.trans {M0 M M1 : Nat → Nat → Int32} {A : Nat} {r r2 : Option Nat × (Nat → Int32) × Nat} (h : MkI M0 A r M) (h2 : MkI M A r2 M1) : MkI M0 A r2 M1 := ⟨h2.1, h2.2.1, fun j hj => (h2.2.2.1 j hj).trans (h.2.2.1 j hj), h.2.2.2.trans h2.2.2.2⟩
section T27
variable {G : gC} {ad : Nat → Nat} {d : Nat} {M : Nat → Nat → Int32} {o : (Nat → Int64) × (Nat → UInt64)} {l : List Nat}
theorem l_pcmd {M0 : Nat → Nat → Int32} (hT : SgAt M0 76 l) {A : Nat} (hA : isQ A) (hA9 : 79 ≤ A) (hl : l.length ≤ 60) (hc : ∀ i, l.getD i 0 < 65536) {a0 f : Nat} {cmd : Nat → Int32} (ha : a0 < 100) (hf : f < 900) : ∀ i, i ≤ 8 → ∀ (M : Nat → Nat → Int32), MkI M0 A (none, (pcS l a0 cmd f i)) M → (∀ j, j < i → (pcM l a0 cmd f j).1 = none) → ER G ad (d + 5) mX7_parseCommand (0, 0) (PI (some (.int (oI (pcR l a0 cmd f).1))) o (fun M' => MkI M0 A (pcR l a0 cmd f) M')) (0, 0) 2 [some (.ref (ad 76)), some (.int (nI a0)), some (.ref (ad (A))), some (.int (nI i)), none] [] (M, o) := down (8) _ (fun i hi ih M hI hz => by
  have hTM := hI.tx hT hA9
  have hle := pcS_le (l := l) (a0 := a0) (f := f) (cmd := cmd) i hi
  have hme := fun (h : i < 8) (e : Nat) (q : (pcM l a0 cmd f i).1 = some e) => mkR_e h q
  refine e_iload_n (pc' := 3) dX7_parseCommand_2 rfl rfl rfl ?_
  refine e_bipush (pc' := 5) (v := nI 8) dX7_parseCommand_3 rfl (by decide) ?_
  refine e_icmp_geN (pc' := 8) (tgt := 32) dX7_parseCommand_5 rfl (by decide) (by omega) (by omega) (fun hz1 => ?_) (fun hz1 => ?_)
  · refine e_iconst (pc' := 33) (v := (-1)) dX7_parseCommand_32 rfl (by decide) ?_
    exact e_iret dX7_parseCommand_33 rfl ((by
      have e9 : i = 8 := by omega
      subst e9
      have e := pcR_n hz
      exact MP.retI (by rw [e]; rfl) (by rw [e]; exact hI))) (by decide) (by decide)
  · refine e_aload_n (pc' := 9) dX7_parseCommand_8 rfl rfl rfl ?_
    refine e_iload_n (pc' := 10) dX7_parseCommand_9 rfl rfl rfl ?_
    refine e_iload_n (pc' := 11) dX7_parseCommand_10 rfl rfl rfl ?_
    refine e_aload_n (pc' := 12) dX7_parseCommand_11 rfl rfl rfl ?_
    refine r_VI (pc' := 15) (m' := mX7_matchKind) (As := [.int (nI i), .int (nI a0), .ref (ad (A))]) (st := []) (c_match (d := d) hTM hA hA9 hl hc (k := i) (a0 := a0) (f := (pcS l a0 cmd f i).2) (cmd := (pcS l a0 cmd f i).1) (by omega) ha (by omega) hI.1 hI.2.1) dX7_parseCommand_12 rfl rfl (Nat.le_of_ble_eq_true rfl) (fit_of (by omega) (by decide) (by decide) (by decide)) ml_X7_40 okX7_matchKind rfl rfl (by decide) rfl (fun MM1 hI1 => ?_)
    show EV _ _ _ _ _ 15 _ ([.int (oI (pcM l a0 cmd f i).1)]) _
    refine e_istore (pc' := 17) (L' := [some (.ref (ad 76)), some (.int (nI a0)), some (.ref (ad (A))), some (.int (nI i)), some (.int (oI (pcM l a0 cmd f i).1))]) dX7_parseCommand_15 rfl (by decide) rfl ?_
    refine e_iload (pc' := 19) dX7_parseCommand_17 rfl rfl ?_
    refine e_iconst (pc' := 20) (v := (-1)) dX7_parseCommand_19 rfl (by decide) ?_
    refine e_icmp_eq (pc' := 23) (tgt := 26) dX7_parseCommand_20 rfl (by decide) (fun he => ?_) (fun he => ?_)
    · refine e_iincN (pc' := 29) (k := 1) (L' := [some (.ref (ad 76)), some (.int (nI a0)), some (.ref (ad (A))), some (.int (nI (i + 1))), some (.int (oI (pcM l a0 cmd f i).1))]) dX7_parseCommand_26 rfl rfl rfl (by decide) rfl ?_
      refine e_goto (tgt := 2) dX7_parseCommand_29 (by decide) ?_
      refine e_fg (i := 4) (L' := [some (.ref (ad 76)), some (.int (nI a0)), some (.ref (ad (A))), some (.int (nI (i + 1))), none]) rfl ?_
      exact ih (by omega) _ (hI.trans hI1) (fun j hj => by by_cases e3 : j = i; rw [e3]; exact (oI_ne (fun z q => by have := hme (by omega) z q; omega)).mp he; exact hz j (by omega))
    · refine e_iload (pc' := 25) dX7_parseCommand_23 rfl rfl ?_
      exact e_iret dX7_parseCommand_25 rfl ((by
      have e := pcR_s (by omega) hz (fun q => he (by rw [q]; rfl))
      exact MP.retI (by rw [e]) (by rw [e]; exact hI.trans hI1))) (by decide) (by decide))
theorem c_pcmd (hT : SgAt M 76 l) {A : Nat} (hA : isQ A) (hA9 : 79 ≤ A) (hl : l.length ≤ 60) (hc : ∀ i, l.getD i 0 < 65536) {a0 f : Nat} {cmd : Nat → Int32} (ha : a0 < 100) (hf : f < 900) (hq : IAr M A 4 cmd) (h4 : M 76 4 = nI f) : RETI G ad (d + 5) mX7_parseCommand [.ref (ad 76), .int (nI a0), .ref (ad (A))] (M, o) (some (.int (oI (pcR l a0 cmd f).1))) (fun M' => MkI M A (pcR l a0 cmd f) M') := by
  refine CM_of rfl (by decide) rfl (Nat.le_of_ble_eq_true rfl) rfl ?_
  refine e_iconst (pc' := 1) (v := nI 0) dX7_parseCommand_0 rfl (by decide) ?_
  refine e_istore_n (pc' := 2) (L' := [some (.ref (ad 76)), some (.int (nI a0)), some (.ref (ad (A))), some (.int (nI 0)), none]) dX7_parseCommand_1 rfl rfl (by decide) rfl ?_
  exact l_pcmd hT hA hA9 hl hc ha hf 0 (by omega) M ⟨hq, h4, fun _ _ => rfl, KP.refl⟩ (fun j hj => absurd hj (Nat.not_lt_zero j))
def prS (l : List Nat) (cmds : Nat → Nat → Int32) : Nat → Nat × Nat
  | 0 => (0, 0)
  | i + 1 => ((match (pcR l (prS l cmds i).1 (cmds i) (prS l cmds i).2).1 with | some e => e + 1 | none => 0), (pcR l (prS l cmds i).1 (cmds i) (prS l cmds i).2).2.2)
def prT (l : List Nat) (cmds : Nat → Nat → Int32) (i : Nat) : Option Nat × (Nat → Int32) × Nat := pcR l (prS l cmds i).1 (cmds i) (prS l cmds i).2
def prC (l : List Nat) (cmds : Nat → Nat → Int32) (i : Nat) : Bool := match (prT l cmds i).1 with
  | none => false
  | some e => decide (¬ e = l.length) && hasA l e 59
def prR (l : List Nat) (cmds : Nat → Nat → Int32) : Bool × Nat × Nat := match fnd (fun i => !prC l cmds i) 15 with
  | none => (false, 15, (prS l cmds 15).2)
  | some i => match (prT l cmds i).1 with
    | none => (false, i, (prT l cmds i).2.2)
    | some e => if e = l.length then (true, i + 1, (prT l cmds i).2.2) else (false, i + 1, e)
theorem cmd_ref : ∀ i, i < 15 → [some 79, some 80, some 81, some 82, some 83, some 84, some 85, some 86, some 87, some 88, some 89, some 90, some 91, some 92, some 93][i]? = some (some (79 + i)) := by decide
theorem prS_b {cmds : Nat → Nat → Int32} (hl : l.length ≤ 60) : ∀ i, (∀ j, j < i → prC l cmds j = true) → (prS l cmds i).1 ≤ 60 ∧ (prS l cmds i).2 ≤ 200
  | 0, _ => ⟨Nat.zero_le _, Nat.zero_le _⟩
  | i + 1, h => by
    have ih := prS_b (cmds := cmds) hl i (fun j hj => h j (by omega))
    have hc := h i (by omega)
    have hle := pcR_le (l := l) (a0 := (prS l cmds i).1) (cmd := cmds i) (f := (prS l cmds i).2)
    unfold prC prT at hc
    show (match (pcR l (prS l cmds i).1 (cmds i) (prS l cmds i).2).1 with | some e => e + 1 | none => 0) ≤ 60 ∧ _
    cases q : (pcR l (prS l cmds i).1 (cmds i) (prS l cmds i).2).1 with
    | none => rw [q] at hc; cases hc
    | some e =>
      rw [q] at hc
      have h2 : hasA l e 59 = true := by
        have hc2 : (decide (¬ e = l.length) && hasA l e 59) = true := hc
        rw [Bool.and_eq_true] at hc2; exact hc2.2
      have h3 := (of_decide_eq_true h2).1
      refine ⟨by show e + 1 ≤ 60; omega, ?_⟩
      show (pcR l (prS l cmds i).1 (cmds i) (prS l cmds i).2).2.2 ≤ 200
      omega
/-- while it parses: i commands are done -/
def PrI (l : List Nat) (cmds : Nat → Nat → Int32) (M0 : Nat → Nat → Int32) (i cn2 f : Nat) (M : Nat → Nat → Int32) : Prop := M 76 3 = nI cn2 ∧ M 76 4 = nI f ∧ (∀ j, j < i → IAr M (79 + j) 4 (prT l cmds j).2.1) ∧ (∀ j, i ≤ j → j < 15 → IAr M (79 + j) 4 (cmds j)) ∧ (∀ j, j ≠ 3 → j ≠ 4 → M 76 j = M0 76 j) ∧ KP (fun a => inR 79 93 a || a == 76) M0 M
theorem PrI.tx {cmds : Nat → Nat → Int32} {M0 M : Nat → Nat → Int32} {i cn2 f : Nat} (h : PrI l cmds M0 i cn2 f M) (hT : SgAt M0 76 l) : SgAt M 76 l := ⟨(h.2.2.2.2.1 1 (by decide) (by decide)).trans hT.1, fun j hj => (h.2.2.2.2.2.at (by unfold inR; simp) j).trans (hT.2 j hj)⟩
/-- what parsing leaves -/
def PrZ (l : List Nat) (cmds : Nat → Nat → Int32) (M0 M : Nat → Nat → Int32) : Prop := M 76 3 = nI (prR l cmds).2.1 ∧ M 76 4 = nI (prR l cmds).2.2 ∧ ((prR l cmds).1 = true → ∀ j, j < (prR l cmds).2.1 → IAr M (79 + j) 4 (prT l cmds j).2.1) ∧ (∀ j, j ≠ 3 → j ≠ 4 → M 76 j = M0 76 j) ∧ KP (fun a => inR 79 93 a || a == 76) M0 M
theorem PrI.next {cmds : Nat → Nat → Int32} {M0 M M1 : Nat → Nat → Int32} {i cn2 f : Nat} (h : PrI l cmds M0 i cn2 f M) (hi : i < 15) (h1 : MkI M (79 + i) (prT l cmds i) M1) : PrI l cmds M0 (i + 1) cn2 (prT l cmds i).2.2 M1 := by
  obtain ⟨g1, g2, g3, g4, g5, g6⟩ := h
  obtain ⟨k1, k2, k3, k4⟩ := h1
  have kk : ∀ j, j ≠ i → M1 (79 + j) = M (79 + j) := fun j hj => k4 _ (by simp; omega)
  refine ⟨(k3 3 (by decide)).trans g1, k2, fun j hj => ?_, fun j hj1 hj2 => fun z hz => ?_, fun j hj1 hj2 => (k3 j hj2).trans (g5 j hj1 hj2), g6.trans (k4.wide (fun a ha => by unfold inR at ha; simp at ha ⊢; omega))⟩
  · by_cases e : j = i
    · subst e; exact k1
    · intro z hz
      rw [kk j e]
      exact g3 j (by omega) z hz
  · rw [kk j (by omega)]
    exact g4 j (by omega) hj2 z hz
theorem PrI.cnt {cmds : Nat → Nat → Int32} {M0 M : Nat → Nat → Int32} {i cn2 f x : Nat} (h : PrI l cmds M0 i cn2 f M) : PrI l cmds M0 i x f (up2 M 76 3 (nI x)) := by
  obtain ⟨g1, g2, g3, g4, g5, g6⟩ := h
  exact ⟨up2_s, by rw [up2_k (by decide)]; exact g2, fun j hj => (g3 j hj).up (by omega), fun j h1 h2 => (g4 j h1 h2).up (by omega), fun j h1 h2 => by rw [up2_k h1]; exact g5 j h1 h2, g6.up (by decide)⟩
theorem PrI.flt {cmds : Nat → Nat → Int32} {M0 M : Nat → Nat → Int32} {i cn2 f x : Nat} (h : PrI l cmds M0 i cn2 f M) : PrI l cmds M0 i cn2 x (up2 M 76 4 (nI x)) := by
  obtain ⟨g1, g2, g3, g4, g5, g6⟩ := h
  exact ⟨by rw [up2_k (by decide)]; exact g1, up2_s, fun j hj => (g3 j hj).up (by omega), fun j h1 h2 => (g4 j h1 h2).up (by omega), fun j h1 h2 => by rw [up2_k h2]; exact g5 j h1 h2, g6.up (by decide)⟩
theorem PrI.z {cmds : Nat → Nat → Int32} {M0 M : Nat → Nat → Int32} {i cn2 f : Nat} {b : Bool} (h : PrI l cmds M0 i cn2 f M) (e : prR l cmds = (b, cn2, f)) (hb : b = true → cn2 = i) : PrZ l cmds M0 M := by
  obtain ⟨g1, g2, g3, g4, g5, g6⟩ := h
  unfold PrZ
  rw [e]
  exact ⟨g1, g2, fun hb2 j hj => g3 j (by have := hb hb2; have hj2 : j < cn2 := hj; omega), g5, g6⟩
theorem prR_at {cmds : Nat → Nat → Int32} {i : Nat} (hi : i < 15) (hj : ∀ j, j < i → prC l cmds j = true) (h : prC l cmds i = false) : prR l cmds = (match (prT l cmds i).1 with | none => (false, i, (prT l cmds i).2.2) | some e => if e = l.length then (true, i + 1, (prT l cmds i).2.2) else (false, i + 1, e)) := by
  unfold prR
  rw [fnd_some hi (fun j h2 => by rw [hj j h2]; rfl) (by rw [h]; rfl)]
theorem prR_no {cmds : Nat → Nat → Int32} (hj : ∀ j, j < 15 → prC l cmds j = true) : prR l cmds = (false, 15, (prS l cmds 15).2) := by
  unfold prR
  rw [fnd_none (fun j h2 => by rw [hj j h2]; rfl)]
theorem l_parse {M0 : Nat → Nat → Int32} (hT : SgAt M0 76 l) (hl : l.length ≤ 60) (hc : ∀ i, l.getD i 0 < 65536) {cmds : Nat → Nat → Int32} : ∀ i, i ≤ 15 → ∀ (M : Nat → Nat → Int32), PrI l cmds M0 i i (prS l cmds i).2 M → (∀ j, j < i → prC l cmds j = true) → ER G ad (d + 6) mX7_parse (0, 0) (PI (some (.int (bI ((prR l cmds).1)))) o (fun M' => PrZ l cmds M0 M')) (0, 0) 14 [some (.ref (ad 76)), some (.int (nI ((prS l cmds i).1))), some (.int (nI i)), none] [] (M, o) := down (15) _ (fun i hi ih M hI hz => by
  have hTM := hI.tx hT
  have hb := prS_b (cmds := cmds) hl i hz
  refine e_iload_n (pc' := 15) dX7_parse_14 rfl rfl rfl ?_
  refine e_bipush (pc' := 17) (v := nI 15) dX7_parse_15 rfl (by decide) ?_
  refine e_icmp_geN (pc' := 20) (tgt := 86) dX7_parse_17 rfl (by decide) (by omega) (by omega) (fun hz1 => ?_) (fun hz1 => ?_)
  · refine e_iconst (pc' := 87) (v := nI 0) dX7_parse_86 rfl (by decide) ?_
    exact e_zret (ty := .boolean) dX7_parse_87 rfl (rfl) ((by
      have e9 : i = 15 := by omega
      subst e9
      have e1 := prR_no hz
      exact MP.retI (by rw [e1]; rfl) (hI.z e1 (fun q => by cases q)))) (by decide) (by decide)
  · refine e_aload_n (pc' := 21) dX7_parse_20 rfl rfl rfl ?_
    refine e_iload_n (pc' := 22) dX7_parse_21 rfl rfl rfl ?_
    refine e_aload_n (pc' := 23) dX7_parse_22 rfl rfl rfl ?_
    refine p_gfr (pc' := 26) (a := 76) (k := 2) (t := 78) dX7_parse_23 rfl rfl (by decide) (by decide) rfl fl_X7_17 ?_
    refine e_iload_n (pc' := 27) dX7_parse_26 rfl rfl rfl ?_
    refine p_aald (pc' := 28) (a := 78) (k := i) (t := 79 + i) dX7_parse_27 rfl (Or.inr rfl) rfl (by omega) (by decide) (cmd_ref i (by omega)) ?_
    refine r_VI (pc' := 31) (m' := mX7_parseCommand) (As := [.int (nI ((prS l cmds i).1)), .ref (ad (79 + i))]) (st := []) (c_pcmd (d := d) hTM (A := 79 + i) (isQs i (by omega)) (by omega) hl hc (a0 := (prS l cmds i).1) (f := (prS l cmds i).2) (cmd := cmds i) (by omega) (by omega) (hI.2.2.2.1 i (Nat.le_refl _) (by omega)) hI.2.1) dX7_parse_28 rfl rfl (Nat.le_of_ble_eq_true rfl) (fit_of (by omega) (by decide) (by decide) (by decide)) ml_X7_32 okX7_parseCommand rfl rfl (by decide) rfl (fun MP1 hI1 => ?_)
    show EV _ _ _ _ _ 31 _ ([.int (oI (prT l cmds i).1)]) _
    have hI2 := hI.next (by omega) hI1
    have hT2 := hI2.tx hT
    refine e_istore_n (pc' := 32) (L' := [some (.ref (ad 76)), some (.int (nI ((prS l cmds i).1))), some (.int (nI i)), some (.int (oI (prT l cmds i).1))]) dX7_parse_31 rfl rfl (by decide) rfl ?_
    refine e_iload_n (pc' := 33) dX7_parse_32 rfl rfl rfl ?_
    refine e_iconst (pc' := 34) (v := (-1)) dX7_parse_33 rfl (by decide) ?_
    refine e_icmp_ne (pc' := 37) (tgt := 39) dX7_parse_34 rfl (by decide) (fun h1 => ?_) (fun h1 => ?_)
    · obtain ⟨e, he⟩ : ∃ e, (prT l cmds i).1 = some e := by
        cases hq : (prT l cmds i).1 with
        | none => rw [hq] at h1; exact absurd rfl h1
        | some e => exact ⟨e, rfl⟩
      rw [he]
      have hee := pcR_e he
      refine e_aload_n (pc' := 40) dX7_parse_39 rfl rfl rfl ?_
      refine e_dup (pc' := 41) dX7_parse_40 rfl rfl ?_
      refine p_gfi (pc' := 44) (a := 76) (k := 3) (x := nI i) dX7_parse_41 rfl (rfl) (by decide) (by decide) rfl fl_X7_26 (hI2.1) ?_
      refine e_iconst (pc' := 45) (v := nI 1) dX7_parse_44 rfl (by decide) ?_
      refine e_iaddN (pc' := 46) dX7_parse_45 rfl ?_
      refine p_pfi (pc' := 49) (a := 76) (k := 3) dX7_parse_46 rfl (rfl) (by decide) (by decide) rfl fl_X7_26 rfl rfl ?_
      refine e_iload_n (pc' := 50) dX7_parse_49 rfl rfl rfl ?_
      refine e_aload_n (pc' := 51) dX7_parse_50 rfl rfl rfl ?_
      refine p_gfi (pc' := 54) (a := 76) (k := 1) (x := nI (l.length)) dX7_parse_51 rfl (rfl) (by decide) (by decide) rfl fl_X7_22 (by rw [up2_k (by decide)]; exact hT2.1) ?_
      refine e_icmp_neN (pc' := 57) (tgt := 59) dX7_parse_54 rfl (by decide) (by omega) (by omega) (fun h2 => ?_) (fun h2 => ?_)
      · refine e_aload_n (pc' := 60) dX7_parse_59 rfl rfl rfl ?_
        refine e_iload_n (pc' := 61) dX7_parse_60 rfl rfl rfl ?_
        refine e_bipush (pc' := 63) (v := nI 59) dX7_parse_61 rfl (by decide) ?_
        refine r_V (pc' := 66) (m' := mX7_hasAt) (As := [.int (nI e), .int (nI 59)]) (st := []) (c_hasAt (d := d) (hT2.upk (by decide)) hl hc (a := e) (s := 59) (by omega) (by omega)) dX7_parse_63 rfl rfl (Nat.le_of_ble_eq_true rfl) (fit_of (by omega) (by decide) (by decide) (by decide)) ml_X7_36 okX7_hasAt rfl rfl (by decide) rfl ?_
        show EV _ _ _ _ _ 66 _ ([.int (bI (hasA l (e) (59)))]) _
        refine e_if_neB (pc' := 69) (tgt := 76) dX7_parse_66 rfl (by decide) (fun h3 => ?_) (fun h3 => ?_)
        · refine e_iload_n (pc' := 77) dX7_parse_76 rfl rfl rfl ?_
          refine e_iconst (pc' := 78) (v := nI 1) dX7_parse_77 rfl (by decide) ?_
          refine e_iaddN (pc' := 79) dX7_parse_78 rfl ?_
          refine e_istore_n (pc' := 80) (L' := [some (.ref (ad 76)), some (.int (nI (e + 1))), some (.int (nI i)), some (.int (nI e))]) dX7_parse_79 rfl rfl (by decide) rfl ?_
          refine e_iincN (pc' := 83) (k := 1) (L' := [some (.ref (ad 76)), some (.int (nI (e + 1))), some (.int (nI (i + 1))), some (.int (nI e))]) dX7_parse_80 rfl rfl rfl (by decide) rfl ?_
          refine e_goto (tgt := 14) dX7_parse_83 (by decide) ?_
          refine e_fg (i := 3) (L' := [some (.ref (ad 76)), some (.int (nI (e + 1))), some (.int (nI (i + 1))), none]) rfl ?_
          have e1 : (prS l cmds (i + 1)).1 = e + 1 := by show (match (prT l cmds i).1 with | some e => e + 1 | none => 0) = _; rw [he]
          exact ih (by omega) |> fun q => by rw [e1] at q; exact q _ hI2.cnt (fun j hj => by by_cases e3 : j = i; rw [e3]; unfold prC; rw [he]; simp [h2, h3]; exact hz j (by omega))
        · refine e_aload_n (pc' := 70) dX7_parse_69 rfl rfl rfl ?_
          refine e_iload_n (pc' := 71) dX7_parse_70 rfl rfl rfl ?_
          refine p_pfi (pc' := 74) (a := 76) (k := 4) dX7_parse_71 rfl (rfl) (by decide) (by decide) rfl fl_X7_29 rfl rfl ?_
          refine e_iconst (pc' := 75) (v := nI 0) dX7_parse_74 rfl (by decide) ?_
          exact e_zret (ty := .boolean) dX7_parse_75 rfl (rfl) ((by
      have e1 := prR_at (by omega) hz (by unfold prC; rw [he]; simp [h2, h3])
      rw [he] at e1
      have e2 := e1.trans (if_neg h2)
      exact MP.retI (by rw [e2]; rfl) (hI2.cnt.flt.z e2 (fun q => by cases q)))) (by decide) (by decide)
      · refine e_iconst (pc' := 58) (v := nI 1) dX7_parse_57 rfl (by decide) ?_
        exact e_zret (ty := .boolean) dX7_parse_58 rfl (rfl) ((by
      have e1 := prR_at (by omega) hz (by unfold prC; rw [he]; simp [h2])
      rw [he] at e1
      have e2 := e1.trans (if_pos h2)
      exact MP.retI (by rw [e2]; rfl) (hI2.cnt.z e2 (fun _ => rfl)))) (by decide) (by decide)
    · refine e_iconst (pc' := 38) (v := nI 0) dX7_parse_37 rfl (by decide) ?_
      exact e_zret (ty := .boolean) dX7_parse_38 rfl (rfl) ((by
      have e0 := (oI_ne (fun z q => by have := pcR_e q; omega)).mp h1
      have e1 := prR_at (by omega) hz (by unfold prC; rw [e0])
      rw [e0] at e1
      exact MP.retI (by rw [e1]; rfl) (hI2.z e1 (fun q => by cases q)))) (by decide) (by decide))
theorem c_parse (hT : SgAt M 76 l) (hl : l.length ≤ 60) (hc : ∀ i, l.getD i 0 < 65536) : RETI G ad (d + 6) mX7_parse [.ref (ad 76)] (M, o) (some (.int (bI ((prR l (fun j => M (79 + j))).1)))) (fun M' => PrZ l (fun j => M (79 + j)) M M') := by
  refine CM_of rfl (by decide) rfl (Nat.le_of_ble_eq_true rfl) rfl ?_
  refine e_aload_n (pc' := 1) dX7_parse_0 rfl rfl rfl ?_
  refine e_iconst (pc' := 2) (v := nI 0) dX7_parse_1 rfl (by decide) ?_
  refine p_pfi (pc' := 5) (a := 76) (k := 3) dX7_parse_2 rfl (rfl) (by decide) (by decide) rfl fl_X7_26 rfl rfl ?_
  refine e_aload_n (pc' := 6) dX7_parse_5 rfl rfl rfl ?_
  refine e_iconst (pc' := 7) (v := nI 0) dX7_parse_6 rfl (by decide) ?_
  refine p_pfi (pc' := 10) (a := 76) (k := 4) dX7_parse_7 rfl (rfl) (by decide) (by decide) rfl fl_X7_29 rfl rfl ?_
  refine e_iconst (pc' := 11) (v := nI 0) dX7_parse_10 rfl (by decide) ?_
  refine e_istore_n (pc' := 12) (L' := [some (.ref (ad 76)), some (.int (nI 0)), none, none]) dX7_parse_11 rfl rfl (by decide) rfl ?_
  refine e_iconst (pc' := 13) (v := nI 0) dX7_parse_12 rfl (by decide) ?_
  refine e_istore_n (pc' := 14) (L' := [some (.ref (ad 76)), some (.int (nI 0)), some (.int (nI 0)), none]) dX7_parse_13 rfl rfl (by decide) rfl ?_
  refine l_parse (M0 := M) hT hl hc (cmds := fun j => M (79 + j)) 0 (by omega) _ ⟨by rw [up2_k (by decide)]; exact up2_s, up2_s, fun j hj => absurd hj (Nat.not_lt_zero j), fun j _ _ z _ => by rw [up2_n (by omega), up2_n (by omega)], fun j h1 h2 => by rw [up2_k h2, up2_k h1], (KP.refl.up (by decide)).up (by decide)⟩ (fun j hj => absurd hj (Nat.not_lt_zero j))
end T27

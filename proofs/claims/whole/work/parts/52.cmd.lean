set_option maxHeartbeats 400000
/-! THE REFERENCE: a command of a text -/
/-- what a command's reading leaves, beside the class's -/
def CMO (l : List Nat) (a tm : Nat) (cmd : Nat → Int32) (f : Nat) (M M' : Nat → Nat → Int32) : Prop := match (pcR l a cmd f).1 with
  | some e => TB l e tm M M' ∧ a + 4 ≤ e ∧ (pcR l a cmd f).2.2 ≤ a + 1 ∧ ∃ K, K < 8 ∧ (pcR l a cmd f).2.1 0 = nI K ∧ M' 103 (4 * tm) = nI (mdK K) ∧ ∀ j, 1 ≤ j → j ≤ ar K → (pcR l a cmd f).2.1 j = M' 103 (4 * tm + j)
  | none => TB l (pcR l a cmd f).2.2 tm M M'
section T52
variable {G : gC} {ad : Nat → Nat} {d : Nat} {M M0 : Nat → Nat → Int32} {o : (Nat → Int64) × (Nat → UInt64)} {l : List Nat} {a tm s k f : Nat} {cmd : Nat → Int32}
theorem cmo_n {x K : Nat} {M' : Nat → Nat → Int32} (hB : TB l x tm M M') (hK8 : K < 8) (ho : othr l a K) (hK : FailAt l a K x) (hx : a + 1 ≤ x) (hf : f ≤ a) : (pcR l a cmd f).1 = none ∧ CMO l a tm cmd f M M' := by
  obtain ⟨h1, h2⟩ := pc_n (cmd := cmd) hK8 ho hK hx hf
  refine ⟨h1, ?_⟩
  unfold CMO
  rw [h1, h2]
  exact hB
theorem cmo_0 {M' : Nat → Nat → Int32} (hB : TB l a tm M M') (h : ∀ k, k < 8 → hasA l a (chr k 0) = false) (hf : f ≤ a) : (pcR l a cmd f).1 = none ∧ CMO l a tm cmd f M M' := by
  obtain ⟨h1, h2⟩ := pc_0 (cmd := cmd) h hf
  refine ⟨h1, ?_⟩
  unfold CMO
  rw [h1, h2]
  exact hB
theorem cmo_s {e K : Nat} {p : Nat → Nat} {M' : Nat → Nat → Int32} (hB : TB l e tm M M') (hK8 : K < 8) (ho : othr l a K) (hK : OkAt l a K e p) (h0 : M' 103 (4 * tm) = nI (mdK K)) (hp : ∀ j, 1 ≤ j → j ≤ ar K → M' 103 (4 * tm + j) = nI (p j)) (he : a + 4 ≤ e) (hf : f ≤ a) : (pcR l a cmd f).1.isSome = true ∧ CMO l a tm cmd f M M' := by
  obtain ⟨h1, h2, h3, h4⟩ := pc_s (cmd := cmd) hK8 ho hK hf
  refine ⟨by rw [h1]; rfl, ?_⟩
  unfold CMO
  rw [h1]
  exact ⟨hB, he, h2, K, hK8, h3, h0, fun j g1 g2 => (h4 j g1 g2).trans (hp j g1 g2).symm⟩
theorem hp0 {K : Nat} {p : Nat → Nat} {M' : Nat → Nat → Int32} (har : ar K = 0) : ∀ j, 1 ≤ j → j ≤ ar K → M' 103 (4 * tm + j) = nI (p j) := fun j h1 h2 => by omega
theorem hp1 {K v1 : Nat} {M' : Nat → Nat → Int32} (har : ar K = 1) (h1 : M' 103 (4 * tm + 1) = nI v1) : ∀ j, 1 ≤ j → j ≤ ar K → M' 103 (4 * tm + j) = nI ((fun _ => v1) j) := fun j g1 g2 => by
  obtain rfl : j = 1 := by omega
  exact h1
theorem hp2 {K v1 v2 : Nat} {M' : Nat → Nat → Int32} (har : ar K = 2) (h1 : M' 103 (4 * tm + 1) = nI v1) (h2 : M' 103 (4 * tm + 1 + 1) = nI v2) : ∀ j, 1 ≤ j → j ≤ ar K → M' 103 (4 * tm + j) = nI ((fun j => if j = 1 then v1 else v2) j) := fun j g1 g2 => by
  have h3 : j = 1 ∨ j = 2 := by omega
  rcases h3 with rfl | rfl
  · exact h1
  · exact h2
theorem hp3 {K v1 v2 v3 : Nat} {M' : Nat → Nat → Int32} (har : ar K = 3) (h1 : M' 103 (4 * tm + 1) = nI v1) (h2 : M' 103 (4 * tm + 1 + 1) = nI v2) (h3 : M' 103 (4 * tm + 1 + 2) = nI v3) : ∀ j, 1 ≤ j → j ≤ ar K → M' 103 (4 * tm + j) = nI ((fun j => if j = 1 then v1 else if j = 2 then v2 else v3) j) := fun j g1 g2 => by
  have h4 : j = 1 ∨ j = 2 ∨ j = 3 := by omega
  rcases h4 with rfl | rfl | rfl
  · exact h1
  · exact h2
  · exact h3
/-! the readers, a case each -/
theorem g_word_t {n : Nat} (hB : TB l a tm M0 M) (hl : l.length ≤ 60) (hc : ∀ i, l.getD i 0 < 65536) (ha : a < 80) (hk : k < 16) (htm : tm ≤ 30) (hs : s < 10) (hn : slen k = n) (h : wdN l a k = none) : RETI G ad (d + 5) mX9_isWord [.ref (ad 96), .int (nI s), .ref (gK G k)] (M, o) (some (.int (bI true))) (fun M' => TB l (a + n) tm M0 M' ∧ (∀ y, y ≠ 4 * tm → M' 103 y = M 103 y) ∧ M' 103 (4 * tm) = nI s) := by
  have q := g_word (G := G) (ad := ad) (d := d) (o := o) hB hl hc (by omega) hk htm ha hs
  rw [h, hn] at q
  exact q
theorem g_word_f {j : Nat} (hB : TB l a tm M0 M) (hl : l.length ≤ 60) (hc : ∀ i, l.getD i 0 < 65536) (ha : a < 80) (hk : k < 16) (htm : tm ≤ 30) (hs : s < 10) (h : wdN l a k = some j) : RETI G ad (d + 5) mX9_isWord [.ref (ad 96), .int (nI s), .ref (gK G k)] (M, o) (some (.int (bI false))) (fun M' => TB l (a + j) tm M0 M') := by
  have q := g_word (G := G) (ad := ad) (d := d) (o := o) hB hl hc (by omega) hk htm ha hs
  rw [h] at q
  exact q
theorem fig_c (l : List Nat) (a s m : Nat) : hasA l a s = false ∨ (hasA l a s = true ∧ wid l m (a + 1) = 0) ∨ (hasA l a s = true ∧ ¬ wid l m (a + 1) = 0) := by
  cases hasA l a s
  · exact Or.inl rfl
  · by_cases h : wid l m (a + 1) = 0
    · exact Or.inr (Or.inl ⟨rfl, h⟩)
    · exact Or.inr (Or.inr ⟨rfl, h⟩)
theorem g_fig1_1 {z : Nat} (hB : TB l a tm M0 M) (hl : l.length ≤ 60) (hc : ∀ i, l.getD i 0 < 65536) (ha : a < 80) (hz : 4 * tm ≤ z) (hz2 : z < 124) (hs : s < 1000) (h : hasA l a s = false) : RETI G ad (d + 3) mX9_figures [.ref (ad 96), .int (nI s), .int (nI z), .int (nI 1)] (M, o) (some (.int (bI false))) (fun M' => TB l a tm M0 M') := by
  have q := g_fig1 (G := G) (ad := ad) (d := d) (o := o) hB hl hc (by omega) hz hz2 ha hs
  rw [h] at q
  exact q
theorem g_fig1_2 {z : Nat} (hB : TB l a tm M0 M) (hl : l.length ≤ 60) (hc : ∀ i, l.getD i 0 < 65536) (ha : a < 80) (hz : 4 * tm ≤ z) (hz2 : z < 124) (hs : s < 1000) (h : hasA l a s = true) (hw : wid l 68 (a + 1) = 0) : RETI G ad (d + 3) mX9_figures [.ref (ad 96), .int (nI s), .int (nI z), .int (nI 1)] (M, o) (some (.int (bI false))) (fun M' => TB l (a + 1) tm M0 M') := by
  have q := g_fig1 (G := G) (ad := ad) (d := d) (o := o) hB hl hc (by omega) hz hz2 ha hs
  simp only [h, hw, if_true, decide_true, Bool.not_true, Bool.and_false] at q
  exact q
theorem g_fig1_3 {z : Nat} (hB : TB l a tm M0 M) (hl : l.length ≤ 60) (hc : ∀ i, l.getD i 0 < 65536) (ha : a < 80) (hz : 4 * tm ≤ z) (hz2 : z < 124) (hs : s < 1000) (h : hasA l a s = true) (hw : ¬ wid l 68 (a + 1) = 0) : RETI G ad (d + 3) mX9_figures [.ref (ad 96), .int (nI s), .int (nI z), .int (nI 1)] (M, o) (some (.int (bI true))) (fun M' => TB l (a + 1 + wid l 68 (a + 1)) tm M0 M' ∧ (∀ y, y ≠ z → M' 103 y = M 103 y) ∧ M' 103 z = nI (vof l 68 (a + 1) (wid l 68 (a + 1)))) := by
  have q := g_fig1 (G := G) (ad := ad) (d := d) (o := o) hB hl hc (by omega) hz hz2 ha hs
  simp only [h, if_true, if_neg hw, decide_eq_false hw, Bool.not_false, Bool.and_true] at q
  exact q
theorem g_fig2_1 {z : Nat} (hB : TB l a tm M0 M) (hl : l.length ≤ 60) (hc : ∀ i, l.getD i 0 < 65536) (ha : a < 80) (hz : 4 * tm ≤ z) (hz2 : z < 124) (hs : s < 1000) (h : hasA l a s = false) : RETI G ad (d + 3) mX9_figures [.ref (ad 96), .int (nI s), .int (nI z), .int (nI 2)] (M, o) (some (.int (bI false))) (fun M' => TB l a tm M0 M') := by
  have q := g_fig2 (G := G) (ad := ad) (d := d) (o := o) hB hl hc (by omega) hz hz2 ha hs
  rw [h] at q
  exact q
theorem g_fig2_2 {z : Nat} (hB : TB l a tm M0 M) (hl : l.length ≤ 60) (hc : ∀ i, l.getD i 0 < 65536) (ha : a < 80) (hz : 4 * tm ≤ z) (hz2 : z < 124) (hs : s < 1000) (h : hasA l a s = true) (hw : wid l 78 (a + 1) = 0) : RETI G ad (d + 3) mX9_figures [.ref (ad 96), .int (nI s), .int (nI z), .int (nI 2)] (M, o) (some (.int (bI false))) (fun M' => TB l (a + 1) tm M0 M') := by
  have q := g_fig2 (G := G) (ad := ad) (d := d) (o := o) hB hl hc (by omega) hz hz2 ha hs
  simp only [h, hw, if_true, decide_true, Bool.not_true, Bool.and_false] at q
  exact q
theorem g_fig2_3 {z : Nat} (hB : TB l a tm M0 M) (hl : l.length ≤ 60) (hc : ∀ i, l.getD i 0 < 65536) (ha : a < 80) (hz : 4 * tm ≤ z) (hz2 : z < 124) (hs : s < 1000) (h : hasA l a s = true) (hw : ¬ wid l 78 (a + 1) = 0) : RETI G ad (d + 3) mX9_figures [.ref (ad 96), .int (nI s), .int (nI z), .int (nI 2)] (M, o) (some (.int (bI true))) (fun M' => TB l (a + 1 + wid l 78 (a + 1)) tm M0 M' ∧ (∀ y, y ≠ z → M' 103 y = M 103 y) ∧ M' 103 z = nI (vof l 78 (a + 1) (wid l 78 (a + 1)))) := by
  have q := g_fig2 (G := G) (ad := ad) (d := d) (o := o) hB hl hc (by omega) hz hz2 ha hs
  simp only [h, if_true, if_neg hw, decide_eq_false hw, Bool.not_false, Bool.and_true] at q
  exact q
theorem g_pole2_0 {z : Nat} (hB : TB l a tm M0 M) (hl : l.length ≤ 60) (hc : ∀ i, l.getD i 0 < 65536) (ha : a < 80) (hz : 4 * tm ≤ z) (hz2 : z < 124) (hw : wid l 80 a = 0) : RETI G ad (d + 3) mX9_poleHere [.ref (ad 96), .int (nI z)] (M, o) (some (.int (bI false))) (fun M' => TB l a tm M0 M') := by
  have q := g_pole2 (G := G) (ad := ad) (d := d) (o := o) hB hl hc (by omega) hz hz2 ha
  rw [hw] at q
  exact CM_imp q (fun r S2 h => ⟨h.1, by obtain ⟨_, M', e, h2⟩ := h; exact ⟨M', e, h2.1⟩⟩)
theorem g_pole2_1 {z : Nat} (hB : TB l a tm M0 M) (hl : l.length ≤ 60) (hc : ∀ i, l.getD i 0 < 65536) (ha : a < 80) (hz : 4 * tm ≤ z) (hz2 : z < 124) (hw : ¬ wid l 80 a = 0) : RETI G ad (d + 3) mX9_poleHere [.ref (ad 96), .int (nI z)] (M, o) (some (.int (bI true))) (fun M' => TB l (a + wid l 80 a) tm M0 M' ∧ (∀ y, y ≠ z → M' 103 y = M 103 y) ∧ M' 103 z = nI (vof l 80 a (wid l 80 a))) := by
  have q := g_pole2 (G := G) (ad := ad) (d := d) (o := o) hB hl hc (by omega) hz hz2 ha
  have e : wid l 80 a = 1 := by
    rw [wid80] at hw ⊢
    split at hw
    · rename_i h; rw [if_pos h]
    · exact absurd rfl hw
  rw [e] at q ⊢
  exact q
theorem no_first (h1 : hasA l a 116 = false) (h2 : hasA l a 100 = false) (h3 : hasA l a 102 = false) (h4 : hasA l a 109 = false) (h5 : hasA l a 115 = false) : ∀ k, k < 8 → hasA l a (chr k 0) = false := fun k hk => by
  have : ∀ k, k < 8 → chr k 0 = 116 ∨ chr k 0 = 100 ∨ chr k 0 = 102 ∨ chr k 0 = 109 ∨ chr k 0 = 115 := by decide
  rcases this k hk with e | e | e | e | e <;> rw [e] <;> assumption
theorem g_cmd (hP : TP l a tm M) (hl : l.length ≤ 60) (hc : ∀ i, l.getD i 0 < 65536) (ha : a ≤ 60) (htm2 : tm ≤ 29) (hf : f ≤ a) : RETI G ad (d + 7) mX9_commandHere [.ref (ad 96)] (M, o) (some (.int (bI ((pcR l a cmd f).1.isSome)))) (CMO l a tm cmd f M) := by
  refine CM_of rfl (by decide) rfl (Nat.le_of_ble_eq_true rfl) rfl ?_
  have hB : TB l a tm M M := ⟨hP, fun _ _ => rfl, fun _ _ => rfl, KP.refl⟩
  have htm : tm ≤ 30 := by omega
  refine e_iconst (pc' := 1) (v := nI 4) dX9_commandHere_0 rfl (by decide) ?_
  refine e_aload_n (pc' := 2) dX9_commandHere_1 rfl rfl rfl ?_
  refine p_gfi (pc' := 5) (a := 96) (k := 19) (x := nI tm) dX9_commandHere_2 rfl (rfl) (by decide) (by decide) rfl fl_X9_169 (hB.tmv) ?_
  refine e_imulN (pc' := 6) dX9_commandHere_5 rfl ?_
  refine e_iconst (pc' := 7) (v := nI 1) dX9_commandHere_6 rfl (by decide) ?_
  refine e_iaddN (pc' := 8) dX9_commandHere_7 rfl ?_
  refine e_istore_n (pc' := 9) (L' := [some (.ref (ad 96)), some (.int (nI ((4 * tm) + 1)))]) dX9_commandHere_8 rfl rfl (by decide) rfl ?_
  refine e_aload_n (pc' := 10) dX9_commandHere_9 rfl rfl rfl ?_
  refine e_bipush (pc' := 12) (v := nI 116) dX9_commandHere_10 rfl (by decide) ?_
  rcases Bool.eq_false_or_eq_true (hasA l (a) 116) with h12 | h12
  · refine r_V (pc' := 15) (m' := mX9_skips) (As := [.int (nI 116)]) (st := []) (g_skips_t (d := d) hB hl hc (by omega) (s := 116) (by omega) h12) dX9_commandHere_12 rfl rfl (Nat.le_of_ble_eq_true rfl) (fit_of (by omega) (by decide) (by decide) (by decide)) ml_X9_179 okX9_skips rfl rfl (by decide) rfl ?_
    show EV _ _ _ _ _ 15 _ ([.int (bI (true))]) _
    refine e_if_eqB (pc' := 18) (tgt := 45) dX9_commandHere_15 rfl (by decide) (fun hz1 => absurd hz1 (by decide)) (fun hz1 => ?_)
    refine e_aload_n (pc' := 19) dX9_commandHere_18 rfl rfl rfl ?_
    refine e_iconst (pc' := 20) (v := nI 1) dX9_commandHere_19 rfl (by decide) ?_
    refine e_ldcS (pc' := 22) dX9_commandHere_20 rfl st_X9_182 ?_
    rcases Option.eq_none_or_eq_some (wdN l (a + 1) 8) with h22 | ⟨j22, h22⟩
    · refine r_VI (pc' := 25) (m' := mX9_isWord) (As := [.int (nI 1), .ref (gK G 8)]) (st := []) (g_word_t (d := d) (k := 8) (n := 3) (hB.go (b := a + 1)) hl hc (by omega) (by decide) htm (s := 1) (by omega) (by decide) h22) dX9_commandHere_22 rfl rfl (Nat.le_of_ble_eq_true rfl) (fit_of (by omega) (by decide) (by decide) (by decide)) ml_X9_184 okX9_isWord rfl rfl (by decide) rfl (fun M22 ⟨b22, d22, v22⟩ => ?_)
      show EV _ _ _ _ _ 25 _ ([.int (bI (true))]) _
      refine e_if_eqB (pc' := 28) (tgt := 43) dX9_commandHere_25 rfl (by decide) (fun hz2 => absurd hz2 (by decide)) (fun hz2 => ?_)
      refine e_aload_n (pc' := 29) dX9_commandHere_28 rfl rfl rfl ?_
      refine e_bipush (pc' := 31) (v := nI 32) dX9_commandHere_29 rfl (by decide) ?_
      refine e_iload_n (pc' := 32) dX9_commandHere_31 rfl rfl rfl ?_
      refine e_iconst (pc' := 33) (v := nI 1) dX9_commandHere_32 rfl (by decide) ?_
      rcases fig_c l (a + 1 + 3) 32 68 with h33 | ⟨h33, w33⟩ | ⟨h33, w33⟩
      · refine r_VI (pc' := 36) (m' := mX9_figures) (As := [.int (nI 32), .int (nI ((4 * tm) + 1)), .int (nI 1)]) (st := []) (g_fig1_1 (d := d) (s := 32) (z := (4 * tm) + 1) b22 hl hc (by omega) (by omega) (by omega) (by omega) h33) dX9_commandHere_33 rfl rfl (Nat.le_of_ble_eq_true rfl) (fit_of (by omega) (by decide) (by decide) (by decide)) ml_X9_188 okX9_figures rfl rfl (by decide) rfl (fun M33 b33 => ?_)
        show EV _ _ _ _ _ 36 _ ([.int (bI (false))]) _
        refine e_if_eqB (pc' := 39) (tgt := 43) dX9_commandHere_36 rfl (by decide) (fun hz3 => ?_) (fun hz3 => absurd hz3 (by decide))
        refine e_iconst (pc' := 44) (v := nI 0) dX9_commandHere_43 rfl (by decide) ?_
        exact e_zret (ty := .boolean) dX9_commandHere_44 rfl (rfl) (by
      have q := cmo_n (cmd := cmd) (f := f) b33 (K := 2) (by decide) (oth_t h12) (fun cmd f => ⟨_, (((StR.nil.lit2 (by decide) h12).word2 wa.1 (n := 3) (by decide) h22).fit2 (by decide) h33)⟩) (by omega) hf
      exact MP.retI (by rw [q.1]; rfl) q.2) (by decide) (by decide)
      · refine r_VI (pc' := 36) (m' := mX9_figures) (As := [.int (nI 32), .int (nI ((4 * tm) + 1)), .int (nI 1)]) (st := []) (g_fig1_2 (d := d) (s := 32) (z := (4 * tm) + 1) b22 hl hc (by omega) (by omega) (by omega) (by omega) h33 w33) dX9_commandHere_33 rfl rfl (Nat.le_of_ble_eq_true rfl) (fit_of (by omega) (by decide) (by decide) (by decide)) ml_X9_188 okX9_figures rfl rfl (by decide) rfl (fun M33 b33 => ?_)
        show EV _ _ _ _ _ 36 _ ([.int (bI (false))]) _
        refine e_if_eqB (pc' := 39) (tgt := 43) dX9_commandHere_36 rfl (by decide) (fun hz4 => ?_) (fun hz4 => absurd hz4 (by decide))
        refine e_iconst (pc' := 44) (v := nI 0) dX9_commandHere_43 rfl (by decide) ?_
        exact e_zret (ty := .boolean) dX9_commandHere_44 rfl (rfl) (by
      have q := cmo_n (cmd := cmd) (f := f) b33 (K := 2) (by decide) (oth_t h12) (fun cmd f => ⟨_, ((((StR.nil.lit2 (by decide) h12).word2 wa.1 (n := 3) (by decide) h22).lit2 (by decide) h33).fai2 (by decide) w33)⟩) (by omega) hf
      exact MP.retI (by rw [q.1]; rfl) q.2) (by decide) (by decide)
      · have q33 := wid_le (l := l) (s := 68) (a := a + 1 + 3 + 1)
        refine r_VI (pc' := 36) (m' := mX9_figures) (As := [.int (nI 32), .int (nI ((4 * tm) + 1)), .int (nI 1)]) (st := []) (g_fig1_3 (d := d) (s := 32) (z := (4 * tm) + 1) b22 hl hc (by omega) (by omega) (by omega) (by omega) h33 w33) dX9_commandHere_33 rfl rfl (Nat.le_of_ble_eq_true rfl) (fit_of (by omega) (by decide) (by decide) (by decide)) ml_X9_188 okX9_figures rfl rfl (by decide) rfl (fun M33 ⟨b33, d33, v33⟩ => ?_)
        show EV _ _ _ _ _ 36 _ ([.int (bI (true))]) _
        refine e_if_eqB (pc' := 39) (tgt := 43) dX9_commandHere_36 rfl (by decide) (fun hz5 => absurd hz5 (by decide)) (fun hz5 => ?_)
        refine e_iconst (pc' := 40) (v := nI 1) dX9_commandHere_39 rfl (by decide) ?_
        refine e_goto (tgt := 44) dX9_commandHere_40 (by decide) ?_
        exact e_zret (ty := .boolean) dX9_commandHere_44 rfl (rfl) (by
      have q := cmo_s (cmd := cmd) (f := f) b33 (K := 2) (by decide) (oth_t h12) (ok1 (fun cmd => ((((StR.nil.lit2 (by decide) h12).word2 wa.1 (n := 3) (by decide) h22).lit2 (by decide) h33).par2 (by decide) w33)) (by decide) (by decide)) (((d33 _ (by omega)).trans v22)) (hp1 (by decide) v33) (by omega) hf
      exact MP.retI (by rw [q.1]; first | done | rfl) q.2) (by decide) (by decide)
    · refine r_VI (pc' := 25) (m' := mX9_isWord) (As := [.int (nI 1), .ref (gK G 8)]) (st := []) (g_word_f (d := d) (k := 8) (j := j22) (hB.go (b := a + 1)) hl hc (by omega) (by decide) htm (s := 1) (by omega) h22) dX9_commandHere_22 rfl rfl (Nat.le_of_ble_eq_true rfl) (fit_of (by omega) (by decide) (by decide) (by decide)) ml_X9_184 okX9_isWord rfl rfl (by decide) rfl (fun M22 b22 => ?_)
      show EV _ _ _ _ _ 25 _ ([.int (bI (false))]) _
      refine e_if_eqB (pc' := 28) (tgt := 43) dX9_commandHere_25 rfl (by decide) (fun hz6 => ?_) (fun hz6 => absurd hz6 (by decide))
      refine e_iconst (pc' := 44) (v := nI 0) dX9_commandHere_43 rfl (by decide) ?_
      exact e_zret (ty := .boolean) dX9_commandHere_44 rfl (rfl) (by
      have q := cmo_n (cmd := cmd) (f := f) b22 (K := 2) (by decide) (oth_t h12) (fun cmd f => ⟨_, ((StR.nil.lit2 (by decide) h12).wordF wa.1 h22 (by decide))⟩) (by omega) hf
      exact MP.retI (by rw [q.1]; rfl) q.2) (by decide) (by decide)
  · refine r_V (pc' := 15) (m' := mX9_skips) (As := [.int (nI 116)]) (st := []) (g_skips_f (d := d) hB hl hc (by omega) (s := 116) (by omega) h12) dX9_commandHere_12 rfl rfl (Nat.le_of_ble_eq_true rfl) (fit_of (by omega) (by decide) (by decide) (by decide)) ml_X9_179 okX9_skips rfl rfl (by decide) rfl ?_
    show EV _ _ _ _ _ 15 _ ([.int (bI (false))]) _
    refine e_if_eqB (pc' := 18) (tgt := 45) dX9_commandHere_15 rfl (by decide) (fun hz7 => ?_) (fun hz7 => absurd hz7 (by decide))
    refine e_aload_n (pc' := 46) dX9_commandHere_45 rfl rfl rfl ?_
    refine e_bipush (pc' := 48) (v := nI 100) dX9_commandHere_46 rfl (by decide) ?_
    rcases Bool.eq_false_or_eq_true (hasA l (a) 100) with h48 | h48
    · refine r_V (pc' := 51) (m' := mX9_skips) (As := [.int (nI 100)]) (st := []) (g_skips_t (d := d) hB hl hc (by omega) (s := 100) (by omega) h48) dX9_commandHere_48 rfl rfl (Nat.le_of_ble_eq_true rfl) (fit_of (by omega) (by decide) (by decide) (by decide)) ml_X9_179 okX9_skips rfl rfl (by decide) rfl ?_
      show EV _ _ _ _ _ 51 _ ([.int (bI (true))]) _
      refine e_if_eqB (pc' := 54) (tgt := 94) dX9_commandHere_51 rfl (by decide) (fun hz8 => absurd hz8 (by decide)) (fun hz8 => ?_)
      refine e_aload_n (pc' := 55) dX9_commandHere_54 rfl rfl rfl ?_
      refine e_iconst (pc' := 56) (v := nI 2) dX9_commandHere_55 rfl (by decide) ?_
      refine e_ldcS (pc' := 58) dX9_commandHere_56 rfl st_X9_191 ?_
      rcases Option.eq_none_or_eq_some (wdN l (a + 1) 9) with h58 | ⟨j58, h58⟩
      · refine r_VI (pc' := 61) (m' := mX9_isWord) (As := [.int (nI 2), .ref (gK G 9)]) (st := []) (g_word_t (d := d) (k := 9) (n := 2) (hB.go (b := a + 1)) hl hc (by omega) (by decide) htm (s := 2) (by omega) (by decide) h58) dX9_commandHere_58 rfl rfl (Nat.le_of_ble_eq_true rfl) (fit_of (by omega) (by decide) (by decide) (by decide)) ml_X9_184 okX9_isWord rfl rfl (by decide) rfl (fun M58 ⟨b58, d58, v58⟩ => ?_)
        show EV _ _ _ _ _ 61 _ ([.int (bI (true))]) _
        refine e_if_eqB (pc' := 64) (tgt := 92) dX9_commandHere_61 rfl (by decide) (fun hz9 => absurd hz9 (by decide)) (fun hz9 => ?_)
        refine e_aload_n (pc' := 65) dX9_commandHere_64 rfl rfl rfl ?_
        refine e_bipush (pc' := 67) (v := nI 32) dX9_commandHere_65 rfl (by decide) ?_
        refine e_iload_n (pc' := 68) dX9_commandHere_67 rfl rfl rfl ?_
        refine e_iconst (pc' := 69) (v := nI 1) dX9_commandHere_68 rfl (by decide) ?_
        rcases fig_c l (a + 1 + 2) 32 68 with h69 | ⟨h69, w69⟩ | ⟨h69, w69⟩
        · refine r_VI (pc' := 72) (m' := mX9_figures) (As := [.int (nI 32), .int (nI ((4 * tm) + 1)), .int (nI 1)]) (st := []) (g_fig1_1 (d := d) (s := 32) (z := (4 * tm) + 1) b58 hl hc (by omega) (by omega) (by omega) (by omega) h69) dX9_commandHere_69 rfl rfl (Nat.le_of_ble_eq_true rfl) (fit_of (by omega) (by decide) (by decide) (by decide)) ml_X9_188 okX9_figures rfl rfl (by decide) rfl (fun M69 b69 => ?_)
          show EV _ _ _ _ _ 72 _ ([.int (bI (false))]) _
          refine e_if_eqB (pc' := 75) (tgt := 92) dX9_commandHere_72 rfl (by decide) (fun hz10 => ?_) (fun hz10 => absurd hz10 (by decide))
          refine e_iconst (pc' := 93) (v := nI 0) dX9_commandHere_92 rfl (by decide) ?_
          exact e_zret (ty := .boolean) dX9_commandHere_93 rfl (rfl) (by
      have q := cmo_n (cmd := cmd) (f := f) b69 (K := 5) (by decide) (oth_d h48) (fun cmd f => ⟨_, (((StR.nil.lit2 (by decide) h48).word2 wa.2.1 (n := 2) (by decide) h58).fit2 (by decide) h69)⟩) (by omega) hf
      exact MP.retI (by rw [q.1]; rfl) q.2) (by decide) (by decide)
        · refine r_VI (pc' := 72) (m' := mX9_figures) (As := [.int (nI 32), .int (nI ((4 * tm) + 1)), .int (nI 1)]) (st := []) (g_fig1_2 (d := d) (s := 32) (z := (4 * tm) + 1) b58 hl hc (by omega) (by omega) (by omega) (by omega) h69 w69) dX9_commandHere_69 rfl rfl (Nat.le_of_ble_eq_true rfl) (fit_of (by omega) (by decide) (by decide) (by decide)) ml_X9_188 okX9_figures rfl rfl (by decide) rfl (fun M69 b69 => ?_)
          show EV _ _ _ _ _ 72 _ ([.int (bI (false))]) _
          refine e_if_eqB (pc' := 75) (tgt := 92) dX9_commandHere_72 rfl (by decide) (fun hz11 => ?_) (fun hz11 => absurd hz11 (by decide))
          refine e_iconst (pc' := 93) (v := nI 0) dX9_commandHere_92 rfl (by decide) ?_
          exact e_zret (ty := .boolean) dX9_commandHere_93 rfl (rfl) (by
      have q := cmo_n (cmd := cmd) (f := f) b69 (K := 5) (by decide) (oth_d h48) (fun cmd f => ⟨_, ((((StR.nil.lit2 (by decide) h48).word2 wa.2.1 (n := 2) (by decide) h58).lit2 (by decide) h69).fai2 (by decide) w69)⟩) (by omega) hf
      exact MP.retI (by rw [q.1]; rfl) q.2) (by decide) (by decide)
        · have q69 := wid_le (l := l) (s := 68) (a := a + 1 + 2 + 1)
          refine r_VI (pc' := 72) (m' := mX9_figures) (As := [.int (nI 32), .int (nI ((4 * tm) + 1)), .int (nI 1)]) (st := []) (g_fig1_3 (d := d) (s := 32) (z := (4 * tm) + 1) b58 hl hc (by omega) (by omega) (by omega) (by omega) h69 w69) dX9_commandHere_69 rfl rfl (Nat.le_of_ble_eq_true rfl) (fit_of (by omega) (by decide) (by decide) (by decide)) ml_X9_188 okX9_figures rfl rfl (by decide) rfl (fun M69 ⟨b69, d69, v69⟩ => ?_)
          show EV _ _ _ _ _ 72 _ ([.int (bI (true))]) _
          refine e_if_eqB (pc' := 75) (tgt := 92) dX9_commandHere_72 rfl (by decide) (fun hz12 => absurd hz12 (by decide)) (fun hz12 => ?_)
          refine e_aload_n (pc' := 76) dX9_commandHere_75 rfl rfl rfl ?_
          refine e_bipush (pc' := 78) (v := nI 45) dX9_commandHere_76 rfl (by decide) ?_
          refine e_iload_n (pc' := 79) dX9_commandHere_78 rfl rfl rfl ?_
          refine e_iconst (pc' := 80) (v := nI 1) dX9_commandHere_79 rfl (by decide) ?_
          refine e_iaddN (pc' := 81) dX9_commandHere_80 rfl ?_
          refine e_iconst (pc' := 82) (v := nI 1) dX9_commandHere_81 rfl (by decide) ?_
          rcases fig_c l (a + 1 + 2 + 1 + wid l 68 (a + 1 + 2 + 1)) 45 68 with h82 | ⟨h82, w82⟩ | ⟨h82, w82⟩
          · refine r_VI (pc' := 85) (m' := mX9_figures) (As := [.int (nI 45), .int (nI (((4 * tm) + 1) + 1)), .int (nI 1)]) (st := []) (g_fig1_1 (d := d) (s := 45) (z := ((4 * tm) + 1) + 1) b69 hl hc (by omega) (by omega) (by omega) (by omega) h82) dX9_commandHere_82 rfl rfl (Nat.le_of_ble_eq_true rfl) (fit_of (by omega) (by decide) (by decide) (by decide)) ml_X9_188 okX9_figures rfl rfl (by decide) rfl (fun M82 b82 => ?_)
            show EV _ _ _ _ _ 85 _ ([.int (bI (false))]) _
            refine e_if_eqB (pc' := 88) (tgt := 92) dX9_commandHere_85 rfl (by decide) (fun hz13 => ?_) (fun hz13 => absurd hz13 (by decide))
            refine e_iconst (pc' := 93) (v := nI 0) dX9_commandHere_92 rfl (by decide) ?_
            exact e_zret (ty := .boolean) dX9_commandHere_93 rfl (rfl) (by
      have q := cmo_n (cmd := cmd) (f := f) b82 (K := 5) (by decide) (oth_d h48) (fun cmd f => ⟨_, (((((StR.nil.lit2 (by decide) h48).word2 wa.2.1 (n := 2) (by decide) h58).lit2 (by decide) h69).par2 (by decide) w69).fit2 (by decide) h82)⟩) (by omega) hf
      exact MP.retI (by rw [q.1]; rfl) q.2) (by decide) (by decide)
          · refine r_VI (pc' := 85) (m' := mX9_figures) (As := [.int (nI 45), .int (nI (((4 * tm) + 1) + 1)), .int (nI 1)]) (st := []) (g_fig1_2 (d := d) (s := 45) (z := ((4 * tm) + 1) + 1) b69 hl hc (by omega) (by omega) (by omega) (by omega) h82 w82) dX9_commandHere_82 rfl rfl (Nat.le_of_ble_eq_true rfl) (fit_of (by omega) (by decide) (by decide) (by decide)) ml_X9_188 okX9_figures rfl rfl (by decide) rfl (fun M82 b82 => ?_)
            show EV _ _ _ _ _ 85 _ ([.int (bI (false))]) _
            refine e_if_eqB (pc' := 88) (tgt := 92) dX9_commandHere_85 rfl (by decide) (fun hz14 => ?_) (fun hz14 => absurd hz14 (by decide))
            refine e_iconst (pc' := 93) (v := nI 0) dX9_commandHere_92 rfl (by decide) ?_
            exact e_zret (ty := .boolean) dX9_commandHere_93 rfl (rfl) (by
      have q := cmo_n (cmd := cmd) (f := f) b82 (K := 5) (by decide) (oth_d h48) (fun cmd f => ⟨_, ((((((StR.nil.lit2 (by decide) h48).word2 wa.2.1 (n := 2) (by decide) h58).lit2 (by decide) h69).par2 (by decide) w69).lit2 (by decide) h82).fai2 (by decide) w82)⟩) (by omega) hf
      exact MP.retI (by rw [q.1]; rfl) q.2) (by decide) (by decide)
          · have q82 := wid_le (l := l) (s := 68) (a := a + 1 + 2 + 1 + wid l 68 (a + 1 + 2 + 1) + 1)
            refine r_VI (pc' := 85) (m' := mX9_figures) (As := [.int (nI 45), .int (nI (((4 * tm) + 1) + 1)), .int (nI 1)]) (st := []) (g_fig1_3 (d := d) (s := 45) (z := ((4 * tm) + 1) + 1) b69 hl hc (by omega) (by omega) (by omega) (by omega) h82 w82) dX9_commandHere_82 rfl rfl (Nat.le_of_ble_eq_true rfl) (fit_of (by omega) (by decide) (by decide) (by decide)) ml_X9_188 okX9_figures rfl rfl (by decide) rfl (fun M82 ⟨b82, d82, v82⟩ => ?_)
            show EV _ _ _ _ _ 85 _ ([.int (bI (true))]) _
            refine e_if_eqB (pc' := 88) (tgt := 92) dX9_commandHere_85 rfl (by decide) (fun hz15 => absurd hz15 (by decide)) (fun hz15 => ?_)
            refine e_iconst (pc' := 89) (v := nI 1) dX9_commandHere_88 rfl (by decide) ?_
            refine e_goto (tgt := 93) dX9_commandHere_89 (by decide) ?_
            exact e_zret (ty := .boolean) dX9_commandHere_93 rfl (rfl) (by
      have q := cmo_s (cmd := cmd) (f := f) b82 (K := 5) (by decide) (oth_d h48) (ok2 (fun cmd => ((((((StR.nil.lit2 (by decide) h48).word2 wa.2.1 (n := 2) (by decide) h58).lit2 (by decide) h69).par2 (by decide) w69).lit2 (by decide) h82).par2 (by decide) w82)) (by decide) (by decide)) (((d82 _ (by omega)).trans ((d69 _ (by omega)).trans v58))) (hp2 (by decide) ((d82 _ (by omega)).trans v69) v82) (by omega) hf
      exact MP.retI (by rw [q.1]; first | done | rfl) q.2) (by decide) (by decide)
      · refine r_VI (pc' := 61) (m' := mX9_isWord) (As := [.int (nI 2), .ref (gK G 9)]) (st := []) (g_word_f (d := d) (k := 9) (j := j58) (hB.go (b := a + 1)) hl hc (by omega) (by decide) htm (s := 2) (by omega) h58) dX9_commandHere_58 rfl rfl (Nat.le_of_ble_eq_true rfl) (fit_of (by omega) (by decide) (by decide) (by decide)) ml_X9_184 okX9_isWord rfl rfl (by decide) rfl (fun M58 b58 => ?_)
        show EV _ _ _ _ _ 61 _ ([.int (bI (false))]) _
        refine e_if_eqB (pc' := 64) (tgt := 92) dX9_commandHere_61 rfl (by decide) (fun hz16 => ?_) (fun hz16 => absurd hz16 (by decide))
        refine e_iconst (pc' := 93) (v := nI 0) dX9_commandHere_92 rfl (by decide) ?_
        exact e_zret (ty := .boolean) dX9_commandHere_93 rfl (rfl) (by
      have q := cmo_n (cmd := cmd) (f := f) b58 (K := 5) (by decide) (oth_d h48) (fun cmd f => ⟨_, ((StR.nil.lit2 (by decide) h48).wordF wa.2.1 h58 (by decide))⟩) (by omega) hf
      exact MP.retI (by rw [q.1]; rfl) q.2) (by decide) (by decide)
    · refine r_V (pc' := 51) (m' := mX9_skips) (As := [.int (nI 100)]) (st := []) (g_skips_f (d := d) hB hl hc (by omega) (s := 100) (by omega) h48) dX9_commandHere_48 rfl rfl (Nat.le_of_ble_eq_true rfl) (fit_of (by omega) (by decide) (by decide) (by decide)) ml_X9_179 okX9_skips rfl rfl (by decide) rfl ?_
      show EV _ _ _ _ _ 51 _ ([.int (bI (false))]) _
      refine e_if_eqB (pc' := 54) (tgt := 94) dX9_commandHere_51 rfl (by decide) (fun hz17 => ?_) (fun hz17 => absurd hz17 (by decide))
      refine e_aload_n (pc' := 95) dX9_commandHere_94 rfl rfl rfl ?_
      refine e_bipush (pc' := 97) (v := nI 102) dX9_commandHere_95 rfl (by decide) ?_
      rcases Bool.eq_false_or_eq_true (hasA l (a) 102) with h97 | h97
      · refine r_V (pc' := 100) (m' := mX9_skips) (As := [.int (nI 102)]) (st := []) (g_skips_t (d := d) hB hl hc (by omega) (s := 102) (by omega) h97) dX9_commandHere_97 rfl rfl (Nat.le_of_ble_eq_true rfl) (fit_of (by omega) (by decide) (by decide) (by decide)) ml_X9_179 okX9_skips rfl rfl (by decide) rfl ?_
        show EV _ _ _ _ _ 100 _ ([.int (bI (true))]) _
        refine e_if_eqB (pc' := 103) (tgt := 130) dX9_commandHere_100 rfl (by decide) (fun hz18 => absurd hz18 (by decide)) (fun hz18 => ?_)
        refine e_aload_n (pc' := 104) dX9_commandHere_103 rfl rfl rfl ?_
        refine e_iconst (pc' := 105) (v := nI 3) dX9_commandHere_104 rfl (by decide) ?_
        refine e_ldcS (pc' := 107) dX9_commandHere_105 rfl st_X9_193 ?_
        rcases Option.eq_none_or_eq_some (wdN l (a + 1) 10) with h107 | ⟨j107, h107⟩
        · refine r_VI (pc' := 110) (m' := mX9_isWord) (As := [.int (nI 3), .ref (gK G 10)]) (st := []) (g_word_t (d := d) (k := 10) (n := 3) (hB.go (b := a + 1)) hl hc (by omega) (by decide) htm (s := 3) (by omega) (by decide) h107) dX9_commandHere_107 rfl rfl (Nat.le_of_ble_eq_true rfl) (fit_of (by omega) (by decide) (by decide) (by decide)) ml_X9_184 okX9_isWord rfl rfl (by decide) rfl (fun M107 ⟨b107, d107, v107⟩ => ?_)
          show EV _ _ _ _ _ 110 _ ([.int (bI (true))]) _
          refine e_if_eqB (pc' := 113) (tgt := 128) dX9_commandHere_110 rfl (by decide) (fun hz19 => absurd hz19 (by decide)) (fun hz19 => ?_)
          refine e_aload_n (pc' := 114) dX9_commandHere_113 rfl rfl rfl ?_
          refine e_bipush (pc' := 116) (v := nI 32) dX9_commandHere_114 rfl (by decide) ?_
          refine e_iload_n (pc' := 117) dX9_commandHere_116 rfl rfl rfl ?_
          refine e_iconst (pc' := 118) (v := nI 2) dX9_commandHere_117 rfl (by decide) ?_
          rcases fig_c l (a + 1 + 3) 32 78 with h118 | ⟨h118, w118⟩ | ⟨h118, w118⟩
          · refine r_VI (pc' := 121) (m' := mX9_figures) (As := [.int (nI 32), .int (nI ((4 * tm) + 1)), .int (nI 2)]) (st := []) (g_fig2_1 (d := d) (s := 32) (z := (4 * tm) + 1) b107 hl hc (by omega) (by omega) (by omega) (by omega) h118) dX9_commandHere_118 rfl rfl (Nat.le_of_ble_eq_true rfl) (fit_of (by omega) (by decide) (by decide) (by decide)) ml_X9_188 okX9_figures rfl rfl (by decide) rfl (fun M118 b118 => ?_)
            show EV _ _ _ _ _ 121 _ ([.int (bI (false))]) _
            refine e_if_eqB (pc' := 124) (tgt := 128) dX9_commandHere_121 rfl (by decide) (fun hz20 => ?_) (fun hz20 => absurd hz20 (by decide))
            refine e_iconst (pc' := 129) (v := nI 0) dX9_commandHere_128 rfl (by decide) ?_
            exact e_zret (ty := .boolean) dX9_commandHere_129 rfl (rfl) (by
      have q := cmo_n (cmd := cmd) (f := f) b118 (K := 6) (by decide) (oth_f h97) (fun cmd f => ⟨_, (((StR.nil.lit2 (by decide) h97).word2 wa.2.2.1 (n := 3) (by decide) h107).fit2 (by decide) h118)⟩) (by omega) hf
      exact MP.retI (by rw [q.1]; rfl) q.2) (by decide) (by decide)
          · refine r_VI (pc' := 121) (m' := mX9_figures) (As := [.int (nI 32), .int (nI ((4 * tm) + 1)), .int (nI 2)]) (st := []) (g_fig2_2 (d := d) (s := 32) (z := (4 * tm) + 1) b107 hl hc (by omega) (by omega) (by omega) (by omega) h118 w118) dX9_commandHere_118 rfl rfl (Nat.le_of_ble_eq_true rfl) (fit_of (by omega) (by decide) (by decide) (by decide)) ml_X9_188 okX9_figures rfl rfl (by decide) rfl (fun M118 b118 => ?_)
            show EV _ _ _ _ _ 121 _ ([.int (bI (false))]) _
            refine e_if_eqB (pc' := 124) (tgt := 128) dX9_commandHere_121 rfl (by decide) (fun hz21 => ?_) (fun hz21 => absurd hz21 (by decide))
            refine e_iconst (pc' := 129) (v := nI 0) dX9_commandHere_128 rfl (by decide) ?_
            exact e_zret (ty := .boolean) dX9_commandHere_129 rfl (rfl) (by
      have q := cmo_n (cmd := cmd) (f := f) b118 (K := 6) (by decide) (oth_f h97) (fun cmd f => ⟨_, ((((StR.nil.lit2 (by decide) h97).word2 wa.2.2.1 (n := 3) (by decide) h107).lit2 (by decide) h118).fai2 (by decide) w118)⟩) (by omega) hf
      exact MP.retI (by rw [q.1]; rfl) q.2) (by decide) (by decide)
          · have q118 := wid_le (l := l) (s := 78) (a := a + 1 + 3 + 1)
            refine r_VI (pc' := 121) (m' := mX9_figures) (As := [.int (nI 32), .int (nI ((4 * tm) + 1)), .int (nI 2)]) (st := []) (g_fig2_3 (d := d) (s := 32) (z := (4 * tm) + 1) b107 hl hc (by omega) (by omega) (by omega) (by omega) h118 w118) dX9_commandHere_118 rfl rfl (Nat.le_of_ble_eq_true rfl) (fit_of (by omega) (by decide) (by decide) (by decide)) ml_X9_188 okX9_figures rfl rfl (by decide) rfl (fun M118 ⟨b118, d118, v118⟩ => ?_)
            show EV _ _ _ _ _ 121 _ ([.int (bI (true))]) _
            refine e_if_eqB (pc' := 124) (tgt := 128) dX9_commandHere_121 rfl (by decide) (fun hz22 => absurd hz22 (by decide)) (fun hz22 => ?_)
            refine e_iconst (pc' := 125) (v := nI 1) dX9_commandHere_124 rfl (by decide) ?_
            refine e_goto (tgt := 129) dX9_commandHere_125 (by decide) ?_
            exact e_zret (ty := .boolean) dX9_commandHere_129 rfl (rfl) (by
      have q := cmo_s (cmd := cmd) (f := f) b118 (K := 6) (by decide) (oth_f h97) (ok1 (fun cmd => ((((StR.nil.lit2 (by decide) h97).word2 wa.2.2.1 (n := 3) (by decide) h107).lit2 (by decide) h118).par2 (by decide) w118)) (by decide) (by decide)) (((d118 _ (by omega)).trans v107)) (hp1 (by decide) v118) (by omega) hf
      exact MP.retI (by rw [q.1]; first | done | rfl) q.2) (by decide) (by decide)
        · refine r_VI (pc' := 110) (m' := mX9_isWord) (As := [.int (nI 3), .ref (gK G 10)]) (st := []) (g_word_f (d := d) (k := 10) (j := j107) (hB.go (b := a + 1)) hl hc (by omega) (by decide) htm (s := 3) (by omega) h107) dX9_commandHere_107 rfl rfl (Nat.le_of_ble_eq_true rfl) (fit_of (by omega) (by decide) (by decide) (by decide)) ml_X9_184 okX9_isWord rfl rfl (by decide) rfl (fun M107 b107 => ?_)
          show EV _ _ _ _ _ 110 _ ([.int (bI (false))]) _
          refine e_if_eqB (pc' := 113) (tgt := 128) dX9_commandHere_110 rfl (by decide) (fun hz23 => ?_) (fun hz23 => absurd hz23 (by decide))
          refine e_iconst (pc' := 129) (v := nI 0) dX9_commandHere_128 rfl (by decide) ?_
          exact e_zret (ty := .boolean) dX9_commandHere_129 rfl (rfl) (by
      have q := cmo_n (cmd := cmd) (f := f) b107 (K := 6) (by decide) (oth_f h97) (fun cmd f => ⟨_, ((StR.nil.lit2 (by decide) h97).wordF wa.2.2.1 h107 (by decide))⟩) (by omega) hf
      exact MP.retI (by rw [q.1]; rfl) q.2) (by decide) (by decide)
      · refine r_V (pc' := 100) (m' := mX9_skips) (As := [.int (nI 102)]) (st := []) (g_skips_f (d := d) hB hl hc (by omega) (s := 102) (by omega) h97) dX9_commandHere_97 rfl rfl (Nat.le_of_ble_eq_true rfl) (fit_of (by omega) (by decide) (by decide) (by decide)) ml_X9_179 okX9_skips rfl rfl (by decide) rfl ?_
        show EV _ _ _ _ _ 100 _ ([.int (bI (false))]) _
        refine e_if_eqB (pc' := 103) (tgt := 130) dX9_commandHere_100 rfl (by decide) (fun hz24 => ?_) (fun hz24 => absurd hz24 (by decide))
        refine e_aload_n (pc' := 131) dX9_commandHere_130 rfl rfl rfl ?_
        refine e_bipush (pc' := 133) (v := nI 109) dX9_commandHere_131 rfl (by decide) ?_
        rcases Bool.eq_false_or_eq_true (hasA l (a) 109) with h133 | h133
        · refine r_V (pc' := 136) (m' := mX9_skips) (As := [.int (nI 109)]) (st := []) (g_skips_t (d := d) hB hl hc (by omega) (s := 109) (by omega) h133) dX9_commandHere_133 rfl rfl (Nat.le_of_ble_eq_true rfl) (fit_of (by omega) (by decide) (by decide) (by decide)) ml_X9_179 okX9_skips rfl rfl (by decide) rfl ?_
          show EV _ _ _ _ _ 136 _ ([.int (bI (true))]) _
          refine e_if_eqB (pc' := 139) (tgt := 209) dX9_commandHere_136 rfl (by decide) (fun hz25 => absurd hz25 (by decide)) (fun hz25 => ?_)
          refine e_aload_n (pc' := 140) dX9_commandHere_139 rfl rfl rfl ?_
          refine e_bipush (pc' := 142) (v := nI 111) dX9_commandHere_140 rfl (by decide) ?_
          rcases Bool.eq_false_or_eq_true (hasA l (a + 1) 111) with h142 | h142
          · refine r_V (pc' := 145) (m' := mX9_skips) (As := [.int (nI 111)]) (st := []) (g_skips_t (d := d) (hB.go (b := a + 1)) hl hc (by omega) (s := 111) (by omega) h142) dX9_commandHere_142 rfl rfl (Nat.le_of_ble_eq_true rfl) (fit_of (by omega) (by decide) (by decide) (by decide)) ml_X9_179 okX9_skips rfl rfl (by decide) rfl ?_
            show EV _ _ _ _ _ 145 _ ([.int (bI (true))]) _
            refine e_if_eqB (pc' := 148) (tgt := 159) dX9_commandHere_145 rfl (by decide) (fun hz26 => absurd hz26 (by decide)) (fun hz26 => ?_)
            refine e_aload_n (pc' := 149) dX9_commandHere_148 rfl rfl rfl ?_
            refine e_bipush (pc' := 151) (v := nI 6) dX9_commandHere_149 rfl (by decide) ?_
            refine e_ldcS (pc' := 153) dX9_commandHere_151 rfl st_X9_195 ?_
            rcases Option.eq_none_or_eq_some (wdN l (a + 1 + 1) 11) with h153 | ⟨j153, h153⟩
            · refine r_VI (pc' := 156) (m' := mX9_isWord) (As := [.int (nI 6), .ref (gK G 11)]) (st := []) (g_word_t (d := d) (k := 11) (n := 2) ((hB.go (b := a + 1)).go (b := a + 1 + 1)) hl hc (by omega) (by decide) htm (s := 6) (by omega) (by decide) h153) dX9_commandHere_153 rfl rfl (Nat.le_of_ble_eq_true rfl) (fit_of (by omega) (by decide) (by decide) (by decide)) ml_X9_184 okX9_isWord rfl rfl (by decide) rfl (fun M153 ⟨b153, d153, v153⟩ => ?_)
              show EV _ _ _ _ _ 156 _ ([.int (bI (true))]) _
              refine e_goto (tgt := 208) dX9_commandHere_156 (by decide) ?_
              exact e_zret (ty := .boolean) dX9_commandHere_208 rfl (rfl) (by
      have q := cmo_s (cmd := cmd) (f := f) b153 (K := 4) (by decide) (oth_m4 h133 h142) (ok0 (fun cmd => (((StR.nil.lit2 (by decide) h133).lit2 (by decide) h142).word2 wa.2.2.2.1 (n := 2) (by decide) h153)) (by decide) (by decide)) (v153) (hp0 (by decide) ) (by omega) hf
      exact MP.retI (by rw [q.1]; first | done | rfl) q.2) (by decide) (by decide)
            · refine r_VI (pc' := 156) (m' := mX9_isWord) (As := [.int (nI 6), .ref (gK G 11)]) (st := []) (g_word_f (d := d) (k := 11) (j := j153) ((hB.go (b := a + 1)).go (b := a + 1 + 1)) hl hc (by omega) (by decide) htm (s := 6) (by omega) h153) dX9_commandHere_153 rfl rfl (Nat.le_of_ble_eq_true rfl) (fit_of (by omega) (by decide) (by decide) (by decide)) ml_X9_184 okX9_isWord rfl rfl (by decide) rfl (fun M153 b153 => ?_)
              show EV _ _ _ _ _ 156 _ ([.int (bI (false))]) _
              refine e_goto (tgt := 208) dX9_commandHere_156 (by decide) ?_
              exact e_zret (ty := .boolean) dX9_commandHere_208 rfl (rfl) (by
      have q := cmo_n (cmd := cmd) (f := f) b153 (K := 4) (by decide) (oth_m4 h133 h142) (fun cmd f => ⟨_, (((StR.nil.lit2 (by decide) h133).lit2 (by decide) h142).wordF wa.2.2.2.1 h153 (by decide))⟩) (by omega) hf
      exact MP.retI (by rw [q.1]; rfl) q.2) (by decide) (by decide)
          · refine r_V (pc' := 145) (m' := mX9_skips) (As := [.int (nI 111)]) (st := []) (g_skips_f (d := d) (hB.go (b := a + 1)) hl hc (by omega) (s := 111) (by omega) h142) dX9_commandHere_142 rfl rfl (Nat.le_of_ble_eq_true rfl) (fit_of (by omega) (by decide) (by decide) (by decide)) ml_X9_179 okX9_skips rfl rfl (by decide) rfl ?_
            show EV _ _ _ _ _ 145 _ ([.int (bI (false))]) _
            refine e_if_eqB (pc' := 148) (tgt := 159) dX9_commandHere_145 rfl (by decide) (fun hz27 => ?_) (fun hz27 => absurd hz27 (by decide))
            refine e_aload_n (pc' := 160) dX9_commandHere_159 rfl rfl rfl ?_
            refine e_iconst (pc' := 161) (v := nI 0) dX9_commandHere_160 rfl (by decide) ?_
            refine e_ldcS (pc' := 163) dX9_commandHere_161 rfl st_X9_197 ?_
            rcases Option.eq_none_or_eq_some (wdN l (a + 1) 12) with h163 | ⟨j163, h163⟩
            · refine r_VI (pc' := 166) (m' := mX9_isWord) (As := [.int (nI 0), .ref (gK G 12)]) (st := []) (g_word_t (d := d) (k := 12) (n := 5) (hB.go (b := a + 1)) hl hc (by omega) (by decide) htm (s := 0) (by omega) (by decide) h163) dX9_commandHere_163 rfl rfl (Nat.le_of_ble_eq_true rfl) (fit_of (by omega) (by decide) (by decide) (by decide)) ml_X9_184 okX9_isWord rfl rfl (by decide) rfl (fun M163 ⟨b163, d163, v163⟩ => ?_)
              show EV _ _ _ _ _ 166 _ ([.int (bI (true))]) _
              refine e_if_eqB (pc' := 169) (tgt := 207) dX9_commandHere_166 rfl (by decide) (fun hz28 => absurd hz28 (by decide)) (fun hz28 => ?_)
              refine e_aload_n (pc' := 170) dX9_commandHere_169 rfl rfl rfl ?_
              refine e_bipush (pc' := 172) (v := nI 32) dX9_commandHere_170 rfl (by decide) ?_
              refine e_iload_n (pc' := 173) dX9_commandHere_172 rfl rfl rfl ?_
              refine e_iconst (pc' := 174) (v := nI 2) dX9_commandHere_173 rfl (by decide) ?_
              rcases fig_c l (a + 1 + 5) 32 78 with h174 | ⟨h174, w174⟩ | ⟨h174, w174⟩
              · refine r_VI (pc' := 177) (m' := mX9_figures) (As := [.int (nI 32), .int (nI ((4 * tm) + 1)), .int (nI 2)]) (st := []) (g_fig2_1 (d := d) (s := 32) (z := (4 * tm) + 1) b163 hl hc (by omega) (by omega) (by omega) (by omega) h174) dX9_commandHere_174 rfl rfl (Nat.le_of_ble_eq_true rfl) (fit_of (by omega) (by decide) (by decide) (by decide)) ml_X9_188 okX9_figures rfl rfl (by decide) rfl (fun M174 b174 => ?_)
                show EV _ _ _ _ _ 177 _ ([.int (bI (false))]) _
                refine e_if_eqB (pc' := 180) (tgt := 207) dX9_commandHere_177 rfl (by decide) (fun hz29 => ?_) (fun hz29 => absurd hz29 (by decide))
                refine e_iconst (pc' := 208) (v := nI 0) dX9_commandHere_207 rfl (by decide) ?_
                exact e_zret (ty := .boolean) dX9_commandHere_208 rfl (rfl) (by
      have q := cmo_n (cmd := cmd) (f := f) b174 (K := 0) (by decide) (oth_m0 h133 h142) (fun cmd f => ⟨_, (((StR.nil.lit2 (by decide) h133).word2 wa.2.2.2.2.1 (n := 5) (by decide) h163).fit2 (by decide) h174)⟩) (by omega) hf
      exact MP.retI (by rw [q.1]; rfl) q.2) (by decide) (by decide)
              · refine r_VI (pc' := 177) (m' := mX9_figures) (As := [.int (nI 32), .int (nI ((4 * tm) + 1)), .int (nI 2)]) (st := []) (g_fig2_2 (d := d) (s := 32) (z := (4 * tm) + 1) b163 hl hc (by omega) (by omega) (by omega) (by omega) h174 w174) dX9_commandHere_174 rfl rfl (Nat.le_of_ble_eq_true rfl) (fit_of (by omega) (by decide) (by decide) (by decide)) ml_X9_188 okX9_figures rfl rfl (by decide) rfl (fun M174 b174 => ?_)
                show EV _ _ _ _ _ 177 _ ([.int (bI (false))]) _
                refine e_if_eqB (pc' := 180) (tgt := 207) dX9_commandHere_177 rfl (by decide) (fun hz30 => ?_) (fun hz30 => absurd hz30 (by decide))
                refine e_iconst (pc' := 208) (v := nI 0) dX9_commandHere_207 rfl (by decide) ?_
                exact e_zret (ty := .boolean) dX9_commandHere_208 rfl (rfl) (by
      have q := cmo_n (cmd := cmd) (f := f) b174 (K := 0) (by decide) (oth_m0 h133 h142) (fun cmd f => ⟨_, ((((StR.nil.lit2 (by decide) h133).word2 wa.2.2.2.2.1 (n := 5) (by decide) h163).lit2 (by decide) h174).fai2 (by decide) w174)⟩) (by omega) hf
      exact MP.retI (by rw [q.1]; rfl) q.2) (by decide) (by decide)
              · have q174 := wid_le (l := l) (s := 78) (a := a + 1 + 5 + 1)
                refine r_VI (pc' := 177) (m' := mX9_figures) (As := [.int (nI 32), .int (nI ((4 * tm) + 1)), .int (nI 2)]) (st := []) (g_fig2_3 (d := d) (s := 32) (z := (4 * tm) + 1) b163 hl hc (by omega) (by omega) (by omega) (by omega) h174 w174) dX9_commandHere_174 rfl rfl (Nat.le_of_ble_eq_true rfl) (fit_of (by omega) (by decide) (by decide) (by decide)) ml_X9_188 okX9_figures rfl rfl (by decide) rfl (fun M174 ⟨b174, d174, v174⟩ => ?_)
                show EV _ _ _ _ _ 177 _ ([.int (bI (true))]) _
                refine e_if_eqB (pc' := 180) (tgt := 207) dX9_commandHere_177 rfl (by decide) (fun hz31 => absurd hz31 (by decide)) (fun hz31 => ?_)
                refine e_aload_n (pc' := 181) dX9_commandHere_180 rfl rfl rfl ?_
                refine e_bipush (pc' := 183) (v := nI 32) dX9_commandHere_181 rfl (by decide) ?_
                refine e_iload_n (pc' := 184) dX9_commandHere_183 rfl rfl rfl ?_
                refine e_iconst (pc' := 185) (v := nI 1) dX9_commandHere_184 rfl (by decide) ?_
                refine e_iaddN (pc' := 186) dX9_commandHere_185 rfl ?_
                refine e_iconst (pc' := 187) (v := nI 2) dX9_commandHere_186 rfl (by decide) ?_
                rcases fig_c l (a + 1 + 5 + 1 + wid l 78 (a + 1 + 5 + 1)) 32 78 with h187 | ⟨h187, w187⟩ | ⟨h187, w187⟩
                · refine r_VI (pc' := 190) (m' := mX9_figures) (As := [.int (nI 32), .int (nI (((4 * tm) + 1) + 1)), .int (nI 2)]) (st := []) (g_fig2_1 (d := d) (s := 32) (z := ((4 * tm) + 1) + 1) b174 hl hc (by omega) (by omega) (by omega) (by omega) h187) dX9_commandHere_187 rfl rfl (Nat.le_of_ble_eq_true rfl) (fit_of (by omega) (by decide) (by decide) (by decide)) ml_X9_188 okX9_figures rfl rfl (by decide) rfl (fun M187 b187 => ?_)
                  show EV _ _ _ _ _ 190 _ ([.int (bI (false))]) _
                  refine e_if_eqB (pc' := 193) (tgt := 207) dX9_commandHere_190 rfl (by decide) (fun hz32 => ?_) (fun hz32 => absurd hz32 (by decide))
                  refine e_iconst (pc' := 208) (v := nI 0) dX9_commandHere_207 rfl (by decide) ?_
                  exact e_zret (ty := .boolean) dX9_commandHere_208 rfl (rfl) (by
      have q := cmo_n (cmd := cmd) (f := f) b187 (K := 0) (by decide) (oth_m0 h133 h142) (fun cmd f => ⟨_, (((((StR.nil.lit2 (by decide) h133).word2 wa.2.2.2.2.1 (n := 5) (by decide) h163).lit2 (by decide) h174).par2 (by decide) w174).fit2 (by decide) h187)⟩) (by omega) hf
      exact MP.retI (by rw [q.1]; rfl) q.2) (by decide) (by decide)
                · refine r_VI (pc' := 190) (m' := mX9_figures) (As := [.int (nI 32), .int (nI (((4 * tm) + 1) + 1)), .int (nI 2)]) (st := []) (g_fig2_2 (d := d) (s := 32) (z := ((4 * tm) + 1) + 1) b174 hl hc (by omega) (by omega) (by omega) (by omega) h187 w187) dX9_commandHere_187 rfl rfl (Nat.le_of_ble_eq_true rfl) (fit_of (by omega) (by decide) (by decide) (by decide)) ml_X9_188 okX9_figures rfl rfl (by decide) rfl (fun M187 b187 => ?_)
                  show EV _ _ _ _ _ 190 _ ([.int (bI (false))]) _
                  refine e_if_eqB (pc' := 193) (tgt := 207) dX9_commandHere_190 rfl (by decide) (fun hz33 => ?_) (fun hz33 => absurd hz33 (by decide))
                  refine e_iconst (pc' := 208) (v := nI 0) dX9_commandHere_207 rfl (by decide) ?_
                  exact e_zret (ty := .boolean) dX9_commandHere_208 rfl (rfl) (by
      have q := cmo_n (cmd := cmd) (f := f) b187 (K := 0) (by decide) (oth_m0 h133 h142) (fun cmd f => ⟨_, ((((((StR.nil.lit2 (by decide) h133).word2 wa.2.2.2.2.1 (n := 5) (by decide) h163).lit2 (by decide) h174).par2 (by decide) w174).lit2 (by decide) h187).fai2 (by decide) w187)⟩) (by omega) hf
      exact MP.retI (by rw [q.1]; rfl) q.2) (by decide) (by decide)
                · have q187 := wid_le (l := l) (s := 78) (a := a + 1 + 5 + 1 + wid l 78 (a + 1 + 5 + 1) + 1)
                  refine r_VI (pc' := 190) (m' := mX9_figures) (As := [.int (nI 32), .int (nI (((4 * tm) + 1) + 1)), .int (nI 2)]) (st := []) (g_fig2_3 (d := d) (s := 32) (z := ((4 * tm) + 1) + 1) b174 hl hc (by omega) (by omega) (by omega) (by omega) h187 w187) dX9_commandHere_187 rfl rfl (Nat.le_of_ble_eq_true rfl) (fit_of (by omega) (by decide) (by decide) (by decide)) ml_X9_188 okX9_figures rfl rfl (by decide) rfl (fun M187 ⟨b187, d187, v187⟩ => ?_)
                  show EV _ _ _ _ _ 190 _ ([.int (bI (true))]) _
                  refine e_if_eqB (pc' := 193) (tgt := 207) dX9_commandHere_190 rfl (by decide) (fun hz34 => absurd hz34 (by decide)) (fun hz34 => ?_)
                  refine e_aload_n (pc' := 194) dX9_commandHere_193 rfl rfl rfl ?_
                  refine e_iload_n (pc' := 195) dX9_commandHere_194 rfl rfl rfl ?_
                  refine e_iconst (pc' := 196) (v := nI 2) dX9_commandHere_195 rfl (by decide) ?_
                  refine e_iaddN (pc' := 197) dX9_commandHere_196 rfl ?_
                  rcases Decidable.em (wid l 80 (a + 1 + 5 + 1 + wid l 78 (a + 1 + 5 + 1) + 1 + wid l 78 (a + 1 + 5 + 1 + wid l 78 (a + 1 + 5 + 1) + 1)) = 0) with w197 | w197
                  · refine r_VI (pc' := 200) (m' := mX9_poleHere) (As := [.int (nI (((4 * tm) + 1) + 2))]) (st := []) (g_pole2_0 (d := d) (z := ((4 * tm) + 1) + 2) b187 hl hc (by omega) (by omega) (by omega) w197) dX9_commandHere_197 rfl rfl (Nat.le_of_ble_eq_true rfl) (fit_of (by omega) (by decide) (by decide) (by decide)) ml_X9_199 okX9_poleHere rfl rfl (by decide) rfl (fun M197 b197 => ?_)
                    show EV _ _ _ _ _ 200 _ ([.int (bI (false))]) _
                    refine e_if_eqB (pc' := 203) (tgt := 207) dX9_commandHere_200 rfl (by decide) (fun hz35 => ?_) (fun hz35 => absurd hz35 (by decide))
                    refine e_iconst (pc' := 208) (v := nI 0) dX9_commandHere_207 rfl (by decide) ?_
                    exact e_zret (ty := .boolean) dX9_commandHere_208 rfl (rfl) (by
      have q := cmo_n (cmd := cmd) (f := f) b197 (K := 0) (by decide) (oth_m0 h133 h142) (fun cmd f => ⟨_, (((((((StR.nil.lit2 (by decide) h133).word2 wa.2.2.2.2.1 (n := 5) (by decide) h163).lit2 (by decide) h174).par2 (by decide) w174).lit2 (by decide) h187).par2 (by decide) w187).fai2 (by decide) w197)⟩) (by omega) hf
      exact MP.retI (by rw [q.1]; rfl) q.2) (by decide) (by decide)
                  · have q197 := wid_le (l := l) (s := 80) (a := a + 1 + 5 + 1 + wid l 78 (a + 1 + 5 + 1) + 1 + wid l 78 (a + 1 + 5 + 1 + wid l 78 (a + 1 + 5 + 1) + 1))
                    refine r_VI (pc' := 200) (m' := mX9_poleHere) (As := [.int (nI (((4 * tm) + 1) + 2))]) (st := []) (g_pole2_1 (d := d) (z := ((4 * tm) + 1) + 2) b187 hl hc (by omega) (by omega) (by omega) w197) dX9_commandHere_197 rfl rfl (Nat.le_of_ble_eq_true rfl) (fit_of (by omega) (by decide) (by decide) (by decide)) ml_X9_199 okX9_poleHere rfl rfl (by decide) rfl (fun M197 ⟨b197, d197, v197⟩ => ?_)
                    show EV _ _ _ _ _ 200 _ ([.int (bI (true))]) _
                    refine e_if_eqB (pc' := 203) (tgt := 207) dX9_commandHere_200 rfl (by decide) (fun hz36 => absurd hz36 (by decide)) (fun hz36 => ?_)
                    refine e_iconst (pc' := 204) (v := nI 1) dX9_commandHere_203 rfl (by decide) ?_
                    refine e_goto (tgt := 208) dX9_commandHere_204 (by decide) ?_
                    exact e_zret (ty := .boolean) dX9_commandHere_208 rfl (rfl) (by
      have q := cmo_s (cmd := cmd) (f := f) b197 (K := 0) (by decide) (oth_m0 h133 h142) (ok3 (fun cmd => (((((((StR.nil.lit2 (by decide) h133).word2 wa.2.2.2.2.1 (n := 5) (by decide) h163).lit2 (by decide) h174).par2 (by decide) w174).lit2 (by decide) h187).par2 (by decide) w187).par2 (by decide) w197)) (by decide) (by decide)) (((d197 _ (by omega)).trans ((d187 _ (by omega)).trans ((d174 _ (by omega)).trans v163)))) (hp3 (by decide) ((d197 _ (by omega)).trans ((d187 _ (by omega)).trans v174)) ((d197 _ (by omega)).trans v187) v197) (by omega) hf
      exact MP.retI (by rw [q.1]; first | done | rfl) q.2) (by decide) (by decide)
            · refine r_VI (pc' := 166) (m' := mX9_isWord) (As := [.int (nI 0), .ref (gK G 12)]) (st := []) (g_word_f (d := d) (k := 12) (j := j163) (hB.go (b := a + 1)) hl hc (by omega) (by decide) htm (s := 0) (by omega) h163) dX9_commandHere_163 rfl rfl (Nat.le_of_ble_eq_true rfl) (fit_of (by omega) (by decide) (by decide) (by decide)) ml_X9_184 okX9_isWord rfl rfl (by decide) rfl (fun M163 b163 => ?_)
              show EV _ _ _ _ _ 166 _ ([.int (bI (false))]) _
              refine e_if_eqB (pc' := 169) (tgt := 207) dX9_commandHere_166 rfl (by decide) (fun hz37 => ?_) (fun hz37 => absurd hz37 (by decide))
              refine e_iconst (pc' := 208) (v := nI 0) dX9_commandHere_207 rfl (by decide) ?_
              exact e_zret (ty := .boolean) dX9_commandHere_208 rfl (rfl) (by
      have q := cmo_n (cmd := cmd) (f := f) b163 (K := 0) (by decide) (oth_m0 h133 h142) (fun cmd f => ⟨_, ((StR.nil.lit2 (by decide) h133).wordF wa.2.2.2.2.1 h163 (by decide))⟩) (by omega) hf
      exact MP.retI (by rw [q.1]; rfl) q.2) (by decide) (by decide)
        · refine r_V (pc' := 136) (m' := mX9_skips) (As := [.int (nI 109)]) (st := []) (g_skips_f (d := d) hB hl hc (by omega) (s := 109) (by omega) h133) dX9_commandHere_133 rfl rfl (Nat.le_of_ble_eq_true rfl) (fit_of (by omega) (by decide) (by decide) (by decide)) ml_X9_179 okX9_skips rfl rfl (by decide) rfl ?_
          show EV _ _ _ _ _ 136 _ ([.int (bI (false))]) _
          refine e_if_eqB (pc' := 139) (tgt := 209) dX9_commandHere_136 rfl (by decide) (fun hz38 => ?_) (fun hz38 => absurd hz38 (by decide))
          refine e_aload_n (pc' := 210) dX9_commandHere_209 rfl rfl rfl ?_
          refine e_bipush (pc' := 212) (v := nI 115) dX9_commandHere_210 rfl (by decide) ?_
          rcases Bool.eq_false_or_eq_true (hasA l (a) 115) with h212 | h212
          · refine r_V (pc' := 215) (m' := mX9_skips) (As := [.int (nI 115)]) (st := []) (g_skips_t (d := d) hB hl hc (by omega) (s := 115) (by omega) h212) dX9_commandHere_212 rfl rfl (Nat.le_of_ble_eq_true rfl) (fit_of (by omega) (by decide) (by decide) (by decide)) ml_X9_179 okX9_skips rfl rfl (by decide) rfl ?_
            show EV _ _ _ _ _ 215 _ ([.int (bI (true))]) _
            refine e_if_neB (pc' := 218) (tgt := 220) dX9_commandHere_215 rfl (by decide) (fun hz39 => ?_) (fun hz39 => absurd hz39 (by decide))
            refine e_aload_n (pc' := 221) dX9_commandHere_220 rfl rfl rfl ?_
            refine e_bipush (pc' := 223) (v := nI 101) dX9_commandHere_221 rfl (by decide) ?_
            rcases Bool.eq_false_or_eq_true (hasA l (a + 1) 101) with h223 | h223
            · refine r_V (pc' := 226) (m' := mX9_skips) (As := [.int (nI 101)]) (st := []) (g_skips_t (d := d) (hB.go (b := a + 1)) hl hc (by omega) (s := 101) (by omega) h223) dX9_commandHere_223 rfl rfl (Nat.le_of_ble_eq_true rfl) (fit_of (by omega) (by decide) (by decide) (by decide)) ml_X9_179 okX9_skips rfl rfl (by decide) rfl ?_
              show EV _ _ _ _ _ 226 _ ([.int (bI (true))]) _
              refine e_if_eqB (pc' := 229) (tgt := 237) dX9_commandHere_226 rfl (by decide) (fun hz40 => absurd hz40 (by decide)) (fun hz40 => ?_)
              refine e_aload_n (pc' := 230) dX9_commandHere_229 rfl rfl rfl ?_
              refine e_iconst (pc' := 231) (v := nI 4) dX9_commandHere_230 rfl (by decide) ?_
              refine e_ldcS (pc' := 233) dX9_commandHere_231 rfl st_X9_202 ?_
              rcases Option.eq_none_or_eq_some (wdN l (a + 1 + 1) 13) with h233 | ⟨j233, h233⟩
              · refine r_VI (pc' := 236) (m' := mX9_isWord) (As := [.int (nI 4), .ref (gK G 13)]) (st := []) (g_word_t (d := d) (k := 13) (n := 4) ((hB.go (b := a + 1)).go (b := a + 1 + 1)) hl hc (by omega) (by decide) htm (s := 4) (by omega) (by decide) h233) dX9_commandHere_233 rfl rfl (Nat.le_of_ble_eq_true rfl) (fit_of (by omega) (by decide) (by decide) (by decide)) ml_X9_184 okX9_isWord rfl rfl (by decide) rfl (fun M233 ⟨b233, d233, v233⟩ => ?_)
                show EV _ _ _ _ _ 236 _ ([.int (bI (true))]) _
                exact e_zret (ty := .boolean) dX9_commandHere_236 rfl (rfl) (by
      have q := cmo_s (cmd := cmd) (f := f) b233 (K := 7) (by decide) (oth_s7 h212 h223) (ok0 (fun cmd => (((StR.nil.lit2 (by decide) h212).lit2 (by decide) h223).word2 wa.2.2.2.2.2.1 (n := 4) (by decide) h233)) (by decide) (by decide)) (v233) (hp0 (by decide) ) (by omega) hf
      exact MP.retI (by rw [q.1]; first | done | rfl) q.2) (by decide) (by decide)
              · refine r_VI (pc' := 236) (m' := mX9_isWord) (As := [.int (nI 4), .ref (gK G 13)]) (st := []) (g_word_f (d := d) (k := 13) (j := j233) ((hB.go (b := a + 1)).go (b := a + 1 + 1)) hl hc (by omega) (by decide) htm (s := 4) (by omega) h233) dX9_commandHere_233 rfl rfl (Nat.le_of_ble_eq_true rfl) (fit_of (by omega) (by decide) (by decide) (by decide)) ml_X9_184 okX9_isWord rfl rfl (by decide) rfl (fun M233 b233 => ?_)
                show EV _ _ _ _ _ 236 _ ([.int (bI (false))]) _
                exact e_zret (ty := .boolean) dX9_commandHere_236 rfl (rfl) (by
      have q := cmo_n (cmd := cmd) (f := f) b233 (K := 7) (by decide) (oth_s7 h212 h223) (fun cmd f => ⟨_, (((StR.nil.lit2 (by decide) h212).lit2 (by decide) h223).wordF wa.2.2.2.2.2.1 h233 (by decide))⟩) (by omega) hf
      exact MP.retI (by rw [q.1]; rfl) q.2) (by decide) (by decide)
            · refine r_V (pc' := 226) (m' := mX9_skips) (As := [.int (nI 101)]) (st := []) (g_skips_f (d := d) (hB.go (b := a + 1)) hl hc (by omega) (s := 101) (by omega) h223) dX9_commandHere_223 rfl rfl (Nat.le_of_ble_eq_true rfl) (fit_of (by omega) (by decide) (by decide) (by decide)) ml_X9_179 okX9_skips rfl rfl (by decide) rfl ?_
              show EV _ _ _ _ _ 226 _ ([.int (bI (false))]) _
              refine e_if_eqB (pc' := 229) (tgt := 237) dX9_commandHere_226 rfl (by decide) (fun hz41 => ?_) (fun hz41 => absurd hz41 (by decide))
              refine e_aload_n (pc' := 238) dX9_commandHere_237 rfl rfl rfl ?_
              refine e_bipush (pc' := 240) (v := nI 104) dX9_commandHere_238 rfl (by decide) ?_
              rcases Bool.eq_false_or_eq_true (hasA l (a + 1) 104) with h240 | h240
              · refine r_V (pc' := 243) (m' := mX9_skips) (As := [.int (nI 104)]) (st := []) (g_skips_t (d := d) (hB.go (b := a + 1)) hl hc (by omega) (s := 104) (by omega) h240) dX9_commandHere_240 rfl rfl (Nat.le_of_ble_eq_true rfl) (fit_of (by omega) (by decide) (by decide) (by decide)) ml_X9_179 okX9_skips rfl rfl (by decide) rfl ?_
                show EV _ _ _ _ _ 243 _ ([.int (bI (true))]) _
                refine e_if_eqB (pc' := 246) (tgt := 273) dX9_commandHere_243 rfl (by decide) (fun hz42 => absurd hz42 (by decide)) (fun hz42 => ?_)
                refine e_aload_n (pc' := 247) dX9_commandHere_246 rfl rfl rfl ?_
                refine e_iconst (pc' := 248) (v := nI 5) dX9_commandHere_247 rfl (by decide) ?_
                refine e_ldcS (pc' := 250) dX9_commandHere_248 rfl st_X9_204 ?_
                rcases Option.eq_none_or_eq_some (wdN l (a + 1 + 1) 14) with h250 | ⟨j250, h250⟩
                · refine r_VI (pc' := 253) (m' := mX9_isWord) (As := [.int (nI 5), .ref (gK G 14)]) (st := []) (g_word_t (d := d) (k := 14) (n := 3) ((hB.go (b := a + 1)).go (b := a + 1 + 1)) hl hc (by omega) (by decide) htm (s := 5) (by omega) (by decide) h250) dX9_commandHere_250 rfl rfl (Nat.le_of_ble_eq_true rfl) (fit_of (by omega) (by decide) (by decide) (by decide)) ml_X9_184 okX9_isWord rfl rfl (by decide) rfl (fun M250 ⟨b250, d250, v250⟩ => ?_)
                  show EV _ _ _ _ _ 253 _ ([.int (bI (true))]) _
                  refine e_if_eqB (pc' := 256) (tgt := 271) dX9_commandHere_253 rfl (by decide) (fun hz43 => absurd hz43 (by decide)) (fun hz43 => ?_)
                  refine e_aload_n (pc' := 257) dX9_commandHere_256 rfl rfl rfl ?_
                  refine e_bipush (pc' := 259) (v := nI 32) dX9_commandHere_257 rfl (by decide) ?_
                  refine e_iload_n (pc' := 260) dX9_commandHere_259 rfl rfl rfl ?_
                  refine e_iconst (pc' := 261) (v := nI 2) dX9_commandHere_260 rfl (by decide) ?_
                  rcases fig_c l (a + 1 + 1 + 3) 32 78 with h261 | ⟨h261, w261⟩ | ⟨h261, w261⟩
                  · refine r_VI (pc' := 264) (m' := mX9_figures) (As := [.int (nI 32), .int (nI ((4 * tm) + 1)), .int (nI 2)]) (st := []) (g_fig2_1 (d := d) (s := 32) (z := (4 * tm) + 1) b250 hl hc (by omega) (by omega) (by omega) (by omega) h261) dX9_commandHere_261 rfl rfl (Nat.le_of_ble_eq_true rfl) (fit_of (by omega) (by decide) (by decide) (by decide)) ml_X9_188 okX9_figures rfl rfl (by decide) rfl (fun M261 b261 => ?_)
                    show EV _ _ _ _ _ 264 _ ([.int (bI (false))]) _
                    refine e_if_eqB (pc' := 267) (tgt := 271) dX9_commandHere_264 rfl (by decide) (fun hz44 => ?_) (fun hz44 => absurd hz44 (by decide))
                    refine e_iconst (pc' := 272) (v := nI 0) dX9_commandHere_271 rfl (by decide) ?_
                    exact e_zret (ty := .boolean) dX9_commandHere_272 rfl (rfl) (by
      have q := cmo_n (cmd := cmd) (f := f) b261 (K := 3) (by decide) (oth_s3 h212 h240) (fun cmd f => ⟨_, ((((StR.nil.lit2 (by decide) h212).lit2 (by decide) h240).word2 wa.2.2.2.2.2.2.1 (n := 3) (by decide) h250).fit2 (by decide) h261)⟩) (by omega) hf
      exact MP.retI (by rw [q.1]; rfl) q.2) (by decide) (by decide)
                  · refine r_VI (pc' := 264) (m' := mX9_figures) (As := [.int (nI 32), .int (nI ((4 * tm) + 1)), .int (nI 2)]) (st := []) (g_fig2_2 (d := d) (s := 32) (z := (4 * tm) + 1) b250 hl hc (by omega) (by omega) (by omega) (by omega) h261 w261) dX9_commandHere_261 rfl rfl (Nat.le_of_ble_eq_true rfl) (fit_of (by omega) (by decide) (by decide) (by decide)) ml_X9_188 okX9_figures rfl rfl (by decide) rfl (fun M261 b261 => ?_)
                    show EV _ _ _ _ _ 264 _ ([.int (bI (false))]) _
                    refine e_if_eqB (pc' := 267) (tgt := 271) dX9_commandHere_264 rfl (by decide) (fun hz45 => ?_) (fun hz45 => absurd hz45 (by decide))
                    refine e_iconst (pc' := 272) (v := nI 0) dX9_commandHere_271 rfl (by decide) ?_
                    exact e_zret (ty := .boolean) dX9_commandHere_272 rfl (rfl) (by
      have q := cmo_n (cmd := cmd) (f := f) b261 (K := 3) (by decide) (oth_s3 h212 h240) (fun cmd f => ⟨_, (((((StR.nil.lit2 (by decide) h212).lit2 (by decide) h240).word2 wa.2.2.2.2.2.2.1 (n := 3) (by decide) h250).lit2 (by decide) h261).fai2 (by decide) w261)⟩) (by omega) hf
      exact MP.retI (by rw [q.1]; rfl) q.2) (by decide) (by decide)
                  · have q261 := wid_le (l := l) (s := 78) (a := a + 1 + 1 + 3 + 1)
                    refine r_VI (pc' := 264) (m' := mX9_figures) (As := [.int (nI 32), .int (nI ((4 * tm) + 1)), .int (nI 2)]) (st := []) (g_fig2_3 (d := d) (s := 32) (z := (4 * tm) + 1) b250 hl hc (by omega) (by omega) (by omega) (by omega) h261 w261) dX9_commandHere_261 rfl rfl (Nat.le_of_ble_eq_true rfl) (fit_of (by omega) (by decide) (by decide) (by decide)) ml_X9_188 okX9_figures rfl rfl (by decide) rfl (fun M261 ⟨b261, d261, v261⟩ => ?_)
                    show EV _ _ _ _ _ 264 _ ([.int (bI (true))]) _
                    refine e_if_eqB (pc' := 267) (tgt := 271) dX9_commandHere_264 rfl (by decide) (fun hz46 => absurd hz46 (by decide)) (fun hz46 => ?_)
                    refine e_iconst (pc' := 268) (v := nI 1) dX9_commandHere_267 rfl (by decide) ?_
                    refine e_goto (tgt := 272) dX9_commandHere_268 (by decide) ?_
                    exact e_zret (ty := .boolean) dX9_commandHere_272 rfl (rfl) (by
      have q := cmo_s (cmd := cmd) (f := f) b261 (K := 3) (by decide) (oth_s3 h212 h240) (ok1 (fun cmd => (((((StR.nil.lit2 (by decide) h212).lit2 (by decide) h240).word2 wa.2.2.2.2.2.2.1 (n := 3) (by decide) h250).lit2 (by decide) h261).par2 (by decide) w261)) (by decide) (by decide)) (((d261 _ (by omega)).trans v250)) (hp1 (by decide) v261) (by omega) hf
      exact MP.retI (by rw [q.1]; first | done | rfl) q.2) (by decide) (by decide)
                · refine r_VI (pc' := 253) (m' := mX9_isWord) (As := [.int (nI 5), .ref (gK G 14)]) (st := []) (g_word_f (d := d) (k := 14) (j := j250) ((hB.go (b := a + 1)).go (b := a + 1 + 1)) hl hc (by omega) (by decide) htm (s := 5) (by omega) h250) dX9_commandHere_250 rfl rfl (Nat.le_of_ble_eq_true rfl) (fit_of (by omega) (by decide) (by decide) (by decide)) ml_X9_184 okX9_isWord rfl rfl (by decide) rfl (fun M250 b250 => ?_)
                  show EV _ _ _ _ _ 253 _ ([.int (bI (false))]) _
                  refine e_if_eqB (pc' := 256) (tgt := 271) dX9_commandHere_253 rfl (by decide) (fun hz47 => ?_) (fun hz47 => absurd hz47 (by decide))
                  refine e_iconst (pc' := 272) (v := nI 0) dX9_commandHere_271 rfl (by decide) ?_
                  exact e_zret (ty := .boolean) dX9_commandHere_272 rfl (rfl) (by
      have q := cmo_n (cmd := cmd) (f := f) b250 (K := 3) (by decide) (oth_s3 h212 h240) (fun cmd f => ⟨_, (((StR.nil.lit2 (by decide) h212).lit2 (by decide) h240).wordF wa.2.2.2.2.2.2.1 h250 (by decide))⟩) (by omega) hf
      exact MP.retI (by rw [q.1]; rfl) q.2) (by decide) (by decide)
              · refine r_V (pc' := 243) (m' := mX9_skips) (As := [.int (nI 104)]) (st := []) (g_skips_f (d := d) (hB.go (b := a + 1)) hl hc (by omega) (s := 104) (by omega) h240) dX9_commandHere_240 rfl rfl (Nat.le_of_ble_eq_true rfl) (fit_of (by omega) (by decide) (by decide) (by decide)) ml_X9_179 okX9_skips rfl rfl (by decide) rfl ?_
                show EV _ _ _ _ _ 243 _ ([.int (bI (false))]) _
                refine e_if_eqB (pc' := 246) (tgt := 273) dX9_commandHere_243 rfl (by decide) (fun hz48 => ?_) (fun hz48 => absurd hz48 (by decide))
                refine e_aload_n (pc' := 274) dX9_commandHere_273 rfl rfl rfl ?_
                refine e_bipush (pc' := 276) (v := nI 7) dX9_commandHere_274 rfl (by decide) ?_
                refine e_ldcS (pc' := 278) dX9_commandHere_276 rfl st_X9_206 ?_
                rcases Option.eq_none_or_eq_some (wdN l (a + 1) 15) with h278 | ⟨j278, h278⟩
                · refine r_VI (pc' := 281) (m' := mX9_isWord) (As := [.int (nI 7), .ref (gK G 15)]) (st := []) (g_word_t (d := d) (k := 15) (n := 7) (hB.go (b := a + 1)) hl hc (by omega) (by decide) htm (s := 7) (by omega) (by decide) h278) dX9_commandHere_278 rfl rfl (Nat.le_of_ble_eq_true rfl) (fit_of (by omega) (by decide) (by decide) (by decide)) ml_X9_184 okX9_isWord rfl rfl (by decide) rfl (fun M278 ⟨b278, d278, v278⟩ => ?_)
                  show EV _ _ _ _ _ 281 _ ([.int (bI (true))]) _
                  refine e_if_eqB (pc' := 284) (tgt := 312) dX9_commandHere_281 rfl (by decide) (fun hz49 => absurd hz49 (by decide)) (fun hz49 => ?_)
                  refine e_aload_n (pc' := 285) dX9_commandHere_284 rfl rfl rfl ?_
                  refine e_bipush (pc' := 287) (v := nI 32) dX9_commandHere_285 rfl (by decide) ?_
                  refine e_iload_n (pc' := 288) dX9_commandHere_287 rfl rfl rfl ?_
                  refine e_iconst (pc' := 289) (v := nI 1) dX9_commandHere_288 rfl (by decide) ?_
                  rcases fig_c l (a + 1 + 7) 32 68 with h289 | ⟨h289, w289⟩ | ⟨h289, w289⟩
                  · refine r_VI (pc' := 292) (m' := mX9_figures) (As := [.int (nI 32), .int (nI ((4 * tm) + 1)), .int (nI 1)]) (st := []) (g_fig1_1 (d := d) (s := 32) (z := (4 * tm) + 1) b278 hl hc (by omega) (by omega) (by omega) (by omega) h289) dX9_commandHere_289 rfl rfl (Nat.le_of_ble_eq_true rfl) (fit_of (by omega) (by decide) (by decide) (by decide)) ml_X9_188 okX9_figures rfl rfl (by decide) rfl (fun M289 b289 => ?_)
                    show EV _ _ _ _ _ 292 _ ([.int (bI (false))]) _
                    refine e_if_eqB (pc' := 295) (tgt := 312) dX9_commandHere_292 rfl (by decide) (fun hz50 => ?_) (fun hz50 => absurd hz50 (by decide))
                    refine e_iconst (pc' := 313) (v := nI 0) dX9_commandHere_312 rfl (by decide) ?_
                    exact e_zret (ty := .boolean) dX9_commandHere_313 rfl (rfl) (by
      have q := cmo_n (cmd := cmd) (f := f) b289 (K := 1) (by decide) (oth_s1 h212 h223 h240) (fun cmd f => ⟨_, (((StR.nil.lit2 (by decide) h212).word2 wa.2.2.2.2.2.2.2 (n := 7) (by decide) h278).fit2 (by decide) h289)⟩) (by omega) hf
      exact MP.retI (by rw [q.1]; rfl) q.2) (by decide) (by decide)
                  · refine r_VI (pc' := 292) (m' := mX9_figures) (As := [.int (nI 32), .int (nI ((4 * tm) + 1)), .int (nI 1)]) (st := []) (g_fig1_2 (d := d) (s := 32) (z := (4 * tm) + 1) b278 hl hc (by omega) (by omega) (by omega) (by omega) h289 w289) dX9_commandHere_289 rfl rfl (Nat.le_of_ble_eq_true rfl) (fit_of (by omega) (by decide) (by decide) (by decide)) ml_X9_188 okX9_figures rfl rfl (by decide) rfl (fun M289 b289 => ?_)
                    show EV _ _ _ _ _ 292 _ ([.int (bI (false))]) _
                    refine e_if_eqB (pc' := 295) (tgt := 312) dX9_commandHere_292 rfl (by decide) (fun hz51 => ?_) (fun hz51 => absurd hz51 (by decide))
                    refine e_iconst (pc' := 313) (v := nI 0) dX9_commandHere_312 rfl (by decide) ?_
                    exact e_zret (ty := .boolean) dX9_commandHere_313 rfl (rfl) (by
      have q := cmo_n (cmd := cmd) (f := f) b289 (K := 1) (by decide) (oth_s1 h212 h223 h240) (fun cmd f => ⟨_, ((((StR.nil.lit2 (by decide) h212).word2 wa.2.2.2.2.2.2.2 (n := 7) (by decide) h278).lit2 (by decide) h289).fai2 (by decide) w289)⟩) (by omega) hf
      exact MP.retI (by rw [q.1]; rfl) q.2) (by decide) (by decide)
                  · have q289 := wid_le (l := l) (s := 68) (a := a + 1 + 7 + 1)
                    refine r_VI (pc' := 292) (m' := mX9_figures) (As := [.int (nI 32), .int (nI ((4 * tm) + 1)), .int (nI 1)]) (st := []) (g_fig1_3 (d := d) (s := 32) (z := (4 * tm) + 1) b278 hl hc (by omega) (by omega) (by omega) (by omega) h289 w289) dX9_commandHere_289 rfl rfl (Nat.le_of_ble_eq_true rfl) (fit_of (by omega) (by decide) (by decide) (by decide)) ml_X9_188 okX9_figures rfl rfl (by decide) rfl (fun M289 ⟨b289, d289, v289⟩ => ?_)
                    show EV _ _ _ _ _ 292 _ ([.int (bI (true))]) _
                    refine e_if_eqB (pc' := 295) (tgt := 312) dX9_commandHere_292 rfl (by decide) (fun hz52 => absurd hz52 (by decide)) (fun hz52 => ?_)
                    refine e_aload_n (pc' := 296) dX9_commandHere_295 rfl rfl rfl ?_
                    refine e_bipush (pc' := 298) (v := nI 61) dX9_commandHere_296 rfl (by decide) ?_
                    refine e_iload_n (pc' := 299) dX9_commandHere_298 rfl rfl rfl ?_
                    refine e_iconst (pc' := 300) (v := nI 1) dX9_commandHere_299 rfl (by decide) ?_
                    refine e_iaddN (pc' := 301) dX9_commandHere_300 rfl ?_
                    refine e_iconst (pc' := 302) (v := nI 2) dX9_commandHere_301 rfl (by decide) ?_
                    rcases fig_c l (a + 1 + 7 + 1 + wid l 68 (a + 1 + 7 + 1)) 61 78 with h302 | ⟨h302, w302⟩ | ⟨h302, w302⟩
                    · refine r_VI (pc' := 305) (m' := mX9_figures) (As := [.int (nI 61), .int (nI (((4 * tm) + 1) + 1)), .int (nI 2)]) (st := []) (g_fig2_1 (d := d) (s := 61) (z := ((4 * tm) + 1) + 1) b289 hl hc (by omega) (by omega) (by omega) (by omega) h302) dX9_commandHere_302 rfl rfl (Nat.le_of_ble_eq_true rfl) (fit_of (by omega) (by decide) (by decide) (by decide)) ml_X9_188 okX9_figures rfl rfl (by decide) rfl (fun M302 b302 => ?_)
                      show EV _ _ _ _ _ 305 _ ([.int (bI (false))]) _
                      refine e_if_eqB (pc' := 308) (tgt := 312) dX9_commandHere_305 rfl (by decide) (fun hz53 => ?_) (fun hz53 => absurd hz53 (by decide))
                      refine e_iconst (pc' := 313) (v := nI 0) dX9_commandHere_312 rfl (by decide) ?_
                      exact e_zret (ty := .boolean) dX9_commandHere_313 rfl (rfl) (by
      have q := cmo_n (cmd := cmd) (f := f) b302 (K := 1) (by decide) (oth_s1 h212 h223 h240) (fun cmd f => ⟨_, (((((StR.nil.lit2 (by decide) h212).word2 wa.2.2.2.2.2.2.2 (n := 7) (by decide) h278).lit2 (by decide) h289).par2 (by decide) w289).fit2 (by decide) h302)⟩) (by omega) hf
      exact MP.retI (by rw [q.1]; rfl) q.2) (by decide) (by decide)
                    · refine r_VI (pc' := 305) (m' := mX9_figures) (As := [.int (nI 61), .int (nI (((4 * tm) + 1) + 1)), .int (nI 2)]) (st := []) (g_fig2_2 (d := d) (s := 61) (z := ((4 * tm) + 1) + 1) b289 hl hc (by omega) (by omega) (by omega) (by omega) h302 w302) dX9_commandHere_302 rfl rfl (Nat.le_of_ble_eq_true rfl) (fit_of (by omega) (by decide) (by decide) (by decide)) ml_X9_188 okX9_figures rfl rfl (by decide) rfl (fun M302 b302 => ?_)
                      show EV _ _ _ _ _ 305 _ ([.int (bI (false))]) _
                      refine e_if_eqB (pc' := 308) (tgt := 312) dX9_commandHere_305 rfl (by decide) (fun hz54 => ?_) (fun hz54 => absurd hz54 (by decide))
                      refine e_iconst (pc' := 313) (v := nI 0) dX9_commandHere_312 rfl (by decide) ?_
                      exact e_zret (ty := .boolean) dX9_commandHere_313 rfl (rfl) (by
      have q := cmo_n (cmd := cmd) (f := f) b302 (K := 1) (by decide) (oth_s1 h212 h223 h240) (fun cmd f => ⟨_, ((((((StR.nil.lit2 (by decide) h212).word2 wa.2.2.2.2.2.2.2 (n := 7) (by decide) h278).lit2 (by decide) h289).par2 (by decide) w289).lit2 (by decide) h302).fai2 (by decide) w302)⟩) (by omega) hf
      exact MP.retI (by rw [q.1]; rfl) q.2) (by decide) (by decide)
                    · have q302 := wid_le (l := l) (s := 78) (a := a + 1 + 7 + 1 + wid l 68 (a + 1 + 7 + 1) + 1)
                      refine r_VI (pc' := 305) (m' := mX9_figures) (As := [.int (nI 61), .int (nI (((4 * tm) + 1) + 1)), .int (nI 2)]) (st := []) (g_fig2_3 (d := d) (s := 61) (z := ((4 * tm) + 1) + 1) b289 hl hc (by omega) (by omega) (by omega) (by omega) h302 w302) dX9_commandHere_302 rfl rfl (Nat.le_of_ble_eq_true rfl) (fit_of (by omega) (by decide) (by decide) (by decide)) ml_X9_188 okX9_figures rfl rfl (by decide) rfl (fun M302 ⟨b302, d302, v302⟩ => ?_)
                      show EV _ _ _ _ _ 305 _ ([.int (bI (true))]) _
                      refine e_if_eqB (pc' := 308) (tgt := 312) dX9_commandHere_305 rfl (by decide) (fun hz55 => absurd hz55 (by decide)) (fun hz55 => ?_)
                      refine e_iconst (pc' := 309) (v := nI 1) dX9_commandHere_308 rfl (by decide) ?_
                      refine e_goto (tgt := 313) dX9_commandHere_309 (by decide) ?_
                      exact e_zret (ty := .boolean) dX9_commandHere_313 rfl (rfl) (by
      have q := cmo_s (cmd := cmd) (f := f) b302 (K := 1) (by decide) (oth_s1 h212 h223 h240) (ok2 (fun cmd => ((((((StR.nil.lit2 (by decide) h212).word2 wa.2.2.2.2.2.2.2 (n := 7) (by decide) h278).lit2 (by decide) h289).par2 (by decide) w289).lit2 (by decide) h302).par2 (by decide) w302)) (by decide) (by decide)) (((d302 _ (by omega)).trans ((d289 _ (by omega)).trans v278))) (hp2 (by decide) ((d302 _ (by omega)).trans v289) v302) (by omega) hf
      exact MP.retI (by rw [q.1]; first | done | rfl) q.2) (by decide) (by decide)
                · refine r_VI (pc' := 281) (m' := mX9_isWord) (As := [.int (nI 7), .ref (gK G 15)]) (st := []) (g_word_f (d := d) (k := 15) (j := j278) (hB.go (b := a + 1)) hl hc (by omega) (by decide) htm (s := 7) (by omega) h278) dX9_commandHere_278 rfl rfl (Nat.le_of_ble_eq_true rfl) (fit_of (by omega) (by decide) (by decide) (by decide)) ml_X9_184 okX9_isWord rfl rfl (by decide) rfl (fun M278 b278 => ?_)
                  show EV _ _ _ _ _ 281 _ ([.int (bI (false))]) _
                  refine e_if_eqB (pc' := 284) (tgt := 312) dX9_commandHere_281 rfl (by decide) (fun hz56 => ?_) (fun hz56 => absurd hz56 (by decide))
                  refine e_iconst (pc' := 313) (v := nI 0) dX9_commandHere_312 rfl (by decide) ?_
                  exact e_zret (ty := .boolean) dX9_commandHere_313 rfl (rfl) (by
      have q := cmo_n (cmd := cmd) (f := f) b278 (K := 1) (by decide) (oth_s1 h212 h223 h240) (fun cmd f => ⟨_, ((StR.nil.lit2 (by decide) h212).wordF wa.2.2.2.2.2.2.2 h278 (by decide))⟩) (by omega) hf
      exact MP.retI (by rw [q.1]; rfl) q.2) (by decide) (by decide)
          · refine r_V (pc' := 215) (m' := mX9_skips) (As := [.int (nI 115)]) (st := []) (g_skips_f (d := d) hB hl hc (by omega) (s := 115) (by omega) h212) dX9_commandHere_212 rfl rfl (Nat.le_of_ble_eq_true rfl) (fit_of (by omega) (by decide) (by decide) (by decide)) ml_X9_179 okX9_skips rfl rfl (by decide) rfl ?_
            show EV _ _ _ _ _ 215 _ ([.int (bI (false))]) _
            refine e_if_neB (pc' := 218) (tgt := 220) dX9_commandHere_215 rfl (by decide) (fun hz57 => absurd hz57 (by decide)) (fun hz57 => ?_)
            refine e_iconst (pc' := 219) (v := nI 0) dX9_commandHere_218 rfl (by decide) ?_
            exact e_zret (ty := .boolean) dX9_commandHere_219 rfl (rfl) (by
      have q := cmo_0 (cmd := cmd) (f := f) hB (no_first h12 h48 h97 h133 h212) hf
      exact MP.retI (by rw [q.1]; rfl) q.2) (by decide) (by decide)
end T52

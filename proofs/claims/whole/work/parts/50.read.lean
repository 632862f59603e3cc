set_option maxHeartbeats 400000
/-! THE REFERENCE: reading a text -/
/-- the reference at a in the text l, with tm commands told -/
def TP (l : List Nat) (a tm : Nat) (M : Nat → Nat → Int32) : Prop := TxR M l ∧ M 96 17 = nI a ∧ M 96 19 = nI tm
/-- .. since M0 -/
def TB (l : List Nat) (a tm : Nat) (M0 M : Nat → Nat → Int32) : Prop := TP l a tm M ∧ (∀ j, j ≠ 17 → M 96 j = M0 96 j) ∧ (∀ y, y < 4 * tm → M 103 y = M0 103 y) ∧ KP (fun x => x == 96 || x == 103) M0 M
def hrI (l : List Nat) (a : Nat) : Int32 := if a < l.length then nI (l.getD a 0) else -1
section T50
variable {G : gC} {ad : Nat → Nat} {d : Nat} {M M0 : Nat → Nat → Int32} {o : (Nat → Int64) × (Nat → UInt64)} {l : List Nat} {a tm s k : Nat}
theorem neg1_ne {x : Nat} (h : x < 2 ^ 31) : ¬ (-1 : Int32) = nI x := fun e => by
  have h2 := nI_pos' h
  rw [← e] at h2
  exact absurd h2 (by decide)
theorem hr_has (hc : ∀ i, l.getD i 0 < 65536) (hs : s < 65536) : hrI l a = nI s ↔ hasA l a s = true := by
  unfold hrI hasA
  rw [decide_eq_true_eq]
  by_cases h : a < l.length
  · rw [if_pos h]
    have := hc a
    exact ⟨fun e => ⟨h, (nI_eq (by omega) (by omega)).mp e⟩, fun e => by rw [e.2]⟩
  · rw [if_neg h]
    exact ⟨fun e => absurd e (neg1_ne (by omega)), fun e => absurd e.1 h⟩
theorem hr_dig (hc : ∀ i, l.getD i 0 < 65536) : decide (nI 48 ≤ hrI l a ∧ hrI l a ≤ nI 57) = digA l a := by
  unfold hrI digA
  apply decide_eq_decide.mpr
  by_cases h : a < l.length
  · rw [if_pos h]
    have := hc a
    rw [nI_leI (by omega) (by omega), nI_leI (by omega) (by omega)]
    exact ⟨fun e => ⟨h, e.1, e.2⟩, fun e => e.2⟩
  · rw [if_neg h]
    exact ⟨fun e => absurd e.1 (by decide), fun e => absurd e.1 h⟩
theorem TB.at (h : TB l a tm M0 M) : M 96 17 = nI a := h.1.2.1
theorem TB.ln (h : TB l a tm M0 M) : M 96 13 = nI l.length := h.1.1.1
theorem TB.tmv (h : TB l a tm M0 M) : M 96 19 = nI tm := h.1.2.2
theorem TB.go (h : TB l a tm M0 M) {b : Nat} : TB l b tm M0 (up2 M 96 17 (nI b)) := by
  obtain ⟨⟨⟨h1, h2⟩, h3, h4⟩, h5, h6, h7⟩ := h
  exact ⟨⟨⟨by rw [up2_k (by decide)]; exact h1, fun i hi => by rw [up2_n (by decide)]; exact h2 i hi⟩, up2_s, by rw [up2_k (by decide)]; exact h4⟩, fun j hj => by rw [up2_k hj]; exact h5 j hj, fun y hy => by rw [up2_n (by decide)]; exact h6 y hy, h7.up (by decide)⟩
theorem TB.told (h : TB l a tm M0 M) {z : Nat} {x : Int32} (hz : 4 * tm ≤ z) : TB l a tm M0 (up2 M 103 z x) := by
  obtain ⟨⟨⟨h1, h2⟩, h3, h4⟩, h5, h6, h7⟩ := h
  exact ⟨⟨⟨by rw [up2_n (by decide)]; exact h1, fun i hi => by rw [up2_n (by decide)]; exact h2 i hi⟩, by rw [up2_n (by decide)]; exact h3, by rw [up2_n (by decide)]; exact h4⟩, fun j hj => by rw [up2_n (by decide)]; exact h5 j hj, fun y hy => by rw [up2_k (by omega)]; exact h6 y hy, h7.up (by decide)⟩
theorem g_here (hB : TB l a tm M0 M) (hl : l.length ≤ 60) (hc : ∀ i, l.getD i 0 < 65536) (ha : a < 100) : RET G ad d mX9_here [.ref (ad 96)] (M, o) (some (.int (hrI l a))) (M, o) := by
  refine CM_of rfl (by decide) rfl (Nat.le_of_ble_eq_true rfl) rfl ?_
  have hca := hc a
  refine e_aload_n (pc' := 1) dX9_here_0 rfl rfl rfl ?_
  refine p_gfi (pc' := 4) (a := 96) (k := 17) (x := nI a) dX9_here_1 rfl (rfl) (by decide) (by decide) rfl fl_X9_163 (hB.at) ?_
  refine e_aload_n (pc' := 5) dX9_here_4 rfl rfl rfl ?_
  refine p_gfi (pc' := 8) (a := 96) (k := 13) (x := nI (l.length)) dX9_here_5 rfl (rfl) (by decide) (by decide) rfl fl_X9_160 (hB.ln) ?_
  refine e_icmp_geN (pc' := 11) (tgt := 23) dX9_here_8 rfl (by decide) (by omega) (by omega) (fun hz => ?_) (fun hz => ?_)
  · refine e_iconst (pc' := 24) (v := (-1)) dX9_here_23 rfl (by decide) ?_
    exact e_iret dX9_here_24 rfl (MP.ret (congrArg (fun z => some (Value.int z)) (by unfold hrI; first | exact (if_pos (by omega)).symm | exact (if_neg (by omega)).symm)) rfl) (by decide) (by decide)
  · refine e_aload_n (pc' := 12) dX9_here_11 rfl rfl rfl ?_
    refine p_gfr (pc' := 15) (a := 96) (k := 12) (t := 101) dX9_here_12 rfl rfl (by decide) (by decide) rfl fl_X9_22 ?_
    refine e_aload_n (pc' := 16) dX9_here_15 rfl rfl rfl ?_
    refine p_gfi (pc' := 19) (a := 96) (k := 17) (x := nI a) dX9_here_16 rfl (rfl) (by decide) (by decide) rfl fl_X9_163 (hB.at) ?_
    refine p_iald (pc' := 20) (a := 101) (k := a) (x := nI (l.getD a 0)) dX9_here_19 rfl (rfl) (rfl) (by omega) (by decide) (hB.1.1.2 _ (by omega)) ?_
    refine e_goto (tgt := 24) dX9_here_20 (by decide) ?_
    exact e_iret dX9_here_24 rfl (MP.ret (congrArg (fun z => some (Value.int z)) (by unfold hrI; first | exact (if_pos (by omega)).symm | exact (if_neg (by omega)).symm)) rfl) (by decide) (by decide)
theorem g_hereN (hB : TB l a tm M0 M) (hl : l.length ≤ 60) (hc : ∀ i, l.getD i 0 < 65536) (ha : a < 100) (h : a < l.length) : RET G ad d mX9_here [.ref (ad 96)] (M, o) (some (.int (nI (l.getD a 0)))) (M, o) := by
  have e : hrI l a = nI (l.getD a 0) := if_pos h
  rw [← e]
  exact g_here hB hl hc ha
theorem g_inD (hc : ∀ i, l.getD i 0 < 65536) : RET G ad d mX9_in [.int (hrI l a), .int (nI 48), .int (nI 57)] (M, o) (some (.int (bI (digA l a)))) (M, o) := by
  have h := g_in (G := G) (ad := ad) (d := d) (M := M) (o := o) (hrI l a) (nI 48) (nI 57)
  rw [hr_dig hc] at h
  exact h
theorem g_skips_t (hB : TB l a tm M0 M) (hl : l.length ≤ 60) (hc : ∀ i, l.getD i 0 < 65536) (ha : a < 100) (hs : s < 1000) (h : hasA l a s = true) : RET G ad (d + 1) mX9_skips [.ref (ad 96), .int (nI s)] (M, o) (some (.int (bI (true)))) ((up2 M 96 17 (nI (a + 1))), o) := by
  refine CM_of rfl (by decide) rfl (Nat.le_of_ble_eq_true rfl) rfl ?_
  refine e_aload_n (pc' := 1) dX9_skips_0 rfl rfl rfl ?_
  refine r_V (pc' := 4) (m' := mX9_here) (As := []) (st := []) (g_here (d := d) hB hl hc (by omega)) dX9_skips_1 rfl rfl (Nat.le_of_ble_eq_true rfl) (fit_of (by omega) (by decide) (by decide) (by decide)) ml_X9_166 okX9_here rfl rfl (by decide) rfl ?_
  show EV _ _ _ _ _ 4 _ ([.int (hrI l (a))]) _
  refine e_iload_n (pc' := 5) dX9_skips_4 rfl rfl rfl ?_
  refine e_icmp_eq (pc' := 8) (tgt := 10) dX9_skips_5 rfl (by decide) (fun hz1 => ?_) (fun hz1 => absurd hz1 (not_not_intro ((hr_has hc (by omega)).mpr h)))
  refine e_aload_n (pc' := 11) dX9_skips_10 rfl rfl rfl ?_
  refine e_dup (pc' := 12) dX9_skips_11 rfl rfl ?_
  refine p_gfi (pc' := 15) (a := 96) (k := 17) (x := nI a) dX9_skips_12 rfl (rfl) (by decide) (by decide) rfl fl_X9_163 (hB.at) ?_
  refine e_iconst (pc' := 16) (v := nI 1) dX9_skips_15 rfl (by decide) ?_
  refine e_iaddN (pc' := 17) dX9_skips_16 rfl ?_
  refine p_pfi (pc' := 20) (a := 96) (k := 17) dX9_skips_17 rfl (rfl) (by decide) (by decide) rfl fl_X9_163 rfl rfl ?_
  refine e_iconst (pc' := 21) (v := nI 1) dX9_skips_20 rfl (by decide) ?_
  exact e_zret (ty := .boolean) dX9_skips_21 rfl (rfl) (MP.ret (congrArg (fun z => some (Value.int z)) (rfl)) rfl) (by decide) (by decide)
theorem g_skips_f (hB : TB l a tm M0 M) (hl : l.length ≤ 60) (hc : ∀ i, l.getD i 0 < 65536) (ha : a < 100) (hs : s < 1000) (h : hasA l a s = false) : RET G ad (d + 1) mX9_skips [.ref (ad 96), .int (nI s)] (M, o) (some (.int (bI (false)))) (M, o) := by
  refine CM_of rfl (by decide) rfl (Nat.le_of_ble_eq_true rfl) rfl ?_
  refine e_aload_n (pc' := 1) dX9_skips_0 rfl rfl rfl ?_
  refine r_V (pc' := 4) (m' := mX9_here) (As := []) (st := []) (g_here (d := d) hB hl hc (by omega)) dX9_skips_1 rfl rfl (Nat.le_of_ble_eq_true rfl) (fit_of (by omega) (by decide) (by decide) (by decide)) ml_X9_166 okX9_here rfl rfl (by decide) rfl ?_
  show EV _ _ _ _ _ 4 _ ([.int (hrI l (a))]) _
  refine e_iload_n (pc' := 5) dX9_skips_4 rfl rfl rfl ?_
  refine e_icmp_eq (pc' := 8) (tgt := 10) dX9_skips_5 rfl (by decide) (fun hz1 => absurd hz1 (fun q => by rw [(hr_has hc (by omega)).mp q] at h; cases h)) (fun hz1 => ?_)
  refine e_iconst (pc' := 9) (v := nI 0) dX9_skips_8 rfl (by decide) ?_
  exact e_zret (ty := .boolean) dX9_skips_9 rfl (rfl) (MP.ret (congrArg (fun z => some (Value.int z)) (rfl)) rfl) (by decide) (by decide)
/-- how much of a word is here -/
def wdN (l : List Nat) (a k : Nat) : Option Nat := fnd (fun j => !hasA l (a + j) (chr k j)) (slen k)
theorem chr_lt (hk : k < 16) {j : Nat} (hj : j < slen k) : chr k j < 128 := (chr_all k hk j (by have := slen_lt k hk; omega)).2
theorem wd_none (h : ∀ j, j < slen k → hasA l (a + j) (chr k j) = true) : wdN l a k = none := fnd_none (fun j hj => by rw [h j hj]; rfl)
theorem wd_some {i : Nat} (hi : i < slen k) (h : ∀ j, j < i → hasA l (a + j) (chr k j) = true) (h2 : hasA l (a + i) (chr k i) = false) : wdN l a k = some i := fnd_some hi (fun j hj => by rw [h j hj]; rfl) (by rw [h2]; rfl)
theorem gl_word {M1 : Nat → Nat → Int32} (hl : l.length ≤ 60) (hc : ∀ i, l.getD i 0 < 65536) (hk : k < 16) (htm : tm ≤ 30) (ha2 : a < 80) : ∀ i, i ≤ slen k → ∀ (M : Nat → Nat → Int32), TB l (a + i) tm M0 M → (∀ j, j < i → hasA l (a + j) (chr k j) = true) → (∀ y, y ≠ 4 * tm → M 103 y = M1 103 y) → M 103 (4 * tm) = nI s → ER G ad (d + 5) mX9_isWord (0, 0) (PI (some (.int (bI (wdN l a k).isNone))) o (fun M' => match wdN l a k with | none => TB l (a + slen k) tm M0 M' ∧ (∀ y, y ≠ 4 * tm → M' 103 y = M1 103 y) ∧ M' 103 (4 * tm) = nI s | some j => TB l (a + j) tm M0 M')) (0, 0) 14 [some (.ref (ad 96)), some (.int (nI s)), some (.ref (gK G k)), some (.int (nI i))] [] (M, o) := down (slen k) _ (fun i hi ih M hB hz hd ht => by
  have h13 := slen_lt k hk
  refine e_iload_n (pc' := 15) dX9_isWord_14 rfl rfl rfl ?_
  refine e_aload_n (pc' := 16) dX9_isWord_15 rfl rfl rfl ?_
  refine r_Vs (pc' := 19) (m' := mJ0_length_8abf5) (As := []) (st := [.int (nI i)]) (c_slen (d := d) hk) dX9_isWord_16 rfl rfl (Nat.le_of_ble_eq_true rfl) (fit_of (by omega) (by decide) (by decide) (by decide)) ml_X9_172 okJ0_length_8abf5 rfl hk rfl ?_
  show EV _ _ _ _ _ 19 _ ([.int (nI (slen k)), .int (nI i)]) _
  refine e_icmp_geN (pc' := 22) (tgt := 42) dX9_isWord_19 rfl (by decide) (by omega) (by omega) (fun hz1 => ?_) (fun hz1 => ?_)
  · refine e_iconst (pc' := 43) (v := nI 1) dX9_isWord_42 rfl (by decide) ?_
    exact e_zret (ty := .boolean) dX9_isWord_43 rfl (rfl) (by
      obtain rfl : i = slen k := by omega
      have e := wd_none hz
      exact MP.retI (by rw [e]; rfl) (by rw [e]; exact ⟨hB, hd, ht⟩)) (by decide) (by decide)
  · refine e_aload_n (pc' := 23) dX9_isWord_22 rfl rfl rfl ?_
    refine e_aload_n (pc' := 24) dX9_isWord_23 rfl rfl rfl ?_
    refine e_iload_n (pc' := 25) dX9_isWord_24 rfl rfl rfl ?_
    refine r_Vs (pc' := 28) (m' := mJ0_charAt_5068e) (As := [.int (nI i)]) (st := [.ref (ad 96)]) (c_charAt (d := d) (j := i) hk (by omega)) dX9_isWord_25 rfl rfl (Nat.le_of_ble_eq_true rfl) (fit_of (by omega) (by decide) (by decide) (by decide)) ml_X9_176 okJ0_charAt_5068e rfl hk rfl ?_
    show EV _ _ _ _ _ 28 _ ([.int (nI (chr k i)), .ref (ad 96)]) _
    have hq := chr_lt hk (j := i) (by omega)
    rcases Bool.eq_false_or_eq_true (hasA l (a + i) (chr k i)) with h28 | h28
    · have hq := chr_lt hk (j := i) (by omega)
      refine r_V (pc' := 31) (m' := mX9_skips) (As := [.int (nI (chr k i))]) (st := []) (g_skips_t (d := d) hB hl hc (by omega) (s := chr k i) (by omega) h28) dX9_isWord_28 rfl rfl (Nat.le_of_ble_eq_true rfl) (fit_of (by omega) (by decide) (by decide) (by decide)) ml_X9_179 okX9_skips rfl rfl (by decide) rfl ?_
      show EV _ _ _ _ _ 31 _ ([.int (bI (true))]) _
      refine e_if_neB (pc' := 34) (tgt := 36) dX9_isWord_31 rfl (by decide) (fun hz2 => ?_) (fun hz2 => absurd hz2 (by decide))
      refine e_iincN (pc' := 39) (k := 1) (L' := [some (.ref (ad 96)), some (.int (nI s)), some (.ref (gK G k)), some (.int (nI (i + 1)))]) dX9_isWord_36 rfl rfl rfl (by decide) rfl ?_
      refine e_goto (tgt := 14) dX9_isWord_39 (by decide) ?_
      exact ih (by omega) _ (hB.go (b := a + i + 1)) (fun j hj => by by_cases e : j = i; rw [e]; exact h28; exact hz j (by omega)) (fun y hy => by rw [up2_n (by decide)]; exact hd y hy) (by rw [up2_n (by decide)]; exact ht)
    · have hq := chr_lt hk (j := i) (by omega)
      refine r_V (pc' := 31) (m' := mX9_skips) (As := [.int (nI (chr k i))]) (st := []) (g_skips_f (d := d) hB hl hc (by omega) (s := chr k i) (by omega) h28) dX9_isWord_28 rfl rfl (Nat.le_of_ble_eq_true rfl) (fit_of (by omega) (by decide) (by decide) (by decide)) ml_X9_179 okX9_skips rfl rfl (by decide) rfl ?_
      show EV _ _ _ _ _ 31 _ ([.int (bI (false))]) _
      refine e_if_neB (pc' := 34) (tgt := 36) dX9_isWord_31 rfl (by decide) (fun hz3 => absurd hz3 (by decide)) (fun hz3 => ?_)
      refine e_iconst (pc' := 35) (v := nI 0) dX9_isWord_34 rfl (by decide) ?_
      exact e_zret (ty := .boolean) dX9_isWord_35 rfl (rfl) (by
      have e := wd_some (by omega) hz h28
      exact MP.retI (by rw [e]; rfl) (by rw [e]; exact hB)) (by decide) (by decide))
theorem g_word (hB : TB l a tm M0 M) (hl : l.length ≤ 60) (hc : ∀ i, l.getD i 0 < 65536) (ha : a < 100) (hk : k < 16) (htm : tm ≤ 30) (ha2 : a < 80) (hs : s < 10) : RETI G ad (d + 5) mX9_isWord [.ref (ad 96), .int (nI s), .ref (gK G k)] (M, o) (some (.int (bI ((wdN l a k).isNone)))) (fun M' => match wdN l a k with | none => TB l (a + slen k) tm M0 M' ∧ (∀ y, y ≠ 4 * tm → M' 103 y = M 103 y) ∧ M' 103 (4 * tm) = nI s | some j => TB l (a + j) tm M0 M') := by
  refine CM_of rfl (by decide) rfl (Nat.le_of_ble_eq_true rfl) rfl ?_
  refine e_aload_n (pc' := 1) dX9_isWord_0 rfl rfl rfl ?_
  refine p_gfr (pc' := 4) (a := 96) (k := 18) (t := 103) dX9_isWord_1 rfl rfl (by decide) (by decide) rfl fl_X9_33 ?_
  refine e_iconst (pc' := 5) (v := nI 4) dX9_isWord_4 rfl (by decide) ?_
  refine e_aload_n (pc' := 6) dX9_isWord_5 rfl rfl rfl ?_
  refine p_gfi (pc' := 9) (a := 96) (k := 19) (x := nI tm) dX9_isWord_6 rfl (rfl) (by decide) (by decide) rfl fl_X9_169 (hB.tmv) ?_
  refine e_imulN (pc' := 10) dX9_isWord_9 rfl ?_
  refine e_iload_n (pc' := 11) dX9_isWord_10 rfl rfl rfl ?_
  refine p_iast (pc' := 12) (a := 103) (k := 4 * tm) dX9_isWord_11 rfl (rfl) (rfl) (by omega) (by decide) ?_
  refine e_iconst (pc' := 13) (v := nI 0) dX9_isWord_12 rfl (by decide) ?_
  refine e_istore_n (pc' := 14) (L' := [some (.ref (ad 96)), some (.int (nI s)), some (.ref (gK G k)), some (.int (nI 0))]) dX9_isWord_13 rfl rfl (by decide) rfl ?_
  exact gl_word hl hc hk htm ha2 0 (Nat.zero_le _) _ (hB.told (z := 4 * tm) (by omega)) (fun j hj => absurd hj (Nat.not_lt_zero j)) (fun y hy => up2_k hy) up2_s
def sgM (m : Nat) : Nat := if m = 2 then 78 else 68
theorem wid68 {x : Nat} : wid l 68 x = if digA l x = true then 1 else 0 := rfl
theorem wid78 {x : Nat} : wid l 78 x = if digA l x = true then (if digA l (x + 1) = true then 2 else 1) else 0 := rfl
theorem dig_d {x : Nat} (h : digA l x = true) : x < l.length ∧ 48 ≤ l.getD x 0 ∧ l.getD x 0 ≤ 57 := of_decide_eq_true h
theorem vof1 {x g : Nat} (hg : ¬ g = 80) : vof l g x 1 = l.getD x 0 - 48 := by unfold vof; rw [if_neg hg, if_pos rfl]
theorem vof2 {x g : Nat} (hg : ¬ g = 80) : vof l g x 2 = 10 * (l.getD x 0 - 48) + l.getD (x + 1) 0 - 48 := by unfold vof; rw [if_neg hg, if_neg (by decide)]
theorem g_fig1 (hB : TB l a tm M0 M) (hl : l.length ≤ 60) (hc : ∀ i, l.getD i 0 < 65536) (ha : a < 100) {z : Nat} (hz : 4 * tm ≤ z) (hz2 : z < 124) (ha2 : a < 80) (hs : s < 1000) : RETI G ad (d + 3) mX9_figures [.ref (ad 96), .int (nI s), .int (nI z), .int (nI 1)] (M, o) (some (.int (bI (hasA l a s && !decide (wid l 68 (a + 1) = 0))))) (fun M' => if hasA l a s = true then (if wid l 68 (a + 1) = 0 then TB l (a + 1) tm M0 M' else TB l (a + 1 + wid l 68 (a + 1)) tm M0 M' ∧ (∀ y, y ≠ z → M' 103 y = M 103 y) ∧ M' 103 z = nI (vof l 68 (a + 1) (wid l 68 (a + 1)))) else TB l a tm M0 M') := by
  refine CM_of rfl (by decide) rfl (Nat.le_of_ble_eq_true rfl) rfl ?_
  refine e_aload_n (pc' := 1) dX9_figures_0 rfl rfl rfl ?_
  refine e_iload_n (pc' := 2) dX9_figures_1 rfl rfl rfl ?_
  rcases Bool.eq_false_or_eq_true (hasA l (a) (s)) with h2 | h2
  · refine r_V (pc' := 5) (m' := mX9_skips) (As := [.int (nI s)]) (st := []) (g_skips_t (d := d) hB hl hc (by omega) (s := s) (by omega) h2) dX9_figures_2 rfl rfl (Nat.le_of_ble_eq_true rfl) (fit_of (by omega) (by decide) (by decide) (by decide)) ml_X9_179 okX9_skips rfl rfl (by decide) rfl ?_
    show EV _ _ _ _ _ 5 _ ([.int (bI (true))]) _
    refine e_if_eqB (pc' := 8) (tgt := 22) dX9_figures_5 rfl (by decide) (fun hz1 => absurd hz1 (by decide)) (fun hz1 => ?_)
    refine e_aload_n (pc' := 9) dX9_figures_8 rfl rfl rfl ?_
    refine r_V (pc' := 12) (m' := mX9_here) (As := []) (st := []) (g_here (d := d) (hB.go (b := a + 1)) hl hc (by omega)) dX9_figures_9 rfl rfl (Nat.le_of_ble_eq_true rfl) (fit_of (by omega) (by decide) (by decide) (by decide)) ml_X9_166 okX9_here rfl rfl (by decide) rfl ?_
    show EV _ _ _ _ _ 12 _ ([.int (hrI l (a + 1))]) _
    refine e_bipush (pc' := 14) (v := nI 48) dX9_figures_12 rfl (by decide) ?_
    refine e_bipush (pc' := 16) (v := nI 57) dX9_figures_14 rfl (by decide) ?_
    refine r_S (pc' := 19) (m' := mX9_in) (As := [.int (hrI l (a + 1)), .int (nI 48), .int (nI 57)]) (st := []) (g_inD (d := d) (a := (a + 1)) hc) dX9_figures_16 rfl rfl (Nat.le_of_ble_eq_true rfl) (fit_of (by omega) (by decide) (by decide) (by decide)) ml_X9_62 okX9_in rfl rfl ?_
    show EV _ _ _ _ _ 19 _ ([.int (bI (digA l (a + 1)))]) _
    refine e_if_neB (pc' := 22) (tgt := 24) dX9_figures_19 rfl (by decide) (fun hz2 => ?_) (fun hz2 => ?_)
    · refine e_aload_n (pc' := 25) dX9_figures_24 rfl rfl rfl ?_
      refine p_gfr (pc' := 28) (a := 96) (k := 18) (t := 103) dX9_figures_25 rfl rfl (by decide) (by decide) rfl fl_X9_33 ?_
      refine e_iload_n (pc' := 29) dX9_figures_28 rfl rfl rfl ?_
      refine e_iconst (pc' := 30) (v := nI 0) dX9_figures_29 rfl (by decide) ?_
      refine p_iast (pc' := 31) (a := 103) (k := z) dX9_figures_30 rfl (rfl) (rfl) (by omega) (by decide) ?_
      refine e_iconst (pc' := 32) (v := nI 0) dX9_figures_31 rfl (by decide) ?_
      refine e_istore (pc' := 34) (L' := [some (.ref (ad 96)), some (.int (nI s)), some (.int (nI z)), some (.int (nI 1)), some (.int (nI 0))]) dX9_figures_32 rfl (by decide) rfl ?_
      refine e_iload (pc' := 36) dX9_figures_34 rfl rfl ?_
      refine e_iload_n (pc' := 37) dX9_figures_36 rfl rfl rfl ?_
      refine e_icmp_geN (pc' := 40) (tgt := 93) dX9_figures_37 rfl (by decide) (by decide) (by decide) (fun h => absurd h (by decide)) (fun _ => ?_)
      refine e_aload_n (pc' := 41) dX9_figures_40 rfl rfl rfl ?_
      refine r_V (pc' := 44) (m' := mX9_here) (As := []) (st := []) (g_here (d := d) ((hB.go (b := a + 1)).told (z := z) (by omega)) hl hc (by omega)) dX9_figures_41 rfl rfl (Nat.le_of_ble_eq_true rfl) (fit_of (by omega) (by decide) (by decide) (by decide)) ml_X9_166 okX9_here rfl rfl (by decide) rfl ?_
      show EV _ _ _ _ _ 44 _ ([.int (hrI l (a + 1))]) _
      refine e_bipush (pc' := 46) (v := nI 48) dX9_figures_44 rfl (by decide) ?_
      refine e_bipush (pc' := 48) (v := nI 57) dX9_figures_46 rfl (by decide) ?_
      refine r_S (pc' := 51) (m' := mX9_in) (As := [.int (hrI l (a + 1)), .int (nI 48), .int (nI 57)]) (st := []) (g_inD (d := d) (a := (a + 1)) hc) dX9_figures_48 rfl rfl (Nat.le_of_ble_eq_true rfl) (fit_of (by omega) (by decide) (by decide) (by decide)) ml_X9_62 okX9_in rfl rfl ?_
      show EV _ _ _ _ _ 51 _ ([.int (bI (digA l (a + 1)))]) _
      refine e_if_eqB (pc' := 54) (tgt := 93) dX9_figures_51 rfl (by decide) (fun hz4 => ?_) (fun hz4 => ?_)
      · refine e_iconst (pc' := 94) (v := nI 1) dX9_figures_93 rfl (by decide) ?_
        exact e_zret (ty := .boolean) dX9_figures_94 rfl (rfl) (by simp_all) (by decide) (by decide)
      · refine e_aload_n (pc' := 55) dX9_figures_54 rfl rfl rfl ?_
        refine p_gfr (pc' := 58) (a := 96) (k := 18) (t := 103) dX9_figures_55 rfl rfl (by decide) (by decide) rfl fl_X9_33 ?_
        refine e_iload_n (pc' := 59) dX9_figures_58 rfl rfl rfl ?_
        refine e_bipush (pc' := 61) (v := nI 10) dX9_figures_59 rfl (by decide) ?_
        refine e_aload_n (pc' := 62) dX9_figures_61 rfl rfl rfl ?_
        refine p_gfr (pc' := 65) (a := 96) (k := 18) (t := 103) dX9_figures_62 rfl rfl (by decide) (by decide) rfl fl_X9_33 ?_
        refine e_iload_n (pc' := 66) dX9_figures_65 rfl rfl rfl ?_
        refine p_iald (pc' := 67) (a := 103) (k := z) (x := nI 0) dX9_figures_66 rfl (rfl) (rfl) (by omega) (by decide) (up2_s) ?_
        refine e_imulN (pc' := 68) dX9_figures_67 rfl ?_
        show EV _ _ _ _ _ 68 _ (.int (nI 0) :: _) _
        refine e_aload_n (pc' := 69) dX9_figures_68 rfl rfl rfl ?_
        have hq4 := dig_d (by assumption : digA l (a + 1) = true)
        refine r_V (pc' := 72) (m' := mX9_here) (As := []) (st := [.int (nI 0), .int (nI z), .ref (ad 103)]) (g_hereN (d := d) ((hB.go (b := a + 1)).told (z := z) (by omega)) hl hc (by omega) hq4.1) dX9_figures_69 rfl rfl (Nat.le_of_ble_eq_true rfl) (fit_of (by omega) (by decide) (by decide) (by decide)) ml_X9_166 okX9_here rfl rfl (by decide) rfl ?_
        show EV _ _ _ _ _ 72 _ ([.int (nI (l.getD (a + 1) 0)), .int (nI 0), .int (nI z), .ref (ad 103)]) _
        refine e_iaddN (pc' := 73) dX9_figures_72 rfl ?_
        refine e_bipush (pc' := 75) (v := nI 48) dX9_figures_73 rfl (by decide) ?_
        refine e_isubN (pc' := 76) dX9_figures_75 rfl (by omega) ?_
        refine p_iast (pc' := 77) (a := 103) (k := z) dX9_figures_76 rfl (rfl) (rfl) (by omega) (by decide) ?_
        refine e_aload_n (pc' := 78) dX9_figures_77 rfl rfl rfl ?_
        refine e_dup (pc' := 79) dX9_figures_78 rfl rfl ?_
        refine p_gfi (pc' := 82) (a := 96) (k := 17) (x := nI (a + 1)) dX9_figures_79 rfl (rfl) (by decide) (by decide) rfl fl_X9_163 ((((hB.go (b := a + 1)).told (z := z) (by omega)).told (z := z) (by omega)).at) ?_
        refine e_iconst (pc' := 83) (v := nI 1) dX9_figures_82 rfl (by decide) ?_
        refine e_iaddN (pc' := 84) dX9_figures_83 rfl ?_
        refine p_pfi (pc' := 87) (a := 96) (k := 17) dX9_figures_84 rfl (rfl) (by decide) (by decide) rfl fl_X9_163 rfl rfl ?_
        refine e_iincN (pc' := 90) (k := 1) (L' := [some (.ref (ad 96)), some (.int (nI s)), some (.int (nI z)), some (.int (nI 1)), some (.int (nI 1))]) dX9_figures_87 rfl rfl rfl (by decide) rfl ?_
        refine e_goto (tgt := 34) dX9_figures_90 (by decide) ?_
        refine e_iload (pc' := 36) dX9_figures_34 rfl rfl ?_
        refine e_iload_n (pc' := 37) dX9_figures_36 rfl rfl rfl ?_
        refine e_icmp_geN (pc' := 40) (tgt := 93) dX9_figures_37 rfl (by decide) (by decide) (by decide) (fun _ => ?_) (fun h => absurd h (by decide))
        refine e_iconst (pc' := 94) (v := nI 1) dX9_figures_93 rfl (by decide) ?_
        exact e_zret (ty := .boolean) dX9_figures_94 rfl (rfl) (by
      have e : wid l 68 (a + 1) = 1 := by rw [wid68]; simp_all
      exact MP.retI (by rw [h2, e]; rfl) (by rw [if_pos h2, e, if_neg (by decide)]; exact ⟨((((hB.go (b := a + 1)).told (z := z) (by omega)).told (z := z) (by omega)).go (b := (a + 1) + 1)), fun y hy => by simp only [up2_n (show (103 : Nat) ≠ 96 by decide), up2_k hy], by simp only [up2_n (show (103 : Nat) ≠ 96 by decide), up2_s]; rw [vof1 (by decide)]; try (rw [Nat.zero_add])⟩)) (by decide) (by decide)
    · refine e_iconst (pc' := 23) (v := nI 0) dX9_figures_22 rfl (by decide) ?_
      exact e_zret (ty := .boolean) dX9_figures_23 rfl (rfl) (by
      have e : wid l 68 (a + 1) = 0 := by rw [wid68]; simp_all
      exact MP.retI (by rw [h2, e]; rfl) (by rw [if_pos h2, e, if_pos rfl]; exact (hB.go (b := a + 1)))) (by decide) (by decide)
  · refine r_V (pc' := 5) (m' := mX9_skips) (As := [.int (nI s)]) (st := []) (g_skips_f (d := d) hB hl hc (by omega) (s := s) (by omega) h2) dX9_figures_2 rfl rfl (Nat.le_of_ble_eq_true rfl) (fit_of (by omega) (by decide) (by decide) (by decide)) ml_X9_179 okX9_skips rfl rfl (by decide) rfl ?_
    show EV _ _ _ _ _ 5 _ ([.int (bI (false))]) _
    refine e_if_eqB (pc' := 8) (tgt := 22) dX9_figures_5 rfl (by decide) (fun hz6 => ?_) (fun hz6 => absurd hz6 (by decide))
    refine e_iconst (pc' := 23) (v := nI 0) dX9_figures_22 rfl (by decide) ?_
    exact e_zret (ty := .boolean) dX9_figures_23 rfl (rfl) (MP.retI (by rw [h2]; rfl) (by rw [if_neg (by rw [h2]; decide)]; exact hB)) (by decide) (by decide)
theorem g_fig2 (hB : TB l a tm M0 M) (hl : l.length ≤ 60) (hc : ∀ i, l.getD i 0 < 65536) (ha : a < 100) {z : Nat} (hz : 4 * tm ≤ z) (hz2 : z < 124) (ha2 : a < 80) (hs : s < 1000) : RETI G ad (d + 3) mX9_figures [.ref (ad 96), .int (nI s), .int (nI z), .int (nI 2)] (M, o) (some (.int (bI (hasA l a s && !decide (wid l 78 (a + 1) = 0))))) (fun M' => if hasA l a s = true then (if wid l 78 (a + 1) = 0 then TB l (a + 1) tm M0 M' else TB l (a + 1 + wid l 78 (a + 1)) tm M0 M' ∧ (∀ y, y ≠ z → M' 103 y = M 103 y) ∧ M' 103 z = nI (vof l 78 (a + 1) (wid l 78 (a + 1)))) else TB l a tm M0 M') := by
  refine CM_of rfl (by decide) rfl (Nat.le_of_ble_eq_true rfl) rfl ?_
  refine e_aload_n (pc' := 1) dX9_figures_0 rfl rfl rfl ?_
  refine e_iload_n (pc' := 2) dX9_figures_1 rfl rfl rfl ?_
  rcases Bool.eq_false_or_eq_true (hasA l (a) (s)) with h2 | h2
  · refine r_V (pc' := 5) (m' := mX9_skips) (As := [.int (nI s)]) (st := []) (g_skips_t (d := d) hB hl hc (by omega) (s := s) (by omega) h2) dX9_figures_2 rfl rfl (Nat.le_of_ble_eq_true rfl) (fit_of (by omega) (by decide) (by decide) (by decide)) ml_X9_179 okX9_skips rfl rfl (by decide) rfl ?_
    show EV _ _ _ _ _ 5 _ ([.int (bI (true))]) _
    refine e_if_eqB (pc' := 8) (tgt := 22) dX9_figures_5 rfl (by decide) (fun hz1 => absurd hz1 (by decide)) (fun hz1 => ?_)
    refine e_aload_n (pc' := 9) dX9_figures_8 rfl rfl rfl ?_
    refine r_V (pc' := 12) (m' := mX9_here) (As := []) (st := []) (g_here (d := d) (hB.go (b := a + 1)) hl hc (by omega)) dX9_figures_9 rfl rfl (Nat.le_of_ble_eq_true rfl) (fit_of (by omega) (by decide) (by decide) (by decide)) ml_X9_166 okX9_here rfl rfl (by decide) rfl ?_
    show EV _ _ _ _ _ 12 _ ([.int (hrI l (a + 1))]) _
    refine e_bipush (pc' := 14) (v := nI 48) dX9_figures_12 rfl (by decide) ?_
    refine e_bipush (pc' := 16) (v := nI 57) dX9_figures_14 rfl (by decide) ?_
    refine r_S (pc' := 19) (m' := mX9_in) (As := [.int (hrI l (a + 1)), .int (nI 48), .int (nI 57)]) (st := []) (g_inD (d := d) (a := (a + 1)) hc) dX9_figures_16 rfl rfl (Nat.le_of_ble_eq_true rfl) (fit_of (by omega) (by decide) (by decide) (by decide)) ml_X9_62 okX9_in rfl rfl ?_
    show EV _ _ _ _ _ 19 _ ([.int (bI (digA l (a + 1)))]) _
    refine e_if_neB (pc' := 22) (tgt := 24) dX9_figures_19 rfl (by decide) (fun hz2 => ?_) (fun hz2 => ?_)
    · refine e_aload_n (pc' := 25) dX9_figures_24 rfl rfl rfl ?_
      refine p_gfr (pc' := 28) (a := 96) (k := 18) (t := 103) dX9_figures_25 rfl rfl (by decide) (by decide) rfl fl_X9_33 ?_
      refine e_iload_n (pc' := 29) dX9_figures_28 rfl rfl rfl ?_
      refine e_iconst (pc' := 30) (v := nI 0) dX9_figures_29 rfl (by decide) ?_
      refine p_iast (pc' := 31) (a := 103) (k := z) dX9_figures_30 rfl (rfl) (rfl) (by omega) (by decide) ?_
      refine e_iconst (pc' := 32) (v := nI 0) dX9_figures_31 rfl (by decide) ?_
      refine e_istore (pc' := 34) (L' := [some (.ref (ad 96)), some (.int (nI s)), some (.int (nI z)), some (.int (nI 2)), some (.int (nI 0))]) dX9_figures_32 rfl (by decide) rfl ?_
      refine e_iload (pc' := 36) dX9_figures_34 rfl rfl ?_
      refine e_iload_n (pc' := 37) dX9_figures_36 rfl rfl rfl ?_
      refine e_icmp_geN (pc' := 40) (tgt := 93) dX9_figures_37 rfl (by decide) (by decide) (by decide) (fun h => absurd h (by decide)) (fun _ => ?_)
      refine e_aload_n (pc' := 41) dX9_figures_40 rfl rfl rfl ?_
      refine r_V (pc' := 44) (m' := mX9_here) (As := []) (st := []) (g_here (d := d) ((hB.go (b := a + 1)).told (z := z) (by omega)) hl hc (by omega)) dX9_figures_41 rfl rfl (Nat.le_of_ble_eq_true rfl) (fit_of (by omega) (by decide) (by decide) (by decide)) ml_X9_166 okX9_here rfl rfl (by decide) rfl ?_
      show EV _ _ _ _ _ 44 _ ([.int (hrI l (a + 1))]) _
      refine e_bipush (pc' := 46) (v := nI 48) dX9_figures_44 rfl (by decide) ?_
      refine e_bipush (pc' := 48) (v := nI 57) dX9_figures_46 rfl (by decide) ?_
      refine r_S (pc' := 51) (m' := mX9_in) (As := [.int (hrI l (a + 1)), .int (nI 48), .int (nI 57)]) (st := []) (g_inD (d := d) (a := (a + 1)) hc) dX9_figures_48 rfl rfl (Nat.le_of_ble_eq_true rfl) (fit_of (by omega) (by decide) (by decide) (by decide)) ml_X9_62 okX9_in rfl rfl ?_
      show EV _ _ _ _ _ 51 _ ([.int (bI (digA l (a + 1)))]) _
      refine e_if_eqB (pc' := 54) (tgt := 93) dX9_figures_51 rfl (by decide) (fun hz4 => ?_) (fun hz4 => ?_)
      · refine e_iconst (pc' := 94) (v := nI 1) dX9_figures_93 rfl (by decide) ?_
        exact e_zret (ty := .boolean) dX9_figures_94 rfl (rfl) (by simp_all) (by decide) (by decide)
      · refine e_aload_n (pc' := 55) dX9_figures_54 rfl rfl rfl ?_
        refine p_gfr (pc' := 58) (a := 96) (k := 18) (t := 103) dX9_figures_55 rfl rfl (by decide) (by decide) rfl fl_X9_33 ?_
        refine e_iload_n (pc' := 59) dX9_figures_58 rfl rfl rfl ?_
        refine e_bipush (pc' := 61) (v := nI 10) dX9_figures_59 rfl (by decide) ?_
        refine e_aload_n (pc' := 62) dX9_figures_61 rfl rfl rfl ?_
        refine p_gfr (pc' := 65) (a := 96) (k := 18) (t := 103) dX9_figures_62 rfl rfl (by decide) (by decide) rfl fl_X9_33 ?_
        refine e_iload_n (pc' := 66) dX9_figures_65 rfl rfl rfl ?_
        refine p_iald (pc' := 67) (a := 103) (k := z) (x := nI 0) dX9_figures_66 rfl (rfl) (rfl) (by omega) (by decide) (up2_s) ?_
        refine e_imulN (pc' := 68) dX9_figures_67 rfl ?_
        show EV _ _ _ _ _ 68 _ (.int (nI 0) :: _) _
        refine e_aload_n (pc' := 69) dX9_figures_68 rfl rfl rfl ?_
        have hq4 := dig_d (by assumption : digA l (a + 1) = true)
        refine r_V (pc' := 72) (m' := mX9_here) (As := []) (st := [.int (nI 0), .int (nI z), .ref (ad 103)]) (g_hereN (d := d) ((hB.go (b := a + 1)).told (z := z) (by omega)) hl hc (by omega) hq4.1) dX9_figures_69 rfl rfl (Nat.le_of_ble_eq_true rfl) (fit_of (by omega) (by decide) (by decide) (by decide)) ml_X9_166 okX9_here rfl rfl (by decide) rfl ?_
        show EV _ _ _ _ _ 72 _ ([.int (nI (l.getD (a + 1) 0)), .int (nI 0), .int (nI z), .ref (ad 103)]) _
        refine e_iaddN (pc' := 73) dX9_figures_72 rfl ?_
        refine e_bipush (pc' := 75) (v := nI 48) dX9_figures_73 rfl (by decide) ?_
        refine e_isubN (pc' := 76) dX9_figures_75 rfl (by omega) ?_
        refine p_iast (pc' := 77) (a := 103) (k := z) dX9_figures_76 rfl (rfl) (rfl) (by omega) (by decide) ?_
        refine e_aload_n (pc' := 78) dX9_figures_77 rfl rfl rfl ?_
        refine e_dup (pc' := 79) dX9_figures_78 rfl rfl ?_
        refine p_gfi (pc' := 82) (a := 96) (k := 17) (x := nI (a + 1)) dX9_figures_79 rfl (rfl) (by decide) (by decide) rfl fl_X9_163 ((((hB.go (b := a + 1)).told (z := z) (by omega)).told (z := z) (by omega)).at) ?_
        refine e_iconst (pc' := 83) (v := nI 1) dX9_figures_82 rfl (by decide) ?_
        refine e_iaddN (pc' := 84) dX9_figures_83 rfl ?_
        refine p_pfi (pc' := 87) (a := 96) (k := 17) dX9_figures_84 rfl (rfl) (by decide) (by decide) rfl fl_X9_163 rfl rfl ?_
        refine e_iincN (pc' := 90) (k := 1) (L' := [some (.ref (ad 96)), some (.int (nI s)), some (.int (nI z)), some (.int (nI 2)), some (.int (nI 1))]) dX9_figures_87 rfl rfl rfl (by decide) rfl ?_
        refine e_goto (tgt := 34) dX9_figures_90 (by decide) ?_
        refine e_iload (pc' := 36) dX9_figures_34 rfl rfl ?_
        refine e_iload_n (pc' := 37) dX9_figures_36 rfl rfl rfl ?_
        refine e_icmp_geN (pc' := 40) (tgt := 93) dX9_figures_37 rfl (by decide) (by decide) (by decide) (fun h => absurd h (by decide)) (fun _ => ?_)
        refine e_aload_n (pc' := 41) dX9_figures_40 rfl rfl rfl ?_
        refine r_V (pc' := 44) (m' := mX9_here) (As := []) (st := []) (g_here (d := d) ((((hB.go (b := a + 1)).told (z := z) (by omega)).told (z := z) (by omega)).go (b := (a + 1) + 1)) hl hc (by omega)) dX9_figures_41 rfl rfl (Nat.le_of_ble_eq_true rfl) (fit_of (by omega) (by decide) (by decide) (by decide)) ml_X9_166 okX9_here rfl rfl (by decide) rfl ?_
        show EV _ _ _ _ _ 44 _ ([.int (hrI l ((a + 1) + 1))]) _
        refine e_bipush (pc' := 46) (v := nI 48) dX9_figures_44 rfl (by decide) ?_
        refine e_bipush (pc' := 48) (v := nI 57) dX9_figures_46 rfl (by decide) ?_
        refine r_S (pc' := 51) (m' := mX9_in) (As := [.int (hrI l ((a + 1) + 1)), .int (nI 48), .int (nI 57)]) (st := []) (g_inD (d := d) (a := ((a + 1) + 1)) hc) dX9_figures_48 rfl rfl (Nat.le_of_ble_eq_true rfl) (fit_of (by omega) (by decide) (by decide) (by decide)) ml_X9_62 okX9_in rfl rfl ?_
        show EV _ _ _ _ _ 51 _ ([.int (bI (digA l ((a + 1) + 1)))]) _
        refine e_if_eqB (pc' := 54) (tgt := 93) dX9_figures_51 rfl (by decide) (fun hz6 => ?_) (fun hz6 => ?_)
        · refine e_iconst (pc' := 94) (v := nI 1) dX9_figures_93 rfl (by decide) ?_
          exact e_zret (ty := .boolean) dX9_figures_94 rfl (rfl) (by
      have e : wid l 78 (a + 1) = 1 := by rw [wid78]; simp_all
      exact MP.retI (by rw [h2, e]; rfl) (by rw [if_pos h2, e, if_neg (by decide)]; exact ⟨((((hB.go (b := a + 1)).told (z := z) (by omega)).told (z := z) (by omega)).go (b := (a + 1) + 1)), fun y hy => by simp only [up2_n (show (103 : Nat) ≠ 96 by decide), up2_k hy], by simp only [up2_n (show (103 : Nat) ≠ 96 by decide), up2_s]; rw [vof1 (by decide)]; try (rw [Nat.zero_add])⟩)) (by decide) (by decide)
        · refine e_aload_n (pc' := 55) dX9_figures_54 rfl rfl rfl ?_
          refine p_gfr (pc' := 58) (a := 96) (k := 18) (t := 103) dX9_figures_55 rfl rfl (by decide) (by decide) rfl fl_X9_33 ?_
          refine e_iload_n (pc' := 59) dX9_figures_58 rfl rfl rfl ?_
          refine e_bipush (pc' := 61) (v := nI 10) dX9_figures_59 rfl (by decide) ?_
          refine e_aload_n (pc' := 62) dX9_figures_61 rfl rfl rfl ?_
          refine p_gfr (pc' := 65) (a := 96) (k := 18) (t := 103) dX9_figures_62 rfl rfl (by decide) (by decide) rfl fl_X9_33 ?_
          refine e_iload_n (pc' := 66) dX9_figures_65 rfl rfl rfl ?_
          refine p_iald (pc' := 67) (a := 103) (k := z) (x := nI ((0 + (l.getD (a + 1) 0)) - 48)) dX9_figures_66 rfl (rfl) (rfl) (by omega) (by decide) (by rw [up2_n (by decide)]; exact up2_s) ?_
          refine e_imulN (pc' := 68) dX9_figures_67 rfl ?_
          refine e_aload_n (pc' := 69) dX9_figures_68 rfl rfl rfl ?_
          have hq6 := dig_d (by assumption : digA l ((a + 1) + 1) = true)
          refine r_V (pc' := 72) (m' := mX9_here) (As := []) (st := [.int (nI (10 * ((0 + (l.getD (a + 1) 0)) - 48))), .int (nI z), .ref (ad 103)]) (g_hereN (d := d) ((((hB.go (b := a + 1)).told (z := z) (by omega)).told (z := z) (by omega)).go (b := (a + 1) + 1)) hl hc (by omega) hq6.1) dX9_figures_69 rfl rfl (Nat.le_of_ble_eq_true rfl) (fit_of (by omega) (by decide) (by decide) (by decide)) ml_X9_166 okX9_here rfl rfl (by decide) rfl ?_
          show EV _ _ _ _ _ 72 _ ([.int (nI (l.getD ((a + 1) + 1) 0)), .int (nI (10 * ((0 + (l.getD (a + 1) 0)) - 48))), .int (nI z), .ref (ad 103)]) _
          refine e_iaddN (pc' := 73) dX9_figures_72 rfl ?_
          refine e_bipush (pc' := 75) (v := nI 48) dX9_figures_73 rfl (by decide) ?_
          refine e_isubN (pc' := 76) dX9_figures_75 rfl (by omega) ?_
          refine p_iast (pc' := 77) (a := 103) (k := z) dX9_figures_76 rfl (rfl) (rfl) (by omega) (by decide) ?_
          refine e_aload_n (pc' := 78) dX9_figures_77 rfl rfl rfl ?_
          refine e_dup (pc' := 79) dX9_figures_78 rfl rfl ?_
          refine p_gfi (pc' := 82) (a := 96) (k := 17) (x := nI ((a + 1) + 1)) dX9_figures_79 rfl (rfl) (by decide) (by decide) rfl fl_X9_163 ((((((hB.go (b := a + 1)).told (z := z) (by omega)).told (z := z) (by omega)).go (b := (a + 1) + 1)).told (z := z) (by omega)).at) ?_
          refine e_iconst (pc' := 83) (v := nI 1) dX9_figures_82 rfl (by decide) ?_
          refine e_iaddN (pc' := 84) dX9_figures_83 rfl ?_
          refine p_pfi (pc' := 87) (a := 96) (k := 17) dX9_figures_84 rfl (rfl) (by decide) (by decide) rfl fl_X9_163 rfl rfl ?_
          refine e_iincN (pc' := 90) (k := 1) (L' := [some (.ref (ad 96)), some (.int (nI s)), some (.int (nI z)), some (.int (nI 2)), some (.int (nI 2))]) dX9_figures_87 rfl rfl rfl (by decide) rfl ?_
          refine e_goto (tgt := 34) dX9_figures_90 (by decide) ?_
          refine e_iload (pc' := 36) dX9_figures_34 rfl rfl ?_
          refine e_iload_n (pc' := 37) dX9_figures_36 rfl rfl rfl ?_
          refine e_icmp_geN (pc' := 40) (tgt := 93) dX9_figures_37 rfl (by decide) (by decide) (by decide) (fun _ => ?_) (fun h => absurd h (by decide))
          refine e_iconst (pc' := 94) (v := nI 1) dX9_figures_93 rfl (by decide) ?_
          exact e_zret (ty := .boolean) dX9_figures_94 rfl (rfl) (by
      have e : wid l 78 (a + 1) = 2 := by rw [wid78]; simp_all
      exact MP.retI (by rw [h2, e]; rfl) (by rw [if_pos h2, e, if_neg (by decide)]; exact ⟨((((((hB.go (b := a + 1)).told (z := z) (by omega)).told (z := z) (by omega)).go (b := (a + 1) + 1)).told (z := z) (by omega)).go (b := ((a + 1) + 1) + 1)), fun y hy => by simp only [up2_n (show (103 : Nat) ≠ 96 by decide), up2_k hy], by simp only [up2_n (show (103 : Nat) ≠ 96 by decide), up2_s]; rw [vof2 (by decide)]; try (rw [Nat.zero_add])⟩)) (by decide) (by decide)
    · refine e_iconst (pc' := 23) (v := nI 0) dX9_figures_22 rfl (by decide) ?_
      exact e_zret (ty := .boolean) dX9_figures_23 rfl (rfl) (by
      have e : wid l 78 (a + 1) = 0 := by rw [wid78]; simp_all
      exact MP.retI (by rw [h2, e]; rfl) (by rw [if_pos h2, e, if_pos rfl]; exact (hB.go (b := a + 1)))) (by decide) (by decide)
  · refine r_V (pc' := 5) (m' := mX9_skips) (As := [.int (nI s)]) (st := []) (g_skips_f (d := d) hB hl hc (by omega) (s := s) (by omega) h2) dX9_figures_2 rfl rfl (Nat.le_of_ble_eq_true rfl) (fit_of (by omega) (by decide) (by decide) (by decide)) ml_X9_179 okX9_skips rfl rfl (by decide) rfl ?_
    show EV _ _ _ _ _ 5 _ ([.int (bI (false))]) _
    refine e_if_eqB (pc' := 8) (tgt := 22) dX9_figures_5 rfl (by decide) (fun hz8 => ?_) (fun hz8 => absurd hz8 (by decide))
    refine e_iconst (pc' := 23) (v := nI 0) dX9_figures_22 rfl (by decide) ?_
    exact e_zret (ty := .boolean) dX9_figures_23 rfl (rfl) (MP.retI (by rw [h2]; rfl) (by rw [if_neg (by rw [h2]; decide)]; exact hB)) (by decide) (by decide)
theorem wid80 {x : Nat} : wid l 80 x = if hasA l x 110 = true ∨ hasA l x 115 = true then 1 else 0 := rfl
theorem vof80 {x w : Nat} : vof l 80 x w = if hasA l x 110 = true then 1 else 0 := rfl
theorem g_pole2 (hB : TB l a tm M0 M) (hl : l.length ≤ 60) (hc : ∀ i, l.getD i 0 < 65536) (ha : a < 100) {z : Nat} (hz : 4 * tm ≤ z) (hz2 : z < 124) (ha2 : a < 80) : RETI G ad (d + 3) mX9_poleHere [.ref (ad 96), .int (nI z)] (M, o) (some (.int (bI (!decide (wid l 80 a = 0))))) (fun M' => (if wid l 80 a = 0 then TB l a tm M0 M' else TB l (a + 1) tm M0 M') ∧ (∀ y, y ≠ z → M' 103 y = M 103 y) ∧ M' 103 z = nI (vof l 80 a (wid l 80 a))) := by
  refine CM_of rfl (by decide) rfl (Nat.le_of_ble_eq_true rfl) rfl ?_
  refine e_aload_n (pc' := 1) dX9_poleHere_0 rfl rfl rfl ?_
  refine p_gfr (pc' := 4) (a := 96) (k := 18) (t := 103) dX9_poleHere_1 rfl rfl (by decide) (by decide) rfl fl_X9_33 ?_
  refine e_iload_n (pc' := 5) dX9_poleHere_4 rfl rfl rfl ?_
  refine e_aload_n (pc' := 6) dX9_poleHere_5 rfl rfl rfl ?_
  refine r_V (pc' := 9) (m' := mX9_here) (As := []) (st := [.int (nI z), .ref (ad 103)]) (g_here (d := d) hB hl hc (by omega)) dX9_poleHere_6 rfl rfl (Nat.le_of_ble_eq_true rfl) (fit_of (by omega) (by decide) (by decide) (by decide)) ml_X9_166 okX9_here rfl rfl (by decide) rfl ?_
  show EV _ _ _ _ _ 9 _ ([.int (hrI l (a)), .int (nI z), .ref (ad 103)]) _
  refine e_bipush (pc' := 11) (v := nI 110) dX9_poleHere_9 rfl (by decide) ?_
  refine e_icmp_ne (pc' := 14) (tgt := 18) dX9_poleHere_11 rfl (by decide) (fun hp => ?_) (fun hp => ?_)
  · have hp2 : ¬ hasA l a 110 = true := fun q => hp ((hr_has hc (by omega)).mpr q)
    refine e_iconst (pc' := 19) (v := nI 0) dX9_poleHere_18 rfl (by decide) ?_
    refine p_iast (pc' := 20) (a := 103) (k := z) dX9_poleHere_19 rfl (rfl) (rfl) (by omega) (by decide) ?_
    refine e_aload_n (pc' := 21) dX9_poleHere_20 rfl rfl rfl ?_
    refine e_bipush (pc' := 23) (v := nI 110) dX9_poleHere_21 rfl (by decide) ?_
    rcases Bool.eq_false_or_eq_true (hasA l (a) (110)) with h23 | h23
    · refine r_V (pc' := 26) (m' := mX9_skips) (As := [.int (nI 110)]) (st := []) (g_skips_t (d := d) (hB.told (z := z) (by omega)) hl hc (by omega) (s := 110) (by omega) h23) dX9_poleHere_23 rfl rfl (Nat.le_of_ble_eq_true rfl) (fit_of (by omega) (by decide) (by decide) (by decide)) ml_X9_179 okX9_skips rfl rfl (by decide) rfl ?_
      show EV _ _ _ _ _ 26 _ ([.int (bI (true))]) _
      refine e_if_neB (pc' := 29) (tgt := 38) dX9_poleHere_26 rfl (by decide) (fun hz2 => ?_) (fun hz2 => absurd hz2 (by decide))
      refine e_iconst (pc' := 39) (v := nI 1) dX9_poleHere_38 rfl (by decide) ?_
      refine e_goto (tgt := 43) dX9_poleHere_39 (by decide) ?_
      exact e_zret (ty := .boolean) dX9_poleHere_43 rfl (rfl) (by
      have e : wid l 80 a = 1 := by rw [wid80]; simp_all
      exact MP.retI (by rw [e]; rfl) (by rw [e]; exact ⟨((hB.told (z := z) (by omega)).go (b := a + 1)), fun y hy => by simp only [up2_n (show (103 : Nat) ≠ 96 by decide), up2_k hy], by simp only [up2_n (show (103 : Nat) ≠ 96 by decide), up2_s]; rw [vof80]; simp_all⟩)) (by decide) (by decide)
    · refine r_V (pc' := 26) (m' := mX9_skips) (As := [.int (nI 110)]) (st := []) (g_skips_f (d := d) (hB.told (z := z) (by omega)) hl hc (by omega) (s := 110) (by omega) h23) dX9_poleHere_23 rfl rfl (Nat.le_of_ble_eq_true rfl) (fit_of (by omega) (by decide) (by decide) (by decide)) ml_X9_179 okX9_skips rfl rfl (by decide) rfl ?_
      show EV _ _ _ _ _ 26 _ ([.int (bI (false))]) _
      refine e_if_neB (pc' := 29) (tgt := 38) dX9_poleHere_26 rfl (by decide) (fun hz3 => absurd hz3 (by decide)) (fun hz3 => ?_)
      refine e_aload_n (pc' := 30) dX9_poleHere_29 rfl rfl rfl ?_
      refine e_bipush (pc' := 32) (v := nI 115) dX9_poleHere_30 rfl (by decide) ?_
      rcases Bool.eq_false_or_eq_true (hasA l (a) (115)) with h32 | h32
      · refine r_V (pc' := 35) (m' := mX9_skips) (As := [.int (nI 115)]) (st := []) (g_skips_t (d := d) (hB.told (z := z) (by omega)) hl hc (by omega) (s := 115) (by omega) h32) dX9_poleHere_32 rfl rfl (Nat.le_of_ble_eq_true rfl) (fit_of (by omega) (by decide) (by decide) (by decide)) ml_X9_179 okX9_skips rfl rfl (by decide) rfl ?_
        show EV _ _ _ _ _ 35 _ ([.int (bI (true))]) _
        refine e_if_eqB (pc' := 38) (tgt := 42) dX9_poleHere_35 rfl (by decide) (fun hz4 => absurd hz4 (by decide)) (fun hz4 => ?_)
        refine e_iconst (pc' := 39) (v := nI 1) dX9_poleHere_38 rfl (by decide) ?_
        refine e_goto (tgt := 43) dX9_poleHere_39 (by decide) ?_
        exact e_zret (ty := .boolean) dX9_poleHere_43 rfl (rfl) (by
      have e : wid l 80 a = 1 := by rw [wid80]; simp_all
      exact MP.retI (by rw [e]; rfl) (by rw [e]; exact ⟨((hB.told (z := z) (by omega)).go (b := a + 1)), fun y hy => by simp only [up2_n (show (103 : Nat) ≠ 96 by decide), up2_k hy], by simp only [up2_n (show (103 : Nat) ≠ 96 by decide), up2_s]; rw [vof80]; simp_all⟩)) (by decide) (by decide)
      · refine r_V (pc' := 35) (m' := mX9_skips) (As := [.int (nI 115)]) (st := []) (g_skips_f (d := d) (hB.told (z := z) (by omega)) hl hc (by omega) (s := 115) (by omega) h32) dX9_poleHere_32 rfl rfl (Nat.le_of_ble_eq_true rfl) (fit_of (by omega) (by decide) (by decide) (by decide)) ml_X9_179 okX9_skips rfl rfl (by decide) rfl ?_
        show EV _ _ _ _ _ 35 _ ([.int (bI (false))]) _
        refine e_if_eqB (pc' := 38) (tgt := 42) dX9_poleHere_35 rfl (by decide) (fun hz5 => ?_) (fun hz5 => absurd hz5 (by decide))
        refine e_iconst (pc' := 43) (v := nI 0) dX9_poleHere_42 rfl (by decide) ?_
        exact e_zret (ty := .boolean) dX9_poleHere_43 rfl (rfl) (by
      have e : wid l 80 a = 0 := by rw [wid80]; simp_all
      exact MP.retI (by rw [e]; rfl) (by rw [e]; exact ⟨(hB.told (z := z) (by omega)), fun y hy => by simp only [up2_n (show (103 : Nat) ≠ 96 by decide), up2_k hy], by simp only [up2_n (show (103 : Nat) ≠ 96 by decide), up2_s]; rw [vof80]; simp_all⟩)) (by decide) (by decide)
  · have hp2 : hasA l a 110 = true := (hr_has hc (by omega)).mp hp
    refine e_iconst (pc' := 15) (v := nI 1) dX9_poleHere_14 rfl (by decide) ?_
    refine e_goto (tgt := 19) dX9_poleHere_15 (by decide) ?_
    refine p_iast (pc' := 20) (a := 103) (k := z) dX9_poleHere_19 rfl (rfl) (rfl) (by omega) (by decide) ?_
    refine e_aload_n (pc' := 21) dX9_poleHere_20 rfl rfl rfl ?_
    refine e_bipush (pc' := 23) (v := nI 110) dX9_poleHere_21 rfl (by decide) ?_
    rcases Bool.eq_false_or_eq_true (hasA l (a) (110)) with h23 | h23
    · refine r_V (pc' := 26) (m' := mX9_skips) (As := [.int (nI 110)]) (st := []) (g_skips_t (d := d) (hB.told (z := z) (by omega)) hl hc (by omega) (s := 110) (by omega) h23) dX9_poleHere_23 rfl rfl (Nat.le_of_ble_eq_true rfl) (fit_of (by omega) (by decide) (by decide) (by decide)) ml_X9_179 okX9_skips rfl rfl (by decide) rfl ?_
      show EV _ _ _ _ _ 26 _ ([.int (bI (true))]) _
      refine e_if_neB (pc' := 29) (tgt := 38) dX9_poleHere_26 rfl (by decide) (fun hz6 => ?_) (fun hz6 => absurd hz6 (by decide))
      refine e_iconst (pc' := 39) (v := nI 1) dX9_poleHere_38 rfl (by decide) ?_
      refine e_goto (tgt := 43) dX9_poleHere_39 (by decide) ?_
      exact e_zret (ty := .boolean) dX9_poleHere_43 rfl (rfl) (by
      have e : wid l 80 a = 1 := by rw [wid80]; simp_all
      exact MP.retI (by rw [e]; rfl) (by rw [e]; exact ⟨((hB.told (z := z) (by omega)).go (b := a + 1)), fun y hy => by simp only [up2_n (show (103 : Nat) ≠ 96 by decide), up2_k hy], by simp only [up2_n (show (103 : Nat) ≠ 96 by decide), up2_s]; rw [vof80]; simp_all⟩)) (by decide) (by decide)
    · refine r_V (pc' := 26) (m' := mX9_skips) (As := [.int (nI 110)]) (st := []) (g_skips_f (d := d) (hB.told (z := z) (by omega)) hl hc (by omega) (s := 110) (by omega) h23) dX9_poleHere_23 rfl rfl (Nat.le_of_ble_eq_true rfl) (fit_of (by omega) (by decide) (by decide) (by decide)) ml_X9_179 okX9_skips rfl rfl (by decide) rfl ?_
      show EV _ _ _ _ _ 26 _ ([.int (bI (false))]) _
      refine e_if_neB (pc' := 29) (tgt := 38) dX9_poleHere_26 rfl (by decide) (fun hz7 => absurd hz7 (by decide)) (fun hz7 => ?_)
      refine e_aload_n (pc' := 30) dX9_poleHere_29 rfl rfl rfl ?_
      refine e_bipush (pc' := 32) (v := nI 115) dX9_poleHere_30 rfl (by decide) ?_
      rcases Bool.eq_false_or_eq_true (hasA l (a) (115)) with h32 | h32
      · refine r_V (pc' := 35) (m' := mX9_skips) (As := [.int (nI 115)]) (st := []) (g_skips_t (d := d) (hB.told (z := z) (by omega)) hl hc (by omega) (s := 115) (by omega) h32) dX9_poleHere_32 rfl rfl (Nat.le_of_ble_eq_true rfl) (fit_of (by omega) (by decide) (by decide) (by decide)) ml_X9_179 okX9_skips rfl rfl (by decide) rfl ?_
        show EV _ _ _ _ _ 35 _ ([.int (bI (true))]) _
        refine e_if_eqB (pc' := 38) (tgt := 42) dX9_poleHere_35 rfl (by decide) (fun hz8 => absurd hz8 (by decide)) (fun hz8 => ?_)
        refine e_iconst (pc' := 39) (v := nI 1) dX9_poleHere_38 rfl (by decide) ?_
        refine e_goto (tgt := 43) dX9_poleHere_39 (by decide) ?_
        exact e_zret (ty := .boolean) dX9_poleHere_43 rfl (rfl) (by
      have e : wid l 80 a = 1 := by rw [wid80]; simp_all
      exact MP.retI (by rw [e]; rfl) (by rw [e]; exact ⟨((hB.told (z := z) (by omega)).go (b := a + 1)), fun y hy => by simp only [up2_n (show (103 : Nat) ≠ 96 by decide), up2_k hy], by simp only [up2_n (show (103 : Nat) ≠ 96 by decide), up2_s]; rw [vof80]; simp_all⟩)) (by decide) (by decide)
      · refine r_V (pc' := 35) (m' := mX9_skips) (As := [.int (nI 115)]) (st := []) (g_skips_f (d := d) (hB.told (z := z) (by omega)) hl hc (by omega) (s := 115) (by omega) h32) dX9_poleHere_32 rfl rfl (Nat.le_of_ble_eq_true rfl) (fit_of (by omega) (by decide) (by decide) (by decide)) ml_X9_179 okX9_skips rfl rfl (by decide) rfl ?_
        show EV _ _ _ _ _ 35 _ ([.int (bI (false))]) _
        refine e_if_eqB (pc' := 38) (tgt := 42) dX9_poleHere_35 rfl (by decide) (fun hz9 => ?_) (fun hz9 => absurd hz9 (by decide))
        refine e_iconst (pc' := 43) (v := nI 0) dX9_poleHere_42 rfl (by decide) ?_
        exact e_zret (ty := .boolean) dX9_poleHere_43 rfl (rfl) (by
      have e : wid l 80 a = 0 := by rw [wid80]; simp_all
      exact MP.retI (by rw [e]; rfl) (by rw [e]; exact ⟨(hB.told (z := z) (by omega)), fun y hy => by simp only [up2_n (show (103 : Nat) ≠ 96 by decide), up2_k hy], by simp only [up2_n (show (103 : Nat) ≠ 96 by decide), up2_s]; rw [vof80]; simp_all⟩)) (by decide) (by decide)
end T50

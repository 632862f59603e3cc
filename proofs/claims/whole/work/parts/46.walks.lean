set_option maxHeartbeats 400000
/-! THE REFERENCE: parts, bridges, walks -/
/-- a set by its members -/
def msk (P : Nat → Bool) : Nat → Nat
  | 0 => 0
  | n + 1 => msk P n ||| (if P n = true then 2 ^ n else 0)
theorem msk_tb {P : Nat → Bool} : ∀ {n i : Nat}, (msk P n).testBit i = (decide (i < n) && P i)
  | 0, i => by simp [msk]
  | n + 1, i => by
    unfold msk
    rw [Nat.testBit_or, msk_tb]
    by_cases h : P n = true
    · rw [if_pos h, Nat.testBit_two_pow]
      by_cases e : n = i
      · subst e; simp [h]
      · have e2 : i < n + 1 ↔ i < n := by omega
        simp [e, e2]
    · rw [if_neg h, Nat.zero_testBit]
      by_cases e : i = n
      · subst e; simp [h]
      · have e2 : i < n + 1 ↔ i < n := by omega
        simp [e2]
theorem msk_lt {P : Nat → Bool} {n : Nat} : msk P n < 2 ^ n := Nat.lt_pow_two_of_testBit _ (fun i hi => by rw [msk_tb, decide_eq_false (by omega)]; rfl)
/-- the two magnets of a tunnel -/
def pr (c : Col) (j : Nat) : Nat := 2 ^ cf c j ||| 2 ^ cg c j
theorem pr_tb {c : Col} {j z : Nat} : (pr c j).testBit z = true ↔ z = cf c j ∨ z = cg c j := by
  unfold pr
  rw [Nat.testBit_or, Nat.testBit_two_pow, Nat.testBit_two_pow, Bool.or_eq_true, decide_eq_true_eq, decide_eq_true_eq]
  exact ⟨fun h => h.elim (fun e => Or.inl e.symm) (fun e => Or.inr e.symm), fun h => h.elim (fun e => Or.inl e.symm) (fun e => Or.inr e.symm)⟩
def pwS (c : Col) (U : Nat → Bool) (w : Nat) : Nat → Nat
  | 0 => w
  | j + 1 => if U j = true ∧ ¬ w &&& pr c j = 0 then pwS c U w j ||| pr c j else pwS c U w j
theorem and_pr {c : Col} {w j : Nat} : ¬ w &&& pr c j = 0 ↔ w.testBit (cf c j) = true ∨ w.testBit (cg c j) = true := by
  constructor
  · intro h
    obtain ⟨i, hi⟩ := Nat.exists_testBit_of_ne_zero h
    rw [Nat.testBit_and, Bool.and_eq_true, pr_tb] at hi
    rcases hi.2 with e | e
    · rw [← e]; exact Or.inl hi.1
    · rw [← e]; exact Or.inr hi.1
  · intro h e
    rcases h with h | h
    · have : (w &&& pr c j).testBit (cf c j) = true := by rw [Nat.testBit_and, h, pr_tb.mpr (Or.inl rfl)]; rfl
      rw [e, Nat.zero_testBit] at this; cases this
    · have : (w &&& pr c j).testBit (cg c j) = true := by rw [Nat.testBit_and, h, pr_tb.mpr (Or.inr rfl)]; rfl
      rw [e, Nat.zero_testBit] at this; cases this
theorem pwS_tb {c : Col} {U : Nat → Bool} {w z : Nat} : ∀ {k : Nat}, (pwS c U w k).testBit z = true ↔ (w.testBit z = true ∨ ∃ j, j < k ∧ U j = true ∧ (w.testBit (cf c j) = true ∨ w.testBit (cg c j) = true) ∧ (z = cf c j ∨ z = cg c j))
  | 0 => ⟨fun h => Or.inl h, fun h => by
      rcases h with h | ⟨j, hj, _⟩
      · exact h
      · exact absurd hj (Nat.not_lt_zero j)⟩
  | k + 1 => by
    have ih := pwS_tb (c := c) (U := U) (w := w) (z := z) (k := k)
    unfold pwS
    by_cases h : U k = true ∧ ¬ w &&& pr c k = 0
    · rw [if_pos h, Nat.testBit_or, Bool.or_eq_true, ih, pr_tb]
      constructor
      · rintro ((h1 | ⟨j, hj, h2⟩) | h3)
        · exact Or.inl h1
        · exact Or.inr ⟨j, by omega, h2⟩
        · exact Or.inr ⟨k, by omega, h.1, and_pr.mp h.2, h3⟩
      · rintro (h1 | ⟨j, hj, h2, h3, h4⟩)
        · exact Or.inl (Or.inl h1)
        · by_cases e : j = k
          · subst e; exact Or.inr h4
          · exact Or.inl (Or.inr ⟨j, by omega, h2, h3, h4⟩)
    · rw [if_neg h, ih]
      constructor
      · rintro (h1 | ⟨j, hj, h2⟩)
        · exact Or.inl h1
        · exact Or.inr ⟨j, by omega, h2⟩
      · rintro (h1 | ⟨j, hj, h2, h3, h4⟩)
        · exact Or.inl h1
        · by_cases e : j = k
          · subst e; exact absurd ⟨h2, and_pr.mpr h3⟩ h
          · exact Or.inr ⟨j, by omega, h2, h3, h4⟩
theorem pwS_lt {c : Col} {U : Nat → Bool} {w k n : Nat} (hw : WF c) (h : w < 2 ^ n) (hn : cn c ≤ n) (hk : k ≤ ck c) : pwS c U w k < 2 ^ n := Nat.lt_pow_two_of_testBit _ (fun i hi => by
  cases q : (pwS c U w k).testBit i with
  | false => rfl
  | true =>
    rcases pwS_tb.mp q with h1 | ⟨j, hj, _, _, h4⟩
    · rw [Nat.testBit_lt_two_pow (Nat.lt_of_lt_of_le h (Nat.pow_le_pow_right (by decide) hi))] at h1; cases h1
    · have h5 := hw.f (j := j) (by omega)
      have h6 := hw.g (j := j) (by omega)
      rcases h4 with h4 | h4 <;> omega)
theorem sub_le_tb {w s : Nat} (h : ∀ z, w.testBit z = true → s.testBit z = true) : w ≤ s := by
  have e : w ||| s = s := Nat.eq_of_testBit_eq (fun i => by
    rw [Nat.testBit_or]
    have := h i
    cases q : w.testBit i <;> cases q2 : s.testBit i <;> simp_all)
  rw [← e]; exact Nat.left_le_or
theorem p2n9 {k : Nat} (h : k < 9) : 2 ^ k < 512 := p2_lt (n := 9) h
def US (t : Int32) : Nat → Bool := fun j => !decide (nI j = t)
/-- the set of a magnet's part -/
def prt (c : Col) (U : Nat → Bool) (m : Nat) : Nat := msk (fun z => decide (labs c U (ck c) z = labs c U (ck c) m)) (cn c)
def JP (c : Col) (U : Nat → Bool) (m s w : Nat) : Prop := s.testBit m = true ∧ (∀ z, s.testBit z = true → z < cn c ∧ Con c U (ck c) m z) ∧ (∀ z, w.testBit z = true → s.testBit z = true) ∧ (∀ j, j < ck c → U j = true → (w.testBit (cf c j) = true ∨ w.testBit (cg c j) = true) → s.testBit (cf c j) = true ∧ s.testBit (cg c j) = true) ∧ s < 512 ∧ w < 512
theorem JP.next {c : Col} {U : Nat → Bool} {m s w : Nat} (hw : WF c) (h : JP c U m s w) : JP c U m (pwS c U s (ck c)) s := by
  obtain ⟨h1, h2, h3, h4, h5, h6⟩ := h
  refine ⟨pwS_tb.mpr (Or.inl h1), fun z hz => ?_, fun z hz => pwS_tb.mpr (Or.inl hz), fun j hj hu ht => ⟨pwS_tb.mpr (Or.inr ⟨j, hj, hu, ht, Or.inl rfl⟩), pwS_tb.mpr (Or.inr ⟨j, hj, hu, ht, Or.inr rfl⟩)⟩, pwS_lt (n := 9) hw h5 hw.n (Nat.le_refl _), h5⟩
  rcases pwS_tb.mp hz with q | ⟨j, hj, hu, ht, hz2⟩
  · exact h2 z q
  · have e := Con.edge (c := c) (use := U) (k := ck c) hj hu
    have hc : Con c U (ck c) m (cf c j) ∧ Con c U (ck c) m (cg c j) := by
      rcases ht with ht | ht
      · exact ⟨(h2 _ ht).2, (h2 _ ht).2.trans e⟩
      · exact ⟨(h2 _ ht).2.trans e.symm, (h2 _ ht).2⟩
    rcases hz2 with rfl | rfl
    · exact ⟨hw.f hj, hc.1⟩
    · exact ⟨hw.g hj, hc.2⟩
theorem JP.lt {c : Col} {U : Nat → Bool} {m s w : Nat} (h : JP c U m s w) (hne : ¬ s = w) : w < s := by
  have := sub_le_tb h.2.2.1
  omega
theorem JP.first {c : Col} {U : Nat → Bool} {m : Nat} (hw : WF c) (hm : m < cn c) : JP c U m (2 ^ m) 0 := by
  have hn := hw.n
  refine ⟨Nat.testBit_two_pow_self, fun z hz => ?_, fun z hz => (by rw [Nat.zero_testBit] at hz; cases hz), fun j _ _ h => (by rw [Nat.zero_testBit, Nat.zero_testBit] at h; simp at h), p2n9 (by omega), by decide⟩
  rw [Nat.testBit_two_pow, decide_eq_true_eq] at hz
  subst hz
  exact ⟨hm, Con.refl⟩
theorem JP.last {c : Col} {U : Nat → Bool} {m s : Nat} (h : JP c U m s s) : s = prt c U m := by
  obtain ⟨h1, h2, h3, h4, h5, h6⟩ := h
  refine Nat.eq_of_testBit_eq (fun i => ?_)
  unfold prt
  rw [msk_tb]
  have e : s.testBit i = true ↔ (decide (i < cn c) && decide (labs c U (ck c) i = labs c U (ck c) m)) = true := by
    rw [Bool.and_eq_true, decide_eq_true_eq, decide_eq_true_eq, labs_con]
    constructor
    · intro h; exact ⟨(h2 i h).1, (h2 i h).2.symm⟩
    · rintro ⟨_, hc⟩
      exact hc.symm (fun z => s.testBit z = true) (fun j hj hu => ⟨fun q => (h4 j hj hu (Or.inl q)).2, fun q => (h4 j hj hu (Or.inr q)).1⟩) h1
  cases q1 : s.testBit i <;> cases q2 : (decide (i < cn c) && decide (labs c U (ck c) i = labs c U (ck c) m)) <;> simp_all
theorem prt_tb {c : Col} {U : Nat → Bool} {m z : Nat} : (prt c U m).testBit z = true ↔ z < cn c ∧ Con c U (ck c) z m := by
  unfold prt
  rw [msk_tb, Bool.and_eq_true, decide_eq_true_eq, decide_eq_true_eq, labs_con]
theorem prt_lt {c : Col} {U : Nat → Bool} {m : Nat} (hw : WF c) : prt c U m < 512 := Nat.lt_of_lt_of_le msk_lt (Nat.pow_le_pow_right (by decide) hw.n)
def minP (c : Col) (U : Nat → Bool) (m : Nat) : Bool := decide (prt c U m &&& (1 * 2 ^ m - 1) = 0)
theorem minP_N {c : Col} {U : Nat → Bool} : cnt (minP c U) (cn c) = prtN c U := by
  refine prtN_min (fun m hm => ?_)
  unfold minP
  rw [decide_eq_true_eq, Nat.one_mul]
  have tb : ∀ z, (prt c U m &&& (2 ^ m - 1)).testBit z = true ↔ z < m ∧ Con c U (ck c) z m := fun z => by
    rw [Nat.testBit_and, Bool.and_eq_true, prt_tb, Nat.testBit_two_pow_sub_one, decide_eq_true_eq]
    exact ⟨fun h => ⟨h.2, h.1.2⟩, fun h => ⟨⟨by omega, h.2⟩, h.1⟩⟩
  constructor
  · intro h z hz hc
    have := (tb z).mpr ⟨hz, hc⟩
    rw [h, Nat.zero_testBit] at this; cases this
  · intro h
    refine Nat.eq_of_testBit_eq (fun i => ?_)
    rw [Nat.zero_testBit]
    cases q : (prt c U m &&& (2 ^ m - 1)).testBit i with
    | false => rfl
    | true => exact absurd ((tb i).mp q).2 (h i ((tb i).mp q).1)
/-- how many bridges there are -/
def brgN (c : Col) : Nat := cnt (fun j => decide (prtN c (US (-1)) < prtN c (US (nI j)))) (ck c)
theorem cbf_brg {c : Col} (hw : WF c) : cnt (cbfP c) (ck c) = brgN c := cnt_cong (fun j _ => by
  have h1 := prtN_le (c := c) (use := US (-1))
  have h2 := prtN_le (c := c) (use := US (nI j))
  have hn := hw.n
  unfold cbfP
  rw [ptsI_eq hw, ptsI_eq hw]
  exact decide_eq_decide.mpr (nI_ltI (by show prtN c (US (-1)) < _; omega) (by show prtN c (US (nI j)) < _; omega)))
section T46
variable {G : gC} {ad : Nat → Nat} {d : Nat} {M : Nat → Nat → Int32} {o : (Nat → Int64) × (Nat → UInt64)} {c : Col}
theorem gl_pin (r : RowAt M 97 0 c) (hw : WF c) {w : Nat} (hw2 : w < 512) {m : Nat} (t : Int32) {P : PM} (hfin : ER G ad (d + 2) mX9_part (0, 0) (P) (0, 0) 7 [some (.ref (ad 96)), some (.int (nI m)), some (.int (t)), some (.int (nI (pwS c (US t) w (ck c)))), some (.int (nI w)), none, none] [] (M, o)) : ∀ i, i ≤ ck c → ER G ad (d + 2) mX9_part (0, 0) (P) (0, 0) 19 [some (.ref (ad 96)), some (.int (nI m)), some (.int (t)), some (.int (nI (pwS c (US t) w i))), some (.int (nI w)), some (.int (nI i)), none] [] (M, o) := down (ck c) _ (fun i hi ih  => by
  have hn := hw.n
  have hk := hw.k
  have hw9 := hw.w9
  refine e_iload (pc' := 21) dX9_part_19 rfl rfl ?_
  refine e_aload_n (pc' := 22) dX9_part_21 rfl rfl rfl ?_
  refine p_gfr (pc' := 25) (a := 96) (k := 0) (t := 97) dX9_part_22 rfl rfl (by decide) (by decide) rfl fl_X9_7 ?_
  refine e_iconst (pc' := 26) (v := nI 1) dX9_part_25 rfl (by decide) ?_
  refine p_iald (pc' := 27) (a := 97) (k := 1) (x := nI (ck c)) dX9_part_26 rfl (rfl) (rfl) (by first | omega | exact Nat.lt_of_le_of_lt Nat.and_le_left (by omega) | exact Nat.lt_of_le_of_lt Nat.and_le_right (by decide)) (by decide) (r.k) ?_
  refine e_icmp_geN (pc' := 30) (tgt := 76) dX9_part_27 rfl (by decide) (by first | omega | exact Nat.lt_of_le_of_lt Nat.and_le_left (by omega) | exact Nat.lt_of_le_of_lt Nat.and_le_right (by decide)) (by first | omega | exact Nat.lt_of_le_of_lt Nat.and_le_left (by omega) | exact Nat.lt_of_le_of_lt Nat.and_le_right (by decide)) (fun hz1 => ?_) (fun hz1 => ?_)
  · refine e_goto (tgt := 7) dX9_part_76 (by decide) ?_
    refine e_fg (i := 5) (L' := [some (.ref (ad 96)), some (.int (nI m)), some (.int (t)), some (.int (nI (pwS c (US t) w i))), some (.int (nI w)), none, none]) rfl ?_
    obtain rfl : i = ck c := by omega
    exact hfin
  · refine e_iconst (pc' := 31) (v := nI 1) dX9_part_30 rfl (by decide) ?_
    refine e_aload_n (pc' := 32) dX9_part_31 rfl rfl rfl ?_
    refine e_iload (pc' := 34) dX9_part_32 rfl rfl ?_
    refine e_iconst (pc' := 35) (v := nI 0) dX9_part_34 rfl (by decide) ?_
    have hb1 := hw.f (j := i) (by omega)
    refine r_V (pc' := 38) (m' := mX9_joins) (As := [.int (nI i), .int (nI 0)]) (st := [.int (nI 1)]) (g_joins0 (d := d) r hw (j := i) (by omega)) dX9_part_35 rfl rfl (Nat.le_of_ble_eq_true rfl) (fit_of (by omega) (by decide) (by decide) (by decide)) ml_X9_115 okX9_joins rfl rfl (by decide) rfl ?_
    show EV _ _ _ _ _ 38 _ ([.int (nI (cf c (i))), .int (nI 1)]) _
    refine e_ishlN (pc' := 39) dX9_part_38 rfl (by omega) (by rw [Nat.one_mul]; exact Nat.lt_trans (p2n9 (by omega)) (by decide)) ?_
    refine e_iconst (pc' := 40) (v := nI 1) dX9_part_39 rfl (by decide) ?_
    refine e_aload_n (pc' := 41) dX9_part_40 rfl rfl rfl ?_
    refine e_iload (pc' := 43) dX9_part_41 rfl rfl ?_
    refine e_iconst (pc' := 44) (v := nI 1) dX9_part_43 rfl (by decide) ?_
    have hb2 := hw.g (j := i) (by omega)
    refine r_V (pc' := 47) (m' := mX9_joins) (As := [.int (nI i), .int (nI 1)]) (st := [.int (nI 1), .int (nI (1 * 2 ^ (cf c (i))))]) (g_joins1 (d := d) r hw (j := i) (by omega)) dX9_part_44 rfl rfl (Nat.le_of_ble_eq_true rfl) (fit_of (by omega) (by decide) (by decide) (by decide)) ml_X9_115 okX9_joins rfl rfl (by decide) rfl ?_
    show EV _ _ _ _ _ 47 _ ([.int (nI (cg c (i))), .int (nI 1), .int (nI (1 * 2 ^ (cf c (i))))]) _
    refine e_ishlN (pc' := 48) dX9_part_47 rfl (by omega) (by rw [Nat.one_mul]; exact Nat.lt_trans (p2n9 (by omega)) (by decide)) ?_
    refine e_iorN (pc' := 49) dX9_part_48 rfl ?_
    rw [show (nI ((1 * 2 ^ (cf c (i))) ||| (1 * 2 ^ (cg c (i))))) = nI (pr c i) from by unfold pr; rw [Nat.one_mul, Nat.one_mul]]
    refine e_istore (pc' := 51) (L' := [some (.ref (ad 96)), some (.int (nI m)), some (.int (t)), some (.int (nI (pwS c (US t) w i))), some (.int (nI w)), some (.int (nI i)), some (.int (nI (pr c i)))]) dX9_part_49 rfl (by decide) rfl ?_
    refine e_iload (pc' := 53) dX9_part_51 rfl rfl ?_
    refine e_iload_n (pc' := 54) dX9_part_53 rfl rfl rfl ?_
    refine e_icmp_eq (pc' := 57) (tgt := 70) dX9_part_54 rfl (by decide) (fun h1 => ?_) (fun h1 => ?_)
    · refine e_iincN (pc' := 73) (k := 1) (L' := [some (.ref (ad 96)), some (.int (nI m)), some (.int (t)), some (.int (nI (pwS c (US t) w i))), some (.int (nI w)), some (.int (nI (i + 1))), some (.int (nI (pr c i)))]) dX9_part_70 rfl rfl rfl (by decide) rfl ?_
      refine e_goto (tgt := 19) dX9_part_73 (by decide) ?_
      refine e_fg (i := 6) (L' := [some (.ref (ad 96)), some (.int (nI m)), some (.int (t)), some (.int (nI (pwS c (US t) w i))), some (.int (nI w)), some (.int (nI (i + 1))), none]) rfl ?_
      have e : pwS c (US t) w (i + 1) = pwS c (US t) w i := if_neg (fun q => by first | exact q.2 h2 | exact by have q1 := q.1; unfold US at q1; rw [decide_eq_true h1] at q1; cases q1)
      exact ih (by omega) |> fun q => by rw [e] at q; exact q
    · refine e_iload (pc' := 59) dX9_part_57 rfl rfl ?_
      refine e_iload (pc' := 61) dX9_part_59 rfl rfl ?_
      refine e_iandN (pc' := 62) dX9_part_61 rfl ?_
      refine e_if_eqN (pc' := 65) (tgt := 70) dX9_part_62 rfl (by decide) (by first | omega | exact Nat.lt_of_le_of_lt Nat.and_le_left (by omega) | exact Nat.lt_of_le_of_lt Nat.and_le_right (by decide)) (fun h2 => ?_) (fun h2 => ?_)
      · refine e_iincN (pc' := 73) (k := 1) (L' := [some (.ref (ad 96)), some (.int (nI m)), some (.int (t)), some (.int (nI (pwS c (US t) w i))), some (.int (nI w)), some (.int (nI (i + 1))), some (.int (nI (pr c i)))]) dX9_part_70 rfl rfl rfl (by decide) rfl ?_
        refine e_goto (tgt := 19) dX9_part_73 (by decide) ?_
        refine e_fg (i := 6) (L' := [some (.ref (ad 96)), some (.int (nI m)), some (.int (t)), some (.int (nI (pwS c (US t) w i))), some (.int (nI w)), some (.int (nI (i + 1))), none]) rfl ?_
        have e : pwS c (US t) w (i + 1) = pwS c (US t) w i := if_neg (fun q => by first | exact q.2 h2 | exact by have q1 := q.1; unfold US at q1; rw [decide_eq_true h1] at q1; cases q1)
        exact ih (by omega) |> fun q => by rw [e] at q; exact q
      · refine e_iload_n (pc' := 66) dX9_part_65 rfl rfl rfl ?_
        refine e_iload (pc' := 68) dX9_part_66 rfl rfl ?_
        refine e_iorN (pc' := 69) dX9_part_68 rfl ?_
        refine e_istore_n (pc' := 70) (L' := [some (.ref (ad 96)), some (.int (nI m)), some (.int (t)), some (.int (nI ((pwS c (US t) w i) ||| (pr c i)))), some (.int (nI w)), some (.int (nI i)), some (.int (nI (pr c i)))]) dX9_part_69 rfl rfl (by decide) rfl ?_
        refine e_iincN (pc' := 73) (k := 1) (L' := [some (.ref (ad 96)), some (.int (nI m)), some (.int (t)), some (.int (nI ((pwS c (US t) w i) ||| (pr c i)))), some (.int (nI w)), some (.int (nI (i + 1))), some (.int (nI (pr c i)))]) dX9_part_70 rfl rfl rfl (by decide) rfl ?_
        refine e_goto (tgt := 19) dX9_part_73 (by decide) ?_
        refine e_fg (i := 6) (L' := [some (.ref (ad 96)), some (.int (nI m)), some (.int (t)), some (.int (nI ((pwS c (US t) w i) ||| (pr c i)))), some (.int (nI w)), some (.int (nI (i + 1))), none]) rfl ?_
        have e : pwS c (US t) w (i + 1) = (pwS c (US t) w i) ||| (pr c i) := if_pos ⟨by unfold US; rw [decide_eq_false h1]; rfl, h2⟩
        exact ih (by omega) |> fun q => by rw [e] at q; exact q)
theorem gl_part (r : RowAt M 97 0 c) (hw : WF c) {m : Nat} (hm : m < cn c) (t : Int32) : ∀ i, i ≤ 512 → ∀ (s w : Nat), i ≤ w → JP c (US t) m s w → ER G ad (d + 2) mX9_part (0, 0) (PR (some (.int (nI (prt c (US t) m)))) (M, o)) (0, 0) 7 [some (.ref (ad 96)), some (.int (nI m)), some (.int (t)), some (.int (nI s)), some (.int (nI w)), none, none] [] (M, o) := down (512) _ (fun i hi ih s w hiw hJ => by
  have hn := hw.n
  have hk := hw.k
  have hw9 := hw.w9
  have hs5 := hJ.2.2.2.2.1
  have hw5 := hJ.2.2.2.2.2
  refine e_iload_n (pc' := 8) dX9_part_7 rfl rfl rfl ?_
  refine e_iload (pc' := 10) dX9_part_8 rfl rfl ?_
  refine e_icmp_eqN (pc' := 13) (tgt := 79) dX9_part_10 rfl (by decide) (by omega) (by omega) (fun h1 => ?_) (fun h1 => ?_)
  · refine e_iload_n (pc' := 80) dX9_part_79 rfl rfl rfl ?_
    exact e_iret dX9_part_80 rfl (MP.ret (congrArg (fun z => some (Value.int z)) (by subst h1; rw [← hJ.last])) rfl) (by decide) (by decide)
  · refine e_iload_n (pc' := 14) dX9_part_13 rfl rfl rfl ?_
    refine e_istore (pc' := 16) (L' := [some (.ref (ad 96)), some (.int (nI m)), some (.int (t)), some (.int (nI s)), some (.int (nI s)), none, none]) dX9_part_14 rfl (by decide) rfl ?_
    refine e_iconst (pc' := 17) (v := nI 0) dX9_part_16 rfl (by decide) ?_
    refine e_istore (pc' := 19) (L' := [some (.ref (ad 96)), some (.int (nI m)), some (.int (t)), some (.int (nI s)), some (.int (nI s)), some (.int (nI 0)), none]) dX9_part_17 rfl (by decide) rfl ?_
    refine gl_pin r hw (w := s) hs5 t ?_ 0 (by omega)
    have hlt := hJ.lt h1
    exact ih (by omega) _ _ (by omega) (hJ.next hw))
theorem g_part (r : RowAt M 97 0 c) (hw : WF c) {m : Nat} (hm : m < cn c) (t : Int32) : RET G ad (d + 2) mX9_part [.ref (ad 96), .int (nI m), .int (t)] (M, o) (some (.int (nI (prt c (US t) m)))) (M, o) := by
  refine CM_of rfl (by decide) rfl (Nat.le_of_ble_eq_true rfl) rfl ?_
  have hn := hw.n
  have hk := hw.k
  have hw9 := hw.w9
  refine e_iconst (pc' := 1) (v := nI 1) dX9_part_0 rfl (by decide) ?_
  refine e_iload_n (pc' := 2) dX9_part_1 rfl rfl rfl ?_
  refine e_ishlN (pc' := 3) dX9_part_2 rfl (by omega) (by rw [Nat.one_mul]; exact Nat.lt_trans (p2n9 (by omega)) (by decide)) ?_
  refine e_istore_n (pc' := 4) (L' := [some (.ref (ad 96)), some (.int (nI m)), some (.int (t)), some (.int (nI (1 * 2 ^ m))), none, none, none]) dX9_part_3 rfl rfl (by decide) rfl ?_
  refine e_iconst (pc' := 5) (v := nI 0) dX9_part_4 rfl (by decide) ?_
  refine e_istore (pc' := 7) (L' := [some (.ref (ad 96)), some (.int (nI m)), some (.int (t)), some (.int (nI (1 * 2 ^ m))), some (.int (nI 0)), none, none]) dX9_part_5 rfl (by decide) rfl ?_
  exact gl_part r hw hm t 0 (by omega) _ _ (Nat.le_refl _) (by rw [Nat.one_mul]; exact JP.first hw hm)
theorem gl_pw (r : RowAt M 97 0 c) (hw : WF c) (t : Int32) : ∀ i, i ≤ cn c → ER G ad (d + 3) mX9_partsWithout (0, 0) (PR (some (.int (nI (prtN c (US t))))) (M, o)) (0, 0) 4 [some (.ref (ad 96)), some (.int (t)), some (.int (nI (cnt (minP c (US t)) i))), some (.int (nI i))] [] (M, o) := down (cn c) _ (fun i hi ih  => by
  have hn := hw.n
  have hk := hw.k
  have hw9 := hw.w9
  have hpl := prt_lt (c := c) (U := US t) (m := i) hw
  refine e_iload_n (pc' := 5) dX9_partsWithout_4 rfl rfl rfl ?_
  refine e_aload_n (pc' := 6) dX9_partsWithout_5 rfl rfl rfl ?_
  refine p_gfr (pc' := 9) (a := 96) (k := 0) (t := 97) dX9_partsWithout_6 rfl rfl (by decide) (by decide) rfl fl_X9_7 ?_
  refine e_iconst (pc' := 10) (v := nI 0) dX9_partsWithout_9 rfl (by decide) ?_
  refine p_iald (pc' := 11) (a := 97) (k := 0) (x := nI (cn c)) dX9_partsWithout_10 rfl (rfl) (rfl) (by first | omega | exact Nat.lt_of_le_of_lt Nat.and_le_left (by omega) | exact Nat.lt_of_le_of_lt Nat.and_le_right (by decide)) (by decide) (r.n) ?_
  refine e_icmp_geN (pc' := 14) (tgt := 43) dX9_partsWithout_11 rfl (by decide) (by first | omega | exact Nat.lt_of_le_of_lt Nat.and_le_left (by omega) | exact Nat.lt_of_le_of_lt Nat.and_le_right (by decide)) (by first | omega | exact Nat.lt_of_le_of_lt Nat.and_le_left (by omega) | exact Nat.lt_of_le_of_lt Nat.and_le_right (by decide)) (fun hz1 => ?_) (fun hz1 => ?_)
  · refine e_iload_n (pc' := 44) dX9_partsWithout_43 rfl rfl rfl ?_
    exact e_iret dX9_partsWithout_44 rfl (MP.ret (congrArg (fun z => some (Value.int z)) (by rw [show i = cn c by omega, minP_N])) rfl) (by decide) (by decide)
  · refine e_iload_n (pc' := 15) dX9_partsWithout_14 rfl rfl rfl ?_
    refine e_aload_n (pc' := 16) dX9_partsWithout_15 rfl rfl rfl ?_
    refine e_iload_n (pc' := 17) dX9_partsWithout_16 rfl rfl rfl ?_
    refine e_iload_n (pc' := 18) dX9_partsWithout_17 rfl rfl rfl ?_
    refine r_V (pc' := 21) (m' := mX9_part) (As := [.int (nI i), .int (t)]) (st := [.int (nI (cnt (minP c (US t)) i))]) (g_part (d := d) r hw (m := i) (by omega) (t)) dX9_partsWithout_18 rfl rfl (Nat.le_of_ble_eq_true rfl) (fit_of (by omega) (by decide) (by decide) (by decide)) ml_X9_134 okX9_part rfl rfl (by decide) rfl ?_
    show EV _ _ _ _ _ 21 _ ([.int (nI (prt c (US t) i)), .int (nI (cnt (minP c (US t)) i))]) _
    refine e_iconst (pc' := 22) (v := nI 1) dX9_partsWithout_21 rfl (by decide) ?_
    refine e_iload_n (pc' := 23) dX9_partsWithout_22 rfl rfl rfl ?_
    refine e_ishlN (pc' := 24) dX9_partsWithout_23 rfl (by omega) (by rw [Nat.one_mul]; exact Nat.lt_trans (p2n9 (by omega)) (by decide)) ?_
    refine e_iconst (pc' := 25) (v := nI 1) dX9_partsWithout_24 rfl (by decide) ?_
    refine e_isubN (pc' := 26) dX9_partsWithout_25 rfl (by rw [Nat.one_mul]; exact Nat.one_le_two_pow) ?_
    refine e_iandN (pc' := 27) dX9_partsWithout_26 rfl ?_
    refine e_if_neN (pc' := 30) (tgt := 34) dX9_partsWithout_27 rfl (by decide) (by first | omega | exact Nat.lt_of_le_of_lt Nat.and_le_left (by omega) | exact Nat.lt_of_le_of_lt Nat.and_le_right (by decide)) (fun hz => ?_) (fun hz => ?_)
    · refine e_iconst (pc' := 35) (v := nI 0) dX9_partsWithout_34 rfl (by decide) ?_
      refine e_iaddN (pc' := 36) dX9_partsWithout_35 rfl ?_
      refine e_istore_n (pc' := 37) (L' := [some (.ref (ad 96)), some (.int (t)), some (.int (nI ((cnt (minP c (US t)) i) + 0))), some (.int (nI i))]) dX9_partsWithout_36 rfl rfl (by decide) rfl ?_
      refine e_iincN (pc' := 40) (k := 1) (L' := [some (.ref (ad 96)), some (.int (t)), some (.int (nI ((cnt (minP c (US t)) i) + 0))), some (.int (nI (i + 1)))]) dX9_partsWithout_37 rfl rfl rfl (by decide) rfl ?_
      refine e_goto (tgt := 4) dX9_partsWithout_40 (by decide) ?_
      rw [← cnt_0 (P := minP c (US t)) (decide_eq_false (by omega))]
      exact ih (by omega)
    · refine e_iconst (pc' := 31) (v := nI 1) dX9_partsWithout_30 rfl (by decide) ?_
      refine e_goto (tgt := 35) dX9_partsWithout_31 (by decide) ?_
      refine e_iaddN (pc' := 36) dX9_partsWithout_35 rfl ?_
      refine e_istore_n (pc' := 37) (L' := [some (.ref (ad 96)), some (.int (t)), some (.int (nI ((cnt (minP c (US t)) i) + 1))), some (.int (nI i))]) dX9_partsWithout_36 rfl rfl (by decide) rfl ?_
      refine e_iincN (pc' := 40) (k := 1) (L' := [some (.ref (ad 96)), some (.int (t)), some (.int (nI ((cnt (minP c (US t)) i) + 1))), some (.int (nI (i + 1)))]) dX9_partsWithout_37 rfl rfl rfl (by decide) rfl ?_
      refine e_goto (tgt := 4) dX9_partsWithout_40 (by decide) ?_
      rw [← cnt_1 (P := minP c (US t)) (decide_eq_true hz)]
      exact ih (by omega))
theorem g_pw (r : RowAt M 97 0 c) (hw : WF c) (t : Int32) : RET G ad (d + 3) mX9_partsWithout [.ref (ad 96), .int (t)] (M, o) (some (.int (nI (prtN c (US t))))) (M, o) := by
  refine CM_of rfl (by decide) rfl (Nat.le_of_ble_eq_true rfl) rfl ?_
  have hn := hw.n
  have hk := hw.k
  have hw9 := hw.w9
  refine e_iconst (pc' := 1) (v := nI 0) dX9_partsWithout_0 rfl (by decide) ?_
  refine e_istore_n (pc' := 2) (L' := [some (.ref (ad 96)), some (.int (t)), some (.int (nI 0)), none]) dX9_partsWithout_1 rfl rfl (by decide) rfl ?_
  refine e_iconst (pc' := 3) (v := nI 0) dX9_partsWithout_2 rfl (by decide) ?_
  refine e_istore_n (pc' := 4) (L' := [some (.ref (ad 96)), some (.int (t)), some (.int (nI 0)), some (.int (nI 0))]) dX9_partsWithout_3 rfl rfl (by decide) rfl ?_
  exact gl_pw r hw t 0 (by omega)
theorem gl_spans (r : RowAt M 97 0 c) (hw : WF c) : ∀ i, i ≤ ck c → ER G ad (d + 4) mX9_spans (0, 0) (PR (some (.int (nI (brgN c)))) (M, o)) (0, 0) 10 [some (.ref (ad 96)), some (.int (nI (cnt (fun j => decide (prtN c (US (-1)) < prtN c (US (nI j)))) i))), some (.int (nI (prtN c (US (-1))))), some (.int (nI i))] [] (M, o) := down (ck c) _ (fun i hi ih  => by
  have hn := hw.n
  have hk := hw.k
  have hw9 := hw.w9
  have hq0 := prtN_le (c := c) (use := US (-1))
  refine e_iload_n (pc' := 11) dX9_spans_10 rfl rfl rfl ?_
  refine e_aload_n (pc' := 12) dX9_spans_11 rfl rfl rfl ?_
  refine p_gfr (pc' := 15) (a := 96) (k := 0) (t := 97) dX9_spans_12 rfl rfl (by decide) (by decide) rfl fl_X9_7 ?_
  refine e_iconst (pc' := 16) (v := nI 1) dX9_spans_15 rfl (by decide) ?_
  refine p_iald (pc' := 17) (a := 97) (k := 1) (x := nI (ck c)) dX9_spans_16 rfl (rfl) (rfl) (by omega) (by decide) (r.k) ?_
  refine e_icmp_geN (pc' := 20) (tgt := 43) dX9_spans_17 rfl (by decide) (by omega) (by omega) (fun hz1 => ?_) (fun hz1 => ?_)
  · refine e_iload_n (pc' := 44) dX9_spans_43 rfl rfl rfl ?_
    exact e_iret dX9_spans_44 rfl (MP.ret (congrArg (fun z => some (Value.int z)) (by rw [show i = ck c by omega]; rfl)) rfl) (by decide) (by decide)
  · refine e_iload_n (pc' := 21) dX9_spans_20 rfl rfl rfl ?_
    refine e_aload_n (pc' := 22) dX9_spans_21 rfl rfl rfl ?_
    refine e_iload_n (pc' := 23) dX9_spans_22 rfl rfl rfl ?_
    have hq23 := prtN_le (c := c) (use := US (nI i))
    refine r_V (pc' := 26) (m' := mX9_partsWithout) (As := [.int (nI i)]) (st := [.int (nI (cnt (fun j => decide (prtN c (US (-1)) < prtN c (US (nI j)))) i))]) (g_pw (d := d) r hw (nI i)) dX9_spans_23 rfl rfl (Nat.le_of_ble_eq_true rfl) (fit_of (by omega) (by decide) (by decide) (by decide)) ml_X9_137 okX9_partsWithout rfl rfl (by decide) rfl ?_
    show EV _ _ _ _ _ 26 _ ([.int (nI (prtN c (US (nI i)))), .int (nI (cnt (fun j => decide (prtN c (US (-1)) < prtN c (US (nI j)))) i))]) _
    refine e_iload_n (pc' := 27) dX9_spans_26 rfl rfl rfl ?_
    refine e_icmp_leN (pc' := 30) (tgt := 34) dX9_spans_27 rfl (by decide) (by omega) (by omega) (fun hz => ?_) (fun hz => ?_)
    · refine e_iconst (pc' := 35) (v := nI 0) dX9_spans_34 rfl (by decide) ?_
      refine e_iaddN (pc' := 36) dX9_spans_35 rfl ?_
      refine e_istore_n (pc' := 37) (L' := [some (.ref (ad 96)), some (.int (nI ((cnt (fun j => decide (prtN c (US (-1)) < prtN c (US (nI j)))) i) + 0))), some (.int (nI (prtN c (US (-1))))), some (.int (nI i))]) dX9_spans_36 rfl rfl (by decide) rfl ?_
      refine e_iincN (pc' := 40) (k := 1) (L' := [some (.ref (ad 96)), some (.int (nI ((cnt (fun j => decide (prtN c (US (-1)) < prtN c (US (nI j)))) i) + 0))), some (.int (nI (prtN c (US (-1))))), some (.int (nI (i + 1)))]) dX9_spans_37 rfl rfl rfl (by decide) rfl ?_
      refine e_goto (tgt := 10) dX9_spans_40 (by decide) ?_
      rw [← cnt_0 (P := (fun j => decide (prtN c (US (-1)) < prtN c (US (nI j))))) (decide_eq_false (by omega))]
      exact ih (by omega)
    · refine e_iconst (pc' := 31) (v := nI 1) dX9_spans_30 rfl (by decide) ?_
      refine e_goto (tgt := 35) dX9_spans_31 (by decide) ?_
      refine e_iaddN (pc' := 36) dX9_spans_35 rfl ?_
      refine e_istore_n (pc' := 37) (L' := [some (.ref (ad 96)), some (.int (nI ((cnt (fun j => decide (prtN c (US (-1)) < prtN c (US (nI j)))) i) + 1))), some (.int (nI (prtN c (US (-1))))), some (.int (nI i))]) dX9_spans_36 rfl rfl (by decide) rfl ?_
      refine e_iincN (pc' := 40) (k := 1) (L' := [some (.ref (ad 96)), some (.int (nI ((cnt (fun j => decide (prtN c (US (-1)) < prtN c (US (nI j)))) i) + 1))), some (.int (nI (prtN c (US (-1))))), some (.int (nI (i + 1)))]) dX9_spans_37 rfl rfl rfl (by decide) rfl ?_
      refine e_goto (tgt := 10) dX9_spans_40 (by decide) ?_
      rw [← cnt_1 (P := (fun j => decide (prtN c (US (-1)) < prtN c (US (nI j))))) (decide_eq_true hz)]
      exact ih (by omega))
theorem g_spans (r : RowAt M 97 0 c) (hw : WF c) : RET G ad (d + 4) mX9_spans [.ref (ad 96)] (M, o) (some (.int (nI (brgN c)))) (M, o) := by
  refine CM_of rfl (by decide) rfl (Nat.le_of_ble_eq_true rfl) rfl ?_
  have hn := hw.n
  have hk := hw.k
  have hw9 := hw.w9
  refine e_iconst (pc' := 1) (v := nI 0) dX9_spans_0 rfl (by decide) ?_
  refine e_istore_n (pc' := 2) (L' := [some (.ref (ad 96)), some (.int (nI 0)), none, none]) dX9_spans_1 rfl rfl (by decide) rfl ?_
  refine e_aload_n (pc' := 3) dX9_spans_2 rfl rfl rfl ?_
  refine e_iconst (pc' := 4) (v := (-1)) dX9_spans_3 rfl (by decide) ?_
  have hq4 := prtN_le (c := c) (use := US ((-1)))
  refine r_V (pc' := 7) (m' := mX9_partsWithout) (As := [.int ((-1))]) (st := []) (g_pw (d := d) r hw ((-1))) dX9_spans_4 rfl rfl (Nat.le_of_ble_eq_true rfl) (fit_of (by omega) (by decide) (by decide) (by decide)) ml_X9_137 okX9_partsWithout rfl rfl (by decide) rfl ?_
  show EV _ _ _ _ _ 7 _ ([.int (nI (prtN c (US ((-1)))))]) _
  refine e_istore_n (pc' := 8) (L' := [some (.ref (ad 96)), some (.int (nI 0)), some (.int (nI (prtN c (US ((-1)))))), none]) dX9_spans_7 rfl rfl (by decide) rfl ?_
  refine e_iconst (pc' := 9) (v := nI 0) dX9_spans_8 rfl (by decide) ?_
  refine e_istore_n (pc' := 10) (L' := [some (.ref (ad 96)), some (.int (nI 0)), some (.int (nI (prtN c (US ((-1)))))), some (.int (nI 0))]) dX9_spans_9 rfl rfl (by decide) rfl ?_
  exact gl_spans r hw 0 (by omega)
theorem g_bridges (r : RowAt M 97 0 c) (hw : WF c) : RETI G ad (d + 5) mX9_bridges [.ref (ad 96)] (M, o) (some (.int (nI (brgN c)))) (QR 0 M) := by
  refine CM_of rfl (by decide) rfl (Nat.le_of_ble_eq_true rfl) rfl ?_
  have hn := hw.n
  have hk := hw.k
  have hw9 := hw.w9
  refine e_aload_n (pc' := 1) dX9_bridges_0 rfl rfl rfl ?_
  refine e_iconst (pc' := 2) (v := nI 0) dX9_bridges_1 rfl (by decide) ?_
  refine p_pfi (pc' := 5) (a := 96) (k := 8) dX9_bridges_2 rfl (rfl) (by decide) (by decide) rfl fl_X9_36 rfl rfl ?_
  refine e_aload_n (pc' := 6) dX9_bridges_5 rfl rfl rfl ?_
  refine r_V (pc' := 9) (m' := mX9_spans) (As := []) (st := []) (g_spans (d := d) (r.up (by decide)) hw) dX9_bridges_6 rfl rfl (Nat.le_of_ble_eq_true rfl) (fit_of (by omega) (by decide) (by decide) (by decide)) ml_X9_140 okX9_spans rfl rfl (by decide) rfl ?_
  show EV _ _ _ _ _ 9 _ ([.int (nI (brgN c))]) _
  exact e_iret dX9_bridges_9 rfl (MP.retI (rfl) QR.c) (by decide) (by decide)
theorem g_bridgesByFilling (r : RowAt M 97 0 c) (hw : WF c) : RETI G ad (d + 5) mX9_bridgesByFilling [.ref (ad 96)] (M, o) (some (.int (nI (brgN c)))) (QR 0 M) := by
  refine CM_of rfl (by decide) rfl (Nat.le_of_ble_eq_true rfl) rfl ?_
  have hn := hw.n
  have hk := hw.k
  have hw9 := hw.w9
  refine e_aload_n (pc' := 1) dX9_bridgesByFilling_0 rfl rfl rfl ?_
  refine e_iconst (pc' := 2) (v := nI 0) dX9_bridgesByFilling_1 rfl (by decide) ?_
  refine p_pfi (pc' := 5) (a := 96) (k := 8) dX9_bridgesByFilling_2 rfl (rfl) (by decide) (by decide) rfl fl_X9_36 rfl rfl ?_
  refine e_aload_n (pc' := 6) dX9_bridgesByFilling_5 rfl rfl rfl ?_
  refine r_V (pc' := 9) (m' := mX9_spans) (As := []) (st := []) (g_spans (d := d) (r.up (by decide)) hw) dX9_bridgesByFilling_6 rfl rfl (Nat.le_of_ble_eq_true rfl) (fit_of (by omega) (by decide) (by decide) (by decide)) ml_X9_140 okX9_spans rfl rfl (by decide) rfl ?_
  show EV _ _ _ _ _ 9 _ ([.int (nI (brgN c))]) _
  exact e_iret dX9_bridgesByFilling_9 rfl (MP.retI (rfl) QR.c) (by decide) (by decide)
theorem g_parts (r : RowAt M 97 0 c) (hw : WF c) : RETI G ad (d + 4) mX9_parts [.ref (ad 96)] (M, o) (some (.int (nI (prtN c (US (-1)))))) (QR 0 M) := by
  refine CM_of rfl (by decide) rfl (Nat.le_of_ble_eq_true rfl) rfl ?_
  have hn := hw.n
  have hk := hw.k
  have hw9 := hw.w9
  refine e_aload_n (pc' := 1) dX9_parts_0 rfl rfl rfl ?_
  refine e_iconst (pc' := 2) (v := nI 0) dX9_parts_1 rfl (by decide) ?_
  refine p_pfi (pc' := 5) (a := 96) (k := 8) dX9_parts_2 rfl (rfl) (by decide) (by decide) rfl fl_X9_36 rfl rfl ?_
  refine e_aload_n (pc' := 6) dX9_parts_5 rfl rfl rfl ?_
  refine e_iconst (pc' := 7) (v := (-1)) dX9_parts_6 rfl (by decide) ?_
  have hq7 := prtN_le (c := c) (use := US ((-1)))
  refine r_V (pc' := 10) (m' := mX9_partsWithout) (As := [.int ((-1))]) (st := []) (g_pw (d := d) (r.up (by decide)) hw ((-1))) dX9_parts_7 rfl rfl (Nat.le_of_ble_eq_true rfl) (fit_of (by omega) (by decide) (by decide) (by decide)) ml_X9_137 okX9_partsWithout rfl rfl (by decide) rfl ?_
  show EV _ _ _ _ _ 10 _ ([.int (nI (prtN c (US ((-1)))))]) _
  exact e_iret dX9_parts_10 rfl (MP.retI (rfl) QR.c) (by decide) (by decide)
theorem QR.trans {k1 k : Nat} {M M1 M2 : Nat → Nat → Int32} (h1 : QR k1 M M1) (h2 : QR k M1 M2) : QR k M M2 := ⟨h2.1, fun j g1 g2 => (h2.2.1 j g1 g2).trans (h1.2.1 j g1 g2), h1.2.2.trans h2.2.2⟩
def wS (c : Col) (a : Nat) : Nat → Nat
  | 0 => 2 ^ a
  | n + 1 => pwS c (fun j => !blk c (cw c) j) (wS c a n) (ck c)
def wR (c : Col) (a b : Nat) : Option Nat := fnd (fun n => (wS c a n).testBit b) 600
theorem wS_lt (hw : WF c) {a : Nat} (ha : a < cn c) : ∀ n, wS c a n < 512
  | 0 => Nat.lt_of_lt_of_le (p2n9 (by have := hw.n; omega)) (Nat.le_refl _)
  | n + 1 => pwS_lt (n := 9) hw (wS_lt hw ha n) hw.n (Nat.le_refl _)
theorem wS_mono {a n z : Nat} (h : (wS c a n).testBit z = true) : (wS c a (n + 1)).testBit z = true := pwS_tb.mpr (Or.inl h)
theorem wS_le {a n : Nat} : wS c a n ≤ wS c a (n + 1) := sub_le_tb (fun _ h => wS_mono h)
theorem wS_fix {a n : Nat} (h : wS c a (n + 1) = wS c a n) : ∀ k, wS c a (n + k) = wS c a n
  | 0 => rfl
  | k + 1 => by
    have ih := wS_fix h k
    show pwS c _ (wS c a (n + k)) (ck c) = _
    rw [ih]; exact h
/-- a walk under way -/
def JW (c : Col) (a b n w : Nat) : Prop := (∀ k, k < n → (wS c a k).testBit b = false) ∧ (n = 0 ∧ w = 0 ∨ 0 < n ∧ w = wS c a (n - 1)) ∧ n ≤ w
theorem JW.lt {a b n w : Nat} (h : JW c a b n w) (hne : ¬ wS c a n = w) : w < wS c a n := by
  rcases h.2.1 with ⟨h1, h2⟩ | ⟨h1, h2⟩
  · subst h1 h2
    have := Nat.two_pow_pos a
    show 0 < 2 ^ a
    exact this
  · obtain ⟨k, rfl⟩ : ∃ k, n = k + 1 := ⟨n - 1, by omega⟩
    have := wS_le (c := c) (a := a) (n := k)
    rw [Nat.add_sub_cancel] at h2
    omega
theorem JW.some {a b n w : Nat} (hw : WF c) (ha : a < cn c) (h : JW c a b n w) (hw5 : w < 512) (hb : (wS c a n).testBit b = true) : wR c a b = some n := fnd_some (by have := h.2.2; omega) h.1 hb
theorem JW.none {a b n : Nat} (h : JW c a b n (wS c a n)) : wR c a b = none := by
  rcases h.2.1 with ⟨h1, h2⟩ | ⟨h1, h2⟩
  · subst h1
    have := Nat.two_pow_pos a
    have h3 : 2 ^ a = 0 := h2
    omega
  · obtain ⟨k, rfl⟩ : ∃ k, n = k + 1 := ⟨n - 1, by omega⟩
    rw [Nat.add_sub_cancel] at h2
    refine fnd_none (fun j hj => ?_)
    by_cases e : j < k + 1
    · exact h.1 j e
    · have e2 := wS_fix h2 (j - k)
      rw [show k + (j - k) = j by omega] at e2
      show (wS c a j).testBit b = false
      rw [e2]
      exact h.1 k (by omega)
theorem tb_and0 {s b : Nat} : s / 2 ^ b &&& 1 = 0 ↔ s.testBit b = false := by
  rw [Nat.and_one_is_mod, ← Nat.toNat_testBit]
  cases s.testBit b <;> decide
theorem tb_t {s b : Nat} (h : ¬ s / 2 ^ b &&& 1 = 0) : s.testBit b = true := by
  cases q : s.testBit b with
  | false => exact absurd (tb_and0.mpr q) h
  | true => rfl
theorem gl_win {M1 : Nat → Nat → Int32} (r1 : RowAt M1 97 0 c) (hw : WF c) {w : Nat} (hw2 : w < 512) {a b n : Nat} {P : PM} (hfin : ER G ad (d + 2) mX9_walk (0, 0) (P) (0, 0) 40 [some (.ref (ad 96)), some (.int (nI a)), some (.int (nI b)), some (.int (nI (pwS c (fun j => !blk c (cw c) j) w (ck c)))), some (.int (nI w)), some (.int (nI n)), none, none] [] (M1, o)) : ∀ i, i ≤ ck c → ER G ad (d + 2) mX9_walk (0, 0) (P) (0, 0) 63 [some (.ref (ad 96)), some (.int (nI a)), some (.int (nI b)), some (.int (nI (pwS c (fun j => !blk c (cw c) j) w i))), some (.int (nI w)), some (.int (nI n)), some (.int (nI i)), none] [] (M1, o) := down (ck c) _ (fun i hi ih  => by
  have hn := hw.n
  have hk := hw.k
  have hw9 := hw.w9
  refine e_iload (pc' := 65) dX9_walk_63 rfl rfl ?_
  refine e_aload_n (pc' := 66) dX9_walk_65 rfl rfl rfl ?_
  refine p_gfr (pc' := 69) (a := 96) (k := 0) (t := 97) dX9_walk_66 rfl rfl (by decide) (by decide) rfl fl_X9_7 ?_
  refine e_iconst (pc' := 70) (v := nI 1) dX9_walk_69 rfl (by decide) ?_
  refine p_iald (pc' := 71) (a := 97) (k := 1) (x := nI (ck c)) dX9_walk_70 rfl (rfl) (rfl) (by first | omega | exact Nat.lt_of_le_of_lt Nat.and_le_left (by omega) | exact Nat.lt_of_le_of_lt Nat.and_le_right (by decide)) (by decide) (r1.k) ?_
  refine e_icmp_geN (pc' := 74) (tgt := 124) dX9_walk_71 rfl (by decide) (by first | omega | exact Nat.lt_of_le_of_lt Nat.and_le_left (by omega) | exact Nat.lt_of_le_of_lt Nat.and_le_right (by decide)) (by first | omega | exact Nat.lt_of_le_of_lt Nat.and_le_left (by omega) | exact Nat.lt_of_le_of_lt Nat.and_le_right (by decide)) (fun hz1 => ?_) (fun hz1 => ?_)
  · refine e_goto (tgt := 40) dX9_walk_124 (by decide) ?_
    refine e_fg (i := 6) (L' := [some (.ref (ad 96)), some (.int (nI a)), some (.int (nI b)), some (.int (nI (pwS c (fun j => !blk c (cw c) j) w i))), some (.int (nI w)), some (.int (nI n)), none, none]) rfl ?_
    obtain rfl : i = ck c := by omega
    exact hfin
  · refine e_iconst (pc' := 75) (v := nI 1) dX9_walk_74 rfl (by decide) ?_
    refine e_aload_n (pc' := 76) dX9_walk_75 rfl rfl rfl ?_
    refine e_iload (pc' := 78) dX9_walk_76 rfl rfl ?_
    refine e_iconst (pc' := 79) (v := nI 0) dX9_walk_78 rfl (by decide) ?_
    have hb1 := hw.f (j := i) (by omega)
    refine r_V (pc' := 82) (m' := mX9_joins) (As := [.int (nI i), .int (nI 0)]) (st := [.int (nI 1)]) (g_joins0 (d := d) r1 hw (j := i) (by omega)) dX9_walk_79 rfl rfl (Nat.le_of_ble_eq_true rfl) (fit_of (by omega) (by decide) (by decide) (by decide)) ml_X9_115 okX9_joins rfl rfl (by decide) rfl ?_
    show EV _ _ _ _ _ 82 _ ([.int (nI (cf c (i))), .int (nI 1)]) _
    refine e_ishlN (pc' := 83) dX9_walk_82 rfl (by omega) (by rw [Nat.one_mul]; exact Nat.lt_trans (p2n9 (by omega)) (by decide)) ?_
    refine e_iconst (pc' := 84) (v := nI 1) dX9_walk_83 rfl (by decide) ?_
    refine e_aload_n (pc' := 85) dX9_walk_84 rfl rfl rfl ?_
    refine e_iload (pc' := 87) dX9_walk_85 rfl rfl ?_
    refine e_iconst (pc' := 88) (v := nI 1) dX9_walk_87 rfl (by decide) ?_
    have hb2 := hw.g (j := i) (by omega)
    refine r_V (pc' := 91) (m' := mX9_joins) (As := [.int (nI i), .int (nI 1)]) (st := [.int (nI 1), .int (nI (1 * 2 ^ (cf c (i))))]) (g_joins1 (d := d) r1 hw (j := i) (by omega)) dX9_walk_88 rfl rfl (Nat.le_of_ble_eq_true rfl) (fit_of (by omega) (by decide) (by decide) (by decide)) ml_X9_115 okX9_joins rfl rfl (by decide) rfl ?_
    show EV _ _ _ _ _ 91 _ ([.int (nI (cg c (i))), .int (nI 1), .int (nI (1 * 2 ^ (cf c (i))))]) _
    refine e_ishlN (pc' := 92) dX9_walk_91 rfl (by omega) (by rw [Nat.one_mul]; exact Nat.lt_trans (p2n9 (by omega)) (by decide)) ?_
    refine e_iorN (pc' := 93) dX9_walk_92 rfl ?_
    rw [show (nI ((1 * 2 ^ (cf c (i))) ||| (1 * 2 ^ (cg c (i))))) = nI (pr c i) from by unfold pr; rw [Nat.one_mul, Nat.one_mul]]
    refine e_istore (pc' := 95) (L' := [some (.ref (ad 96)), some (.int (nI a)), some (.int (nI b)), some (.int (nI (pwS c (fun j => !blk c (cw c) j) w i))), some (.int (nI w)), some (.int (nI n)), some (.int (nI i)), some (.int (nI (pr c i)))]) dX9_walk_93 rfl (by decide) rfl ?_
    refine e_aload_n (pc' := 96) dX9_walk_95 rfl rfl rfl ?_
    refine e_iload (pc' := 98) dX9_walk_96 rfl rfl ?_
    refine e_iconst (pc' := 99) (v := nI 0) dX9_walk_98 rfl (by decide) ?_
    refine r_V (pc' := 102) (m' := mX9_isFree) (As := [.int (nI i), .int (nI 0)]) (st := []) (g_isFree (d := d) r1 hw (j := i) (w := 0) (by omega) (by first | omega | exact Nat.lt_of_le_of_lt Nat.and_le_left (by omega) | exact Nat.lt_of_le_of_lt Nat.and_le_right (by decide))) dX9_walk_99 rfl rfl (Nat.le_of_ble_eq_true rfl) (fit_of (by omega) (by decide) (by decide) (by decide)) ml_X9_118 okX9_isFree rfl rfl (by decide) rfl ?_
    show EV _ _ _ _ _ 102 _ ([.int (bI (!blk c (cw c ^^^ 0) i))]) _
    refine e_if_eqB (pc' := 105) (tgt := 118) dX9_walk_102 rfl (by decide) (fun h1 => ?_) (fun h1 => ?_)
    · refine e_iincN (pc' := 121) (k := 1) (L' := [some (.ref (ad 96)), some (.int (nI a)), some (.int (nI b)), some (.int (nI (pwS c (fun j => !blk c (cw c) j) w i))), some (.int (nI w)), some (.int (nI n)), some (.int (nI (i + 1))), some (.int (nI (pr c i)))]) dX9_walk_118 rfl rfl rfl (by decide) rfl ?_
      refine e_goto (tgt := 63) dX9_walk_121 (by decide) ?_
      refine e_fg (i := 7) (L' := [some (.ref (ad 96)), some (.int (nI a)), some (.int (nI b)), some (.int (nI (pwS c (fun j => !blk c (cw c) j) w i))), some (.int (nI w)), some (.int (nI n)), some (.int (nI (i + 1))), none]) rfl ?_
      have e : pwS c (fun j => !blk c (cw c) j) w (i + 1) = pwS c (fun j => !blk c (cw c) j) w i := if_neg (fun q => by first | exact q.2 h2 | exact by have q1 : (!blk c (cw c) i) = true := q.1; rw [Nat.xor_zero] at h1; rw [h1] at q1; cases q1)
      exact ih (by omega) |> fun q => by rw [e] at q; exact q
    · refine e_iload (pc' := 107) dX9_walk_105 rfl rfl ?_
      refine e_iload (pc' := 109) dX9_walk_107 rfl rfl ?_
      refine e_iandN (pc' := 110) dX9_walk_109 rfl ?_
      refine e_if_eqN (pc' := 113) (tgt := 118) dX9_walk_110 rfl (by decide) (by first | omega | exact Nat.lt_of_le_of_lt Nat.and_le_left (by omega) | exact Nat.lt_of_le_of_lt Nat.and_le_right (by decide)) (fun h2 => ?_) (fun h2 => ?_)
      · refine e_iincN (pc' := 121) (k := 1) (L' := [some (.ref (ad 96)), some (.int (nI a)), some (.int (nI b)), some (.int (nI (pwS c (fun j => !blk c (cw c) j) w i))), some (.int (nI w)), some (.int (nI n)), some (.int (nI (i + 1))), some (.int (nI (pr c i)))]) dX9_walk_118 rfl rfl rfl (by decide) rfl ?_
        refine e_goto (tgt := 63) dX9_walk_121 (by decide) ?_
        refine e_fg (i := 7) (L' := [some (.ref (ad 96)), some (.int (nI a)), some (.int (nI b)), some (.int (nI (pwS c (fun j => !blk c (cw c) j) w i))), some (.int (nI w)), some (.int (nI n)), some (.int (nI (i + 1))), none]) rfl ?_
        have e : pwS c (fun j => !blk c (cw c) j) w (i + 1) = pwS c (fun j => !blk c (cw c) j) w i := if_neg (fun q => by first | exact q.2 h2 | exact by have q1 : (!blk c (cw c) i) = true := q.1; rw [Nat.xor_zero] at h1; rw [h1] at q1; cases q1)
        exact ih (by omega) |> fun q => by rw [e] at q; exact q
      · refine e_iload_n (pc' := 114) dX9_walk_113 rfl rfl rfl ?_
        refine e_iload (pc' := 116) dX9_walk_114 rfl rfl ?_
        refine e_iorN (pc' := 117) dX9_walk_116 rfl ?_
        refine e_istore_n (pc' := 118) (L' := [some (.ref (ad 96)), some (.int (nI a)), some (.int (nI b)), some (.int (nI ((pwS c (fun j => !blk c (cw c) j) w i) ||| (pr c i)))), some (.int (nI w)), some (.int (nI n)), some (.int (nI i)), some (.int (nI (pr c i)))]) dX9_walk_117 rfl rfl (by decide) rfl ?_
        refine e_iincN (pc' := 121) (k := 1) (L' := [some (.ref (ad 96)), some (.int (nI a)), some (.int (nI b)), some (.int (nI ((pwS c (fun j => !blk c (cw c) j) w i) ||| (pr c i)))), some (.int (nI w)), some (.int (nI n)), some (.int (nI (i + 1))), some (.int (nI (pr c i)))]) dX9_walk_118 rfl rfl rfl (by decide) rfl ?_
        refine e_goto (tgt := 63) dX9_walk_121 (by decide) ?_
        refine e_fg (i := 7) (L' := [some (.ref (ad 96)), some (.int (nI a)), some (.int (nI b)), some (.int (nI ((pwS c (fun j => !blk c (cw c) j) w i) ||| (pr c i)))), some (.int (nI w)), some (.int (nI n)), some (.int (nI (i + 1))), none]) rfl ?_
        have e : pwS c (fun j => !blk c (cw c) j) w (i + 1) = (pwS c (fun j => !blk c (cw c) j) w i) ||| (pr c i) := if_pos ⟨by rw [Nat.xor_zero] at h1; exact h1, h2⟩
        exact ih (by omega) |> fun q => by rw [e] at q; exact q)
theorem gl_walk {M1 : Nat → Nat → Int32} (hq : QR 0 M M1) (r1 : RowAt M1 97 0 c) (hw : WF c) {a b : Nat} (ha : a < cn c) (hb : b < cn c) : ∀ i, i ≤ 512 → ∀ (n w : Nat), i ≤ w → w < 512 → JW c a b n w → ER G ad (d + 2) mX9_walk (0, 0) (PI (some (.int (if wR c a b = none then nI 0 else oI (wR c a b)))) o (fun M' => QR (if wR c a b = none then 2 else 0) M M')) (0, 0) 40 [some (.ref (ad 96)), some (.int (nI a)), some (.int (nI b)), some (.int (nI (wS c a n))), some (.int (nI w)), some (.int (nI n)), none, none] [] (M1, o) := down (512) _ (fun i hi ih n w hiw hw5 hJ => by
  have hn := hw.n
  have hk := hw.k
  have hw9 := hw.w9
  have hs5 := wS_lt hw ha n
  refine e_iload_n (pc' := 41) dX9_walk_40 rfl rfl rfl ?_
  refine e_iload (pc' := 43) dX9_walk_41 rfl rfl ?_
  refine e_icmp_eqN (pc' := 46) (tgt := 127) dX9_walk_43 rfl (by decide) (by first | omega | exact Nat.lt_of_le_of_lt Nat.and_le_left (by omega) | exact Nat.lt_of_le_of_lt Nat.and_le_right (by decide)) (by first | omega | exact Nat.lt_of_le_of_lt Nat.and_le_left (by omega) | exact Nat.lt_of_le_of_lt Nat.and_le_right (by decide)) (fun h1 => ?_) (fun h1 => ?_)
  · refine e_aload_n (pc' := 128) dX9_walk_127 rfl rfl rfl ?_
    refine e_iload_n (pc' := 129) dX9_walk_128 rfl rfl rfl ?_
    refine e_iload_n (pc' := 130) dX9_walk_129 rfl rfl rfl ?_
    refine e_ishrN (pc' := 131) dX9_walk_130 rfl (by first | omega | exact Nat.lt_of_le_of_lt Nat.and_le_left (by omega) | exact Nat.lt_of_le_of_lt Nat.and_le_right (by decide)) (by first | omega | exact Nat.lt_of_le_of_lt Nat.and_le_left (by omega) | exact Nat.lt_of_le_of_lt Nat.and_le_right (by decide)) ?_
    refine e_iconst (pc' := 132) (v := nI 1) dX9_walk_131 rfl (by decide) ?_
    refine e_iandN (pc' := 133) dX9_walk_132 rfl ?_
    refine e_if_neN (pc' := 136) (tgt := 140) dX9_walk_133 rfl (by decide) (by first | omega | exact Nat.lt_of_le_of_lt Nat.and_le_left (by omega) | exact Nat.lt_of_le_of_lt Nat.and_le_right (by decide)) (fun h3 => ?_) (fun h3 => ?_)
    · refine e_iconst (pc' := 141) (v := nI 0) dX9_walk_140 rfl (by decide) ?_
      refine r_V (pc' := 144) (m' := mX9_fails) (As := [.int (nI 0)]) (st := []) (g_fails (d := d) (p := 0) (by omega)) dX9_walk_141 rfl rfl (Nat.le_of_ble_eq_true rfl) (fit_of (by omega) (by decide) (by decide) (by decide)) ml_X9_70 okX9_fails rfl rfl (by decide) rfl ?_
      show EV _ _ _ _ _ 144 _ ([.int (bI (decide (0 < 0)))]) _
      refine e_if_eqB (pc' := 147) (tgt := 151) dX9_walk_144 rfl (by decide) (fun h4 => ?_) (fun h4 => ?_)
      · refine e_iload (pc' := 153) dX9_walk_151 rfl rfl ?_
        exact e_iret dX9_walk_153 rfl (by first | exact absurd h4 (by decide) | exact absurd h3 h2 | (rw [hJ.some hw ha hw5 (tb_t h3)]; exact MP.retI rfl (hq.trans QR.f))) (by decide) (by decide)
      · refine e_iconst (pc' := 148) (v := nI 0) dX9_walk_147 rfl (by decide) ?_
        refine e_goto (tgt := 153) dX9_walk_148 (by decide) ?_
        exact e_iret dX9_walk_153 rfl (by first | exact absurd h4 (by decide) | exact absurd h3 h2 | (subst h1; rw [JW.none hJ]; exact MP.retI rfl (hq.trans QR.f))) (by decide) (by decide)
    · refine e_iconst (pc' := 137) (v := nI 2) dX9_walk_136 rfl (by decide) ?_
      refine e_goto (tgt := 141) dX9_walk_137 (by decide) ?_
      refine r_V (pc' := 144) (m' := mX9_fails) (As := [.int (nI 2)]) (st := []) (g_fails (d := d) (p := 2) (by omega)) dX9_walk_141 rfl rfl (Nat.le_of_ble_eq_true rfl) (fit_of (by omega) (by decide) (by decide) (by decide)) ml_X9_70 okX9_fails rfl rfl (by decide) rfl ?_
      show EV _ _ _ _ _ 144 _ ([.int (bI (decide (0 < 2)))]) _
      refine e_if_eqB (pc' := 147) (tgt := 151) dX9_walk_144 rfl (by decide) (fun h4 => ?_) (fun h4 => ?_)
      · refine e_iload (pc' := 153) dX9_walk_151 rfl rfl ?_
        exact e_iret dX9_walk_153 rfl (by first | exact absurd h4 (by decide) | exact absurd h3 h2 | (rw [hJ.some hw ha hw5 (tb_t h3)]; exact MP.retI rfl (hq.trans QR.f))) (by decide) (by decide)
      · refine e_iconst (pc' := 148) (v := nI 0) dX9_walk_147 rfl (by decide) ?_
        refine e_goto (tgt := 153) dX9_walk_148 (by decide) ?_
        exact e_iret dX9_walk_153 rfl (by first | exact absurd h4 (by decide) | exact absurd h3 h2 | (subst h1; rw [JW.none hJ]; exact MP.retI rfl (hq.trans QR.f))) (by decide) (by decide)
  · refine e_iload_n (pc' := 47) dX9_walk_46 rfl rfl rfl ?_
    refine e_iload_n (pc' := 48) dX9_walk_47 rfl rfl rfl ?_
    refine e_ishrN (pc' := 49) dX9_walk_48 rfl (by first | omega | exact Nat.lt_of_le_of_lt Nat.and_le_left (by omega) | exact Nat.lt_of_le_of_lt Nat.and_le_right (by decide)) (by first | omega | exact Nat.lt_of_le_of_lt Nat.and_le_left (by omega) | exact Nat.lt_of_le_of_lt Nat.and_le_right (by decide)) ?_
    refine e_iconst (pc' := 50) (v := nI 1) dX9_walk_49 rfl (by decide) ?_
    refine e_iandN (pc' := 51) dX9_walk_50 rfl ?_
    refine e_if_neN (pc' := 54) (tgt := 127) dX9_walk_51 rfl (by decide) (by first | omega | exact Nat.lt_of_le_of_lt Nat.and_le_left (by omega) | exact Nat.lt_of_le_of_lt Nat.and_le_right (by decide)) (fun h2 => ?_) (fun h2 => ?_)
    · refine e_aload_n (pc' := 128) dX9_walk_127 rfl rfl rfl ?_
      refine e_iload_n (pc' := 129) dX9_walk_128 rfl rfl rfl ?_
      refine e_iload_n (pc' := 130) dX9_walk_129 rfl rfl rfl ?_
      refine e_ishrN (pc' := 131) dX9_walk_130 rfl (by first | omega | exact Nat.lt_of_le_of_lt Nat.and_le_left (by omega) | exact Nat.lt_of_le_of_lt Nat.and_le_right (by decide)) (by first | omega | exact Nat.lt_of_le_of_lt Nat.and_le_left (by omega) | exact Nat.lt_of_le_of_lt Nat.and_le_right (by decide)) ?_
      refine e_iconst (pc' := 132) (v := nI 1) dX9_walk_131 rfl (by decide) ?_
      refine e_iandN (pc' := 133) dX9_walk_132 rfl ?_
      refine e_if_neN (pc' := 136) (tgt := 140) dX9_walk_133 rfl (by decide) (by first | omega | exact Nat.lt_of_le_of_lt Nat.and_le_left (by omega) | exact Nat.lt_of_le_of_lt Nat.and_le_right (by decide)) (fun h3 => ?_) (fun h3 => ?_)
      · refine e_iconst (pc' := 141) (v := nI 0) dX9_walk_140 rfl (by decide) ?_
        refine r_V (pc' := 144) (m' := mX9_fails) (As := [.int (nI 0)]) (st := []) (g_fails (d := d) (p := 0) (by omega)) dX9_walk_141 rfl rfl (Nat.le_of_ble_eq_true rfl) (fit_of (by omega) (by decide) (by decide) (by decide)) ml_X9_70 okX9_fails rfl rfl (by decide) rfl ?_
        show EV _ _ _ _ _ 144 _ ([.int (bI (decide (0 < 0)))]) _
        refine e_if_eqB (pc' := 147) (tgt := 151) dX9_walk_144 rfl (by decide) (fun h4 => ?_) (fun h4 => ?_)
        · refine e_iload (pc' := 153) dX9_walk_151 rfl rfl ?_
          exact e_iret dX9_walk_153 rfl (by first | exact absurd h4 (by decide) | exact absurd h3 h2 | (rw [hJ.some hw ha hw5 (tb_t h3)]; exact MP.retI rfl (hq.trans QR.f))) (by decide) (by decide)
        · refine e_iconst (pc' := 148) (v := nI 0) dX9_walk_147 rfl (by decide) ?_
          refine e_goto (tgt := 153) dX9_walk_148 (by decide) ?_
          exact e_iret dX9_walk_153 rfl (by first | exact absurd h4 (by decide) | exact absurd h3 h2 | (subst h1; rw [JW.none hJ]; exact MP.retI rfl (hq.trans QR.f))) (by decide) (by decide)
      · refine e_iconst (pc' := 137) (v := nI 2) dX9_walk_136 rfl (by decide) ?_
        refine e_goto (tgt := 141) dX9_walk_137 (by decide) ?_
        refine r_V (pc' := 144) (m' := mX9_fails) (As := [.int (nI 2)]) (st := []) (g_fails (d := d) (p := 2) (by omega)) dX9_walk_141 rfl rfl (Nat.le_of_ble_eq_true rfl) (fit_of (by omega) (by decide) (by decide) (by decide)) ml_X9_70 okX9_fails rfl rfl (by decide) rfl ?_
        show EV _ _ _ _ _ 144 _ ([.int (bI (decide (0 < 2)))]) _
        refine e_if_eqB (pc' := 147) (tgt := 151) dX9_walk_144 rfl (by decide) (fun h4 => ?_) (fun h4 => ?_)
        · refine e_iload (pc' := 153) dX9_walk_151 rfl rfl ?_
          exact e_iret dX9_walk_153 rfl (by first | exact absurd h4 (by decide) | exact absurd h3 h2 | (rw [hJ.some hw ha hw5 (tb_t h3)]; exact MP.retI rfl (hq.trans QR.f))) (by decide) (by decide)
        · refine e_iconst (pc' := 148) (v := nI 0) dX9_walk_147 rfl (by decide) ?_
          refine e_goto (tgt := 153) dX9_walk_148 (by decide) ?_
          exact e_iret dX9_walk_153 rfl (by first | exact absurd h4 (by decide) | exact absurd h3 h2 | (subst h1; rw [JW.none hJ]; exact MP.retI rfl (hq.trans QR.f))) (by decide) (by decide)
    · refine e_iload_n (pc' := 55) dX9_walk_54 rfl rfl rfl ?_
      refine e_istore (pc' := 57) (L' := [some (.ref (ad 96)), some (.int (nI a)), some (.int (nI b)), some (.int (nI (wS c a n))), some (.int (nI (wS c a n))), some (.int (nI n)), none, none]) dX9_walk_55 rfl (by decide) rfl ?_
      refine e_iincN (pc' := 60) (k := 1) (L' := [some (.ref (ad 96)), some (.int (nI a)), some (.int (nI b)), some (.int (nI (wS c a n))), some (.int (nI (wS c a n))), some (.int (nI (n + 1))), none, none]) dX9_walk_57 rfl rfl rfl (by decide) rfl ?_
      refine e_iconst (pc' := 61) (v := nI 0) dX9_walk_60 rfl (by decide) ?_
      refine e_istore (pc' := 63) (L' := [some (.ref (ad 96)), some (.int (nI a)), some (.int (nI b)), some (.int (nI (wS c a n))), some (.int (nI (wS c a n))), some (.int (nI (n + 1))), some (.int (nI 0)), none]) dX9_walk_61 rfl (by decide) rfl ?_
      refine gl_win r1 hw (w := wS c a n) hs5 (n := n + 1) ?_ 0 (by omega)
      show ER G ad (d + 2) mX9_walk (0, 0) (PI (some (.int (if wR c a b = none then nI 0 else oI (wR c a b)))) o (fun M' => QR (if wR c a b = none then 2 else 0) M M')) (0, 0) 40 [some (.ref (ad 96)), some (.int (nI a)), some (.int (nI b)), some (.int (nI (wS c a (n + 1)))), some (.int (nI (wS c a n))), some (.int (nI (n + 1))), none, none] [] (M1, o)
      have hlt := hJ.lt h1
      exact ih (by omega) _ _ (by omega) hs5 ⟨fun k hk => by by_cases e : k = n; rw [e]; exact tb_and0.mp h2; exact hJ.1 k (by omega), Or.inr ⟨by omega, rfl⟩, by have := hJ.2.2; omega⟩)
theorem g_walk (r : RowAt M 97 0 c) (hw : WF c) {a b : Nat} (ha : a < cn c) (hb : b < cn c) : RETI G ad (d + 2) mX9_walk [.ref (ad 96), .int (nI a), .int (nI b)] (M, o) (some (.int (if wR c a b = none then nI 0 else oI (wR c a b)))) (QR (if wR c a b = none then 2 else 0) M) := by
  refine CM_of rfl (by decide) rfl (Nat.le_of_ble_eq_true rfl) rfl ?_
  have hn := hw.n
  have hk := hw.k
  have hw9 := hw.w9
  refine e_aload_n (pc' := 1) dX9_walk_0 rfl rfl rfl ?_
  refine e_aload_n (pc' := 2) dX9_walk_1 rfl rfl rfl ?_
  refine e_iload_n (pc' := 3) dX9_walk_2 rfl rfl rfl ?_
  refine r_V (pc' := 6) (m' := mX9_isMagnet) (As := [.int (nI a)]) (st := [.ref (ad 96)]) (g_isMagnet (d := d) r hw (nI a)) dX9_walk_3 rfl rfl (Nat.le_of_ble_eq_true rfl) (fit_of (by omega) (by decide) (by decide) (by decide)) ml_X9_66 okX9_isMagnet rfl rfl (by decide) rfl ?_
  show EV _ _ _ _ _ 6 _ ([.int (bI (hasM c (nI a))), .ref (ad 96)]) _
  refine e_if_eqB (pc' := 9) (tgt := 21) dX9_walk_6 rfl (by decide) (fun hz1 => absurd hz1 (by rw [hasM_n hw ha]; decide)) (fun hz1 => ?_)
  refine e_aload_n (pc' := 10) dX9_walk_9 rfl rfl rfl ?_
  refine e_iload_n (pc' := 11) dX9_walk_10 rfl rfl rfl ?_
  refine r_V (pc' := 14) (m' := mX9_isMagnet) (As := [.int (nI b)]) (st := [.ref (ad 96)]) (g_isMagnet (d := d) r hw (nI b)) dX9_walk_11 rfl rfl (Nat.le_of_ble_eq_true rfl) (fit_of (by omega) (by decide) (by decide) (by decide)) ml_X9_66 okX9_isMagnet rfl rfl (by decide) rfl ?_
  show EV _ _ _ _ _ 14 _ ([.int (bI (hasM c (nI b))), .ref (ad 96)]) _
  refine e_if_eqB (pc' := 17) (tgt := 21) dX9_walk_14 rfl (by decide) (fun hz2 => absurd hz2 (by rw [hasM_n hw hb]; decide)) (fun hz2 => ?_)
  refine e_iconst (pc' := 18) (v := nI 0) dX9_walk_17 rfl (by decide) ?_
  refine e_goto (tgt := 22) dX9_walk_18 (by decide) ?_
  refine r_V (pc' := 25) (m' := mX9_fails) (As := [.int (nI 0)]) (st := []) (g_fails (d := d) (p := 0) (by omega)) dX9_walk_22 rfl rfl (Nat.le_of_ble_eq_true rfl) (fit_of (by omega) (by decide) (by decide) (by decide)) ml_X9_70 okX9_fails rfl rfl (by decide) rfl ?_
  show EV _ _ _ _ _ 25 _ ([.int (bI (decide (0 < 0)))]) _
  refine e_if_eqB (pc' := 28) (tgt := 30) dX9_walk_25 rfl (by decide) (fun hz3 => ?_) (fun hz3 => absurd hz3 (by decide))
  refine e_iconst (pc' := 31) (v := nI 1) dX9_walk_30 rfl (by decide) ?_
  refine e_iload_n (pc' := 32) dX9_walk_31 rfl rfl rfl ?_
  refine e_ishlN (pc' := 33) dX9_walk_32 rfl (by omega) (by rw [Nat.one_mul]; exact Nat.lt_trans (p2n9 (by omega)) (by decide)) ?_
  have r1 : RowAt (up2 (up2 M 96 8 (nI 0)) 96 7 (nI 0)) 97 0 c := ((r.up (by decide)).up (by decide))
  rw [show (1 * 2 ^ a) = wS c a 0 from Nat.one_mul _]
  refine e_istore_n (pc' := 34) (L' := [some (.ref (ad 96)), some (.int (nI a)), some (.int (nI b)), some (.int (nI (wS c a 0))), none, none, none, none]) dX9_walk_33 rfl rfl (by decide) rfl ?_
  refine e_iconst (pc' := 35) (v := nI 0) dX9_walk_34 rfl (by decide) ?_
  refine e_istore (pc' := 37) (L' := [some (.ref (ad 96)), some (.int (nI a)), some (.int (nI b)), some (.int (nI (wS c a 0))), some (.int (nI 0)), none, none, none]) dX9_walk_35 rfl (by decide) rfl ?_
  refine e_iconst (pc' := 38) (v := nI 0) dX9_walk_37 rfl (by decide) ?_
  refine e_istore (pc' := 40) (L' := [some (.ref (ad 96)), some (.int (nI a)), some (.int (nI b)), some (.int (nI (wS c a 0))), some (.int (nI 0)), some (.int (nI 0)), none, none]) dX9_walk_38 rfl (by decide) rfl ?_
  exact gl_walk QR.f r1 hw ha hb 0 (by omega) 0 0 (Nat.le_refl _) (by decide) ⟨fun k hk => absurd hk (Nat.not_lt_zero k), Or.inl ⟨rfl, rfl⟩, Nat.le_refl _⟩
theorem g_walk_no1 (r : RowAt M 97 0 c) (hw : WF c) (x y : Int32) (hx : hasM c x = false) : RETI G ad (d + 2) mX9_walk [.ref (ad 96), .int (x), .int (y)] (M, o) (some (.int (nI 0))) (QR 1 M) := by
  refine CM_of rfl (by decide) rfl (Nat.le_of_ble_eq_true rfl) rfl ?_
  have hn := hw.n
  have hk := hw.k
  have hw9 := hw.w9
  refine e_aload_n (pc' := 1) dX9_walk_0 rfl rfl rfl ?_
  refine e_aload_n (pc' := 2) dX9_walk_1 rfl rfl rfl ?_
  refine e_iload_n (pc' := 3) dX9_walk_2 rfl rfl rfl ?_
  refine r_V (pc' := 6) (m' := mX9_isMagnet) (As := [.int (x)]) (st := [.ref (ad 96)]) (g_isMagnet (d := d) r hw (x)) dX9_walk_3 rfl rfl (Nat.le_of_ble_eq_true rfl) (fit_of (by omega) (by decide) (by decide) (by decide)) ml_X9_66 okX9_isMagnet rfl rfl (by decide) rfl ?_
  show EV _ _ _ _ _ 6 _ ([.int (bI (hasM c (x))), .ref (ad 96)]) _
  refine e_if_eqB (pc' := 9) (tgt := 21) dX9_walk_6 rfl (by decide) (fun hz1 => ?_) (fun hz1 => absurd hz1 (by rw [hx]; decide))
  refine e_iconst (pc' := 22) (v := nI 1) dX9_walk_21 rfl (by decide) ?_
  refine r_V (pc' := 25) (m' := mX9_fails) (As := [.int (nI 1)]) (st := []) (g_fails (d := d) (p := 1) (by omega)) dX9_walk_22 rfl rfl (Nat.le_of_ble_eq_true rfl) (fit_of (by omega) (by decide) (by decide) (by decide)) ml_X9_70 okX9_fails rfl rfl (by decide) rfl ?_
  show EV _ _ _ _ _ 25 _ ([.int (bI (decide (0 < 1)))]) _
  refine e_if_eqB (pc' := 28) (tgt := 30) dX9_walk_25 rfl (by decide) (fun hz2 => absurd hz2 (by decide)) (fun hz2 => ?_)
  refine e_iconst (pc' := 29) (v := nI 0) dX9_walk_28 rfl (by decide) ?_
  exact e_iret dX9_walk_29 rfl (MP.retI (rfl) QR.f) (by decide) (by decide)
theorem g_walk_no2 (r : RowAt M 97 0 c) (hw : WF c) {a : Nat} (ha : a < cn c) (y : Int32) (hx : hasM c y = false) : RETI G ad (d + 2) mX9_walk [.ref (ad 96), .int (nI a), .int (y)] (M, o) (some (.int (nI 0))) (QR 1 M) := by
  refine CM_of rfl (by decide) rfl (Nat.le_of_ble_eq_true rfl) rfl ?_
  have hn := hw.n
  have hk := hw.k
  have hw9 := hw.w9
  refine e_aload_n (pc' := 1) dX9_walk_0 rfl rfl rfl ?_
  refine e_aload_n (pc' := 2) dX9_walk_1 rfl rfl rfl ?_
  refine e_iload_n (pc' := 3) dX9_walk_2 rfl rfl rfl ?_
  refine r_V (pc' := 6) (m' := mX9_isMagnet) (As := [.int (nI a)]) (st := [.ref (ad 96)]) (g_isMagnet (d := d) r hw (nI a)) dX9_walk_3 rfl rfl (Nat.le_of_ble_eq_true rfl) (fit_of (by omega) (by decide) (by decide) (by decide)) ml_X9_66 okX9_isMagnet rfl rfl (by decide) rfl ?_
  show EV _ _ _ _ _ 6 _ ([.int (bI (hasM c (nI a))), .ref (ad 96)]) _
  refine e_if_eqB (pc' := 9) (tgt := 21) dX9_walk_6 rfl (by decide) (fun hz1 => absurd hz1 (by rw [hasM_n hw ha]; decide)) (fun hz1 => ?_)
  refine e_aload_n (pc' := 10) dX9_walk_9 rfl rfl rfl ?_
  refine e_iload_n (pc' := 11) dX9_walk_10 rfl rfl rfl ?_
  refine r_V (pc' := 14) (m' := mX9_isMagnet) (As := [.int (y)]) (st := [.ref (ad 96)]) (g_isMagnet (d := d) r hw (y)) dX9_walk_11 rfl rfl (Nat.le_of_ble_eq_true rfl) (fit_of (by omega) (by decide) (by decide) (by decide)) ml_X9_66 okX9_isMagnet rfl rfl (by decide) rfl ?_
  show EV _ _ _ _ _ 14 _ ([.int (bI (hasM c (y))), .ref (ad 96)]) _
  refine e_if_eqB (pc' := 17) (tgt := 21) dX9_walk_14 rfl (by decide) (fun hz2 => ?_) (fun hz2 => absurd hz2 (by rw [hx]; decide))
  refine e_iconst (pc' := 22) (v := nI 1) dX9_walk_21 rfl (by decide) ?_
  refine r_V (pc' := 25) (m' := mX9_fails) (As := [.int (nI 1)]) (st := []) (g_fails (d := d) (p := 1) (by omega)) dX9_walk_22 rfl rfl (Nat.le_of_ble_eq_true rfl) (fit_of (by omega) (by decide) (by decide) (by decide)) ml_X9_70 okX9_fails rfl rfl (by decide) rfl ?_
  show EV _ _ _ _ _ 25 _ ([.int (bI (decide (0 < 1)))]) _
  refine e_if_eqB (pc' := 28) (tgt := 30) dX9_walk_25 rfl (by decide) (fun hz3 => absurd hz3 (by decide)) (fun hz3 => ?_)
  refine e_iconst (pc' := 29) (v := nI 0) dX9_walk_28 rfl (by decide) ?_
  exact e_iret dX9_walk_29 rfl (MP.retI (rfl) QR.f) (by decide) (by decide)
end T46

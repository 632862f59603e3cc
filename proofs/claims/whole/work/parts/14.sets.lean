set_option maxHeartbeats 400000
/-! SURVEY: turn sets, bounds, bridges -/
theorem p2_le {a n : Nat} (h : a ≤ n) : 2 ^ a ≤ 2 ^ n := Nat.pow_le_pow_right (by decide) h
theorem p2_lt {a n : Nat} (h : a < n) : 2 ^ a < 2 ^ n := Nat.pow_lt_pow_right (by decide) h
theorem p2_9 {a : Nat} (h : a < 9) : 2 ^ a < 512 := p2_lt (n := 9) h
theorem or9 {a b : Nat} (ha : a < 512) (hb : b < 512) : a ||| b < 512 := Nat.or_lt_two_pow (n := 9) ha hb
theorem xor9 {a b : Nat} (ha : a < 512) (hb : b < 512) : a ^^^ b < 512 := Nat.xor_lt_two_pow (n := 9) ha hb
theorem and9 {a b : Nat} (ha : a < 512) : a &&& b < 512 := Nat.and_lt_two_pow b (n := 9) ha |> fun h => by rw [Nat.and_comm]; exact h
theorem tb9 {w i : Nat} (h : w < 512) (hi : 9 ≤ i) : w.testBit i = false := Nat.testBit_lt_two_pow (Nat.lt_of_lt_of_le h (p2_le (n := i) hi))
theorem nx_not {e p : Nat} (he : e < 512) : nI e &&& (nI p ^^^ (-1)) = nI (e &&& (p ^^^ 511)) := by
  apply Int32.toBitVec_inj.1
  show BitVec.ofNat 32 e &&& (BitVec.ofNat 32 p ^^^ (-1#32)) = BitVec.ofNat 32 (e &&& (p ^^^ 511))
  apply BitVec.eq_of_getLsbD_eq
  intro i hi
  have h1 : (-1#32).getLsbD i = true := by
    have : ∀ i, i < 32 → (-1#32).getLsbD i = true := by decide
    exact this i hi
  have h2 : (511).testBit i = decide (i < 9) := by
    have : ∀ i, i < 32 → (511).testBit i = decide (i < 9) := by decide
    exact this i hi
  simp only [BitVec.getLsbD_and, BitVec.getLsbD_xor, BitVec.getLsbD_ofNat, Nat.testBit_and, Nat.testBit_xor, h1, h2, hi, decide_true, Bool.true_and]
  by_cases h9 : i < 9
  · simp [h9]
  · simp [h9, tb9 he (show 9 ≤ i by omega)]
theorem eq9 {a b : Nat} (ha : a < 512) (hb : b < 512) (h : ∀ i, i < 9 → a.testBit i = b.testBit i) : a = b := Nat.eq_of_testBit_eq (fun i => by
  by_cases h9 : i < 9
  · exact h i h9
  · rw [tb9 ha (by omega), tb9 hb (by omega)])
/-- what the ends reach beyond the part -/
def rea (f g p : Nat) : Nat := (1 * 2 ^ f ||| 1 * 2 ^ g) &&& (p ^^^ 511)
theorem rea_tb {f g p i : Nat} (hi : i < 9) : (rea f g p).testBit i = ((decide (f = i) || decide (g = i)) && !p.testBit i) := by
  have h2 : (511).testBit i = true := by
    have : ∀ i, i < 9 → (511).testBit i = true := by decide
    exact this i hi
  unfold rea
  rw [Nat.one_mul, Nat.one_mul, Nat.testBit_and, Nat.testBit_or, Nat.testBit_xor, Nat.testBit_two_pow, Nat.testBit_two_pow, h2]
  simp
theorem ends_lt {f g : Nat} (hf : f < 9) (hg : g < 9) : 1 * 2 ^ f ||| 1 * 2 ^ g < 512 := or9 (by rw [Nat.one_mul]; exact p2_9 hf) (by rw [Nat.one_mul]; exact p2_9 hg)
theorem rea_lt {f g p : Nat} (hf : f < 9) (hg : g < 9) : rea f g p < 512 := and9 (ends_lt hf hg)
theorem rea_0 {f g p : Nat} (hf : f < 9) (hg : g < 9) (h : rea f g p = 0) : p.testBit f = true ∧ p.testBit g = true := by
  have h1 := rea_tb (f := f) (g := g) (p := p) hf
  have h2 := rea_tb (f := f) (g := g) (p := p) hg
  rw [h, Nat.zero_testBit] at h1 h2
  simp at h1 h2
  exact ⟨h1, h2⟩
theorem rea_all {f g p : Nat} (hf : f < 9) (hg : g < 9) (h : rea f g p = 1 * 2 ^ f ||| 1 * 2 ^ g) : p.testBit f = false ∧ p.testBit g = false := by
  have h1 := rea_tb (f := f) (g := g) (p := p) hf
  have h2 := rea_tb (f := f) (g := g) (p := p) hg
  rw [h, Nat.one_mul, Nat.one_mul, Nat.testBit_or, Nat.testBit_two_pow, Nat.testBit_two_pow] at h1 h2
  simp at h1 h2
  exact ⟨h1, h2⟩
theorem rea_some {f g p : Nat} (hf : f < 9) (hg : g < 9) (h0 : ¬ rea f g p = 0) (h1 : ¬ rea f g p = 1 * 2 ^ f ||| 1 * 2 ^ g) : ¬ p.testBit f = p.testBit g ∧ rea f g p = 2 ^ (if p.testBit f then g else f) := by
  have k : ¬ p.testBit f = p.testBit g := fun q => by
    cases hp : p.testBit f
    · refine h1 (eq9 (rea_lt hf hg) (ends_lt hf hg) (fun i hi => ?_))
      rw [rea_tb hi, Nat.one_mul, Nat.one_mul, Nat.testBit_or, Nat.testBit_two_pow, Nat.testBit_two_pow]
      by_cases e : f = i
      · subst e; simp [hp]
      · by_cases e2 : g = i
        · subst e2; simp [← q, hp]
        · simp [e, e2]
    · refine h0 (eq9 (rea_lt hf hg) (by decide) (fun i hi => ?_))
      rw [rea_tb hi, Nat.zero_testBit]
      by_cases e : f = i
      · subst e; simp [hp]
      · by_cases e2 : g = i
        · subst e2; simp [← q, hp]
        · simp [e, e2]
  refine ⟨k, eq9 (rea_lt hf hg) (p2_9 (by split <;> assumption)) (fun i hi => ?_)⟩
  rw [rea_tb hi, Nat.testBit_two_pow]
  cases hp : p.testBit f
  · have hq : p.testBit g = true := by rw [hp] at k; simpa using k
    by_cases e : f = i
    · subst e; simp [hp]
    · by_cases e2 : g = i
      · subst e2; simp [hq]; exact e
      · simp [e, e2]
  · have hq : p.testBit g = false := by rw [hp] at k; simpa using k
    by_cases e2 : g = i
    · subst e2; simp [hq]
    · by_cases e : f = i
      · subst e; simp [hp]; exact e2
      · simp [e, e2]
theorem ends_gn {f g q : Nat} (hf : f < 9) (hg : g < 9) : ((1 * 2 ^ f ||| 1 * 2 ^ g) &&& q = 0) ↔ (q.testBit f || q.testBit g) = false := by
  constructor
  · intro h
    have h1 : ∀ i, ((1 * 2 ^ f ||| 1 * 2 ^ g) &&& q).testBit i = false := fun i => by rw [h, Nat.zero_testBit]
    have h2 := h1 f
    have h3 := h1 g
    rw [Nat.one_mul, Nat.one_mul, Nat.testBit_and, Nat.testBit_or, Nat.testBit_two_pow, Nat.testBit_two_pow] at h2 h3
    simp at h2 h3
    rw [h2, h3]; rfl
  · intro h
    rw [Bool.or_eq_false_iff] at h
    refine Nat.eq_of_testBit_eq (fun i => ?_)
    rw [Nat.one_mul, Nat.one_mul, Nat.testBit_and, Nat.testBit_or, Nat.testBit_two_pow, Nat.testBit_two_pow, Nat.zero_testBit]
    by_cases e : f = i
    · subst e; simp [h.1]
    · by_cases e2 : g = i
      · subst e2; simp [h.2]
      · simp [e, e2]
section T14
variable {G : gC} {ad : Nat → Nat} {d : Nat} {M : Nat → Nat → Int32} {o : (Nat → Int64) × (Nat → UInt64)} {c : Col}
theorem blkN_le (w : Nat) : blkN c w ≤ ck c := cnt_le _ _
theorem pst_same {j : Nat} {s : Nat × Nat} (h : s.1.testBit (cf c j) = s.1.testBit (cg c j)) : pst c j s = s := if_pos h
theorem pst_diff {j : Nat} {s : Nat × Nat} (hw : WF c) (hj : j < ck c) (h0 : ¬ rea (cf c j) (cg c j) s.1 = 0) (h1 : ¬ rea (cf c j) (cg c j) s.1 = 1 * 2 ^ cf c j ||| 1 * 2 ^ cg c j) : pst c j s = (s.1 ||| rea (cf c j) (cg c j) s.1, if (1 * 2 ^ cf c j ||| 1 * 2 ^ cg c j) &&& s.2 = 0 then s.2 ||| rea (cf c j) (cg c j) s.1 else s.2) := by
  have hn := hw.n
  have hf := hw.f hj
  have hg := hw.g hj
  obtain ⟨k, e⟩ := rea_some (by omega) (by omega) h0 h1
  unfold pst
  rw [if_neg k, ← e]
  by_cases q : (1 * 2 ^ cf c j ||| 1 * 2 ^ cg c j) &&& s.2 = 0
  · rw [if_pos q, if_neg (by rw [(ends_gn (by omega) (by omega)).mp q]; decide)]
  · rw [if_neg q, if_pos (by have := mt (ends_gn (by omega) (by omega)).mpr q; rwa [Bool.not_eq_false] at this)]
theorem pst_lt {j : Nat} {s : Nat × Nat} (hw : WF c) (hj : j < ck c) (h1 : s.1 < 512) (h2 : s.2 < 512) : (pst c j s).1 < 512 ∧ (pst c j s).2 < 512 := by
  have hn := hw.n
  have hf := hw.f hj
  have hg := hw.g hj
  have hx : 2 ^ (if s.1.testBit (cf c j) = true then cg c j else cf c j) < 512 := p2_9 (by split <;> omega)
  unfold pst
  split
  · exact ⟨h1, h2⟩
  · refine ⟨or9 h1 hx, ?_⟩
    show (if _ then _ else _) < 512
    split
    · exact h2
    · exact or9 h2 hx
theorem pit_lt {s : Nat × Nat} (hw : WF c) (h1 : s.1 < 512) (h2 : s.2 < 512) : ∀ j, j ≤ ck c → (iter (pst c) j s).1 < 512 ∧ (iter (pst c) j s).2 < 512
  | 0, _ => ⟨h1, h2⟩
  | j + 1, h => by
    obtain ⟨a, b⟩ := pit_lt hw h1 h2 j (by omega)
    exact pst_lt hw (by omega) a b
theorem prw_lt {s : Nat × Nat} (hw : WF c) (h1 : s.1 < 512) (h2 : s.2 < 512) : ∀ j, (iter (prow c) j s).1 < 512 ∧ (iter (prow c) j s).2 < 512
  | 0 => ⟨h1, h2⟩
  | j + 1 => by
    obtain ⟨a, b⟩ := prw_lt hw h1 h2 j
    exact pit_lt hw a b (ck c) (Nat.le_refl _)
theorem giv_lt {m gn : Nat} (hw : WF c) (hm : m < 9) (h2 : gn < 512) : (giv c m gn).1 < 512 ∧ (giv c m gn).2 < 512 := prw_lt hw (p2_9 hm) (or9 h2 (p2_9 hm)) _
theorem btO_lt {gn p m : Nat} (h1 : p < 512) (h2 : gn < 512) : btO c gn p m < 512 := by
  have a : p &&& (gn ^^^ cw c) < 512 := and9 h1
  have b : p ^^^ (p &&& (gn ^^^ cw c)) < 512 := xor9 h1 a
  unfold btO
  dsimp only
  split
  · split <;> assumption
  · split <;> assumption
theorem bst_lt {m : Nat} {s : Nat × Nat × Nat} (hw : WF c) (hm : m < 9) (h1 : s.1 < 512) (h2 : s.2.1 < 512) (h3 : s.2.2 < 512) : (bst c m s).1 < 512 ∧ (bst c m s).2.1 < 512 ∧ (bst c m s).2.2 < 512 := by
  obtain ⟨a, b⟩ := giv_lt hw hm h1
  unfold bst
  split
  · exact ⟨h1, h2, h3⟩
  · exact ⟨b, or9 h2 a, or9 h3 (btO_lt a b)⟩
theorem bsts_lt (hw : WF c) : ∀ i, i ≤ 9 → (bsts c i).1 < 512 ∧ (bsts c i).2.1 < 512 ∧ (bsts c i).2.2 < 512
  | 0, _ => ⟨(by show (0 : Nat) < 512; decide), (by show (0 : Nat) < 512; decide), (by show (0 : Nat) < 512; decide)⟩
  | i + 1, h => by
    obtain ⟨a, b, d⟩ := bsts_lt hw i (by omega)
    exact bst_lt hw (by omega) a b d
theorem l_gp2 {M0 : Nat → Nat → Int32} (hw : WF c) {m gn : Nat} (hm : m < cn c) (hgn : gn < 512) {k : Nat} (hkn : k < cn c - 1) (kont : ∀ M, ColAt M 1 c → M 7 5 = nI (iter (prow c) (k + 1) (2 ^ m, gn ||| 2 ^ m)).2 → KP (inR 7 11) M0 M → ER G ad d mX6_givePolesFrom (0, 0) (PI (some (.int (nI ((giv c m gn).1)))) o (fun M' => M' 7 5 = nI (giv c m gn).2 ∧ KP (inR 7 11) M0 M')) (0, 0) 16 [some (.ref (ad 7)), some (.int (nI m)), some (.int (nI ((iter (prow c) (k + 1) (2 ^ m, gn ||| 2 ^ m)).1))), some (.int (nI (k + 1 + 1))), none, none, none] [] (M, o)) : ∀ i, i ≤ ck c → ∀ (M : Nat → Nat → Int32), ColAt M 1 c → M 7 5 = nI (iter (pst c) i (iter (prow c) k (2 ^ m, gn ||| 2 ^ m))).2 → KP (inR 7 11) M0 M → ER G ad d mX6_givePolesFrom (0, 0) (PI (some (.int (nI ((giv c m gn).1)))) o (fun M' => M' 7 5 = nI (giv c m gn).2 ∧ KP (inR 7 11) M0 M')) (0, 0) 30 [some (.ref (ad 7)), some (.int (nI m)), some (.int (nI ((iter (pst c) i (iter (prow c) k (2 ^ m, gn ||| 2 ^ m))).1))), some (.int (nI (k + 1))), some (.int (nI i)), none, none] [] (M, o) := down (ck c) _ (fun i hi ih M h h5 h2 => by
  have hn := hw.n
  have hk := hw.k
  have hw9 := hw.w9
  have hK := prw_lt (s := (2 ^ m, gn ||| 2 ^ m)) hw (p2_9 (by omega)) (or9 hgn (p2_9 (by omega))) k
  have hI := pit_lt hw hK.1 hK.2 i hi
  refine e_iload (pc' := 32) dX6_givePolesFrom_30 rfl rfl ?_
  refine e_aload_n (pc' := 33) dX6_givePolesFrom_32 rfl rfl rfl ?_
  refine p_gfr (pc' := 36) (a := 7) (k := 0) (t := 1) dX6_givePolesFrom_33 rfl rfl (by decide) (by decide) rfl fl_X6_24 ?_
  refine p_gfi (pc' := 39) (a := 1) (k := 5) (x := nI (ck c)) dX6_givePolesFrom_36 rfl (rfl) (by decide) (by decide) rfl fl_X6_37 (h.k) ?_
  refine e_icmp_geN (pc' := 42) (tgt := 124) dX6_givePolesFrom_39 rfl (by decide) (by first | omega | exact p2_9 (by omega) | (rw [Nat.one_mul]; exact Nat.lt_trans (p2_9 (by omega)) (by decide)) | (exact Nat.lt_trans (ends_lt (by omega) (by omega)) (by decide)) | (exact Nat.lt_trans (rea_lt (by omega) (by omega)) (by decide)) | (exact Nat.lt_trans (and9 (ends_lt (by omega) (by omega))) (by decide))) (by first | omega | exact p2_9 (by omega) | (rw [Nat.one_mul]; exact Nat.lt_trans (p2_9 (by omega)) (by decide)) | (exact Nat.lt_trans (ends_lt (by omega) (by omega)) (by decide)) | (exact Nat.lt_trans (rea_lt (by omega) (by omega)) (by decide)) | (exact Nat.lt_trans (and9 (ends_lt (by omega) (by omega))) (by decide))) (fun hz1 => ?_) (fun hz1 => ?_)
  · refine e_iincN (pc' := 127) (k := 1) (L' := [some (.ref (ad 7)), some (.int (nI m)), some (.int (nI ((iter (pst c) i (iter (prow c) k (2 ^ m, gn ||| 2 ^ m))).1))), some (.int (nI (k + 1 + 1))), some (.int (nI i)), none, none]) dX6_givePolesFrom_124 rfl rfl rfl (by decide) rfl ?_
    refine e_goto (tgt := 16) dX6_givePolesFrom_127 (by decide) ?_
    refine e_fg (i := 4) (L' := [some (.ref (ad 7)), some (.int (nI m)), some (.int (nI ((iter (pst c) i (iter (prow c) k (2 ^ m, gn ||| 2 ^ m))).1))), some (.int (nI (k + 1 + 1))), none, none, none]) rfl ?_
    obtain rfl : i = ck c := by omega
    exact kont _ h h5 h2
  · refine e_iconst (pc' := 43) (v := nI 1) dX6_givePolesFrom_42 rfl (by decide) ?_
    refine e_aload_n (pc' := 44) dX6_givePolesFrom_43 rfl rfl rfl ?_
    refine p_gfr (pc' := 47) (a := 7) (k := 0) (t := 1) dX6_givePolesFrom_44 rfl rfl (by decide) (by decide) rfl fl_X6_24 ?_
    refine p_gfr (pc' := 50) (a := 1) (k := 6) (t := 5) dX6_givePolesFrom_47 rfl rfl (by decide) (by decide) rfl fl_X6_40 ?_
    refine e_iload (pc' := 52) dX6_givePolesFrom_50 rfl rfl ?_
    have hi1 : i < ck c := by first | omega | exact p2_9 (by omega) | (rw [Nat.one_mul]; exact Nat.lt_trans (p2_9 (by omega)) (by decide)) | (exact Nat.lt_trans (ends_lt (by omega) (by omega)) (by decide)) | (exact Nat.lt_trans (rea_lt (by omega) (by omega)) (by decide)) | (exact Nat.lt_trans (and9 (ends_lt (by omega) (by omega))) (by decide))
    have hb1 := hw.f hi1
    refine p_iald (pc' := 53) (a := 5) (k := i) (x := nI (cf c i)) dX6_givePolesFrom_52 rfl (rfl) (rfl) (by first | omega | exact p2_9 (by omega) | (rw [Nat.one_mul]; exact Nat.lt_trans (p2_9 (by omega)) (by decide)) | (exact Nat.lt_trans (ends_lt (by omega) (by omega)) (by decide)) | (exact Nat.lt_trans (rea_lt (by omega) (by omega)) (by decide)) | (exact Nat.lt_trans (and9 (ends_lt (by omega) (by omega))) (by decide))) (by decide) (h.f hi1) ?_
    refine e_ishlN (pc' := 54) dX6_givePolesFrom_53 rfl (by omega) (by rw [Nat.one_mul]; exact Nat.lt_trans (p2_9 (by omega)) (by decide)) ?_
    refine e_iconst (pc' := 55) (v := nI 1) dX6_givePolesFrom_54 rfl (by decide) ?_
    refine e_aload_n (pc' := 56) dX6_givePolesFrom_55 rfl rfl rfl ?_
    refine p_gfr (pc' := 59) (a := 7) (k := 0) (t := 1) dX6_givePolesFrom_56 rfl rfl (by decide) (by decide) rfl fl_X6_24 ?_
    refine p_gfr (pc' := 62) (a := 1) (k := 7) (t := 6) dX6_givePolesFrom_59 rfl rfl (by decide) (by decide) rfl fl_X6_43 ?_
    refine e_iload (pc' := 64) dX6_givePolesFrom_62 rfl rfl ?_
    have hi2 : i < ck c := by first | omega | exact p2_9 (by omega) | (rw [Nat.one_mul]; exact Nat.lt_trans (p2_9 (by omega)) (by decide)) | (exact Nat.lt_trans (ends_lt (by omega) (by omega)) (by decide)) | (exact Nat.lt_trans (rea_lt (by omega) (by omega)) (by decide)) | (exact Nat.lt_trans (and9 (ends_lt (by omega) (by omega))) (by decide))
    have hb2 := hw.g hi2
    refine p_iald (pc' := 65) (a := 6) (k := i) (x := nI (cg c i)) dX6_givePolesFrom_64 rfl (rfl) (rfl) (by first | omega | exact p2_9 (by omega) | (rw [Nat.one_mul]; exact Nat.lt_trans (p2_9 (by omega)) (by decide)) | (exact Nat.lt_trans (ends_lt (by omega) (by omega)) (by decide)) | (exact Nat.lt_trans (rea_lt (by omega) (by omega)) (by decide)) | (exact Nat.lt_trans (and9 (ends_lt (by omega) (by omega))) (by decide))) (by decide) (h.g hi2) ?_
    refine e_ishlN (pc' := 66) dX6_givePolesFrom_65 rfl (by omega) (by rw [Nat.one_mul]; exact Nat.lt_trans (p2_9 (by omega)) (by decide)) ?_
    refine e_iorN (pc' := 67) dX6_givePolesFrom_66 rfl ?_
    refine e_istore (pc' := 69) (L' := [some (.ref (ad 7)), some (.int (nI m)), some (.int (nI ((iter (pst c) i (iter (prow c) k (2 ^ m, gn ||| 2 ^ m))).1))), some (.int (nI (k + 1))), some (.int (nI i)), some (.int (nI ((1 * 2 ^ (cf c i)) ||| (1 * 2 ^ (cg c i))))), none]) dX6_givePolesFrom_67 rfl (by decide) rfl ?_
    refine e_iload (pc' := 71) dX6_givePolesFrom_69 rfl rfl ?_
    refine e_iload_n (pc' := 72) dX6_givePolesFrom_71 rfl rfl rfl ?_
    refine e_iconst (pc' := 73) (v := (-1)) dX6_givePolesFrom_72 rfl (by decide) ?_
    refine e_ixor (pc' := 74) dX6_givePolesFrom_73 rfl ?_
    refine e_iand (pc' := 75) dX6_givePolesFrom_74 rfl ?_
    rw [show ((nI ((1 * 2 ^ (cf c i)) ||| (1 * 2 ^ (cg c i)))) &&& ((nI ((iter (pst c) i (iter (prow c) k (2 ^ m, gn ||| 2 ^ m))).1)) ^^^ ((-1)))) = nI (rea (cf c i) (cg c i) (iter (pst c) i (iter (prow c) k (2 ^ m, gn ||| 2 ^ m))).1) from nx_not (ends_lt (by omega) (by omega))]
    refine e_istore (pc' := 77) (L' := [some (.ref (ad 7)), some (.int (nI m)), some (.int (nI ((iter (pst c) i (iter (prow c) k (2 ^ m, gn ||| 2 ^ m))).1))), some (.int (nI (k + 1))), some (.int (nI i)), some (.int (nI ((1 * 2 ^ (cf c i)) ||| (1 * 2 ^ (cg c i))))), some (.int (nI (rea (cf c i) (cg c i) (iter (pst c) i (iter (prow c) k (2 ^ m, gn ||| 2 ^ m))).1)))]) dX6_givePolesFrom_75 rfl (by decide) rfl ?_
    refine e_iload (pc' := 79) dX6_givePolesFrom_77 rfl rfl ?_
    refine e_if_eqN (pc' := 82) (tgt := 118) dX6_givePolesFrom_79 rfl (by decide) (by first | omega | exact p2_9 (by omega) | (rw [Nat.one_mul]; exact Nat.lt_trans (p2_9 (by omega)) (by decide)) | (exact Nat.lt_trans (ends_lt (by omega) (by omega)) (by decide)) | (exact Nat.lt_trans (rea_lt (by omega) (by omega)) (by decide)) | (exact Nat.lt_trans (and9 (ends_lt (by omega) (by omega))) (by decide))) (fun hr => ?_) (fun hr => ?_)
    · refine e_iincN (pc' := 121) (k := 1) (L' := [some (.ref (ad 7)), some (.int (nI m)), some (.int (nI ((iter (pst c) i (iter (prow c) k (2 ^ m, gn ||| 2 ^ m))).1))), some (.int (nI (k + 1))), some (.int (nI (i + 1))), some (.int (nI ((1 * 2 ^ (cf c i)) ||| (1 * 2 ^ (cg c i))))), some (.int (nI (rea (cf c i) (cg c i) (iter (pst c) i (iter (prow c) k (2 ^ m, gn ||| 2 ^ m))).1)))]) dX6_givePolesFrom_118 rfl rfl rfl (by decide) rfl ?_
      refine e_goto (tgt := 30) dX6_givePolesFrom_121 (by decide) ?_
      refine e_fg (i := 5) (L' := [some (.ref (ad 7)), some (.int (nI m)), some (.int (nI ((iter (pst c) i (iter (prow c) k (2 ^ m, gn ||| 2 ^ m))).1))), some (.int (nI (k + 1))), some (.int (nI (i + 1))), none, some (.int (nI (rea (cf c i) (cg c i) (iter (pst c) i (iter (prow c) k (2 ^ m, gn ||| 2 ^ m))).1)))]) rfl ?_
      refine e_fg (i := 6) (L' := [some (.ref (ad 7)), some (.int (nI m)), some (.int (nI ((iter (pst c) i (iter (prow c) k (2 ^ m, gn ||| 2 ^ m))).1))), some (.int (nI (k + 1))), some (.int (nI (i + 1))), none, none]) rfl ?_
      have e : iter (pst c) (i + 1) (iter (prow c) k (2 ^ m, gn ||| 2 ^ m)) = (iter (pst c) i (iter (prow c) k (2 ^ m, gn ||| 2 ^ m))) := pst_same (by first | (have q := rea_0 (by omega) (by omega) hr; rw [q.1, q.2]) | (have q := rea_all (by omega) (by omega) hs; rw [q.1, q.2]))
      exact ih (by omega) |> fun q => by rw [e] at q; exact q _ h h5 h2
    · refine e_iload (pc' := 84) dX6_givePolesFrom_82 rfl rfl ?_
      refine e_iload (pc' := 86) dX6_givePolesFrom_84 rfl rfl ?_
      refine e_icmp_neN (pc' := 89) (tgt := 92) dX6_givePolesFrom_86 rfl (by decide) (by first | omega | exact p2_9 (by omega) | (rw [Nat.one_mul]; exact Nat.lt_trans (p2_9 (by omega)) (by decide)) | (exact Nat.lt_trans (ends_lt (by omega) (by omega)) (by decide)) | (exact Nat.lt_trans (rea_lt (by omega) (by omega)) (by decide)) | (exact Nat.lt_trans (and9 (ends_lt (by omega) (by omega))) (by decide))) (by first | omega | exact p2_9 (by omega) | (rw [Nat.one_mul]; exact Nat.lt_trans (p2_9 (by omega)) (by decide)) | (exact Nat.lt_trans (ends_lt (by omega) (by omega)) (by decide)) | (exact Nat.lt_trans (rea_lt (by omega) (by omega)) (by decide)) | (exact Nat.lt_trans (and9 (ends_lt (by omega) (by omega))) (by decide))) (fun hs => ?_) (fun hs => ?_)
      · refine e_iload_n (pc' := 93) dX6_givePolesFrom_92 rfl rfl rfl ?_
        refine e_iload (pc' := 95) dX6_givePolesFrom_93 rfl rfl ?_
        refine e_iorN (pc' := 96) dX6_givePolesFrom_95 rfl ?_
        refine e_istore_n (pc' := 97) (L' := [some (.ref (ad 7)), some (.int (nI m)), some (.int (nI (((iter (pst c) i (iter (prow c) k (2 ^ m, gn ||| 2 ^ m))).1) ||| (rea (cf c i) (cg c i) (iter (pst c) i (iter (prow c) k (2 ^ m, gn ||| 2 ^ m))).1)))), some (.int (nI (k + 1))), some (.int (nI i)), some (.int (nI ((1 * 2 ^ (cf c i)) ||| (1 * 2 ^ (cg c i))))), some (.int (nI (rea (cf c i) (cg c i) (iter (pst c) i (iter (prow c) k (2 ^ m, gn ||| 2 ^ m))).1)))]) dX6_givePolesFrom_96 rfl rfl (by decide) rfl ?_
        refine e_iload (pc' := 99) dX6_givePolesFrom_97 rfl rfl ?_
        refine e_aload_n (pc' := 100) dX6_givePolesFrom_99 rfl rfl rfl ?_
        refine p_gfi (pc' := 103) (a := 7) (k := 5) (x := nI ((iter (pst c) i (iter (prow c) k (2 ^ m, gn ||| 2 ^ m))).2)) dX6_givePolesFrom_100 rfl (rfl) (by decide) (by decide) rfl fl_X6_95 (h5) ?_
        refine e_iandN (pc' := 104) dX6_givePolesFrom_103 rfl ?_
        refine e_if_neN (pc' := 107) (tgt := 118) dX6_givePolesFrom_104 rfl (by decide) (by first | omega | exact p2_9 (by omega) | (rw [Nat.one_mul]; exact Nat.lt_trans (p2_9 (by omega)) (by decide)) | (exact Nat.lt_trans (ends_lt (by omega) (by omega)) (by decide)) | (exact Nat.lt_trans (rea_lt (by omega) (by omega)) (by decide)) | (exact Nat.lt_trans (and9 (ends_lt (by omega) (by omega))) (by decide))) (fun hq => ?_) (fun hq => ?_)
        · refine e_iincN (pc' := 121) (k := 1) (L' := [some (.ref (ad 7)), some (.int (nI m)), some (.int (nI (((iter (pst c) i (iter (prow c) k (2 ^ m, gn ||| 2 ^ m))).1) ||| (rea (cf c i) (cg c i) (iter (pst c) i (iter (prow c) k (2 ^ m, gn ||| 2 ^ m))).1)))), some (.int (nI (k + 1))), some (.int (nI (i + 1))), some (.int (nI ((1 * 2 ^ (cf c i)) ||| (1 * 2 ^ (cg c i))))), some (.int (nI (rea (cf c i) (cg c i) (iter (pst c) i (iter (prow c) k (2 ^ m, gn ||| 2 ^ m))).1)))]) dX6_givePolesFrom_118 rfl rfl rfl (by decide) rfl ?_
          refine e_goto (tgt := 30) dX6_givePolesFrom_121 (by decide) ?_
          refine e_fg (i := 5) (L' := [some (.ref (ad 7)), some (.int (nI m)), some (.int (nI (((iter (pst c) i (iter (prow c) k (2 ^ m, gn ||| 2 ^ m))).1) ||| (rea (cf c i) (cg c i) (iter (pst c) i (iter (prow c) k (2 ^ m, gn ||| 2 ^ m))).1)))), some (.int (nI (k + 1))), some (.int (nI (i + 1))), none, some (.int (nI (rea (cf c i) (cg c i) (iter (pst c) i (iter (prow c) k (2 ^ m, gn ||| 2 ^ m))).1)))]) rfl ?_
          refine e_fg (i := 6) (L' := [some (.ref (ad 7)), some (.int (nI m)), some (.int (nI (((iter (pst c) i (iter (prow c) k (2 ^ m, gn ||| 2 ^ m))).1) ||| (rea (cf c i) (cg c i) (iter (pst c) i (iter (prow c) k (2 ^ m, gn ||| 2 ^ m))).1)))), some (.int (nI (k + 1))), some (.int (nI (i + 1))), none, none]) rfl ?_
          have e : iter (pst c) (i + 1) (iter (prow c) k (2 ^ m, gn ||| 2 ^ m)) = ((iter (pst c) i (iter (prow c) k (2 ^ m, gn ||| 2 ^ m))).1 ||| rea (cf c i) (cg c i) (iter (pst c) i (iter (prow c) k (2 ^ m, gn ||| 2 ^ m))).1, (iter (pst c) i (iter (prow c) k (2 ^ m, gn ||| 2 ^ m))).2) := (pst_diff hw (by omega) hr hs).trans (by rw [if_neg hq])
          exact ih (by omega) |> fun q => by rw [e] at q; exact q _ h h5 h2
        · refine e_aload_n (pc' := 108) dX6_givePolesFrom_107 rfl rfl rfl ?_
          refine e_dup (pc' := 109) dX6_givePolesFrom_108 rfl rfl ?_
          refine p_gfi (pc' := 112) (a := 7) (k := 5) (x := nI ((iter (pst c) i (iter (prow c) k (2 ^ m, gn ||| 2 ^ m))).2)) dX6_givePolesFrom_109 rfl (rfl) (by decide) (by decide) rfl fl_X6_95 (h5) ?_
          refine e_iload (pc' := 114) dX6_givePolesFrom_112 rfl rfl ?_
          refine e_iorN (pc' := 115) dX6_givePolesFrom_114 rfl ?_
          refine p_pfi (pc' := 118) (a := 7) (k := 5) dX6_givePolesFrom_115 rfl (rfl) (by decide) (by decide) rfl fl_X6_95 rfl rfl ?_
          refine e_iincN (pc' := 121) (k := 1) (L' := [some (.ref (ad 7)), some (.int (nI m)), some (.int (nI (((iter (pst c) i (iter (prow c) k (2 ^ m, gn ||| 2 ^ m))).1) ||| (rea (cf c i) (cg c i) (iter (pst c) i (iter (prow c) k (2 ^ m, gn ||| 2 ^ m))).1)))), some (.int (nI (k + 1))), some (.int (nI (i + 1))), some (.int (nI ((1 * 2 ^ (cf c i)) ||| (1 * 2 ^ (cg c i))))), some (.int (nI (rea (cf c i) (cg c i) (iter (pst c) i (iter (prow c) k (2 ^ m, gn ||| 2 ^ m))).1)))]) dX6_givePolesFrom_118 rfl rfl rfl (by decide) rfl ?_
          refine e_goto (tgt := 30) dX6_givePolesFrom_121 (by decide) ?_
          refine e_fg (i := 5) (L' := [some (.ref (ad 7)), some (.int (nI m)), some (.int (nI (((iter (pst c) i (iter (prow c) k (2 ^ m, gn ||| 2 ^ m))).1) ||| (rea (cf c i) (cg c i) (iter (pst c) i (iter (prow c) k (2 ^ m, gn ||| 2 ^ m))).1)))), some (.int (nI (k + 1))), some (.int (nI (i + 1))), none, some (.int (nI (rea (cf c i) (cg c i) (iter (pst c) i (iter (prow c) k (2 ^ m, gn ||| 2 ^ m))).1)))]) rfl ?_
          refine e_fg (i := 6) (L' := [some (.ref (ad 7)), some (.int (nI m)), some (.int (nI (((iter (pst c) i (iter (prow c) k (2 ^ m, gn ||| 2 ^ m))).1) ||| (rea (cf c i) (cg c i) (iter (pst c) i (iter (prow c) k (2 ^ m, gn ||| 2 ^ m))).1)))), some (.int (nI (k + 1))), some (.int (nI (i + 1))), none, none]) rfl ?_
          have e : iter (pst c) (i + 1) (iter (prow c) k (2 ^ m, gn ||| 2 ^ m)) = ((iter (pst c) i (iter (prow c) k (2 ^ m, gn ||| 2 ^ m))).1 ||| rea (cf c i) (cg c i) (iter (pst c) i (iter (prow c) k (2 ^ m, gn ||| 2 ^ m))).1, (iter (pst c) i (iter (prow c) k (2 ^ m, gn ||| 2 ^ m))).2 ||| rea (cf c i) (cg c i) (iter (pst c) i (iter (prow c) k (2 ^ m, gn ||| 2 ^ m))).1) := (pst_diff hw (by omega) hr hs).trans (by rw [if_pos hq])
          exact ih (by omega) |> fun q => by rw [e] at q; exact q _ (h.up (by decide)) up2_s (h2.up (by decide))
      · refine e_goto (tgt := 118) dX6_givePolesFrom_89 (by decide) ?_
        refine e_iincN (pc' := 121) (k := 1) (L' := [some (.ref (ad 7)), some (.int (nI m)), some (.int (nI ((iter (pst c) i (iter (prow c) k (2 ^ m, gn ||| 2 ^ m))).1))), some (.int (nI (k + 1))), some (.int (nI (i + 1))), some (.int (nI ((1 * 2 ^ (cf c i)) ||| (1 * 2 ^ (cg c i))))), some (.int (nI (rea (cf c i) (cg c i) (iter (pst c) i (iter (prow c) k (2 ^ m, gn ||| 2 ^ m))).1)))]) dX6_givePolesFrom_118 rfl rfl rfl (by decide) rfl ?_
        refine e_goto (tgt := 30) dX6_givePolesFrom_121 (by decide) ?_
        refine e_fg (i := 5) (L' := [some (.ref (ad 7)), some (.int (nI m)), some (.int (nI ((iter (pst c) i (iter (prow c) k (2 ^ m, gn ||| 2 ^ m))).1))), some (.int (nI (k + 1))), some (.int (nI (i + 1))), none, some (.int (nI (rea (cf c i) (cg c i) (iter (pst c) i (iter (prow c) k (2 ^ m, gn ||| 2 ^ m))).1)))]) rfl ?_
        refine e_fg (i := 6) (L' := [some (.ref (ad 7)), some (.int (nI m)), some (.int (nI ((iter (pst c) i (iter (prow c) k (2 ^ m, gn ||| 2 ^ m))).1))), some (.int (nI (k + 1))), some (.int (nI (i + 1))), none, none]) rfl ?_
        have e : iter (pst c) (i + 1) (iter (prow c) k (2 ^ m, gn ||| 2 ^ m)) = (iter (pst c) i (iter (prow c) k (2 ^ m, gn ||| 2 ^ m))) := pst_same (by first | (have q := rea_0 (by omega) (by omega) hr; rw [q.1, q.2]) | (have q := rea_all (by omega) (by omega) hs; rw [q.1, q.2]))
        exact ih (by omega) |> fun q => by rw [e] at q; exact q _ h h5 h2)
theorem l_gp1 {M0 : Nat → Nat → Int32} (hw : WF c) {m gn : Nat} (hm : m < cn c) (hgn : gn < 512) : ∀ i, i ≤ cn c - 1 → ∀ (M : Nat → Nat → Int32), ColAt M 1 c → M 7 5 = nI (iter (prow c) i (2 ^ m, gn ||| 2 ^ m)).2 → KP (inR 7 11) M0 M → ER G ad d mX6_givePolesFrom (0, 0) (PI (some (.int (nI ((giv c m gn).1)))) o (fun M' => M' 7 5 = nI (giv c m gn).2 ∧ KP (inR 7 11) M0 M')) (0, 0) 16 [some (.ref (ad 7)), some (.int (nI m)), some (.int (nI ((iter (prow c) i (2 ^ m, gn ||| 2 ^ m)).1))), some (.int (nI (i + 1))), none, none, none] [] (M, o) := down (cn c - 1) _ (fun i hi ih M h h5 h2 => by
  have hn := hw.n
  have hk := hw.k
  have hw9 := hw.w9
  refine e_iload_n (pc' := 17) dX6_givePolesFrom_16 rfl rfl rfl ?_
  refine e_aload_n (pc' := 18) dX6_givePolesFrom_17 rfl rfl rfl ?_
  refine p_gfr (pc' := 21) (a := 7) (k := 0) (t := 1) dX6_givePolesFrom_18 rfl rfl (by decide) (by decide) rfl fl_X6_24 ?_
  refine p_gfi (pc' := 24) (a := 1) (k := 0) (x := nI (cn c)) dX6_givePolesFrom_21 rfl (rfl) (by decide) (by decide) rfl fl_X6_31 (h.n) ?_
  refine e_icmp_geN (pc' := 27) (tgt := 130) dX6_givePolesFrom_24 rfl (by decide) (by omega) (by omega) (fun hz1 => ?_) (fun hz1 => ?_)
  · refine e_iload_n (pc' := 131) dX6_givePolesFrom_130 rfl rfl rfl ?_
    exact e_iret dX6_givePolesFrom_131 rfl (MP.retI (congrArg (fun z => some (Value.int z)) (by rw [show i = cn c - 1 by omega]; rfl)) ⟨by rw [h5, show i = cn c - 1 by omega]; rfl, h2⟩) (by decide) (by decide)
  · refine e_iconst (pc' := 28) (v := nI 0) dX6_givePolesFrom_27 rfl (by decide) ?_
    refine e_istore (pc' := 30) (L' := [some (.ref (ad 7)), some (.int (nI m)), some (.int (nI ((iter (prow c) i (2 ^ m, gn ||| 2 ^ m)).1))), some (.int (nI (i + 1))), some (.int (nI 0)), none, none]) dX6_givePolesFrom_28 rfl (by decide) rfl ?_
    exact l_gp2 hw hm hgn (by omega) (fun M h h5 h2 => ih (by omega) M h h5 h2) 0 (by omega) M h h5 h2)
theorem c_givePoles (h : ColAt M 1 c) (hw : WF c) {m gn : Nat} (hm : m < cn c) (hgn : gn < 512) (h5 : M 7 5 = nI gn) : RETI G ad d mX6_givePolesFrom [.ref (ad 7), .int (nI m)] (M, o) (some (.int (nI ((giv c m gn).1)))) (fun M' => M' 7 5 = nI (giv c m gn).2 ∧ KP (inR 7 11) M M') := by
  refine CM_of rfl (by decide) rfl (Nat.le_of_ble_eq_true rfl) rfl ?_
  have hn := hw.n
  have hk := hw.k
  have hw9 := hw.w9
  refine e_iconst (pc' := 1) (v := nI 1) dX6_givePolesFrom_0 rfl (by decide) ?_
  refine e_iload_n (pc' := 2) dX6_givePolesFrom_1 rfl rfl rfl ?_
  refine e_ishlN (pc' := 3) dX6_givePolesFrom_2 rfl (by omega) (by rw [Nat.one_mul]; exact Nat.lt_trans (p2_9 (by omega)) (by decide)) ?_
  rw [show (nI (1 * 2 ^ m)) = nI (2 ^ m) from by rw [Nat.one_mul]]
  refine e_istore_n (pc' := 4) (L' := [some (.ref (ad 7)), some (.int (nI m)), some (.int (nI (2 ^ m))), none, none, none, none]) dX6_givePolesFrom_3 rfl rfl (by decide) rfl ?_
  refine e_aload_n (pc' := 5) dX6_givePolesFrom_4 rfl rfl rfl ?_
  refine e_dup (pc' := 6) dX6_givePolesFrom_5 rfl rfl ?_
  refine p_gfi (pc' := 9) (a := 7) (k := 5) (x := nI gn) dX6_givePolesFrom_6 rfl (rfl) (by decide) (by decide) rfl fl_X6_95 (h5) ?_
  refine e_iload_n (pc' := 10) dX6_givePolesFrom_9 rfl rfl rfl ?_
  refine e_iorN (pc' := 11) dX6_givePolesFrom_10 rfl ?_
  refine p_pfi (pc' := 14) (a := 7) (k := 5) dX6_givePolesFrom_11 rfl (rfl) (by decide) (by decide) rfl fl_X6_95 rfl rfl ?_
  refine e_iconst (pc' := 15) (v := nI 1) dX6_givePolesFrom_14 rfl (by decide) ?_
  refine e_istore_n (pc' := 16) (L' := [some (.ref (ad 7)), some (.int (nI m)), some (.int (nI (2 ^ m))), some (.int (nI 1)), none, none, none]) dX6_givePolesFrom_15 rfl rfl (by decide) rfl ?_
  exact l_gp1 hw hm hgn 0 (by omega) _ (h.up (by decide)) up2_s (KP.refl.up (by decide))
theorem exc_eq : ∀ a, a < 10 → ∀ b, b < 10 → ((nI a - nI b = 0 ↔ a = b) ∧ (nI a - nI b < 0 ↔ a < b)) := by decide
theorem c_bestOf (h : ColAt M 1 c) (hw : WF c) {p gn m : Nat} (hp : p < 512) (hgn : gn < 512) (hm : m < 9) (h5 : M 7 5 = nI gn) : RET G ad (d + 1) mX6_bestTurnSetOf [.ref (ad 7), .int (nI p), .int (nI m)] (M, o) (some (.int (nI (btO c gn p m)))) (M, o) := by
  refine CM_of rfl (by decide) rfl (Nat.le_of_ble_eq_true rfl) rfl ?_
  have hn := hw.n
  have hk := hw.k
  have hw9 := hw.w9
  have hT : (p &&& (gn ^^^ cw c)) < 512 := and9 hp
  have hO : p ^^^ (p &&& (gn ^^^ cw c)) < 512 := xor9 hp hT
  have hE := exc_eq (pop (p &&& (gn ^^^ cw c))) (by have := pop_le (p &&& (gn ^^^ cw c)); omega) (pop (p ^^^ (p &&& (gn ^^^ cw c)))) (by have := pop_le (p ^^^ (p &&& (gn ^^^ cw c))); omega)
  refine e_iload_n (pc' := 1) dX6_bestTurnSetOf_0 rfl rfl rfl ?_
  refine e_aload_n (pc' := 2) dX6_bestTurnSetOf_1 rfl rfl rfl ?_
  refine p_gfi (pc' := 5) (a := 7) (k := 5) (x := nI gn) dX6_bestTurnSetOf_2 rfl (rfl) (by decide) (by decide) rfl fl_X6_95 (h5) ?_
  refine e_aload_n (pc' := 6) dX6_bestTurnSetOf_5 rfl rfl rfl ?_
  refine p_gfr (pc' := 9) (a := 7) (k := 0) (t := 1) dX6_bestTurnSetOf_6 rfl rfl (by decide) (by decide) rfl fl_X6_24 ?_
  refine p_gfi (pc' := 12) (a := 1) (k := 4) (x := nI (cw c)) dX6_bestTurnSetOf_9 rfl (rfl) (by decide) (by decide) rfl fl_X6_110 (h.w) ?_
  refine e_ixorN (pc' := 13) dX6_bestTurnSetOf_12 rfl ?_
  refine e_iandN (pc' := 14) dX6_bestTurnSetOf_13 rfl ?_
  refine e_istore_n (pc' := 15) (L' := [some (.ref (ad 7)), some (.int (nI p)), some (.int (nI m)), some (.int (nI (p &&& (gn ^^^ (cw c))))), none, none]) dX6_bestTurnSetOf_14 rfl rfl (by decide) rfl ?_
  refine e_iload_n (pc' := 16) dX6_bestTurnSetOf_15 rfl rfl rfl ?_
  refine e_iload_n (pc' := 17) dX6_bestTurnSetOf_16 rfl rfl rfl ?_
  refine e_ixorN (pc' := 18) dX6_bestTurnSetOf_17 rfl ?_
  refine e_istore (pc' := 20) (L' := [some (.ref (ad 7)), some (.int (nI p)), some (.int (nI m)), some (.int (nI (p &&& (gn ^^^ (cw c))))), some (.int (nI (p ^^^ (p &&& (gn ^^^ (cw c)))))), none]) dX6_bestTurnSetOf_18 rfl (by decide) rfl ?_
  refine e_iload_n (pc' := 21) dX6_bestTurnSetOf_20 rfl rfl rfl ?_
  refine r_S (pc' := 24) (m' := mJ6_bitCount_0f7a4) (As := [.int (nI (p &&& (gn ^^^ (cw c))))]) (st := []) (c_bitCount (d := d) (w := p &&& (gn ^^^ (cw c))) (by omega)) dX6_bestTurnSetOf_21 rfl rfl (Nat.le_of_ble_eq_true rfl) (fit_of (by omega) (by decide) (by decide) (by decide)) ml_X6_113 okJ6_bitCount_0f7a4 rfl rfl ?_
  show EV _ _ _ _ _ 24 _ ([.int (nI (pop (p &&& (gn ^^^ (cw c)))))]) _
  refine e_iload (pc' := 26) dX6_bestTurnSetOf_24 rfl rfl ?_
  refine r_S (pc' := 29) (m' := mJ6_bitCount_0f7a4) (As := [.int (nI (p ^^^ (p &&& (gn ^^^ (cw c)))))]) (st := [.int (nI (pop (p &&& (gn ^^^ (cw c)))))]) (c_bitCount (d := d) (w := p ^^^ (p &&& (gn ^^^ (cw c)))) (by omega)) dX6_bestTurnSetOf_26 rfl rfl (Nat.le_of_ble_eq_true rfl) (fit_of (by omega) (by decide) (by decide) (by decide)) ml_X6_113 okJ6_bitCount_0f7a4 rfl rfl ?_
  show EV _ _ _ _ _ 29 _ ([.int (nI (pop (p ^^^ (p &&& (gn ^^^ (cw c)))))), .int (nI (pop (p &&& (gn ^^^ (cw c)))))]) _
  refine e_isub (pc' := 30) dX6_bestTurnSetOf_29 rfl ?_
  refine e_istore (pc' := 32) (L' := [some (.ref (ad 7)), some (.int (nI p)), some (.int (nI m)), some (.int (nI (p &&& (gn ^^^ (cw c))))), some (.int (nI (p ^^^ (p &&& (gn ^^^ (cw c)))))), some (.int ((nI (pop (p &&& (gn ^^^ (cw c))))) - (nI (pop (p ^^^ (p &&& (gn ^^^ (cw c))))))))]) dX6_bestTurnSetOf_30 rfl (by decide) rfl ?_
  refine e_iload (pc' := 34) dX6_bestTurnSetOf_32 rfl rfl ?_
  refine e_if_ne (pc' := 37) (tgt := 52) dX6_bestTurnSetOf_34 rfl (by decide) (fun h1 => ?_) (fun h1 => ?_)
  · refine e_iload (pc' := 54) dX6_bestTurnSetOf_52 rfl rfl ?_
    refine e_if_ge (pc' := 57) (tgt := 61) dX6_bestTurnSetOf_54 rfl (by decide) (fun h3 => ?_) (fun h3 => ?_)
    · refine e_iload (pc' := 63) dX6_bestTurnSetOf_61 rfl rfl ?_
      exact e_iret dX6_bestTurnSetOf_63 rfl (MP.ret (congrArg (fun z => some (Value.int z)) (by unfold btO; dsimp only; grind)) rfl) (by decide) (by decide)
    · refine e_iload_n (pc' := 58) dX6_bestTurnSetOf_57 rfl rfl rfl ?_
      refine e_goto (tgt := 63) dX6_bestTurnSetOf_58 (by decide) ?_
      exact e_iret dX6_bestTurnSetOf_63 rfl (MP.ret (congrArg (fun z => some (Value.int z)) (by unfold btO; dsimp only; grind)) rfl) (by decide) (by decide)
  · refine e_iload_n (pc' := 38) dX6_bestTurnSetOf_37 rfl rfl rfl ?_
    refine e_iload_n (pc' := 39) dX6_bestTurnSetOf_38 rfl rfl rfl ?_
    refine r_SN (pc' := 42) (m' := mX8_isIn) (As := [.int (nI (p &&& (gn ^^^ (cw c)))), .int (nI m)]) (st := []) (c_isIn (d := d) (w := p &&& (gn ^^^ (cw c))) (i := m) (by omega) (by omega)) dX6_bestTurnSetOf_39 rfl rfl (Nat.le_of_ble_eq_true rfl) (fit_of (by omega) (by decide) (by decide) (by decide)) nl_X6_98 okX8_isIn rfl rfl ?_
    show EV _ _ _ _ _ 42 _ ([.int (bI (Nat.testBit (p &&& (gn ^^^ (cw c))) (m)))]) _
    refine e_if_eqB (pc' := 45) (tgt := 49) dX6_bestTurnSetOf_42 rfl (by decide) (fun h4 => ?_) (fun h4 => ?_)
    · refine e_iload (pc' := 51) dX6_bestTurnSetOf_49 rfl rfl ?_
      exact e_iret dX6_bestTurnSetOf_51 rfl (MP.ret (congrArg (fun z => some (Value.int z)) (by unfold btO; dsimp only; grind)) rfl) (by decide) (by decide)
    · refine e_iload_n (pc' := 46) dX6_bestTurnSetOf_45 rfl rfl rfl ?_
      refine e_goto (tgt := 51) dX6_bestTurnSetOf_46 (by decide) ?_
      exact e_iret dX6_bestTurnSetOf_51 rfl (MP.ret (congrArg (fun z => some (Value.int z)) (by unfold btO; dsimp only; grind)) rfl) (by decide) (by decide)
theorem l_best {M0 : Nat → Nat → Int32} (hw : WF c) : ∀ i, i ≤ cn c → ∀ (M : Nat → Nat → Int32), ColAt M 1 c → M 7 5 = nI (bsts c i).1 → KP (inR 7 11) M0 M → ER G ad (d + 2) mX6_bestTurnSet (0, 0) (PI (some (.int (oI (bestF c)))) o (fun M' => KP (inR 7 11) M0 M')) (0, 0) 11 [some (.ref (ad 7)), some (.int (nI ((bsts c i).2.1))), some (.int (nI ((bsts c i).2.2))), some (.int (nI i)), none] [] (M, o) := down (cn c) _ (fun i hi ih M h h5 h2 => by
  have hn := hw.n
  have hk := hw.k
  have hw9 := hw.w9
  obtain ⟨hb1, hb2, hb3⟩ := bsts_lt hw i (by omega)
  have hg1 := fun (hm : i < 9) => giv_lt hw hm hb1
  refine e_iload_n (pc' := 12) dX6_bestTurnSet_11 rfl rfl rfl ?_
  refine e_aload_n (pc' := 13) dX6_bestTurnSet_12 rfl rfl rfl ?_
  refine p_gfr (pc' := 16) (a := 7) (k := 0) (t := 1) dX6_bestTurnSet_13 rfl rfl (by decide) (by decide) rfl fl_X6_24 ?_
  refine p_gfi (pc' := 19) (a := 1) (k := 0) (x := nI (cn c)) dX6_bestTurnSet_16 rfl (rfl) (by decide) (by decide) rfl fl_X6_31 (h.n) ?_
  refine e_icmp_geN (pc' := 22) (tgt := 58) dX6_bestTurnSet_19 rfl (by decide) (by first | omega | assumption | exact Nat.lt_of_le_of_lt (blkN_le _) (by omega)) (by first | omega | assumption | exact Nat.lt_of_le_of_lt (blkN_le _) (by omega)) (fun hz1 => ?_) (fun hz1 => ?_)
  · obtain rfl : i = cn c := by omega
    refine e_aload_n (pc' := 59) dX6_bestTurnSet_58 rfl rfl rfl ?_
    refine p_gfr (pc' := 62) (a := 7) (k := 0) (t := 1) dX6_bestTurnSet_59 rfl rfl (by decide) (by decide) rfl fl_X6_24 ?_
    refine e_aload_n (pc' := 63) dX6_bestTurnSet_62 rfl rfl rfl ?_
    refine p_gfi (pc' := 66) (a := 7) (k := 5) (x := nI ((bsts c (cn c)).1)) dX6_bestTurnSet_63 rfl (rfl) (by decide) (by decide) rfl fl_X6_95 (h5) ?_
    refine r_V (pc' := 69) (m' := mX1_countBlockedWith) (As := [.int (nI ((bsts c (cn c)).1))]) (st := []) (c_countBlockedWith (d := d) h hw (w := (bsts c (cn c)).1) (by first | omega | assumption | exact Nat.lt_of_le_of_lt (blkN_le _) (by omega))) dX6_bestTurnSet_66 rfl rfl (Nat.le_of_ble_eq_true rfl) (fit_of (by omega) (by decide) (by decide) (by decide)) ml_X6_107 okX1_countBlockedWith rfl rfl (by decide) rfl ?_
    show EV _ _ _ _ _ 69 _ ([.int (nI (blkN c ((bsts c (cn c)).1)))]) _
    refine e_if_neN (pc' := 72) (tgt := 76) dX6_bestTurnSet_69 rfl (by decide) (by first | omega | assumption | exact Nat.lt_of_le_of_lt (blkN_le _) (by omega)) (fun hz => ?_) (fun hz => ?_)
    · refine e_iconst (pc' := 77) (v := (-1)) dX6_bestTurnSet_76 rfl (by decide) ?_
      exact e_iret dX6_bestTurnSet_77 rfl (MP.retI (congrArg (fun z => some (Value.int z)) (by unfold bestF; rw [if_neg hz]; rfl)) h2) (by decide) (by decide)
    · refine e_iload_n (pc' := 73) dX6_bestTurnSet_72 rfl rfl rfl ?_
      refine e_goto (tgt := 77) dX6_bestTurnSet_73 (by decide) ?_
      exact e_iret dX6_bestTurnSet_77 rfl (MP.retI (congrArg (fun z => some (Value.int z)) (by unfold bestF; rw [if_pos hz]; rfl)) h2) (by decide) (by decide)
  · refine e_iload_n (pc' := 23) dX6_bestTurnSet_22 rfl rfl rfl ?_
    refine e_iload_n (pc' := 24) dX6_bestTurnSet_23 rfl rfl rfl ?_
    refine r_SN (pc' := 27) (m' := mX8_isIn) (As := [.int (nI ((bsts c i).2.1)), .int (nI i)]) (st := []) (c_isIn (d := d) (w := (bsts c i).2.1) (i := i) (by first | omega | assumption | exact Nat.lt_of_le_of_lt (blkN_le _) (by omega)) (by first | omega | assumption | exact Nat.lt_of_le_of_lt (blkN_le _) (by omega))) dX6_bestTurnSet_24 rfl rfl (Nat.le_of_ble_eq_true rfl) (fit_of (by omega) (by decide) (by decide) (by decide)) nl_X6_98 okX8_isIn rfl rfl ?_
    show EV _ _ _ _ _ 27 _ ([.int (bI (Nat.testBit ((bsts c i).2.1) (i)))]) _
    refine e_if_neB (pc' := 30) (tgt := 52) dX6_bestTurnSet_27 rfl (by decide) (fun hb => ?_) (fun hb => ?_)
    · refine e_iincN (pc' := 55) (k := 1) (L' := [some (.ref (ad 7)), some (.int (nI ((bsts c i).2.1))), some (.int (nI ((bsts c i).2.2))), some (.int (nI (i + 1))), none]) dX6_bestTurnSet_52 rfl rfl rfl (by decide) rfl ?_
      refine e_goto (tgt := 11) dX6_bestTurnSet_55 (by decide) ?_
      have e : bsts c (i + 1) = bsts c i := if_pos hb
      exact ih (by omega) |> fun q => by rw [e] at q; exact q _ h h5 h2
    · refine e_aload_n (pc' := 31) dX6_bestTurnSet_30 rfl rfl rfl ?_
      refine e_iload_n (pc' := 32) dX6_bestTurnSet_31 rfl rfl rfl ?_
      refine r_VI (pc' := 35) (m' := mX6_givePolesFrom) (As := [.int (nI i)]) (st := []) (c_givePoles (d := d) h hw (m := i) (gn := (bsts c i).1) (by omega) (by assumption) (h5)) dX6_bestTurnSet_32 rfl rfl (Nat.le_of_ble_eq_true rfl) (fit_of (by omega) (by decide) (by decide) (by decide)) ml_X6_101 okX6_givePolesFrom rfl rfl (by decide) rfl (fun MU1 ⟨hP1, hV1⟩ => ?_)
      show EV _ _ _ _ _ 35 _ ([.int (nI ((giv c i (bsts c i).1).1))]) _
      obtain ⟨hg2, hg3⟩ := hg1 (by omega)
      refine e_istore (pc' := 37) (L' := [some (.ref (ad 7)), some (.int (nI ((bsts c i).2.1))), some (.int (nI ((bsts c i).2.2))), some (.int (nI i)), some (.int (nI ((giv c i (bsts c i).1).1)))]) dX6_bestTurnSet_35 rfl (by decide) rfl ?_
      refine e_iload_n (pc' := 38) dX6_bestTurnSet_37 rfl rfl rfl ?_
      refine e_iload (pc' := 40) dX6_bestTurnSet_38 rfl rfl ?_
      refine e_iorN (pc' := 41) dX6_bestTurnSet_40 rfl ?_
      refine e_istore_n (pc' := 42) (L' := [some (.ref (ad 7)), some (.int (nI (((bsts c i).2.1) ||| ((giv c i (bsts c i).1).1)))), some (.int (nI ((bsts c i).2.2))), some (.int (nI i)), some (.int (nI ((giv c i (bsts c i).1).1)))]) dX6_bestTurnSet_41 rfl rfl (by decide) rfl ?_
      refine e_iload_n (pc' := 43) dX6_bestTurnSet_42 rfl rfl rfl ?_
      refine e_aload_n (pc' := 44) dX6_bestTurnSet_43 rfl rfl rfl ?_
      refine e_iload (pc' := 46) dX6_bestTurnSet_44 rfl rfl ?_
      refine e_iload_n (pc' := 47) dX6_bestTurnSet_46 rfl rfl rfl ?_
      refine r_V (pc' := 50) (m' := mX6_bestTurnSetOf) (As := [.int (nI ((giv c i (bsts c i).1).1)), .int (nI i)]) (st := [.int (nI ((bsts c i).2.2))]) (c_bestOf (d := d) (h.kp hV1 (fun i hi => inR_f (by omega))) hw (p := (giv c i (bsts c i).1).1) (gn := (giv c i (bsts c i).1).2) (m := i) (by assumption) (by assumption) (by omega) (hP1)) dX6_bestTurnSet_47 rfl rfl (Nat.le_of_ble_eq_true rfl) (fit_of (by omega) (by decide) (by decide) (by decide)) ml_X6_104 okX6_bestTurnSetOf rfl rfl (by decide) rfl ?_
      show EV _ _ _ _ _ 50 _ ([.int (nI (btO c ((giv c i (bsts c i).1).2) ((giv c i (bsts c i).1).1) i)), .int (nI ((bsts c i).2.2))]) _
      refine e_iorN (pc' := 51) dX6_bestTurnSet_50 rfl ?_
      refine e_istore_n (pc' := 52) (L' := [some (.ref (ad 7)), some (.int (nI (((bsts c i).2.1) ||| ((giv c i (bsts c i).1).1)))), some (.int (nI (((bsts c i).2.2) ||| (btO c ((giv c i (bsts c i).1).2) ((giv c i (bsts c i).1).1) i)))), some (.int (nI i)), some (.int (nI ((giv c i (bsts c i).1).1)))]) dX6_bestTurnSet_51 rfl rfl (by decide) rfl ?_
      refine e_iincN (pc' := 55) (k := 1) (L' := [some (.ref (ad 7)), some (.int (nI (((bsts c i).2.1) ||| ((giv c i (bsts c i).1).1)))), some (.int (nI (((bsts c i).2.2) ||| (btO c ((giv c i (bsts c i).1).2) ((giv c i (bsts c i).1).1) i)))), some (.int (nI (i + 1))), some (.int (nI ((giv c i (bsts c i).1).1)))]) dX6_bestTurnSet_52 rfl rfl rfl (by decide) rfl ?_
      refine e_goto (tgt := 11) dX6_bestTurnSet_55 (by decide) ?_
      refine e_fg (i := 4) (L' := [some (.ref (ad 7)), some (.int (nI (((bsts c i).2.1) ||| ((giv c i (bsts c i).1).1)))), some (.int (nI (((bsts c i).2.2) ||| (btO c ((giv c i (bsts c i).1).2) ((giv c i (bsts c i).1).1) i)))), some (.int (nI (i + 1))), none]) rfl ?_
      have e : bsts c (i + 1) = ((giv c i (bsts c i).1).2, (bsts c i).2.1 ||| (giv c i (bsts c i).1).1, (bsts c i).2.2 ||| btO c (giv c i (bsts c i).1).2 (giv c i (bsts c i).1).1 i) := if_neg (by show ¬ (bsts c i).2.1.testBit i = true; rw [hb]; decide)
      exact ih (by omega) |> fun q => by rw [e] at q; exact q _ (h.kp hV1 (fun i hi => inR_f (by omega))) hP1 (h2.trans hV1))
theorem c_best (h : ColAt M 1 c) (hw : WF c) : RETI G ad (d + 2) mX6_bestTurnSet [.ref (ad 7)] (M, o) (some (.int (oI (bestF c)))) (fun M' => KP (inR 7 11) M M') := by
  refine CM_of rfl (by decide) rfl (Nat.le_of_ble_eq_true rfl) rfl ?_
  have hn := hw.n
  have hk := hw.k
  have hw9 := hw.w9
  refine e_aload_n (pc' := 1) dX6_bestTurnSet_0 rfl rfl rfl ?_
  refine e_iconst (pc' := 2) (v := nI 0) dX6_bestTurnSet_1 rfl (by decide) ?_
  refine p_pfi (pc' := 5) (a := 7) (k := 5) dX6_bestTurnSet_2 rfl (rfl) (by decide) (by decide) rfl fl_X6_95 rfl rfl ?_
  refine e_iconst (pc' := 6) (v := nI 0) dX6_bestTurnSet_5 rfl (by decide) ?_
  refine e_istore_n (pc' := 7) (L' := [some (.ref (ad 7)), some (.int (nI 0)), none, none, none]) dX6_bestTurnSet_6 rfl rfl (by decide) rfl ?_
  refine e_iconst (pc' := 8) (v := nI 0) dX6_bestTurnSet_7 rfl (by decide) ?_
  refine e_istore_n (pc' := 9) (L' := [some (.ref (ad 7)), some (.int (nI 0)), some (.int (nI 0)), none, none]) dX6_bestTurnSet_8 rfl rfl (by decide) rfl ?_
  refine e_iconst (pc' := 10) (v := nI 0) dX6_bestTurnSet_9 rfl (by decide) ?_
  refine e_istore_n (pc' := 11) (L' := [some (.ref (ad 7)), some (.int (nI 0)), some (.int (nI 0)), some (.int (nI 0)), none]) dX6_bestTurnSet_10 rfl rfl (by decide) rfl ?_
  exact l_best hw 0 (by omega) _ (h.up (by decide)) up2_s (KP.refl.up (by decide))
theorem bestF_lt (hw : WF c) {w : Nat} (e : bestF c = some w) : w < 512 := by
  have h := bsts_lt hw (cn c) hw.n
  unfold bestF at e
  split at e <;> cases e
  exact h.2.2
theorem c_bestSize (h : ColAt M 1 c) (hw : WF c) : RETI G ad (d + 3) mX6_bestTurnSetSize [.ref (ad 7)] (M, o) (some (.int (oI ((bestF c).map pop)))) (fun M' => KP (inR 7 11) M M') := by
  refine CM_of rfl (by decide) rfl (Nat.le_of_ble_eq_true rfl) rfl ?_
  have hn := hw.n
  have hk := hw.k
  have hw9 := hw.w9
  refine e_aload_n (pc' := 1) dX6_bestTurnSetSize_0 rfl rfl rfl ?_
  refine r_VI (pc' := 4) (m' := mX6_bestTurnSet) (As := []) (st := []) (c_best (d := d) h hw) dX6_bestTurnSetSize_1 rfl rfl (Nat.le_of_ble_eq_true rfl) (fit_of (by omega) (by decide) (by decide) (by decide)) ml_X6_118 okX6_bestTurnSet rfl rfl (by decide) rfl (fun M9 hK9 => ?_)
  show EV _ _ _ _ _ 4 _ ([.int (oI (bestF c))]) _
  refine e_istore_n (pc' := 5) (L' := [some (.ref (ad 7)), some (.int (oI (bestF c)))]) dX6_bestTurnSetSize_4 rfl rfl (by decide) rfl ?_
  refine e_iload_n (pc' := 6) dX6_bestTurnSetSize_5 rfl rfl rfl ?_
  refine e_iconst (pc' := 7) (v := (-1)) dX6_bestTurnSetSize_6 rfl (by decide) ?_
  refine e_icmp_ne (pc' := 10) (tgt := 14) dX6_bestTurnSetSize_7 rfl (by decide) (fun h1 => ?_) (fun h1 => ?_)
  · obtain ⟨w, hbw⟩ : ∃ w, bestF c = some w := by
      cases hq : bestF c with
      | none => rw [hq] at h1; exact absurd rfl h1
      | some w => exact ⟨w, rfl⟩
    rw [hbw]
    have hw5 := bestF_lt hw hbw
    refine e_iload_n (pc' := 15) dX6_bestTurnSetSize_14 rfl rfl rfl ?_
    refine r_S (pc' := 18) (m' := mJ6_bitCount_0f7a4) (As := [.int (nI w)]) (st := []) (c_bitCount (d := d) (w := w) (by omega)) dX6_bestTurnSetSize_15 rfl rfl (Nat.le_of_ble_eq_true rfl) (fit_of (by omega) (by decide) (by decide) (by decide)) ml_X6_113 okJ6_bitCount_0f7a4 rfl rfl ?_
    show EV _ _ _ _ _ 18 _ ([.int (nI (pop (w)))]) _
    exact e_iret dX6_bestTurnSetSize_18 rfl (MP.retI rfl hK9) (by decide) (by decide)
  · refine e_iconst (pc' := 11) (v := (-1)) dX6_bestTurnSetSize_10 rfl (by decide) ?_
    refine e_goto (tgt := 18) dX6_bestTurnSetSize_11 (by decide) ?_
    exact e_iret dX6_bestTurnSetSize_18 rfl (MP.retI (congrArg (fun z => some (Value.int z)) (by rw [(oI_ne (fun i e => Nat.lt_trans (bestF_lt hw e) (by decide))).mp h1]; rfl)) hK9) (by decide) (by decide)
theorem sstF_s {i : Nat} : sstF c (i + 1) = if sstB c (sstF c i) i = true then some (pop i) else sstF c i := rfl
theorem sstF_le : ∀ {i b : Nat}, sstF c i = some b → b ≤ 9
  | 0, b, e => by cases e
  | i + 1, b, e => by
    rw [sstF_s] at e
    split at e
    · cases e; exact pop_le _
    · exact sstF_le e
theorem sst_o {i : Nat} : oI (sstF c i) = -1 ↔ sstF c i = none := oI_ne (fun j e => Nat.lt_of_le_of_lt (sstF_le e) (by decide))
theorem sst_skip1 {i : Nat} (h1 : ¬ oI (sstF c i) = -1) (h2 : oI (sstF c i) ≤ nI (pop i)) : sstF c (i + 1) = sstF c i := by
  have hp := pop_le i
  rw [sstF_s]; unfold sstB
  cases hq : sstF c i with
  | none => exact absurd (sst_o.mpr hq) h1
  | some b =>
    have hb := sstF_le hq
    rw [hq] at h2
    have h3 : b ≤ pop i := (nI_leI (by omega) (by omega)).mp h2
    rw [if_neg (by simp; omega)]
theorem sst_skip2 {i : Nat} (h : ¬ blkN c (cw c ^^^ i) = 0) : sstF c (i + 1) = sstF c i := by
  rw [sstF_s]; unfold sstB
  rw [if_neg (by simp [h])]
theorem sst_take {i : Nat} (h : oI (sstF c i) = -1 ∨ ¬ oI (sstF c i) ≤ nI (pop i)) (h0 : blkN c (cw c ^^^ i) = 0) : sstF c (i + 1) = some (pop i) := by
  have hp := pop_le i
  rw [sstF_s]; unfold sstB
  cases hq : sstF c i with
  | none => rw [if_pos (by simp [h0])]
  | some b =>
    have hb := sstF_le hq
    rw [hq] at h
    rcases h with h | h
    · exact absurd (sst_o.mp (by rw [hq]; exact h)) (by rw [hq]; exact fun q => by cases q)
    · have h3 : ¬ b ≤ pop i := fun q => h ((nI_leI (by omega) (by omega)).mpr q)
      rw [if_pos (by simp [h0]; omega)]
theorem l_sst (h : ColAt M 1 c) (hw : WF c) : ∀ i, i ≤ 2 ^ cn c → ER G ad (d + 2) mX6_smallestSettlingSet (0, 0) (PR (some (.int (oI (sstF c (2 ^ cn c))))) (M, o)) (0, 0) 14 [some (.ref (ad 7)), some (.int (nI (2 ^ (cn c)))), some (.int (oI (sstF c i))), some (.int (nI i)), none, none] [] (M, o) := down (2 ^ cn c) _ (fun i hi ih  => by
  have hn := hw.n
  have hk := hw.k
  have hw9 := hw.w9
  have h29 : 2 ^ cn c ≤ 512 := p2_le (n := 9) hw.n
  have hpp := pop_le i
  refine e_iload_n (pc' := 15) dX6_smallestSettlingSet_14 rfl rfl rfl ?_
  refine e_iload_n (pc' := 16) dX6_smallestSettlingSet_15 rfl rfl rfl ?_
  refine e_icmp_geN (pc' := 19) (tgt := 76) dX6_smallestSettlingSet_16 rfl (by decide) (by first | omega | exact Nat.lt_of_le_of_lt (blkN_le _) (by omega) | exact xor9 (by omega) (by omega)) (by first | omega | exact Nat.lt_of_le_of_lt (blkN_le _) (by omega) | exact xor9 (by omega) (by omega)) (fun hz1 => ?_) (fun hz1 => ?_)
  · refine e_iload_n (pc' := 77) dX6_smallestSettlingSet_76 rfl rfl rfl ?_
    exact e_iret dX6_smallestSettlingSet_77 rfl (MP.ret (congrArg (fun z => some (Value.int z)) (by rw [show i = 2 ^ cn c by omega])) rfl) (by decide) (by decide)
  · refine e_iload_n (pc' := 20) dX6_smallestSettlingSet_19 rfl rfl rfl ?_
    refine r_S (pc' := 23) (m' := mJ6_bitCount_0f7a4) (As := [.int (nI i)]) (st := []) (c_bitCount (d := d) (w := i) (by first | omega | exact Nat.lt_of_le_of_lt (blkN_le _) (by omega) | exact xor9 (by omega) (by omega))) dX6_smallestSettlingSet_20 rfl rfl (Nat.le_of_ble_eq_true rfl) (fit_of (by omega) (by decide) (by decide) (by decide)) ml_X6_113 okJ6_bitCount_0f7a4 rfl rfl ?_
    show EV _ _ _ _ _ 23 _ ([.int (nI (pop (i)))]) _
    refine e_istore (pc' := 25) (L' := [some (.ref (ad 7)), some (.int (nI (2 ^ (cn c)))), some (.int (oI (sstF c i))), some (.int (nI i)), some (.int (nI (pop (i)))), none]) dX6_smallestSettlingSet_23 rfl (by decide) rfl ?_
    refine e_iload_n (pc' := 26) dX6_smallestSettlingSet_25 rfl rfl rfl ?_
    refine e_iconst (pc' := 27) (v := (-1)) dX6_smallestSettlingSet_26 rfl (by decide) ?_
    refine e_icmp_eq (pc' := 30) (tgt := 36) dX6_smallestSettlingSet_27 rfl (by decide) (fun h1 => ?_) (fun h1 => ?_)
    · refine e_iconst (pc' := 37) (v := nI 1) dX6_smallestSettlingSet_36 rfl (by decide) ?_
      refine e_goto (tgt := 41) dX6_smallestSettlingSet_37 (by decide) ?_
      refine e_istore (pc' := 43) (L' := [some (.ref (ad 7)), some (.int (nI (2 ^ (cn c)))), some (.int (oI (sstF c i))), some (.int (nI i)), some (.int (nI (pop (i)))), some (.int (nI 1))]) dX6_smallestSettlingSet_41 rfl (by decide) rfl ?_
      refine e_iload (pc' := 45) dX6_smallestSettlingSet_43 rfl rfl ?_
      refine e_if_eqN (pc' := 48) (tgt := 70) dX6_smallestSettlingSet_45 rfl (by decide) (by decide) (fun h => absurd h (by decide)) (fun _ => ?_)
      refine e_aload_n (pc' := 49) dX6_smallestSettlingSet_48 rfl rfl rfl ?_
      refine p_gfr (pc' := 52) (a := 7) (k := 0) (t := 1) dX6_smallestSettlingSet_49 rfl rfl (by decide) (by decide) rfl fl_X6_24 ?_
      refine e_aload_n (pc' := 53) dX6_smallestSettlingSet_52 rfl rfl rfl ?_
      refine p_gfr (pc' := 56) (a := 7) (k := 0) (t := 1) dX6_smallestSettlingSet_53 rfl rfl (by decide) (by decide) rfl fl_X6_24 ?_
      refine p_gfi (pc' := 59) (a := 1) (k := 4) (x := nI (cw c)) dX6_smallestSettlingSet_56 rfl (rfl) (by decide) (by decide) rfl fl_X6_110 (h.w) ?_
      refine e_iload_n (pc' := 60) dX6_smallestSettlingSet_59 rfl rfl rfl ?_
      refine e_ixorN (pc' := 61) dX6_smallestSettlingSet_60 rfl ?_
      refine r_V (pc' := 64) (m' := mX1_countBlockedWith) (As := [.int (nI ((cw c) ^^^ i))]) (st := []) (c_countBlockedWith (d := d) h hw (w := (cw c) ^^^ i) (by first | omega | exact Nat.lt_of_le_of_lt (blkN_le _) (by omega) | exact xor9 (by omega) (by omega))) dX6_smallestSettlingSet_61 rfl rfl (Nat.le_of_ble_eq_true rfl) (fit_of (by omega) (by decide) (by decide) (by decide)) ml_X6_107 okX1_countBlockedWith rfl rfl (by decide) rfl ?_
      show EV _ _ _ _ _ 64 _ ([.int (nI (blkN c ((cw c) ^^^ i)))]) _
      refine e_if_neN (pc' := 67) (tgt := 70) dX6_smallestSettlingSet_64 rfl (by decide) (by first | omega | exact Nat.lt_of_le_of_lt (blkN_le _) (by omega) | exact xor9 (by omega) (by omega)) (fun h5 => ?_) (fun h5 => ?_)
      · refine e_iincN (pc' := 73) (k := 1) (L' := [some (.ref (ad 7)), some (.int (nI (2 ^ (cn c)))), some (.int (oI (sstF c i))), some (.int (nI (i + 1))), some (.int (nI (pop (i)))), some (.int (nI 1))]) dX6_smallestSettlingSet_70 rfl rfl rfl (by decide) rfl ?_
        refine e_goto (tgt := 14) dX6_smallestSettlingSet_73 (by decide) ?_
        refine e_fg (i := 4) (L' := [some (.ref (ad 7)), some (.int (nI (2 ^ (cn c)))), some (.int (oI (sstF c i))), some (.int (nI (i + 1))), none, some (.int (nI 1))]) rfl ?_
        refine e_fg (i := 5) (L' := [some (.ref (ad 7)), some (.int (nI (2 ^ (cn c)))), some (.int (oI (sstF c i))), some (.int (nI (i + 1))), none, none]) rfl ?_
        have e : sstF c (i + 1) = sstF c i := by first | exact sst_skip1 h1 h3 | exact sst_skip2 h5
        exact ih (by omega) |> fun q => by rw [e] at q; exact q
      · refine e_iload (pc' := 69) dX6_smallestSettlingSet_67 rfl rfl ?_
        refine e_istore_n (pc' := 70) (L' := [some (.ref (ad 7)), some (.int (nI (2 ^ (cn c)))), some (.int (nI (pop (i)))), some (.int (nI i)), some (.int (nI (pop (i)))), some (.int (nI 1))]) dX6_smallestSettlingSet_69 rfl rfl (by decide) rfl ?_
        refine e_iincN (pc' := 73) (k := 1) (L' := [some (.ref (ad 7)), some (.int (nI (2 ^ (cn c)))), some (.int (nI (pop (i)))), some (.int (nI (i + 1))), some (.int (nI (pop (i)))), some (.int (nI 1))]) dX6_smallestSettlingSet_70 rfl rfl rfl (by decide) rfl ?_
        refine e_goto (tgt := 14) dX6_smallestSettlingSet_73 (by decide) ?_
        refine e_fg (i := 4) (L' := [some (.ref (ad 7)), some (.int (nI (2 ^ (cn c)))), some (.int (nI (pop (i)))), some (.int (nI (i + 1))), none, some (.int (nI 1))]) rfl ?_
        refine e_fg (i := 5) (L' := [some (.ref (ad 7)), some (.int (nI (2 ^ (cn c)))), some (.int (nI (pop (i)))), some (.int (nI (i + 1))), none, none]) rfl ?_
        have e := sst_take (c := c) (i := i) (by first | exact Or.inl h1 | exact Or.inr h3) h5
        exact ih (by omega) |> fun q => by rw [e] at q; exact q
    · refine e_iload (pc' := 32) dX6_smallestSettlingSet_30 rfl rfl ?_
      refine e_iload_n (pc' := 33) dX6_smallestSettlingSet_32 rfl rfl rfl ?_
      refine e_icmp_ge (pc' := 36) (tgt := 40) dX6_smallestSettlingSet_33 rfl (by decide) (fun h3 => ?_) (fun h3 => ?_)
      · refine e_iconst (pc' := 41) (v := nI 0) dX6_smallestSettlingSet_40 rfl (by decide) ?_
        refine e_istore (pc' := 43) (L' := [some (.ref (ad 7)), some (.int (nI (2 ^ (cn c)))), some (.int (oI (sstF c i))), some (.int (nI i)), some (.int (nI (pop (i)))), some (.int (nI 0))]) dX6_smallestSettlingSet_41 rfl (by decide) rfl ?_
        refine e_iload (pc' := 45) dX6_smallestSettlingSet_43 rfl rfl ?_
        refine e_if_eqN (pc' := 48) (tgt := 70) dX6_smallestSettlingSet_45 rfl (by decide) (by decide) (fun _ => ?_) (fun h => absurd h (by decide))
        refine e_iincN (pc' := 73) (k := 1) (L' := [some (.ref (ad 7)), some (.int (nI (2 ^ (cn c)))), some (.int (oI (sstF c i))), some (.int (nI (i + 1))), some (.int (nI (pop (i)))), some (.int (nI 0))]) dX6_smallestSettlingSet_70 rfl rfl rfl (by decide) rfl ?_
        refine e_goto (tgt := 14) dX6_smallestSettlingSet_73 (by decide) ?_
        refine e_fg (i := 4) (L' := [some (.ref (ad 7)), some (.int (nI (2 ^ (cn c)))), some (.int (oI (sstF c i))), some (.int (nI (i + 1))), none, some (.int (nI 0))]) rfl ?_
        refine e_fg (i := 5) (L' := [some (.ref (ad 7)), some (.int (nI (2 ^ (cn c)))), some (.int (oI (sstF c i))), some (.int (nI (i + 1))), none, none]) rfl ?_
        have e : sstF c (i + 1) = sstF c i := by first | exact sst_skip1 h1 h3 | exact sst_skip2 h5
        exact ih (by omega) |> fun q => by rw [e] at q; exact q
      · refine e_iconst (pc' := 37) (v := nI 1) dX6_smallestSettlingSet_36 rfl (by decide) ?_
        refine e_goto (tgt := 41) dX6_smallestSettlingSet_37 (by decide) ?_
        refine e_istore (pc' := 43) (L' := [some (.ref (ad 7)), some (.int (nI (2 ^ (cn c)))), some (.int (oI (sstF c i))), some (.int (nI i)), some (.int (nI (pop (i)))), some (.int (nI 1))]) dX6_smallestSettlingSet_41 rfl (by decide) rfl ?_
        refine e_iload (pc' := 45) dX6_smallestSettlingSet_43 rfl rfl ?_
        refine e_if_eqN (pc' := 48) (tgt := 70) dX6_smallestSettlingSet_45 rfl (by decide) (by decide) (fun h => absurd h (by decide)) (fun _ => ?_)
        refine e_aload_n (pc' := 49) dX6_smallestSettlingSet_48 rfl rfl rfl ?_
        refine p_gfr (pc' := 52) (a := 7) (k := 0) (t := 1) dX6_smallestSettlingSet_49 rfl rfl (by decide) (by decide) rfl fl_X6_24 ?_
        refine e_aload_n (pc' := 53) dX6_smallestSettlingSet_52 rfl rfl rfl ?_
        refine p_gfr (pc' := 56) (a := 7) (k := 0) (t := 1) dX6_smallestSettlingSet_53 rfl rfl (by decide) (by decide) rfl fl_X6_24 ?_
        refine p_gfi (pc' := 59) (a := 1) (k := 4) (x := nI (cw c)) dX6_smallestSettlingSet_56 rfl (rfl) (by decide) (by decide) rfl fl_X6_110 (h.w) ?_
        refine e_iload_n (pc' := 60) dX6_smallestSettlingSet_59 rfl rfl rfl ?_
        refine e_ixorN (pc' := 61) dX6_smallestSettlingSet_60 rfl ?_
        refine r_V (pc' := 64) (m' := mX1_countBlockedWith) (As := [.int (nI ((cw c) ^^^ i))]) (st := []) (c_countBlockedWith (d := d) h hw (w := (cw c) ^^^ i) (by first | omega | exact Nat.lt_of_le_of_lt (blkN_le _) (by omega) | exact xor9 (by omega) (by omega))) dX6_smallestSettlingSet_61 rfl rfl (Nat.le_of_ble_eq_true rfl) (fit_of (by omega) (by decide) (by decide) (by decide)) ml_X6_107 okX1_countBlockedWith rfl rfl (by decide) rfl ?_
        show EV _ _ _ _ _ 64 _ ([.int (nI (blkN c ((cw c) ^^^ i)))]) _
        refine e_if_neN (pc' := 67) (tgt := 70) dX6_smallestSettlingSet_64 rfl (by decide) (by first | omega | exact Nat.lt_of_le_of_lt (blkN_le _) (by omega) | exact xor9 (by omega) (by omega)) (fun h5 => ?_) (fun h5 => ?_)
        · refine e_iincN (pc' := 73) (k := 1) (L' := [some (.ref (ad 7)), some (.int (nI (2 ^ (cn c)))), some (.int (oI (sstF c i))), some (.int (nI (i + 1))), some (.int (nI (pop (i)))), some (.int (nI 1))]) dX6_smallestSettlingSet_70 rfl rfl rfl (by decide) rfl ?_
          refine e_goto (tgt := 14) dX6_smallestSettlingSet_73 (by decide) ?_
          refine e_fg (i := 4) (L' := [some (.ref (ad 7)), some (.int (nI (2 ^ (cn c)))), some (.int (oI (sstF c i))), some (.int (nI (i + 1))), none, some (.int (nI 1))]) rfl ?_
          refine e_fg (i := 5) (L' := [some (.ref (ad 7)), some (.int (nI (2 ^ (cn c)))), some (.int (oI (sstF c i))), some (.int (nI (i + 1))), none, none]) rfl ?_
          have e : sstF c (i + 1) = sstF c i := by first | exact sst_skip1 h1 h3 | exact sst_skip2 h5
          exact ih (by omega) |> fun q => by rw [e] at q; exact q
        · refine e_iload (pc' := 69) dX6_smallestSettlingSet_67 rfl rfl ?_
          refine e_istore_n (pc' := 70) (L' := [some (.ref (ad 7)), some (.int (nI (2 ^ (cn c)))), some (.int (nI (pop (i)))), some (.int (nI i)), some (.int (nI (pop (i)))), some (.int (nI 1))]) dX6_smallestSettlingSet_69 rfl rfl (by decide) rfl ?_
          refine e_iincN (pc' := 73) (k := 1) (L' := [some (.ref (ad 7)), some (.int (nI (2 ^ (cn c)))), some (.int (nI (pop (i)))), some (.int (nI (i + 1))), some (.int (nI (pop (i)))), some (.int (nI 1))]) dX6_smallestSettlingSet_70 rfl rfl rfl (by decide) rfl ?_
          refine e_goto (tgt := 14) dX6_smallestSettlingSet_73 (by decide) ?_
          refine e_fg (i := 4) (L' := [some (.ref (ad 7)), some (.int (nI (2 ^ (cn c)))), some (.int (nI (pop (i)))), some (.int (nI (i + 1))), none, some (.int (nI 1))]) rfl ?_
          refine e_fg (i := 5) (L' := [some (.ref (ad 7)), some (.int (nI (2 ^ (cn c)))), some (.int (nI (pop (i)))), some (.int (nI (i + 1))), none, none]) rfl ?_
          have e := sst_take (c := c) (i := i) (by first | exact Or.inl h1 | exact Or.inr h3) h5
          exact ih (by omega) |> fun q => by rw [e] at q; exact q)
theorem c_sst (h : ColAt M 1 c) (hw : WF c) : RET G ad (d + 2) mX6_smallestSettlingSet [.ref (ad 7)] (M, o) (some (.int (oI (sstF c (2 ^ cn c))))) (M, o) := by
  refine CM_of rfl (by decide) rfl (Nat.le_of_ble_eq_true rfl) rfl ?_
  have hn := hw.n
  have hk := hw.k
  have hw9 := hw.w9
  have h29 : 2 ^ cn c ≤ 512 := p2_le (n := 9) hw.n
  refine e_iconst (pc' := 1) (v := nI 1) dX6_smallestSettlingSet_0 rfl (by decide) ?_
  refine e_aload_n (pc' := 2) dX6_smallestSettlingSet_1 rfl rfl rfl ?_
  refine p_gfr (pc' := 5) (a := 7) (k := 0) (t := 1) dX6_smallestSettlingSet_2 rfl rfl (by decide) (by decide) rfl fl_X6_24 ?_
  refine p_gfi (pc' := 8) (a := 1) (k := 0) (x := nI (cn c)) dX6_smallestSettlingSet_5 rfl (rfl) (by decide) (by decide) rfl fl_X6_31 (h.n) ?_
  refine e_ishlN (pc' := 9) dX6_smallestSettlingSet_8 rfl (by omega) (by rw [Nat.one_mul]; exact Nat.lt_of_le_of_lt h29 (by decide)) ?_
  rw [show (nI (1 * 2 ^ (cn c))) = nI (2 ^ (cn c)) from by rw [Nat.one_mul]]
  refine e_istore_n (pc' := 10) (L' := [some (.ref (ad 7)), some (.int (nI (2 ^ (cn c)))), none, none, none, none]) dX6_smallestSettlingSet_9 rfl rfl (by decide) rfl ?_
  refine e_iconst (pc' := 11) (v := (-1)) dX6_smallestSettlingSet_10 rfl (by decide) ?_
  refine e_istore_n (pc' := 12) (L' := [some (.ref (ad 7)), some (.int (nI (2 ^ (cn c)))), some (.int ((-1))), none, none, none]) dX6_smallestSettlingSet_11 rfl rfl (by decide) rfl ?_
  refine e_iconst (pc' := 13) (v := nI 0) dX6_smallestSettlingSet_12 rfl (by decide) ?_
  refine e_istore_n (pc' := 14) (L' := [some (.ref (ad 7)), some (.int (nI (2 ^ (cn c)))), some (.int ((-1))), some (.int (nI 0)), none, none]) dX6_smallestSettlingSet_13 rfl rfl (by decide) rfl ?_
  exact l_sst h hw 0 (Nat.zero_le _)
theorem lobF_le : ∀ i, lobF c i ≤ ck c
  | 0 => Nat.le_refl _
  | i + 1 => Nat.le_trans (Nat.min_le_left ..) (lobF_le i)
theorem l_lob (h : ColAt M 1 c) (hw : WF c) : ∀ i, i ≤ 2 ^ cn c → ER G ad (d + 2) mX6_leastBlockedOfSets (0, 0) (PR (some (.int (nI (lobF c (2 ^ cn c))))) (M, o)) (0, 0) 20 [some (.ref (ad 7)), some (.int (nI (2 ^ (cn c)))), some (.int (nI (lobF c i))), some (.int (nI i))] [] (M, o) := down (2 ^ cn c) _ (fun i hi ih  => by
  have hn := hw.n
  have hk := hw.k
  have hw9 := hw.w9
  have h29 : 2 ^ cn c ≤ 512 := p2_le (n := 9) hw.n
  have h3 := lobF_le (c := c) i
  have h4 := blkN_le (c := c) (cw c ^^^ i)
  refine e_iload_n (pc' := 21) dX6_leastBlockedOfSets_20 rfl rfl rfl ?_
  refine e_iload_n (pc' := 22) dX6_leastBlockedOfSets_21 rfl rfl rfl ?_
  refine e_icmp_geN (pc' := 25) (tgt := 52) dX6_leastBlockedOfSets_22 rfl (by decide) (by first | omega | exact Nat.lt_of_le_of_lt (blkN_le _) (by omega) | exact xor9 (by omega) (by omega)) (by first | omega | exact Nat.lt_of_le_of_lt (blkN_le _) (by omega) | exact xor9 (by omega) (by omega)) (fun hz1 => ?_) (fun hz1 => ?_)
  · refine e_iload_n (pc' := 53) dX6_leastBlockedOfSets_52 rfl rfl rfl ?_
    exact e_iret dX6_leastBlockedOfSets_53 rfl (MP.ret (congrArg (fun z => some (Value.int z)) (by rw [show i = 2 ^ cn c by omega])) rfl) (by decide) (by decide)
  · refine e_iload_n (pc' := 26) dX6_leastBlockedOfSets_25 rfl rfl rfl ?_
    refine e_aload_n (pc' := 27) dX6_leastBlockedOfSets_26 rfl rfl rfl ?_
    refine p_gfr (pc' := 30) (a := 7) (k := 0) (t := 1) dX6_leastBlockedOfSets_27 rfl rfl (by decide) (by decide) rfl fl_X6_24 ?_
    refine e_aload_n (pc' := 31) dX6_leastBlockedOfSets_30 rfl rfl rfl ?_
    refine p_gfr (pc' := 34) (a := 7) (k := 0) (t := 1) dX6_leastBlockedOfSets_31 rfl rfl (by decide) (by decide) rfl fl_X6_24 ?_
    refine p_gfi (pc' := 37) (a := 1) (k := 4) (x := nI (cw c)) dX6_leastBlockedOfSets_34 rfl (rfl) (by decide) (by decide) rfl fl_X6_110 (h.w) ?_
    refine e_iload_n (pc' := 38) dX6_leastBlockedOfSets_37 rfl rfl rfl ?_
    refine e_ixorN (pc' := 39) dX6_leastBlockedOfSets_38 rfl ?_
    refine r_V (pc' := 42) (m' := mX1_countBlockedWith) (As := [.int (nI ((cw c) ^^^ i))]) (st := [.int (nI (lobF c i))]) (c_countBlockedWith (d := d) h hw (w := (cw c) ^^^ i) (by first | omega | exact Nat.lt_of_le_of_lt (blkN_le _) (by omega) | exact xor9 (by omega) (by omega))) dX6_leastBlockedOfSets_39 rfl rfl (Nat.le_of_ble_eq_true rfl) (fit_of (by omega) (by decide) (by decide) (by decide)) ml_X6_107 okX1_countBlockedWith rfl rfl (by decide) rfl ?_
    show EV _ _ _ _ _ 42 _ ([.int (nI (blkN c ((cw c) ^^^ i))), .int (nI (lobF c i))]) _
    refine e_min (pc' := 45) dX6_leastBlockedOfSets_42 rfl ml_X6_86 ma_min_s in_Math ma_min_c (by simp [rmK]) (by simp [rmK, Value.category] <;> omega) (Nat.zero_le _) (Nat.zero_le _) ?_
    rw [show (if (nI (blkN c ((cw c) ^^^ i))) < (nI (lobF c i)) then (nI (blkN c ((cw c) ^^^ i))) else (nI (lobF c i))) = nI (min (lobF c i) (blkN c (cw c ^^^ i))) from min_nI (by omega) (by omega)]
    refine e_istore_n (pc' := 46) (L' := [some (.ref (ad 7)), some (.int (nI (2 ^ (cn c)))), some (.int (nI (min (lobF c i) (blkN c (cw c ^^^ i))))), some (.int (nI i))]) dX6_leastBlockedOfSets_45 rfl rfl (by decide) rfl ?_
    refine e_iincN (pc' := 49) (k := 1) (L' := [some (.ref (ad 7)), some (.int (nI (2 ^ (cn c)))), some (.int (nI (min (lobF c i) (blkN c (cw c ^^^ i))))), some (.int (nI (i + 1)))]) dX6_leastBlockedOfSets_46 rfl rfl rfl (by decide) rfl ?_
    refine e_goto (tgt := 20) dX6_leastBlockedOfSets_49 (by decide) ?_
    exact ih (by omega))
theorem c_lob (h : ColAt M 1 c) (hw : WF c) : RET G ad (d + 2) mX6_leastBlockedOfSets [.ref (ad 7)] (M, o) (some (.int (nI (lobF c (2 ^ cn c))))) (M, o) := by
  refine CM_of rfl (by decide) rfl (Nat.le_of_ble_eq_true rfl) rfl ?_
  have hn := hw.n
  have hk := hw.k
  have hw9 := hw.w9
  have h29 : 2 ^ cn c ≤ 512 := p2_le (n := 9) hw.n
  refine e_iconst (pc' := 1) (v := nI 1) dX6_leastBlockedOfSets_0 rfl (by decide) ?_
  refine e_aload_n (pc' := 2) dX6_leastBlockedOfSets_1 rfl rfl rfl ?_
  refine p_gfr (pc' := 5) (a := 7) (k := 0) (t := 1) dX6_leastBlockedOfSets_2 rfl rfl (by decide) (by decide) rfl fl_X6_24 ?_
  refine p_gfi (pc' := 8) (a := 1) (k := 0) (x := nI (cn c)) dX6_leastBlockedOfSets_5 rfl (rfl) (by decide) (by decide) rfl fl_X6_31 (h.n) ?_
  refine e_ishlN (pc' := 9) dX6_leastBlockedOfSets_8 rfl (by omega) (by rw [Nat.one_mul]; exact Nat.lt_of_le_of_lt h29 (by decide)) ?_
  rw [show (nI (1 * 2 ^ (cn c))) = nI (2 ^ (cn c)) from by rw [Nat.one_mul]]
  refine e_istore_n (pc' := 10) (L' := [some (.ref (ad 7)), some (.int (nI (2 ^ (cn c)))), none, none]) dX6_leastBlockedOfSets_9 rfl rfl (by decide) rfl ?_
  refine e_aload_n (pc' := 11) dX6_leastBlockedOfSets_10 rfl rfl rfl ?_
  refine p_gfr (pc' := 14) (a := 7) (k := 0) (t := 1) dX6_leastBlockedOfSets_11 rfl rfl (by decide) (by decide) rfl fl_X6_24 ?_
  refine p_gfi (pc' := 17) (a := 1) (k := 5) (x := nI (ck c)) dX6_leastBlockedOfSets_14 rfl (rfl) (by decide) (by decide) rfl fl_X6_37 (h.k) ?_
  refine e_istore_n (pc' := 18) (L' := [some (.ref (ad 7)), some (.int (nI (2 ^ (cn c)))), some (.int (nI (ck c))), none]) dX6_leastBlockedOfSets_17 rfl rfl (by decide) rfl ?_
  refine e_iconst (pc' := 19) (v := nI 0) dX6_leastBlockedOfSets_18 rfl (by decide) ?_
  refine e_istore_n (pc' := 20) (L' := [some (.ref (ad 7)), some (.int (nI (2 ^ (cn c)))), some (.int (nI (ck c))), some (.int (nI 0))]) dX6_leastBlockedOfSets_19 rfl rfl (by decide) rfl ?_
  exact l_lob h hw 0 (Nat.zero_le _)
def ear1 (c : Col) (w m i : Nat) : Nat := cnt (earP c w m) i
theorem l_ear (h : ColAt M 1 c) (hw : WF c) {w m : Nat} (hw2 : w < 512) (hm : m < 9) : ∀ i, i ≤ ck c → ER G ad (d + 1) mX6_blockedToEarlier (0, 0) (PR (some (.int (nI (ear c w m)))) (M, o)) (0, 0) 5 [some (.ref (ad 7)), some (.int (nI w)), some (.int (nI m)), some (.int (nI (ear1 c w m i))), some (.int (nI i)), none] [] (M, o) := down (ck c) _ (fun i hi ih  => by
  have hn := hw.n
  have hk := hw.k
  have hw9 := hw.w9
  refine e_iload (pc' := 7) dX6_blockedToEarlier_5 rfl rfl ?_
  refine e_aload_n (pc' := 8) dX6_blockedToEarlier_7 rfl rfl rfl ?_
  refine p_gfr (pc' := 11) (a := 7) (k := 0) (t := 1) dX6_blockedToEarlier_8 rfl rfl (by decide) (by decide) rfl fl_X6_24 ?_
  refine p_gfi (pc' := 14) (a := 1) (k := 5) (x := nI (ck c)) dX6_blockedToEarlier_11 rfl (rfl) (by decide) (by decide) rfl fl_X6_37 (h.k) ?_
  refine e_icmp_geN (pc' := 17) (tgt := 63) dX6_blockedToEarlier_14 rfl (by decide) (by omega) (by omega) (fun hz1 => ?_) (fun hz1 => ?_)
  · refine e_iload_n (pc' := 64) dX6_blockedToEarlier_63 rfl rfl rfl ?_
    exact e_iret dX6_blockedToEarlier_64 rfl (MP.ret (congrArg (fun z => some (Value.int z)) (by rw [show i = ck c by omega]; rfl)) rfl) (by decide) (by decide)
  · refine e_aload_n (pc' := 18) dX6_blockedToEarlier_17 rfl rfl rfl ?_
    refine p_gfr (pc' := 21) (a := 7) (k := 0) (t := 1) dX6_blockedToEarlier_18 rfl rfl (by decide) (by decide) rfl fl_X6_24 ?_
    refine e_iload (pc' := 23) dX6_blockedToEarlier_21 rfl rfl ?_
    refine e_iload_n (pc' := 24) dX6_blockedToEarlier_23 rfl rfl rfl ?_
    refine r_V (pc' := 27) (m' := mX1_otherEnd) (As := [.int (nI i), .int (nI m)]) (st := []) (c_otherEnd (d := d) h hw (j := i) (k := m) (by omega) (by omega)) dX6_blockedToEarlier_24 rfl rfl (Nat.le_of_ble_eq_true rfl) (fit_of (by omega) (by decide) (by decide) (by decide)) ml_X6_78 okX1_otherEnd rfl rfl (by decide) rfl ?_
    show EV _ _ _ _ _ 27 _ ([.int (oI (oEnd c i m))]) _
    refine e_istore (pc' := 29) (L' := [some (.ref (ad 7)), some (.int (nI w)), some (.int (nI m)), some (.int (nI (ear1 c w m i))), some (.int (nI i)), some (.int (oI (oEnd c i m)))]) dX6_blockedToEarlier_27 rfl (by decide) rfl ?_
    refine e_iload (pc' := 31) dX6_blockedToEarlier_29 rfl rfl ?_
    refine e_iconst (pc' := 32) (v := (-1)) dX6_blockedToEarlier_31 rfl (by decide) ?_
    refine e_icmp_eq (pc' := 35) (tgt := 57) dX6_blockedToEarlier_32 rfl (by decide) (fun h1 => ?_) (fun h1 => ?_)
    · refine e_iincN (pc' := 60) (k := 1) (L' := [some (.ref (ad 7)), some (.int (nI w)), some (.int (nI m)), some (.int (nI (ear1 c w m i))), some (.int (nI (i + 1))), some (.int (oI (oEnd c i m)))]) dX6_blockedToEarlier_57 rfl rfl rfl (by decide) rfl ?_
      refine e_goto (tgt := 5) dX6_blockedToEarlier_60 (by decide) ?_
      refine e_fg (i := 5) (L' := [some (.ref (ad 7)), some (.int (nI w)), some (.int (nI m)), some (.int (nI (ear1 c w m i))), some (.int (nI (i + 1))), none]) rfl ?_
      have e : ear1 c w m (i + 1) = ear1 c w m i := cnt_0 (by
        unfold earP
        first | (rw [(oI_ne (fun z e => by have := oEnd_lt hw (by omega) e; omega)).mp h1]; done) | (rw [hx]; simp only [Bool.and_eq_false_iff, decide_eq_false_iff_not]; first | exact Or.inl (by omega) | exact Or.inr h4))
      rw [← e]
      exact ih (by omega)
    · obtain ⟨x, hx⟩ : ∃ x, oEnd c i m = some x := by
        cases hq : oEnd c i m with
        | none => rw [hq] at h1; exact absurd rfl h1
        | some x => exact ⟨x, rfl⟩
      rw [hx]
      have hx9 := oEnd_lt hw (by omega) hx
      refine e_iload (pc' := 37) dX6_blockedToEarlier_35 rfl rfl ?_
      refine e_iload_n (pc' := 38) dX6_blockedToEarlier_37 rfl rfl rfl ?_
      refine e_icmp_geN (pc' := 41) (tgt := 57) dX6_blockedToEarlier_38 rfl (by decide) (by omega) (by omega) (fun h3 => ?_) (fun h3 => ?_)
      · refine e_iincN (pc' := 60) (k := 1) (L' := [some (.ref (ad 7)), some (.int (nI w)), some (.int (nI m)), some (.int (nI (ear1 c w m i))), some (.int (nI (i + 1))), some (.int (nI x))]) dX6_blockedToEarlier_57 rfl rfl rfl (by decide) rfl ?_
        refine e_goto (tgt := 5) dX6_blockedToEarlier_60 (by decide) ?_
        refine e_fg (i := 5) (L' := [some (.ref (ad 7)), some (.int (nI w)), some (.int (nI m)), some (.int (nI (ear1 c w m i))), some (.int (nI (i + 1))), none]) rfl ?_
        have e : ear1 c w m (i + 1) = ear1 c w m i := cnt_0 (by
          unfold earP
          first | (rw [(oI_ne (fun z e => by have := oEnd_lt hw (by omega) e; omega)).mp h1]; done) | (rw [hx]; simp only [Bool.and_eq_false_iff, decide_eq_false_iff_not]; first | exact Or.inl (by omega) | exact Or.inr h4))
        rw [← e]
        exact ih (by omega)
      · refine e_aload_n (pc' := 42) dX6_blockedToEarlier_41 rfl rfl rfl ?_
        refine p_gfr (pc' := 45) (a := 7) (k := 0) (t := 1) dX6_blockedToEarlier_42 rfl rfl (by decide) (by decide) rfl fl_X6_24 ?_
        refine e_iload_n (pc' := 46) dX6_blockedToEarlier_45 rfl rfl rfl ?_
        refine e_iload (pc' := 48) dX6_blockedToEarlier_46 rfl rfl ?_
        refine r_V (pc' := 51) (m' := mX1_isBlockedWith) (As := [.int (nI w), .int (nI i)]) (st := []) (c_isBlockedWith (d := d) h hw (w := w) (j := i) (by omega) (by omega)) dX6_blockedToEarlier_48 rfl rfl (Nat.le_of_ble_eq_true rfl) (fit_of (by omega) (by decide) (by decide) (by decide)) ml_X6_132 okX1_isBlockedWith rfl rfl (by decide) rfl ?_
        show EV _ _ _ _ _ 51 _ ([.int (bI (blk c (w) (i)))]) _
        refine e_if_eqB (pc' := 54) (tgt := 57) dX6_blockedToEarlier_51 rfl (by decide) (fun h4 => ?_) (fun h4 => ?_)
        · refine e_iincN (pc' := 60) (k := 1) (L' := [some (.ref (ad 7)), some (.int (nI w)), some (.int (nI m)), some (.int (nI (ear1 c w m i))), some (.int (nI (i + 1))), some (.int (nI x))]) dX6_blockedToEarlier_57 rfl rfl rfl (by decide) rfl ?_
          refine e_goto (tgt := 5) dX6_blockedToEarlier_60 (by decide) ?_
          refine e_fg (i := 5) (L' := [some (.ref (ad 7)), some (.int (nI w)), some (.int (nI m)), some (.int (nI (ear1 c w m i))), some (.int (nI (i + 1))), none]) rfl ?_
          have e : ear1 c w m (i + 1) = ear1 c w m i := cnt_0 (by
            unfold earP
            first | (rw [(oI_ne (fun z e => by have := oEnd_lt hw (by omega) e; omega)).mp h1]; done) | (rw [hx]; simp only [Bool.and_eq_false_iff, decide_eq_false_iff_not]; first | exact Or.inl (by omega) | exact Or.inr h4))
          rw [← e]
          exact ih (by omega)
        · refine e_iincN (pc' := 57) (k := 1) (L' := [some (.ref (ad 7)), some (.int (nI w)), some (.int (nI m)), some (.int (nI (ear1 c w m i + 1))), some (.int (nI i)), some (.int (nI x))]) dX6_blockedToEarlier_54 rfl rfl rfl (by decide) rfl ?_
          refine e_iincN (pc' := 60) (k := 1) (L' := [some (.ref (ad 7)), some (.int (nI w)), some (.int (nI m)), some (.int (nI (ear1 c w m i + 1))), some (.int (nI (i + 1))), some (.int (nI x))]) dX6_blockedToEarlier_57 rfl rfl rfl (by decide) rfl ?_
          refine e_goto (tgt := 5) dX6_blockedToEarlier_60 (by decide) ?_
          refine e_fg (i := 5) (L' := [some (.ref (ad 7)), some (.int (nI w)), some (.int (nI m)), some (.int (nI (ear1 c w m i + 1))), some (.int (nI (i + 1))), none]) rfl ?_
          have e : ear1 c w m (i + 1) = ear1 c w m i + 1 := cnt_1 (by unfold earP; rw [hx]; simp [h3, h4])
          rw [← e]
          exact ih (by omega))
theorem c_ear (h : ColAt M 1 c) (hw : WF c) {w m : Nat} (hw2 : w < 512) (hm : m < 9) : RET G ad (d + 1) mX6_blockedToEarlier [.ref (ad 7), .int (nI w), .int (nI m)] (M, o) (some (.int (nI (ear c w m)))) (M, o) := by
  refine CM_of rfl (by decide) rfl (Nat.le_of_ble_eq_true rfl) rfl ?_
  have hn := hw.n
  have hk := hw.k
  have hw9 := hw.w9
  refine e_iconst (pc' := 1) (v := nI 0) dX6_blockedToEarlier_0 rfl (by decide) ?_
  refine e_istore_n (pc' := 2) (L' := [some (.ref (ad 7)), some (.int (nI w)), some (.int (nI m)), some (.int (nI 0)), none, none]) dX6_blockedToEarlier_1 rfl rfl (by decide) rfl ?_
  refine e_iconst (pc' := 3) (v := nI 0) dX6_blockedToEarlier_2 rfl (by decide) ?_
  refine e_istore (pc' := 5) (L' := [some (.ref (ad 7)), some (.int (nI w)), some (.int (nI m)), some (.int (nI 0)), some (.int (nI 0)), none]) dX6_blockedToEarlier_3 rfl (by decide) rfl ?_
  exact l_ear h hw hw2 hm 0 (by omega)
theorem bndF_le : ∀ {fu m w b l : Nat}, bndF c fu m w b l ≤ l
  | 0, m, w, b, l => Nat.le_refl _
  | fu + 1, m, w, b, l => by
    unfold bndF
    split
    · exact Nat.le_refl _
    · split
      · omega
      · exact Nat.le_trans bndF_le bndF_le
theorem bndF_s {fu m w b l : Nat} : bndF c (fu + 1) m w b l = if l ≤ b then l else if cn c ≤ m ∨ 9 ≤ m then b else bndF c fu (m + 1) (w ||| 2 ^ m) (b + ear c (w ||| 2 ^ m) m) (bndF c fu (m + 1) w (b + ear c w m) l) := rfl
theorem ear_le (w m : Nat) : ear c w m ≤ ck c := cnt_le _ _
theorem orb {w m : Nat} (h : w < 2 ^ m) : w ||| 2 ^ m < 2 ^ (m + 1) := Nat.or_lt_two_pow (Nat.lt_trans h (p2_lt (Nat.lt_succ_self m))) (p2_lt (Nat.lt_succ_self m))
theorem c_bound (h : ColAt M 1 c) (hw : WF c) : ∀ (fu m w b l : Nat), m + fu = 10 → 1 ≤ fu → w < 2 ^ m → b ≤ 16 * m → l ≤ 1000 → RET G ad (d + (fu + 2)) mX6_bound [.ref (ad 7), .int (nI m), .int (nI w), .int (nI b), .int (nI l)] (M, o) (some (.int (nI (bndF c fu m w b l)))) (M, o) := by
  intro fu
  induction fu with
  | zero => intro m w b l h1 h2; omega
  | succ fu IH =>
  intro m w b l h1 h2 h3 h4 h5
  have hn := hw.n
  have hk := hw.k
  have e1 := ear_le (c := c) w m
  have e2 := ear_le (c := c) (w ||| 2 ^ m) m
  have w5 : w < 512 := Nat.lt_of_lt_of_le h3 (p2_le (n := 9) (by omega))
  have w6 : m < 9 → w ||| 2 ^ m < 512 := fun hm => or9 w5 (p2_9 hm)
  have e3 := bndF_le (c := c) (fu := fu) (m := m + 1) (w := w) (b := b + ear c w m) (l := l)
  refine CM_of rfl (by decide) rfl (Nat.le_of_ble_eq_true rfl) rfl ?_
  refine e_iload_n (pc' := 1) dX6_bound_0 rfl rfl rfl ?_
  refine e_iload (pc' := 3) dX6_bound_1 rfl rfl ?_
  refine e_icmp_ltN (pc' := 6) (tgt := 9) dX6_bound_3 rfl (by decide) (by first | omega | exact w6 (by omega)) (by first | omega | exact w6 (by omega)) (fun hz1 => ?_) (fun hz1 => ?_)
  · refine e_iload_n (pc' := 10) dX6_bound_9 rfl rfl rfl ?_
    refine e_aload_n (pc' := 11) dX6_bound_10 rfl rfl rfl ?_
    refine p_gfr (pc' := 14) (a := 7) (k := 0) (t := 1) dX6_bound_11 rfl rfl (by decide) (by decide) rfl fl_X6_24 ?_
    refine p_gfi (pc' := 17) (a := 1) (k := 0) (x := nI (cn c)) dX6_bound_14 rfl (rfl) (by decide) (by decide) rfl fl_X6_31 (h.n) ?_
    refine e_icmp_geN (pc' := 20) (tgt := 26) dX6_bound_17 rfl (by decide) (by first | omega | exact w6 (by omega)) (by first | omega | exact w6 (by omega)) (fun hz2 => ?_) (fun hz2 => ?_)
    · refine e_iload_n (pc' := 27) dX6_bound_26 rfl rfl rfl ?_
      exact e_iret dX6_bound_27 rfl (MP.ret (congrArg (fun z => some (Value.int z)) (by rw [bndF_s]; first | (exfalso; omega) | rw [if_pos (show l ≤ b by omega)] | rw [if_neg (show ¬ l ≤ b by omega), if_pos (show cn c ≤ m ∨ 9 ≤ m by omega)] | rw [if_neg (show ¬ l ≤ b by omega), if_neg (show ¬ (cn c ≤ m ∨ 9 ≤ m) by omega)])) rfl) (by decide) (by decide)
    · refine e_iload_n (pc' := 21) dX6_bound_20 rfl rfl rfl ?_
      refine e_bipush (pc' := 23) (v := nI 9) dX6_bound_21 rfl (by decide) ?_
      refine e_icmp_ltN (pc' := 26) (tgt := 28) dX6_bound_23 rfl (by decide) (by first | omega | exact w6 (by omega)) (by first | omega | exact w6 (by omega)) (fun hz3 => ?_) (fun hz3 => ?_)
      · refine e_aload_n (pc' := 29) dX6_bound_28 rfl rfl rfl ?_
        refine e_iload_n (pc' := 30) dX6_bound_29 rfl rfl rfl ?_
        refine e_iload_n (pc' := 31) dX6_bound_30 rfl rfl rfl ?_
        refine r_V (pc' := 34) (m' := mX6_blockedToEarlier) (As := [.int (nI w), .int (nI m)]) (st := []) (c_ear (d := d) h hw (w := w) (m := m) (by first | omega | exact w6 (by omega)) (by omega)) dX6_bound_31 rfl rfl (Nat.le_of_ble_eq_true rfl) (fit_of (by omega) (by decide) (by decide) (by decide)) ml_X6_129 okX6_blockedToEarlier rfl rfl (by decide) rfl ?_
        show EV _ _ _ _ _ 34 _ ([.int (nI (ear c (w) m))]) _
        refine e_istore (pc' := 36) (L' := [some (.ref (ad 7)), some (.int (nI m)), some (.int (nI w)), some (.int (nI b)), some (.int (nI l)), some (.int (nI (ear c (w) m))), none, none, none]) dX6_bound_34 rfl (by decide) rfl ?_
        refine e_aload_n (pc' := 37) dX6_bound_36 rfl rfl rfl ?_
        refine e_iload_n (pc' := 38) dX6_bound_37 rfl rfl rfl ?_
        refine e_iconst (pc' := 39) (v := nI 1) dX6_bound_38 rfl (by decide) ?_
        refine e_iaddN (pc' := 40) dX6_bound_39 rfl ?_
        refine e_iload_n (pc' := 41) dX6_bound_40 rfl rfl rfl ?_
        refine e_iload_n (pc' := 42) dX6_bound_41 rfl rfl rfl ?_
        refine e_iload (pc' := 44) dX6_bound_42 rfl rfl ?_
        refine e_iaddN (pc' := 45) dX6_bound_44 rfl ?_
        refine e_iload (pc' := 47) dX6_bound_45 rfl rfl ?_
        refine r_S (pc' := 50) (m' := mX6_bound) (As := [.ref (ad 7), .int (nI (m + 1)), .int (nI w), .int (nI (b + (ear c (w) m))), .int (nI l)]) (st := []) (IH (m + 1) (w) (b + (ear c (w) m)) (l) (by omega) (by omega) (Nat.lt_trans h3 (p2_lt (Nat.lt_succ_self m))) (by omega) (by omega)) dX6_bound_47 rfl rfl (Nat.le_of_ble_eq_true rfl) (fit_of (by omega) (by decide) (by decide) (by decide)) ml_X6_125 okX6_bound rfl rfl ?_
        show EV _ _ _ _ _ 50 _ ([.int (nI (bndF c fu (m + 1) (w) (b + (ear c (w) m)) (l)))]) _
        refine e_istore (pc' := 52) (L' := [some (.ref (ad 7)), some (.int (nI m)), some (.int (nI w)), some (.int (nI b)), some (.int (nI l)), some (.int (nI (ear c (w) m))), some (.int (nI (bndF c fu (m + 1) (w) (b + (ear c (w) m)) (l)))), none, none]) dX6_bound_50 rfl (by decide) rfl ?_
        refine e_iload_n (pc' := 53) dX6_bound_52 rfl rfl rfl ?_
        refine e_iconst (pc' := 54) (v := nI 1) dX6_bound_53 rfl (by decide) ?_
        refine e_iload_n (pc' := 55) dX6_bound_54 rfl rfl rfl ?_
        refine e_ishlN (pc' := 56) dX6_bound_55 rfl (by omega) (by rw [Nat.one_mul]; exact Nat.lt_trans (p2_9 (by omega)) (by decide)) ?_
        rw [show (nI (1 * 2 ^ m)) = nI (2 ^ m) from by rw [Nat.one_mul]]
        refine e_iorN (pc' := 57) dX6_bound_56 rfl ?_
        refine e_istore (pc' := 59) (L' := [some (.ref (ad 7)), some (.int (nI m)), some (.int (nI w)), some (.int (nI b)), some (.int (nI l)), some (.int (nI (ear c (w) m))), some (.int (nI (bndF c fu (m + 1) (w) (b + (ear c (w) m)) (l)))), some (.int (nI (w ||| (2 ^ m)))), none]) dX6_bound_57 rfl (by decide) rfl ?_
        refine e_aload_n (pc' := 60) dX6_bound_59 rfl rfl rfl ?_
        refine e_iload (pc' := 62) dX6_bound_60 rfl rfl ?_
        refine e_iload_n (pc' := 63) dX6_bound_62 rfl rfl rfl ?_
        refine r_V (pc' := 66) (m' := mX6_blockedToEarlier) (As := [.int (nI (w ||| (2 ^ m))), .int (nI m)]) (st := []) (c_ear (d := d) h hw (w := w ||| (2 ^ m)) (m := m) (by first | omega | exact w6 (by omega)) (by omega)) dX6_bound_63 rfl rfl (Nat.le_of_ble_eq_true rfl) (fit_of (by omega) (by decide) (by decide) (by decide)) ml_X6_129 okX6_blockedToEarlier rfl rfl (by decide) rfl ?_
        show EV _ _ _ _ _ 66 _ ([.int (nI (ear c (w ||| (2 ^ m)) m))]) _
        refine e_istore (pc' := 68) (L' := [some (.ref (ad 7)), some (.int (nI m)), some (.int (nI w)), some (.int (nI b)), some (.int (nI l)), some (.int (nI (ear c (w) m))), some (.int (nI (bndF c fu (m + 1) (w) (b + (ear c (w) m)) (l)))), some (.int (nI (w ||| (2 ^ m)))), some (.int (nI (ear c (w ||| (2 ^ m)) m)))]) dX6_bound_66 rfl (by decide) rfl ?_
        refine e_aload_n (pc' := 69) dX6_bound_68 rfl rfl rfl ?_
        refine e_iload_n (pc' := 70) dX6_bound_69 rfl rfl rfl ?_
        refine e_iconst (pc' := 71) (v := nI 1) dX6_bound_70 rfl (by decide) ?_
        refine e_iaddN (pc' := 72) dX6_bound_71 rfl ?_
        refine e_iload (pc' := 74) dX6_bound_72 rfl rfl ?_
        refine e_iload_n (pc' := 75) dX6_bound_74 rfl rfl rfl ?_
        refine e_iload (pc' := 77) dX6_bound_75 rfl rfl ?_
        refine e_iaddN (pc' := 78) dX6_bound_77 rfl ?_
        refine e_iload (pc' := 80) dX6_bound_78 rfl rfl ?_
        refine r_S (pc' := 83) (m' := mX6_bound) (As := [.ref (ad 7), .int (nI (m + 1)), .int (nI (w ||| (2 ^ m))), .int (nI (b + (ear c (w ||| (2 ^ m)) m))), .int (nI (bndF c fu (m + 1) (w) (b + (ear c (w) m)) (l)))]) (st := []) (IH (m + 1) (w ||| (2 ^ m)) (b + (ear c (w ||| (2 ^ m)) m)) (bndF c fu (m + 1) (w) (b + (ear c (w) m)) (l)) (by omega) (by omega) (orb h3) (by omega) (by omega)) dX6_bound_80 rfl rfl (Nat.le_of_ble_eq_true rfl) (fit_of (by omega) (by decide) (by decide) (by decide)) ml_X6_125 okX6_bound rfl rfl ?_
        show EV _ _ _ _ _ 83 _ ([.int (nI (bndF c fu (m + 1) (w ||| (2 ^ m)) (b + (ear c (w ||| (2 ^ m)) m)) (bndF c fu (m + 1) (w) (b + (ear c (w) m)) (l))))]) _
        exact e_iret dX6_bound_83 rfl (MP.ret (congrArg (fun z => some (Value.int z)) (by rw [bndF_s]; first | (exfalso; omega) | rw [if_pos (show l ≤ b by omega)] | rw [if_neg (show ¬ l ≤ b by omega), if_pos (show cn c ≤ m ∨ 9 ≤ m by omega)] | rw [if_neg (show ¬ l ≤ b by omega), if_neg (show ¬ (cn c ≤ m ∨ 9 ≤ m) by omega)])) rfl) (by decide) (by decide)
      · refine e_iload_n (pc' := 27) dX6_bound_26 rfl rfl rfl ?_
        exact e_iret dX6_bound_27 rfl (MP.ret (congrArg (fun z => some (Value.int z)) (by rw [bndF_s]; first | (exfalso; omega) | rw [if_pos (show l ≤ b by omega)] | rw [if_neg (show ¬ l ≤ b by omega), if_pos (show cn c ≤ m ∨ 9 ≤ m by omega)] | rw [if_neg (show ¬ l ≤ b by omega), if_neg (show ¬ (cn c ≤ m ∨ 9 ≤ m) by omega)])) rfl) (by decide) (by decide)
  · refine e_iload (pc' := 8) dX6_bound_6 rfl rfl ?_
    exact e_iret dX6_bound_8 rfl (MP.ret (congrArg (fun z => some (Value.int z)) (by rw [bndF_s]; first | (exfalso; omega) | rw [if_pos (show l ≤ b by omega)] | rw [if_neg (show ¬ l ≤ b by omega), if_pos (show cn c ≤ m ∨ 9 ≤ m by omega)] | rw [if_neg (show ¬ l ≤ b by omega), if_neg (show ¬ (cn c ≤ m ∨ 9 ≤ m) by omega)])) rfl) (by decide) (by decide)
theorem c_lwb (h : ColAt M 1 c) (hw : WF c) : RET G ad (d + 13) mX6_leastBlockedWithinBounds [.ref (ad 7)] (M, o) (some (.int (nI (bndF c 10 0 0 0 (blkN c (cw c)))))) (M, o) := by
  refine CM_of rfl (by decide) rfl (Nat.le_of_ble_eq_true rfl) rfl ?_
  have hn := hw.n
  have hk := hw.k
  have hw9 := hw.w9
  have hb := blkN_le (c := c) (cw c)
  refine e_aload_n (pc' := 1) dX6_leastBlockedWithinBounds_0 rfl rfl rfl ?_
  refine e_iconst (pc' := 2) (v := nI 0) dX6_leastBlockedWithinBounds_1 rfl (by decide) ?_
  refine e_iconst (pc' := 3) (v := nI 0) dX6_leastBlockedWithinBounds_2 rfl (by decide) ?_
  refine e_iconst (pc' := 4) (v := nI 0) dX6_leastBlockedWithinBounds_3 rfl (by decide) ?_
  refine e_aload_n (pc' := 5) dX6_leastBlockedWithinBounds_4 rfl rfl rfl ?_
  refine p_gfr (pc' := 8) (a := 7) (k := 0) (t := 1) dX6_leastBlockedWithinBounds_5 rfl rfl (by decide) (by decide) rfl fl_X6_24 ?_
  refine r_V (pc' := 11) (m' := mX1_countBlocked) (As := []) (st := [.int (nI 0), .int (nI 0), .int (nI 0), .ref (ad 7)]) (c_countBlocked (d := d) h hw) dX6_leastBlockedWithinBounds_8 rfl rfl (Nat.le_of_ble_eq_true rfl) (fit_of (by omega) (by decide) (by decide) (by decide)) ml_X6_122 okX1_countBlocked rfl rfl (by decide) rfl ?_
  show EV _ _ _ _ _ 11 _ ([.int (nI (blkN c (cw c))), .int (nI 0), .int (nI 0), .int (nI 0), .ref (ad 7)]) _
  refine r_S (pc' := 14) (m' := mX6_bound) (As := [.ref (ad 7), .int (nI 0), .int (nI 0), .int (nI 0), .int (nI (blkN c (cw c)))]) (st := []) (c_bound (d := d) h hw 10 (0) (0) (0) (blkN c (cw c)) (by omega) (by omega) (by decide) (by omega) (by omega)) dX6_leastBlockedWithinBounds_11 rfl rfl (Nat.le_of_ble_eq_true rfl) (fit_of (by omega) (by decide) (by decide) (by decide)) ml_X6_125 okX6_bound rfl rfl ?_
  show EV _ _ _ _ _ 14 _ ([.int (nI (bndF c 10 (0) (0) (0) (blkN c (cw c))))]) _
  exact e_iret dX6_leastBlockedWithinBounds_14 rfl (MP.ret rfl rfl) (by decide) (by decide)
theorem c_num {s : BS} (hB : BSAt M s) {v : Nat} (hv : v < 9) : RETI G ad d mX6_numberMagnet [.ref (ad 7), .int (nI v)] (M, o) none (fun M' => BSAt M' (numM v s) ∧ KP (inR 7 11) M M') := by
  refine CM_of rfl (by decide) rfl (Nat.le_of_ble_eq_true rfl) rfl ?_
  obtain ⟨hN, hL, h6, h7⟩ := hB
  refine e_aload_n (pc' := 1) dX6_numberMagnet_0 rfl rfl rfl ?_
  refine e_dup (pc' := 2) dX6_numberMagnet_1 rfl rfl ?_
  refine p_gfi (pc' := 5) (a := 7) (k := 6) (x := s.2.2.1) dX6_numberMagnet_2 rfl (rfl) (by decide) (by decide) rfl fl_X6_64 (h6) ?_
  refine e_iconst (pc' := 6) (v := nI 1) dX6_numberMagnet_5 rfl (by decide) ?_
  refine e_iadd (pc' := 7) dX6_numberMagnet_6 rfl ?_
  refine p_pfi (pc' := 10) (a := 7) (k := 6) dX6_numberMagnet_7 rfl (rfl) (by decide) (by decide) rfl fl_X6_64 rfl rfl ?_
  refine e_aload_n (pc' := 11) dX6_numberMagnet_10 rfl rfl rfl ?_
  refine p_gfr (pc' := 14) (a := 7) (k := 3) (t := 10) dX6_numberMagnet_11 rfl rfl (by decide) (by decide) rfl fl_X6_18 ?_
  refine e_iload_n (pc' := 15) dX6_numberMagnet_14 rfl rfl rfl ?_
  refine e_aload_n (pc' := 16) dX6_numberMagnet_15 rfl rfl rfl ?_
  refine p_gfi (pc' := 19) (a := 7) (k := 6) (x := (s.2.2.1) + (nI 1)) dX6_numberMagnet_16 rfl (rfl) (by decide) (by decide) rfl fl_X6_64 (up2_s) ?_
  refine p_iast (pc' := 20) (a := 10) (k := v) dX6_numberMagnet_19 rfl (rfl) (rfl) (by omega) (by decide) ?_
  refine e_aload_n (pc' := 21) dX6_numberMagnet_20 rfl rfl rfl ?_
  refine p_gfr (pc' := 24) (a := 7) (k := 4) (t := 11) dX6_numberMagnet_21 rfl rfl (by decide) (by decide) rfl fl_X6_21 ?_
  refine e_iload_n (pc' := 25) dX6_numberMagnet_24 rfl rfl rfl ?_
  refine e_aload_n (pc' := 26) dX6_numberMagnet_25 rfl rfl rfl ?_
  refine p_gfi (pc' := 29) (a := 7) (k := 6) (x := (s.2.2.1) + (nI 1)) dX6_numberMagnet_26 rfl (rfl) (by decide) (by decide) rfl fl_X6_64 (by rw [up2_n (by decide)]; exact up2_s) ?_
  refine p_iast (pc' := 30) (a := 11) (k := v) dX6_numberMagnet_29 rfl (rfl) (rfl) (by omega) (by decide) ?_
  exact e_vret dX6_numberMagnet_30 rfl (MP.retI rfl ⟨⟨(((hN.up (by decide)).set (i := v) (x := (s.2.2.1) + (nI 1))).up (by decide)), (((hL.up (by decide)).up (by decide)).set (i := v) (x := (s.2.2.1) + (nI 1))), by rw [up2_n (by decide)]; exact by rw [up2_n (by decide)]; exact up2_s, by rw [up2_n (by decide)]; exact by rw [up2_n (by decide)]; exact by rw [up2_k (by decide)]; exact h7⟩, (((KP.refl.up (by decide)).up (by decide)).up (by decide))⟩) (by decide) (by decide)
theorem c_reach {s : BS} (hB : BSAt M s) {v : Nat} (hv : v < 9) (x : Int32) : RETI G ad d mX6_reachNumber [.ref (ad 7), .int (nI v), .int (x)] (M, o) none (fun M' => BSAt M' (reaM v x s) ∧ KP (inR 7 11) M M') := by
  refine CM_of rfl (by decide) rfl (Nat.le_of_ble_eq_true rfl) rfl ?_
  obtain ⟨hN, hL, h6, h7⟩ := hB
  refine e_aload_n (pc' := 1) dX6_reachNumber_0 rfl rfl rfl ?_
  refine p_gfr (pc' := 4) (a := 7) (k := 4) (t := 11) dX6_reachNumber_1 rfl rfl (by decide) (by decide) rfl fl_X6_21 ?_
  refine e_iload_n (pc' := 5) dX6_reachNumber_4 rfl rfl rfl ?_
  refine e_aload_n (pc' := 6) dX6_reachNumber_5 rfl rfl rfl ?_
  refine p_gfr (pc' := 9) (a := 7) (k := 4) (t := 11) dX6_reachNumber_6 rfl rfl (by decide) (by decide) rfl fl_X6_21 ?_
  refine e_iload_n (pc' := 10) dX6_reachNumber_9 rfl rfl rfl ?_
  have hi1 : v < 9 := by omega
  refine p_iald (pc' := 11) (a := 11) (k := v) (x := s.2.1 v) dX6_reachNumber_10 rfl (rfl) (rfl) (by omega) (by decide) (hL _ hi1) ?_
  refine e_iload_n (pc' := 12) dX6_reachNumber_11 rfl rfl rfl ?_
  refine e_min (pc' := 15) dX6_reachNumber_12 rfl ml_X6_86 ma_min_s in_Math ma_min_c (by simp [rmK]) (by simp [rmK, Value.category] <;> omega) (Nat.zero_le _) (Nat.zero_le _) ?_
  refine p_iast (pc' := 16) (a := 11) (k := v) dX6_reachNumber_15 rfl (rfl) (rfl) (by omega) (by decide) ?_
  exact e_vret dX6_reachNumber_16 rfl (MP.retI rfl ⟨⟨(hN.up (by decide)), (hL.set (i := v) (x := if (x) < (s.2.1 v) then (x) else (s.2.1 v))), by rw [up2_n (by decide)]; exact h6, by rw [up2_n (by decide)]; exact h7⟩, (KP.refl.up (by decide))⟩) (by decide) (by decide)
end T14

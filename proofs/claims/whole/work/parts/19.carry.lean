set_option maxHeartbeats 400000
/-! CHANGES: carrying out -/
section T19
variable {G : gC} {ad : Nat → Nat} {d : Nat} {M : Nat → Nat → Int32} {o : (Nat → Int64) × (Nat → UInt64)} {c : Col}
theorem trn_wf {w : Nat} (hw : WF c) (h : w < 2 ^ cn c) : WF (trnC c w) := by
  obtain ⟨h1, h2, h3, h4, h5, h6, h7⟩ := hw
  exact ⟨h1, h2, Nat.xor_lt_two_pow h3 h, h4, h5, h6, h7⟩
theorem str_wf {i s : Nat} (hw : WF c) (h1 : 1 ≤ s) (h2 : s ≤ 30) : WF (strC c i s) := by
  obtain ⟨g1, g2, g3, g4, g5, g6, g7⟩ := hw
  refine ⟨g1, g2, g3, fun j hj => ⟨(g4 j hj).1, ?_⟩, g5, g6, g7⟩
  show 1 ≤ ups (cs c) i s j ∧ ups (cs c) i s j ≤ 30
  unfold ups; split
  · exact ⟨h1, h2⟩
  · exact (g4 j hj).2
theorem add_wf {p s : Nat} {b : Bool} (hw : WF c) (hl : cn c < 9) (hp : p < 100) (h1 : 1 ≤ s) (h2 : s ≤ 30) (hm : mOn c (nI p) = none) : WF (addC c p s b) := by
  have hf : ∀ i, i < cn c → ¬ cp c i = p := fun i hi => mOn_none hm hi
  obtain ⟨g1, g2, g3, g4, g5, g6, g7⟩ := hw
  refine ⟨hl, g2, ?_, fun j hj => ?_, fun i j hi hj e => ?_, fun j hj => ⟨Nat.lt_succ_of_lt (g6 j hj).1, Nat.lt_succ_of_lt (g6 j hj).2.1, (g6 j hj).2.2⟩, g7⟩
  · show (if b then cw c ||| 2 ^ cn c else cw c) < 2 ^ (cn c + 1)
    split
    · exact orb g3
    · exact Nat.lt_trans g3 (p2_lt (Nat.lt_succ_self _))
  · have hj2 : j < cn c + 1 := hj
    show ups (cp c) (cn c) p j < 100 ∧ 1 ≤ ups (cs c) (cn c) s j ∧ ups (cs c) (cn c) s j ≤ 30
    by_cases q : j = cn c
    · rw [q, ups_s, ups_s]; exact ⟨hp, h1, h2⟩
    · rw [ups_n q, ups_n q]; exact g4 j (by omega)
  · have hi2 : i < cn c + 1 := hi
    have hj2 : j < cn c + 1 := hj
    have e2 : ups (cp c) (cn c) p i = ups (cp c) (cn c) p j := e
    by_cases q : i = cn c
    · by_cases r : j = cn c
      · rw [q, r]
      · rw [q, ups_s, ups_n r] at e2
        exact absurd e2.symm (hf j (by omega))
    · by_cases r : j = cn c
      · rw [r, ups_s, ups_n q] at e2
        exact absurd e2 (hf i (by omega))
      · rw [ups_n q, ups_n r] at e2
        exact g5 i j (by omega) (by omega) e2
theorem tBet_none {a b : Nat} (h : tBet c a b = none) {j : Nat} (hj : j < ck c) : ¬ oEnd c j a = some b := by
  rcases fnd_spec (fun j => decide (oEnd c j a = some b)) (ck c) with ⟨h1, h2⟩ | ⟨k, h1, h2, _, _⟩
  · exact of_decide_eq_false (h2 j hj)
  · exact absurd (h1.symm.trans h) (by intro h; cases h)
theorem dig_wf {a b : Nat} (hw : WF c) (hl : ck c < 16) (ha : a < cn c) (hb : b < cn c) (hab : a ≠ b) (ht : tBet c a b = none) : WF (digC c a b) := by
  have hf : ∀ j, j < ck c → ¬ (cf c j = a ∧ cg c j = b ∨ cf c j = b ∧ cg c j = a) := fun j hj q => tBet_none ht hj (by
    unfold oEnd
    rcases q with ⟨q1, q2⟩ | ⟨q1, q2⟩
    · rw [if_pos q1, q2]
    · rw [if_neg (by rw [q1]; exact fun z => hab z.symm), if_pos q2, q1])
  obtain ⟨g1, g2, g3, g4, g5, g6, g7⟩ := hw
  have ef : ∀ j, cf (digC c a b) j = ups (cf c) (ck c) a j := fun _ => rfl
  have eg : ∀ j, cg (digC c a b) j = ups (cg c) (ck c) b j := fun _ => rfl
  have ek : ck (digC c a b) = ck c + 1 := rfl
  refine ⟨g1, hl, g3, g4, g5, fun j hj => ?_, fun i j hi hj e => ?_⟩
  · rw [ek] at hj
    rw [ef, eg]
    by_cases q : j = ck c
    · rw [q, ups_s, ups_s]; exact ⟨ha, hb, hab⟩
    · rw [ups_n q, ups_n q]; exact g6 j (by omega)
  · rw [ek] at hi hj
    rw [ef, eg, ef, eg] at e
    by_cases q : i = ck c
    · by_cases r : j = ck c
      · rw [q, r]
      · rw [q, ups_s, ups_s, ups_n r, ups_n r] at e
        refine absurd ?_ (hf j (by omega))
        rcases e with ⟨e1, e2⟩ | ⟨e1, e2⟩
        · exact Or.inl ⟨e1.symm, e2.symm⟩
        · exact Or.inr ⟨e2.symm, e1.symm⟩
    · by_cases r : j = ck c
      · rw [r, ups_s, ups_s, ups_n q, ups_n q] at e
        refine absurd ?_ (hf i (by omega))
        rcases e with ⟨e1, e2⟩ | ⟨e1, e2⟩
        · exact Or.inl ⟨e1, e2⟩
        · exact Or.inr ⟨e1, e2⟩
      · rw [ups_n q, ups_n q, ups_n r, ups_n r] at e
        exact g7 i j (by omega) (by omega) e
theorem fil_wf {t : Nat} (hw : WF c) (ht : t < ck c) : WF (filC c t) := by
  obtain ⟨g1, g2, g3, g4, g5, g6, g7⟩ := hw
  have sh : ∀ j, j < ck c - 1 → ∃ j2, j2 < ck c ∧ cf (filC c t) j = cf c j2 ∧ cg (filC c t) j = cg c j2 ∧ (j2 = if j < t then j else j + 1) := fun j hj => by
    by_cases q : j < t
    · exact ⟨j, by omega, if_pos q, if_pos q, (if_pos q).symm⟩
    · exact ⟨j + 1, by omega, if_neg q, if_neg q, (if_neg q).symm⟩
  refine ⟨g1, Nat.le_trans (Nat.sub_le _ _) g2, g3, g4, g5, fun j hj => ?_, fun i j hi hj e => ?_⟩
  · obtain ⟨j2, h1, h2, h3, -⟩ := sh j hj
    rw [h2, h3]
    exact g6 j2 h1
  · obtain ⟨i2, h1, h2, h3, h4⟩ := sh i hi
    obtain ⟨j2, k1, k2, k3, k4⟩ := sh j hj
    rw [h2, h3, k2, k3] at e
    have := g7 i2 j2 h1 k1 e
    grind
/-! the best set lies below 2 ^ n -/
theorem pstn_lt {j : Nat} {s : Nat × Nat} (hw : WF c) (hj : j < ck c) (h1 : s.1 < 2 ^ cn c) : (pst c j s).1 < 2 ^ cn c := by
  have hf := hw.f hj
  have hg := hw.g hj
  unfold pst
  split
  · exact h1
  · exact Nat.or_lt_two_pow h1 (p2_lt (by split <;> omega))
theorem pitn_lt {s : Nat × Nat} (hw : WF c) (h1 : s.1 < 2 ^ cn c) : ∀ j, j ≤ ck c → (iter (pst c) j s).1 < 2 ^ cn c
  | 0, _ => h1
  | j + 1, h => pstn_lt hw (by omega) (pitn_lt hw h1 j (by omega))
theorem prwn_lt {s : Nat × Nat} (hw : WF c) (h1 : s.1 < 2 ^ cn c) : ∀ j, (iter (prow c) j s).1 < 2 ^ cn c
  | 0 => h1
  | j + 1 => pitn_lt hw (prwn_lt hw h1 j) (ck c) (Nat.le_refl _)
theorem givn_lt {m gn : Nat} (hw : WF c) (hm : m < cn c) : (giv c m gn).1 < 2 ^ cn c := prwn_lt hw (p2_lt hm) _
theorem btOn_lt {gn p m : Nat} (h1 : p < 2 ^ cn c) : btO c gn p m < 2 ^ cn c := by
  have a : p &&& (gn ^^^ cw c) < 2 ^ cn c := Nat.lt_of_le_of_lt Nat.and_le_left h1
  have b : p ^^^ (p &&& (gn ^^^ cw c)) < 2 ^ cn c := Nat.xor_lt_two_pow h1 a
  unfold btO
  dsimp only
  split
  · split <;> assumption
  · split <;> assumption
theorem bstsn_lt (hw : WF c) : ∀ i, i ≤ cn c → (bsts c i).2.2 < 2 ^ cn c
  | 0, _ => Nat.two_pow_pos _
  | i + 1, h => by
    have ih := bstsn_lt hw i (by omega)
    show (bst c i (bsts c i)).2.2 < _
    unfold bst
    split
    · exact ih
    · exact Nat.or_lt_two_pow ih (btOn_lt (givn_lt hw (by omega)))
theorem bestn_lt (hw : WF c) {s : Nat} (e : bestF c = some s) : s < 2 ^ cn c := by
  have h := bstsn_lt hw (cn c) (Nat.le_refl _)
  unfold bestF at e
  split at e <;> cases e
  exact h
/-- what carrying out answers and makes -/
def cy (c : Col) (k : Nat) (a b t : Int32) : Int32 × Col := match k with
  | 0 => (nI (cn c), addC c (iN a) (iN b) (decide (t = nI 1)))
  | 1 => (nI (cs c (iN a)), strC c (iN a) (iN b))
  | 2 => (nI (blkN (trnC c (2 ^ iN a)) (cw (trnC c (2 ^ iN a)))), trnC c (2 ^ iN a))
  | 3 => (nI (pop (aboW c a (cn c))), trnC c (aboW c a (cn c)))
  | 4 => (nI (mvs c (cn c)).2, movC c)
  | 5 => (nI (ck c), digC c (iN a) (iN b))
  | 6 => (nI (ck c - 1), filC c (iN a))
  | _ => (nI (pop ((bestF c).getD 0)), trnC c ((bestF c).getD 0))
theorem ite9 {α : Type} {p : Prop} [Decidable p] {x y : Nat × α} (h : (if p then x else y).1 = 0) : (p ∧ x.1 = 0) ∨ (¬ p ∧ y.1 = 0) := by
  by_cases q : p
  · rw [if_pos q] at h; exact Or.inl ⟨q, h⟩
  · rw [if_neg q] at h; exact Or.inr ⟨q, h⟩
theorem isP_nI {a : Int32} (h : isP a = true) : ∃ p, p < 100 ∧ a = nI p ∧ iN a = p := by
  obtain ⟨p, h1, h2⟩ := in_nI (n := 100) (by decide) (of_decide_eq_true h).1 (of_decide_eq_true h).2
  exact ⟨p, h1, h2, by rw [h2]; exact iN_nI (by omega)⟩
theorem isS_nI {a : Int32} (h : isS a = true) : ∃ s, 1 ≤ s ∧ s ≤ 30 ∧ a = nI s ∧ iN a = s := by
  have h0 := of_decide_eq_true h
  obtain ⟨p, h1, h2⟩ := in_nI (n := 31) (x := a) (by decide) (Int32.le_trans (by decide) h0.1) (Int32.lt_of_le_of_lt h0.2 (by decide))
  subst h2
  exact ⟨p, (nI_leI (by decide) (by omega)).mp h0.1, by omega, rfl, iN_nI (by omega)⟩
theorem hasM_nI {a : Int32} (hn : cn c ≤ 9) (h : hasM c a = true) : ∃ i, i < cn c ∧ a = nI i ∧ iN a = i := by
  obtain ⟨p, h1, h2⟩ := in_nI (n := cn c) (by omega) (of_decide_eq_true h).1 (of_decide_eq_true h).2
  exact ⟨p, h1, h2, by rw [h2]; exact iN_nI (by omega)⟩
theorem hasT_nI {a : Int32} (hk : ck c ≤ 16) (h : hasT c a = true) : ∃ i, i < ck c ∧ a = nI i ∧ iN a = i := by
  obtain ⟨p, h1, h2⟩ := in_nI (n := ck c) (by omega) (of_decide_eq_true h).1 (of_decide_eq_true h).2
  exact ⟨p, h1, h2, by rw [h2]; exact iN_nI (by omega)⟩
theorem none_of {α : Type} {r : Option α} (h : r.isNone = true) : r = none := by cases r with | none => rfl | some x => cases h
theorem jAdd0 {a b : Int32} (h : (jdAdd c a b).1 = 0) : isP a = true ∧ isS b = true ∧ cn c < 9 ∧ mOn c a = none := by
  rcases ite9 h with ⟨h1, h⟩ | ⟨_, h⟩
  · rcases ite9 h with ⟨_, h⟩ | ⟨h2, h⟩
    · cases h
    · rcases ite9 h with ⟨h3, _⟩ | ⟨_, h⟩
      · exact ⟨h1.1, h1.2, by omega, none_of h3⟩
      · cases h
  · cases h
theorem jStr0 {a b : Int32} (h : (jdStr c a b).1 = 0) : hasM c a = true ∧ isS b = true := by
  rcases ite9 h with ⟨h1, h⟩ | ⟨_, h⟩
  · rcases ite9 h with ⟨h2, _⟩ | ⟨_, h⟩
    · exact ⟨h1, h2⟩
    · cases h
  · cases h
theorem jDig0 {a b : Int32} (h : (jdDig c a b).1 = 0) : hasM c a = true ∧ hasM c b = true ∧ a ≠ b ∧ tBet c (iN a) (iN b) = none ∧ ck c < 16 := by
  rcases ite9 h with ⟨h1, h⟩ | ⟨_, h⟩
  · rcases ite9 h with ⟨_, h⟩ | ⟨h2, h⟩
    · cases h
    · rcases ite9 h with ⟨h3, h⟩ | ⟨_, h⟩
      · rcases ite9 h with ⟨h4, _⟩ | ⟨_, h⟩
        · exact ⟨h1.1, h1.2, h2, none_of h3, h4⟩
        · cases h
      · cases h
  · cases h
theorem jSet0 (h : (jdSet c).1 = 0) : ∃ s, bestF c = some s := by
  rcases ite9 h with ⟨_, h⟩ | ⟨_, h⟩
  · cases h
  · rcases ite9 h with ⟨_, h⟩ | ⟨h2, _⟩
    · cases h
    · cases q : bestF c with
      | none => rw [q] at h2; exact absurd rfl h2
      | some s => exact ⟨s, rfl⟩
theorem cy_wf {k : Nat} {a b t : Int32} (hw : WF c) (hk : k < 8) (hj : (jd c k a b).1 = 0) : WF (cy c k a b t).2 := by
  match k, hk with
  | 0, _ =>
    obtain ⟨h1, h2, h3, h4⟩ := jAdd0 hj
    obtain ⟨p, p1, p2, p3⟩ := isP_nI h1
    obtain ⟨s, s1, s2, s3, s4⟩ := isS_nI h2
    show WF (addC c (iN a) (iN b) _)
    rw [p3, s4]
    exact add_wf hw h3 p1 s1 s2 (by rw [← p2]; exact h4)
  | 1, _ =>
    obtain ⟨h1, h2⟩ := jStr0 hj
    obtain ⟨s, s1, s2, s3, s4⟩ := isS_nI h2
    show WF (strC c (iN a) (iN b))
    rw [s4]
    exact str_wf hw s1 s2
  | 2, _ =>
    rcases ite9 hj with ⟨h1, _⟩ | ⟨_, h⟩
    · obtain ⟨i, i1, i2, i3⟩ := hasM_nI hw.n h1
      show WF (trnC c (2 ^ iN a))
      rw [i3]
      exact trn_wf hw (p2_lt i1)
    · cases h
  | 3, _ => exact trn_wf hw (aboW_lt c a _)
  | 4, _ => exact movC_wf hw
  | 5, _ =>
    obtain ⟨h1, h2, h3, h4, h5⟩ := jDig0 hj
    obtain ⟨i, i1, i2, i3⟩ := hasM_nI hw.n h1
    obtain ⟨j, j1, j2, j3⟩ := hasM_nI hw.n h2
    show WF (digC c (iN a) (iN b))
    rw [i3, j3] at h4 ⊢
    exact dig_wf hw h5 i1 j1 (fun e => h3 (by rw [i2, j2, e])) h4
  | 6, _ =>
    rcases ite9 hj with ⟨h1, _⟩ | ⟨_, h⟩
    · obtain ⟨i, i1, i2, i3⟩ := hasT_nI hw.k h1
      show WF (filC c (iN a))
      rw [i3]
      exact fil_wf hw i1
    · cases h
  | 7, _ =>
    obtain ⟨s, hs⟩ := jSet0 hj
    show WF (trnC c ((bestF c).getD 0))
    rw [hs]
    exact trn_wf hw (bestn_lt hw hs)
theorem c_carry0 (h : ColAt M 1 c) (hw : WF c) {p s : Nat} (hl : cn c < 9) (hp : p < 100) (hs : s ≤ 30) (t : Int32) : RETI G ad (d + 5) mX0_carryOut [.ref (ad 13), .int (nI 0), .int (nI p), .int (nI s), .int (t)] (M, o) (some (.int (nI (cn c)))) (fun M' => ColAt M' 1 (addC c p s (decide (t = nI 1))) ∧ KP (inR 1 11) M M') := by
  refine CM_of rfl (by decide) rfl (Nat.le_of_ble_eq_true rfl) rfl ?_
  have hn := hw.n
  have hk := hw.k
  have hw9 := hw.w9
  refine e_iload_n (pc' := 1) dX0_carryOut_0 rfl rfl rfl ?_
  refine e_tableIn (tgt := 44) (off := 43) dX0_carryOut_1 (by decide) (by decide) (by decide) (by decide) ?_
  refine e_aload_n (pc' := 45) dX0_carryOut_44 rfl rfl rfl ?_
  refine p_gfr (pc' := 48) (a := 13) (k := 0) (t := 1) dX0_carryOut_45 rfl rfl (by decide) (by decide) rfl fl_X0_9 ?_
  refine e_iload_n (pc' := 49) dX0_carryOut_48 rfl rfl rfl ?_
  refine e_iload_n (pc' := 50) dX0_carryOut_49 rfl rfl rfl ?_
  refine e_iload (pc' := 52) dX0_carryOut_50 rfl rfl ?_
  refine e_iconst (pc' := 53) (v := nI 1) dX0_carryOut_52 rfl (by decide) ?_
  refine e_icmp_ne (pc' := 56) (tgt := 60) dX0_carryOut_53 rfl (by decide) (fun h1 => ?_) (fun h1 => ?_)
  · refine e_iconst (pc' := 61) (v := nI 0) dX0_carryOut_60 rfl (by decide) ?_
    refine r_VI (pc' := 64) (m' := mX1_place) (As := [.int (nI p), .int (nI s), .int (nI 0)]) (st := []) (c_place (d := d) h hw (by omega) (p := p) (s := s) (by omega) (by omega) (false)) dX0_carryOut_61 rfl rfl (Nat.le_of_ble_eq_true rfl) (fit_of (by omega) (by decide) (by decide) (by decide)) ml_X0_80 okX1_place rfl rfl (by decide) rfl (fun M1 hM1 => ?_)
    show EV _ _ _ _ _ 64 _ ([.int (nI (cn c))]) _
    exact e_iret dX0_carryOut_64 rfl (MP.retI rfl ⟨by first | (rw [decide_eq_true h1]; exact hM1.1) | (rw [decide_eq_false h1]; exact hM1.1), hM1.2.wide (fun a ha => by unfold inR at *; simp at *; omega)⟩) (by decide) (by decide)
  · refine e_iconst (pc' := 57) (v := nI 1) dX0_carryOut_56 rfl (by decide) ?_
    refine e_goto (tgt := 61) dX0_carryOut_57 (by decide) ?_
    refine r_VI (pc' := 64) (m' := mX1_place) (As := [.int (nI p), .int (nI s), .int (nI 1)]) (st := []) (c_place (d := d) h hw (by omega) (p := p) (s := s) (by omega) (by omega) (true)) dX0_carryOut_61 rfl rfl (Nat.le_of_ble_eq_true rfl) (fit_of (by omega) (by decide) (by decide) (by decide)) ml_X0_80 okX1_place rfl rfl (by decide) rfl (fun M1 hM1 => ?_)
    show EV _ _ _ _ _ 64 _ ([.int (nI (cn c))]) _
    exact e_iret dX0_carryOut_64 rfl (MP.retI rfl ⟨by first | (rw [decide_eq_true h1]; exact hM1.1) | (rw [decide_eq_false h1]; exact hM1.1), hM1.2.wide (fun a ha => by unfold inR at *; simp at *; omega)⟩) (by decide) (by decide)
theorem c_carry1 (h : ColAt M 1 c) (hw : WF c) {i s : Nat} (hi : i < cn c) (hs : s ≤ 30) (t : Int32) : RETI G ad (d + 5) mX0_carryOut [.ref (ad 13), .int (nI 1), .int (nI i), .int (nI s), .int (t)] (M, o) (some (.int (nI (cs c i)))) (fun M' => ColAt M' 1 (strC c i s) ∧ KP (inR 1 11) M M') := by
  refine CM_of rfl (by decide) rfl (Nat.le_of_ble_eq_true rfl) rfl ?_
  have hn := hw.n
  have hk := hw.k
  have hw9 := hw.w9
  refine e_iload_n (pc' := 1) dX0_carryOut_0 rfl rfl rfl ?_
  refine e_tableIn (tgt := 65) (off := 64) dX0_carryOut_1 (by decide) (by decide) (by decide) (by decide) ?_
  refine e_aload_n (pc' := 66) dX0_carryOut_65 rfl rfl rfl ?_
  refine p_gfr (pc' := 69) (a := 13) (k := 0) (t := 1) dX0_carryOut_66 rfl rfl (by decide) (by decide) rfl fl_X0_9 ?_
  refine e_iload_n (pc' := 70) dX0_carryOut_69 rfl rfl rfl ?_
  refine e_iload_n (pc' := 71) dX0_carryOut_70 rfl rfl rfl ?_
  refine r_VI (pc' := 74) (m' := mX1_strengthen) (As := [.int (nI i), .int (nI s)]) (st := []) (c_strengthen (d := d) h hw (i := i) (s := s) (by omega)) dX0_carryOut_71 rfl rfl (Nat.le_of_ble_eq_true rfl) (fit_of (by omega) (by decide) (by decide) (by decide)) ml_X0_84 okX1_strengthen rfl rfl (by decide) rfl (fun M1 hM1 => ?_)
  show EV _ _ _ _ _ 74 _ ([.int (nI (cs c i))]) _
  exact e_iret dX0_carryOut_74 rfl (MP.retI rfl ⟨hM1.1, hM1.2.wide (fun a ha => by unfold inR at *; simp at *; omega)⟩) (by decide) (by decide)
theorem c_carry2 (h : ColAt M 1 c) (hw : WF c) {i : Nat} (hi : i < cn c) (b t : Int32) : RETI G ad (d + 5) mX0_carryOut [.ref (ad 13), .int (nI 2), .int (nI i), .int (b), .int (t)] (M, o) (some (.int (nI (blkN (trnC c (2 ^ i)) (cw (trnC c (2 ^ i))))))) (fun M' => ColAt M' 1 (trnC c (2 ^ i)) ∧ KP (inR 1 11) M M') := by
  refine CM_of rfl (by decide) rfl (Nat.le_of_ble_eq_true rfl) rfl ?_
  have hn := hw.n
  have hk := hw.k
  have hw9 := hw.w9
  refine e_iload_n (pc' := 1) dX0_carryOut_0 rfl rfl rfl ?_
  refine e_tableIn (tgt := 75) (off := 74) dX0_carryOut_1 (by decide) (by decide) (by decide) (by decide) ?_
  refine e_aload_n (pc' := 76) dX0_carryOut_75 rfl rfl rfl ?_
  refine p_gfr (pc' := 79) (a := 13) (k := 0) (t := 1) dX0_carryOut_76 rfl rfl (by decide) (by decide) rfl fl_X0_9 ?_
  refine e_iconst (pc' := 80) (v := nI 1) dX0_carryOut_79 rfl (by decide) ?_
  refine e_iload_n (pc' := 81) dX0_carryOut_80 rfl rfl rfl ?_
  refine e_ishlN (pc' := 82) dX0_carryOut_81 rfl (by omega) (by rw [Nat.one_mul]; exact Nat.lt_trans (p2_9 (by omega)) (by decide)) ?_
  rw [show (nI (1 * 2 ^ i)) = nI (2 ^ i) from by rw [Nat.one_mul]]
  refine r_VI (pc' := 85) (m' := mX1_turnSet) (As := [.int (nI (2 ^ i))]) (st := []) (c_turnSet (d := d) h hw (w := 2 ^ i) (by first | omega | exact p2_lt (by assumption))) dX0_carryOut_82 rfl rfl (Nat.le_of_ble_eq_true rfl) (fit_of (by omega) (by decide) (by decide) (by decide)) ml_X0_87 okX1_turnSet rfl rfl (by decide) rfl (fun M1 hM1 => ?_)
  show EV _ _ _ _ _ 85 _ ([.int (nI (pop (2 ^ i)))]) _
  refine e_pop (pc' := 86) dX0_carryOut_85 rfl rfl ?_
  refine e_aload_n (pc' := 87) dX0_carryOut_86 rfl rfl rfl ?_
  refine p_gfr (pc' := 90) (a := 13) (k := 0) (t := 1) dX0_carryOut_87 rfl rfl (by decide) (by decide) rfl fl_X0_9 ?_
  refine r_V (pc' := 93) (m' := mX1_countBlocked) (As := []) (st := []) (c_countBlocked (d := d) hM1.1 (trn_wf hw (by first | omega | exact p2_lt (by assumption)))) dX0_carryOut_90 rfl rfl (Nat.le_of_ble_eq_true rfl) (fit_of (by omega) (by decide) (by decide) (by decide)) ml_X0_69 okX1_countBlocked rfl rfl (by decide) rfl ?_
  show EV _ _ _ _ _ 93 _ ([.int (nI (blkN (trnC c (2 ^ i)) (cw (trnC c (2 ^ i)))))]) _
  exact e_iret dX0_carryOut_93 rfl (MP.retI rfl ⟨hM1.1, hM1.2.wide (fun a ha => by unfold inR at *; simp at *; omega)⟩) (by decide) (by decide)
theorem c_carry3 (h : ColAt M 1 c) (hw : WF c) (a b t : Int32) : RETI G ad (d + 5) mX0_carryOut [.ref (ad 13), .int (nI 3), .int (a), .int (b), .int (t)] (M, o) (some (.int (nI (pop (aboW c a (cn c)))))) (fun M' => ColAt M' 1 (trnC c (aboW c a (cn c))) ∧ KP (inR 1 11) M M') := by
  refine CM_of rfl (by decide) rfl (Nat.le_of_ble_eq_true rfl) rfl ?_
  have hn := hw.n
  have hk := hw.k
  have hw9 := hw.w9
  refine e_iload_n (pc' := 1) dX0_carryOut_0 rfl rfl rfl ?_
  refine e_tableIn (tgt := 94) (off := 93) dX0_carryOut_1 (by decide) (by decide) (by decide) (by decide) ?_
  refine e_aload_n (pc' := 95) dX0_carryOut_94 rfl rfl rfl ?_
  refine p_gfr (pc' := 98) (a := 13) (k := 0) (t := 1) dX0_carryOut_95 rfl rfl (by decide) (by decide) rfl fl_X0_9 ?_
  refine e_iload_n (pc' := 99) dX0_carryOut_98 rfl rfl rfl ?_
  refine r_VI (pc' := 102) (m' := mX1_turnFrom) (As := [.int (a)]) (st := []) (c_turnFrom (d := d) h hw (a)) dX0_carryOut_99 rfl rfl (Nat.le_of_ble_eq_true rfl) (fit_of (by omega) (by decide) (by decide) (by decide)) ml_X0_90 okX1_turnFrom rfl rfl (by decide) rfl (fun M1 hM1 => ?_)
  show EV _ _ _ _ _ 102 _ ([.int (nI (pop (aboW c (a) (cn c))))]) _
  exact e_iret dX0_carryOut_102 rfl (MP.retI rfl ⟨hM1.1, hM1.2.wide (fun a ha => by unfold inR at *; simp at *; omega)⟩) (by decide) (by decide)
theorem c_carry4 (h : ColAt M 1 c) (hw : WF c) (a b t : Int32) : RETI G ad (d + 5) mX0_carryOut [.ref (ad 13), .int (nI 4), .int (a), .int (b), .int (t)] (M, o) (some (.int (nI ((mvs c (cn c)).2)))) (fun M' => ColAt M' 1 (movC c) ∧ KP (inR 1 11) M M') := by
  refine CM_of rfl (by decide) rfl (Nat.le_of_ble_eq_true rfl) rfl ?_
  have hn := hw.n
  have hk := hw.k
  have hw9 := hw.w9
  refine e_iload_n (pc' := 1) dX0_carryOut_0 rfl rfl rfl ?_
  refine e_tableIn (tgt := 103) (off := 102) dX0_carryOut_1 (by decide) (by decide) (by decide) (by decide) ?_
  refine e_aload_n (pc' := 104) dX0_carryOut_103 rfl rfl rfl ?_
  refine p_gfr (pc' := 107) (a := 13) (k := 2) (t := 12) dX0_carryOut_104 rfl rfl (by decide) (by decide) rfl fl_X0_19 ?_
  refine r_VI (pc' := 110) (m' := mX3_moveEach) (As := []) (st := []) (c_move (d := d) h hw) dX0_carryOut_107 rfl rfl (Nat.le_of_ble_eq_true rfl) (fit_of (by omega) (by decide) (by decide) (by decide)) ml_X0_93 okX3_moveEach rfl rfl (by decide) rfl (fun M1 hM1 => ?_)
  show EV _ _ _ _ _ 110 _ ([.int (nI ((mvs c (cn c)).2))]) _
  exact e_iret dX0_carryOut_110 rfl (MP.retI rfl ⟨hM1.1, hM1.2.wide (fun a ha => by unfold inR at *; simp at *; omega)⟩) (by decide) (by decide)
theorem c_carry5 (h : ColAt M 1 c) (hw : WF c) (hl : ck c < 16) {i j : Nat} (t : Int32) : RETI G ad (d + 5) mX0_carryOut [.ref (ad 13), .int (nI 5), .int (nI i), .int (nI j), .int (t)] (M, o) (some (.int (nI (ck c)))) (fun M' => ColAt M' 1 (digC c i j) ∧ KP (inR 1 11) M M') := by
  refine CM_of rfl (by decide) rfl (Nat.le_of_ble_eq_true rfl) rfl ?_
  have hn := hw.n
  have hk := hw.k
  have hw9 := hw.w9
  refine e_iload_n (pc' := 1) dX0_carryOut_0 rfl rfl rfl ?_
  refine e_tableIn (tgt := 111) (off := 110) dX0_carryOut_1 (by decide) (by decide) (by decide) (by decide) ?_
  refine e_aload_n (pc' := 112) dX0_carryOut_111 rfl rfl rfl ?_
  refine p_gfr (pc' := 115) (a := 13) (k := 0) (t := 1) dX0_carryOut_112 rfl rfl (by decide) (by decide) rfl fl_X0_9 ?_
  refine e_iload_n (pc' := 116) dX0_carryOut_115 rfl rfl rfl ?_
  refine e_iload_n (pc' := 117) dX0_carryOut_116 rfl rfl rfl ?_
  refine r_VI (pc' := 120) (m' := mX1_join) (As := [.int (nI i), .int (nI j)]) (st := []) (c_join (d := d) h hw (by omega) (a := i) (b := j)) dX0_carryOut_117 rfl rfl (Nat.le_of_ble_eq_true rfl) (fit_of (by omega) (by decide) (by decide) (by decide)) ml_X0_98 okX1_join rfl rfl (by decide) rfl (fun M1 hM1 => ?_)
  show EV _ _ _ _ _ 120 _ ([.int (nI (ck c))]) _
  exact e_iret dX0_carryOut_120 rfl (MP.retI rfl ⟨hM1.1, hM1.2.wide (fun a ha => by unfold inR at *; simp at *; omega)⟩) (by decide) (by decide)
theorem c_carry6 (h : ColAt M 1 c) (hw : WF c) {i : Nat} (hi : i < ck c) (b t : Int32) : RETI G ad (d + 5) mX0_carryOut [.ref (ad 13), .int (nI 6), .int (nI i), .int (b), .int (t)] (M, o) (some (.int (nI (ck c - 1)))) (fun M' => ColAt M' 1 (filC c i) ∧ KP (inR 1 11) M M') := by
  refine CM_of rfl (by decide) rfl (Nat.le_of_ble_eq_true rfl) rfl ?_
  have hn := hw.n
  have hk := hw.k
  have hw9 := hw.w9
  refine e_iload_n (pc' := 1) dX0_carryOut_0 rfl rfl rfl ?_
  refine e_tableIn (tgt := 121) (off := 120) dX0_carryOut_1 (by decide) (by decide) (by decide) (by decide) ?_
  refine e_aload_n (pc' := 122) dX0_carryOut_121 rfl rfl rfl ?_
  refine p_gfr (pc' := 125) (a := 13) (k := 0) (t := 1) dX0_carryOut_122 rfl rfl (by decide) (by decide) rfl fl_X0_9 ?_
  refine e_iload_n (pc' := 126) dX0_carryOut_125 rfl rfl rfl ?_
  refine r_VI (pc' := 129) (m' := mX1_remove) (As := [.int (nI i)]) (st := []) (c_remove (d := d) h hw (j := i) (by omega)) dX0_carryOut_126 rfl rfl (Nat.le_of_ble_eq_true rfl) (fit_of (by omega) (by decide) (by decide) (by decide)) ml_X0_101 okX1_remove rfl rfl (by decide) rfl (fun M1 hM1 => ?_)
  show EV _ _ _ _ _ 129 _ ([.int (nI (ck c - 1))]) _
  exact e_iret dX0_carryOut_129 rfl (MP.retI rfl ⟨hM1.1, hM1.2.wide (fun a ha => by unfold inR at *; simp at *; omega)⟩) (by decide) (by decide)
theorem c_carry7 (h : ColAt M 1 c) (hw : WF c) {s : Nat} (hb : bestF c = some s) (a b t : Int32) : RETI G ad (d + 5) mX0_carryOut [.ref (ad 13), .int (nI 7), .int (a), .int (b), .int (t)] (M, o) (some (.int (nI (pop s)))) (fun M' => ColAt M' 1 (trnC c s) ∧ KP (inR 1 11) M M') := by
  refine CM_of rfl (by decide) rfl (Nat.le_of_ble_eq_true rfl) rfl ?_
  have hn := hw.n
  have hk := hw.k
  have hw9 := hw.w9
  refine e_iload_n (pc' := 1) dX0_carryOut_0 rfl rfl rfl ?_
  refine e_tableOut (tgt := 130) dX0_carryOut_1 (by decide) (by decide) ?_
  refine e_aload_n (pc' := 131) dX0_carryOut_130 rfl rfl rfl ?_
  refine p_gfr (pc' := 134) (a := 13) (k := 0) (t := 1) dX0_carryOut_131 rfl rfl (by decide) (by decide) rfl fl_X0_9 ?_
  refine e_aload_n (pc' := 135) dX0_carryOut_134 rfl rfl rfl ?_
  refine p_gfr (pc' := 138) (a := 13) (k := 1) (t := 7) dX0_carryOut_135 rfl rfl (by decide) (by decide) rfl fl_X0_15 ?_
  refine r_VI (pc' := 141) (m' := mX6_bestTurnSet) (As := []) (st := [.ref (ad 1)]) (c_best (d := d) h hw) dX0_carryOut_138 rfl rfl (Nat.le_of_ble_eq_true rfl) (fit_of (by omega) (by decide) (by decide) (by decide)) ml_X0_72 okX6_bestTurnSet rfl rfl (by decide) rfl (fun M9 hK9 => ?_)
  show EV _ _ _ _ _ 141 _ ([.int (oI (bestF c)), .ref (ad 1)]) _
  rw [hb]
  refine r_VI (pc' := 144) (m' := mX1_turnSet) (As := [.int (nI s)]) (st := []) (c_turnSet (d := d) (h.kp hK9 (fun i hi => inR_f (by omega))) hw (w := s) (by first | omega | exact bestn_lt hw hb)) dX0_carryOut_141 rfl rfl (Nat.le_of_ble_eq_true rfl) (fit_of (by omega) (by decide) (by decide) (by decide)) ml_X0_87 okX1_turnSet rfl rfl (by decide) rfl (fun M1 hM1 => ?_)
  show EV _ _ _ _ _ 144 _ ([.int (nI (pop (s)))]) _
  exact e_iret dX0_carryOut_144 rfl (MP.retI rfl ⟨hM1.1, (hK9.wide (fun a ha => by unfold inR at *; simp at *; omega)).trans (hM1.2.wide (fun a ha => by unfold inR at *; simp at *; omega))⟩) (by decide) (by decide)
theorem c_carry (h : ColAt M 1 c) (hw : WF c) {k : Nat} (hk : k < 8) (a b t : Int32) (hj : (jd c k a b).1 = 0) : RETI G ad (d + 5) mX0_carryOut [.ref (ad 13), .int (nI k), .int a, .int b, .int t] (M, o) (some (.int (cy c k a b t).1)) (fun M' => ColAt M' 1 (cy c k a b t).2 ∧ KP (inR 1 11) M M') := by
  have hn := hw.n
  have hkk := hw.k
  match k, hk with
  | 0, _ =>
    obtain ⟨h1, h2, h3, h4⟩ := jAdd0 hj
    obtain ⟨p, p1, p2, p3⟩ := isP_nI h1
    obtain ⟨s, s1, s2, s3, s4⟩ := isS_nI h2
    unfold cy
    try dsimp only
    rw [p3, s4, p2, s3]
    exact c_carry0 h hw h3 p1 s2 t
  | 1, _ =>
    obtain ⟨h1, h2⟩ := jStr0 hj
    obtain ⟨i, i1, i2, i3⟩ := hasM_nI hw.n h1
    obtain ⟨s, s1, s2, s3, s4⟩ := isS_nI h2
    unfold cy
    try dsimp only
    rw [i3, s4, i2, s3]
    exact c_carry1 h hw i1 s2 t
  | 2, _ =>
    rcases ite9 hj with ⟨h1, _⟩ | ⟨_, h⟩
    · obtain ⟨i, i1, i2, i3⟩ := hasM_nI hw.n h1
      unfold cy
      try dsimp only
      rw [i3, i2]
      exact c_carry2 h hw i1 b t
    · cases h
  | 3, _ => exact c_carry3 h hw a b t
  | 4, _ => exact c_carry4 h hw a b t
  | 5, _ =>
    obtain ⟨h1, h2, h3, h4, h5⟩ := jDig0 hj
    obtain ⟨i, i1, i2, i3⟩ := hasM_nI hw.n h1
    obtain ⟨j, j1, j2, j3⟩ := hasM_nI hw.n h2
    unfold cy
    try dsimp only
    rw [i3, j3, i2, j2]
    exact c_carry5 h hw h5 t
  | 6, _ =>
    rcases ite9 hj with ⟨h1, _⟩ | ⟨_, h⟩
    · obtain ⟨i, i1, i2, i3⟩ := hasT_nI hw.k h1
      unfold cy
      try dsimp only
      rw [i3, i2]
      exact c_carry6 h hw i1 b t
    · cases h
  | 7, _ =>
    obtain ⟨s, hs⟩ := jSet0 hj
    unfold cy
    try dsimp only
    rw [hs]
    exact c_carry7 h hw hs a b t
end T19

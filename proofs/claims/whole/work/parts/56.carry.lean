set_option maxHeartbeats 400000
/-! THE REFERENCE: changes, in the class's words -/
/-- the place of an exception -/
def plc (k r : Nat) : Nat := if k = 0 then (if r ≤ 5 then 2 else 1) else if k = 1 then (if r = 8 then 1 else 2) else if k = 5 then (if r = 8 then 1 else if r = 9 then 2 else 3) else 1
def FLR (k : Nat) (j : Nat × Int32) (M M' : Nat → Nat → Int32) : Prop := if j.1 ≤ 5 then FDI (plc k j.1) j.1 j.2 M M' else FLI (plc k j.1) M M'
section T56
variable {G : gC} {ad : Nat → Nat} {d : Nat} {M : Nat → Nat → Int32} {o : (Nat → Int64) × (Nat → UInt64)} {c : Col} {hs : Nat → Col} {sz : Nat} {w : Bool}
theorem FLR.f {k r p : Nat} {x : Int32} {j : Nat × Int32} {M M' : Nat → Nat → Int32} (e : j = (r, x)) (hr : ¬ r ≤ 5) (hp : plc k r = p) (h : FLI p M M') : FLR k j M M' := by
  subst e; subst hp
  unfold FLR
  rw [if_neg hr]; exact h
theorem FLR.dn {k r p : Nat} {x : Int32} {j : Nat × Int32} {M M' : Nat → Nat → Int32} (e : j = (r, x)) (hr : r ≤ 5) (hp : plc k r = p) (h : FDI p r x M M') : FLR k j M M' := by
  subst e; subst hp
  unfold FLR
  rw [if_pos hr]; exact h
theorem RETI.imp {m : MD} {args : List Value} {v : Option Value} {I I2 : (Nat → Nat → Int32) → Prop} (h : RETI G ad d m args (M, o) v I) (hi : ∀ M', I M' → I2 M') : RETI G ad d m args (M, o) v I2 := CM_imp h (fun r S2 q => ⟨q.1, by obtain ⟨_, M', e, q2⟩ := q; exact ⟨M', e, hi M' q2⟩⟩)
theorem isP_f {x : Int32} (h : ¬ isP x = true) : isP x = false := by simpa using h
theorem isS_f {x : Int32} (h : ¬ isS x = true) : isS x = false := by simpa using h
theorem hasM_f {x : Int32} (h : ¬ hasM c x = true) : hasM c x = false := by simpa using h
theorem hasT_f {x : Int32} (h : ¬ hasT c x = true) : hasT c x = false := by simpa using h
theorem gg_add (r : RowAt M 97 0 c) (hw : WF c) (hK : KtR M hs sz) (hW : KWF hs sz) (h6 : M 96 6 = bI w) (x y : Int32) (b : Bool) (hj : (jd c 0 x y).1 = 0) : RETI G ad (d + 3) mX9_addMagnet [.ref (ad 96), .int x, .int y, .int (bI b)] (M, o) (some (.int (cy c 0 x y (bI b)).1)) (CHI w hs sz c (cy c 0 x y (bI b)).2 M) := by
  obtain ⟨h1, h2, h3, h4⟩ := jAdd0 hj
  obtain ⟨p, p1, rfl, p3⟩ := isP_nI h1
  obtain ⟨s, s1, s2, rfl, s4⟩ := isS_nI h2
  have e : cy c 0 (nI p) (nI s) (bI b) = (nI (cn c), addC c p s b) := by
    show (nI (cn c), addC c (iN (nI p)) (iN (nI s)) (decide (bI b = nI 1))) = _
    rw [p3, s4]
    cases b <;> rfl
  rw [e]
  exact g_add r hw hK hW h6 p1 s1 s2 h3 h4 b
theorem gg_add_x (r : RowAt M 97 0 c) (hw : WF c) (x y : Int32) (b : Bool) (hj : ¬ (jd c 0 x y).1 = 0) : RETI G ad (d + 3) mX9_addMagnet [.ref (ad 96), .int x, .int y, .int (bI b)] (M, o) (some (.int (nI 0))) (FLR 0 (jd c 0 x y) M) := by
  have hn := hw.n
  by_cases h1 : isP x = true
  · obtain ⟨p, p1, rfl, p3⟩ := isP_nI h1
    by_cases h2 : isS y = true
    · obtain ⟨s, s1, s2, rfl, s4⟩ := isS_nI h2
      have e0 : jd c 0 (nI p) (nI s) = (if 9 ≤ cn c then (1, nI 9) else if (mOn c (nI p)).isNone = true then (0, 0) else (2, oI (mOn c (nI p)))) := if_pos ⟨h1, h2⟩
      by_cases h3 : 9 ≤ cn c
      · rw [if_pos h3] at e0
        exact (g_add_1 r hw p1 s1 s2 (by omega) b).imp (fun M' h => FLR.dn e0 (by decide) rfl h)
      · rw [if_neg h3] at e0
        cases q : mOn c (nI p) with
        | none =>
          rw [q] at e0
          rw [e0] at hj
          exact absurd rfl hj
        | some i =>
          have e1 : jd c 0 (nI p) (nI s) = (2, oI (mOn c (nI p))) := by rw [e0, q]; rfl
          exact (g_add_2 r hw p1 s1 s2 (by omega) q b).imp (fun M' h => FLR.dn e1 (by decide) rfl h)
    · have e0 : jd c 0 (nI p) y = (9, 0) := if_neg (fun q => h2 q.2)
      exact (g_add_s r hw p1 y b (isS_f h2)).imp (fun M' h => FLR.f e0 (by decide) rfl h)
  · have e0 : jd c 0 x y = (9, 0) := if_neg (fun q => h1 q.1)
    exact (g_add_p r hw x y b (isP_f h1)).imp (fun M' h => FLR.f e0 (by decide) rfl h)
theorem gg_str (r : RowAt M 97 0 c) (hw : WF c) (hK : KtR M hs sz) (hW : KWF hs sz) (h6 : M 96 6 = bI w) (x y t : Int32) (hj : (jd c 1 x y).1 = 0) : RETI G ad (d + 3) mX9_setStrength [.ref (ad 96), .int x, .int y] (M, o) (some (.int (cy c 1 x y t).1)) (CHI w hs sz c (cy c 1 x y t).2 M) := by
  obtain ⟨h1, h2⟩ := jStr0 hj
  obtain ⟨i, i1, rfl, i3⟩ := hasM_nI hw.n h1
  obtain ⟨s, s1, s2, rfl, s4⟩ := isS_nI h2
  have e : cy c 1 (nI i) (nI s) t = (nI (cs c i), strC c i s) := by
    show (nI (cs c (iN (nI i))), strC c (iN (nI i)) (iN (nI s))) = _
    rw [i3, s4]
  rw [e]
  exact g_str r hw hK hW h6 i1 s1 s2
theorem gg_str_x (r : RowAt M 97 0 c) (hw : WF c) (x y : Int32) (hj : ¬ (jd c 1 x y).1 = 0) : RETI G ad (d + 3) mX9_setStrength [.ref (ad 96), .int x, .int y] (M, o) (some (.int (nI 0))) (FLR 1 (jd c 1 x y) M) := by
  by_cases h1 : hasM c x = true
  · obtain ⟨i, i1, rfl, i3⟩ := hasM_nI hw.n h1
    by_cases h2 : isS y = true
    · have e0 : jd c 1 (nI i) y = (0, 0) := (if_pos h1).trans (if_pos h2)
      rw [e0] at hj; exact absurd rfl hj
    · have e0 : jd c 1 (nI i) y = (9, 0) := (if_pos h1).trans (if_neg h2)
      exact (g_str_s r hw i1 y (isS_f h2)).imp (fun M' h => FLR.f e0 (by decide) rfl h)
  · have e0 : jd c 1 x y = (8, 0) := if_neg h1
    exact (g_str_m r hw x y (hasM_f h1)).imp (fun M' h => FLR.f e0 (by decide) rfl h)
theorem gg_turn (r : RowAt M 97 0 c) (hw : WF c) (hK : KtR M hs sz) (hW : KWF hs sz) (h6 : M 96 6 = bI w) (x y t : Int32) (hj : (jd c 2 x y).1 = 0) : RETI G ad (d + 3) mX9_turn [.ref (ad 96), .int x] (M, o) (some (.int (cy c 2 x y t).1)) (CHI w hs sz c (cy c 2 x y t).2 M) := by
  have h1 : hasM c x = true := by
    rcases ite9 hj with ⟨h1, _⟩ | ⟨_, h⟩
    · exact h1
    · cases h
  obtain ⟨i, i1, rfl, i3⟩ := hasM_nI hw.n h1
  have e : cy c 2 (nI i) y t = (nI (blkN (trnC c (2 ^ i)) (cw (trnC c (2 ^ i)))), trnC c (2 ^ i)) := by
    show (nI (blkN (trnC c (2 ^ iN (nI i))) (cw (trnC c (2 ^ iN (nI i))))), trnC c (2 ^ iN (nI i))) = _
    rw [i3]
  rw [e]
  exact g_turn r hw hK hW h6 i1
theorem gg_turn_x (r : RowAt M 97 0 c) (hw : WF c) (x y : Int32) (hj : ¬ (jd c 2 x y).1 = 0) : RETI G ad (d + 3) mX9_turn [.ref (ad 96), .int x] (M, o) (some (.int (nI 0))) (FLR 2 (jd c 2 x y) M) := by
  by_cases h1 : hasM c x = true
  · have e0 : jd c 2 x y = (0, 0) := if_pos h1
    rw [e0] at hj; exact absurd rfl hj
  · have e0 : jd c 2 x y = (8, 0) := if_neg h1
    exact (g_turn_m r hw x (hasM_f h1)).imp (fun M' h => FLR.f e0 (by decide) rfl h)
theorem gg_shift (r : RowAt M 97 0 c) (hw : WF c) (hK : KtR M hs sz) (hW : KWF hs sz) (h6 : M 96 6 = bI w) (x y t : Int32) (hj : (jd c 3 x y).1 = 0) : RETI G ad (d + 3) mX9_shift [.ref (ad 96), .int x] (M, o) (some (.int (cy c 3 x y t).1)) (CHI w hs sz c (cy c 3 x y t).2 M) := by
  have h1 : isP x = true := by
    rcases ite9 hj with ⟨h1, _⟩ | ⟨_, h⟩
    · exact h1
    · cases h
  obtain ⟨p, p1, rfl, p3⟩ := isP_nI h1
  exact g_shift r hw hK hW h6 p1
theorem gg_shift_x (r : RowAt M 97 0 c) (hw : WF c) (x y : Int32) (hj : ¬ (jd c 3 x y).1 = 0) : RETI G ad (d + 3) mX9_shift [.ref (ad 96), .int x] (M, o) (some (.int (nI 0))) (FLR 3 (jd c 3 x y) M) := by
  by_cases h1 : isP x = true
  · have e0 : jd c 3 x y = (0, 0) := if_pos h1
    rw [e0] at hj; exact absurd rfl hj
  · have e0 : jd c 3 x y = (9, 0) := if_neg h1
    exact (g_shift_p r hw x (isP_f h1)).imp (fun M' h => FLR.f e0 (by decide) rfl h)
theorem gg_move (r : RowAt M 97 0 c) (hw : WF c) (hK : KtR M hs sz) (hW : KWF hs sz) (h6 : M 96 6 = bI w) (x y t : Int32) : RETI G ad (d + 4) mX9_move [.ref (ad 96)] (M, o) (some (.int (cy c 4 x y t).1)) (CHI w hs sz c (cy c 4 x y t).2 M) := g_move r hw hK hW h6
theorem gg_dig (r : RowAt M 97 0 c) (hw : WF c) (hK : KtR M hs sz) (hW : KWF hs sz) (h6 : M 96 6 = bI w) (x y t : Int32) (hj : (jd c 5 x y).1 = 0) : RETI G ad (d + 3) mX9_dig [.ref (ad 96), .int x, .int y] (M, o) (some (.int (cy c 5 x y t).1)) (CHI w hs sz c (cy c 5 x y t).2 M) := by
  obtain ⟨h1, h2, h3, h4, h5⟩ := jDig0 hj
  obtain ⟨i, i1, rfl, i3⟩ := hasM_nI hw.n h1
  obtain ⟨j, j1, rfl, j3⟩ := hasM_nI hw.n h2
  rw [i3, j3] at h4
  have e : cy c 5 (nI i) (nI j) t = (nI (ck c), digC c i j) := by
    show (nI (ck c), digC c (iN (nI i)) (iN (nI j))) = _
    rw [i3, j3]
  rw [e]
  exact g_dig r hw hK hW h6 i1 j1 (fun q => h3 (by rw [q])) h4 h5
theorem gg_dig_x (r : RowAt M 97 0 c) (hw : WF c) (x y : Int32) (hj : ¬ (jd c 5 x y).1 = 0) : RETI G ad (d + 3) mX9_dig [.ref (ad 96), .int x, .int y] (M, o) (some (.int (nI 0))) (FLR 5 (jd c 5 x y) M) := by
  have hn := hw.n
  have hk := hw.k
  by_cases h1 : hasM c x = true
  · obtain ⟨i, i1, rfl, i3⟩ := hasM_nI hw.n h1
    by_cases h2 : hasM c y = true
    · obtain ⟨j, j1, rfl, j3⟩ := hasM_nI hw.n h2
      have e0 : jd c 5 (nI i) (nI j) = (if nI i = nI j then (9, 0) else if (tBet c i j).isNone = true then (if ck c < 16 then (0, 0) else (1, nI 16)) else (3, oI (tBet c i j))) := by
        show (if _ then _ else _) = _
        rw [if_pos ⟨h1, h2⟩, i3, j3]
      by_cases h3 : nI i = nI j
      · rw [if_pos h3] at e0
        obtain rfl : i = j := (nI_eq (by omega) (by omega)).mp h3
        exact (g_dig_9 r hw i1).imp (fun M' h => FLR.f e0 (by decide) rfl h)
      · rw [if_neg h3] at e0
        have hne : ¬ i = j := fun q => h3 (by rw [q])
        cases q : tBet c i j with
        | some z =>
          have e1 : jd c 5 (nI i) (nI j) = (3, oI (tBet c i j)) := by rw [e0, q]; rfl
          exact (g_dig_3 r hw i1 j1 hne q).imp (fun M' h => FLR.dn e1 (by decide) rfl h)
        | none =>
          rw [q] at e0
          have e2 : jd c 5 (nI i) (nI j) = (if ck c < 16 then (0, 0) else (1, nI 16)) := e0
          by_cases h4 : ck c < 16
          · rw [if_pos h4] at e2; rw [e2] at hj; exact absurd rfl hj
          · rw [if_neg h4] at e2
            exact (g_dig_1 r hw i1 j1 hne q (by omega)).imp (fun M' h => FLR.dn e2 (by decide) rfl h)
    · have e0 : jd c 5 (nI i) y = (8, 0) := if_neg (fun q => h2 q.2)
      exact (g_dig_b r hw i1 y (hasM_f h2)).imp (fun M' h => FLR.f e0 (by decide) rfl h)
  · have e0 : jd c 5 x y = (8, 0) := if_neg (fun q => h1 q.1)
    exact (g_dig_a r hw x y (hasM_f h1)).imp (fun M' h => FLR.f e0 (by decide) rfl h)
theorem gg_fill (r : RowAt M 97 0 c) (hw : WF c) (hK : KtR M hs sz) (hW : KWF hs sz) (h6 : M 96 6 = bI w) (x y t : Int32) (hj : (jd c 6 x y).1 = 0) : RETI G ad (d + 3) mX9_fill [.ref (ad 96), .int x] (M, o) (some (.int (cy c 6 x y t).1)) (CHI w hs sz c (cy c 6 x y t).2 M) := by
  have h1 : hasT c x = true := by
    rcases ite9 hj with ⟨h1, _⟩ | ⟨_, h⟩
    · exact h1
    · cases h
  obtain ⟨i, i1, rfl, i3⟩ := hasT_nI hw.k h1
  have e : cy c 6 (nI i) y t = (nI (ck c - 1), filC c i) := by
    show (nI (ck c - 1), filC c (iN (nI i))) = _
    rw [i3]
  rw [e]
  exact g_fill r hw hK hW h6 i1
theorem gg_fill_x (r : RowAt M 97 0 c) (hw : WF c) (x y : Int32) (hj : ¬ (jd c 6 x y).1 = 0) : RETI G ad (d + 3) mX9_fill [.ref (ad 96), .int x] (M, o) (some (.int (nI 0))) (FLR 6 (jd c 6 x y) M) := by
  by_cases h1 : hasT c x = true
  · have e0 : jd c 6 x y = (0, 0) := if_pos h1
    rw [e0] at hj; exact absurd rfl hj
  · have e0 : jd c 6 x y = (8, 0) := if_neg h1
    exact (g_fill_t r hw x (hasT_f h1)).imp (fun M' h => FLR.f e0 (by decide) rfl h)
theorem gg_settle (r : RowAt M 97 0 c) (hw : WF c) (hK : KtR M hs sz) (hW : KWF hs sz) (h6 : M 96 6 = bI w) (x y t : Int32) (hj : (jd c 7 x y).1 = 0) : RETI G ad (d + 4) mX9_settle [.ref (ad 96)] (M, o) (some (.int (cy c 7 x y t).1)) (CHI w hs sz c (cy c 7 x y t).2 M) := by
  obtain ⟨s, hs2⟩ := jSet0 hj
  have h0 : ¬ blkN c (cw c) = 0 := fun q => by
    have e : jdSet c = (5, nI (ck c)) := if_pos q
    have hj2 : (jdSet c).1 = 0 := hj
    rw [e] at hj2; cases hj2
  have e : cy c 7 x y t = (nI (pop s), trnC c s) := by
    show (nI (pop ((bestF c).getD 0)), trnC c ((bestF c).getD 0)) = _
    rw [hs2]; rfl
  rw [e]
  rw [best_eq hw] at hs2
  exact g_settle r hw hK hW h6 h0 hs2
theorem gg_settle_x (r : RowAt M 97 0 c) (hw : WF c) (x y : Int32) (hj : ¬ (jd c 7 x y).1 = 0) : RETI G ad (d + 4) mX9_settle [.ref (ad 96)] (M, o) (some (.int (nI 0))) (FLR 7 (jd c 7 x y) M) := by
  by_cases h0 : blkN c (cw c) = 0
  · have e0 : jd c 7 x y = (5, nI (ck c)) := if_pos h0
    exact (g_settle_5 r hw h0).imp (fun M' h => FLR.dn e0 (by decide) rfl h)
  · cases q : bestF c with
    | none =>
      have e0 : jd c 7 x y = (4, nI (blkN c (cw c))) := (if_neg h0).trans (if_pos (by rw [q]; rfl))
      rw [best_eq hw] at q
      exact (g_settle_4 r hw h0 q).imp (fun M' h => FLR.dn e0 (by decide) rfl h)
    | some s =>
      have e0 : jd c 7 x y = (0, 0) := (if_neg h0).trans (if_neg (by rw [q]; exact Bool.false_ne_true))
      rw [e0] at hj; exact absurd rfl hj
/-! parameters that don't count -/
theorem ar_v : ar 0 = 3 ∧ ar 1 = 2 ∧ ar 2 = 1 ∧ ar 3 = 1 ∧ ar 4 = 0 ∧ ar 5 = 2 ∧ ar 6 = 1 ∧ ar 7 = 0 := by decide
theorem jd_2 (a b b' : Int32) : jd c 2 a b = jd c 2 a b' :=
  have e1 : jd c 2 a b = (if hasM c a = true then ((0 : Nat), (0 : Int32)) else (8, 0)) := rfl
  have e2 : jd c 2 a b' = (if hasM c a = true then ((0 : Nat), (0 : Int32)) else (8, 0)) := rfl
  e1.trans e2.symm
theorem jd_3 (a b b' : Int32) : jd c 3 a b = jd c 3 a b' :=
  have e1 : jd c 3 a b = (if isP a = true then ((0 : Nat), (0 : Int32)) else (9, 0)) := rfl
  have e2 : jd c 3 a b' = (if isP a = true then ((0 : Nat), (0 : Int32)) else (9, 0)) := rfl
  e1.trans e2.symm
theorem jd_4 (a b a' b' : Int32) : jd c 4 a b = jd c 4 a' b' :=
  have e1 : jd c 4 a b = ((0 : Nat), (0 : Int32)) := rfl
  have e2 : jd c 4 a' b' = ((0 : Nat), (0 : Int32)) := rfl
  e1.trans e2.symm
theorem jd_6 (a b b' : Int32) : jd c 6 a b = jd c 6 a b' :=
  have e1 : jd c 6 a b = (if hasT c a = true then ((0 : Nat), (0 : Int32)) else (8, 0)) := rfl
  have e2 : jd c 6 a b' = (if hasT c a = true then ((0 : Nat), (0 : Int32)) else (8, 0)) := rfl
  e1.trans e2.symm
theorem jd_7 (a b a' b' : Int32) : jd c 7 a b = jd c 7 a' b' :=
  have e1 : jd c 7 a b = jdSet c := rfl
  have e2 : jd c 7 a' b' = jdSet c := rfl
  e1.trans e2.symm
theorem jd_ar {K : Nat} (hK : K < 8) {a b a' b' : Int32} (h1 : 1 ≤ ar K → a = a') (h2 : 2 ≤ ar K → b = b') : jd c K a b = jd c K a' b' := by
  obtain ⟨v0, v1, v2, v3, v4, v5, v6, v7⟩ := ar_v
  have hk : K = 0 ∨ K = 1 ∨ K = 2 ∨ K = 3 ∨ K = 4 ∨ K = 5 ∨ K = 6 ∨ K = 7 := by omega
  rcases hk with rfl | rfl | rfl | rfl | rfl | rfl | rfl | rfl
  · rw [h1 (by omega), h2 (by omega)]
  · rw [h1 (by omega), h2 (by omega)]
  · rw [h1 (by omega)]; exact jd_2 _ _ _
  · rw [h1 (by omega)]; exact jd_3 _ _ _
  · exact jd_4 _ _ _ _
  · rw [h1 (by omega), h2 (by omega)]
  · rw [h1 (by omega)]; exact jd_6 _ _ _
  · exact jd_7 _ _ _ _
theorem cy_1 (a b t t' : Int32) : cy c 1 a b t = cy c 1 a b t' :=
  have e1 : cy c 1 a b t = (nI (cs c (iN a)), strC c (iN a) (iN b)) := rfl
  have e2 : cy c 1 a b t' = (nI (cs c (iN a)), strC c (iN a) (iN b)) := rfl
  e1.trans e2.symm
theorem cy_2 (a b t b' t' : Int32) : cy c 2 a b t = cy c 2 a b' t' :=
  have e1 : cy c 2 a b t = (nI (blkN (trnC c (2 ^ iN a)) (cw (trnC c (2 ^ iN a)))), trnC c (2 ^ iN a)) := rfl
  have e2 : cy c 2 a b' t' = (nI (blkN (trnC c (2 ^ iN a)) (cw (trnC c (2 ^ iN a)))), trnC c (2 ^ iN a)) := rfl
  e1.trans e2.symm
theorem cy_3 (a b t b' t' : Int32) : cy c 3 a b t = cy c 3 a b' t' :=
  have e1 : cy c 3 a b t = (nI (pop (aboW c a (cn c))), trnC c (aboW c a (cn c))) := rfl
  have e2 : cy c 3 a b' t' = (nI (pop (aboW c a (cn c))), trnC c (aboW c a (cn c))) := rfl
  e1.trans e2.symm
theorem cy_4 (a b t a' b' t' : Int32) : cy c 4 a b t = cy c 4 a' b' t' :=
  have e1 : cy c 4 a b t = (nI (mvs c (cn c)).2, movC c) := rfl
  have e2 : cy c 4 a' b' t' = (nI (mvs c (cn c)).2, movC c) := rfl
  e1.trans e2.symm
theorem cy_5 (a b t t' : Int32) : cy c 5 a b t = cy c 5 a b t' :=
  have e1 : cy c 5 a b t = (nI (ck c), digC c (iN a) (iN b)) := rfl
  have e2 : cy c 5 a b t' = (nI (ck c), digC c (iN a) (iN b)) := rfl
  e1.trans e2.symm
theorem cy_6 (a b t b' t' : Int32) : cy c 6 a b t = cy c 6 a b' t' :=
  have e1 : cy c 6 a b t = (nI (ck c - 1), filC c (iN a)) := rfl
  have e2 : cy c 6 a b' t' = (nI (ck c - 1), filC c (iN a)) := rfl
  e1.trans e2.symm
theorem cy_7 (a b t a' b' t' : Int32) : cy c 7 a b t = cy c 7 a' b' t' :=
  have e1 : cy c 7 a b t = (nI (pop ((bestF c).getD 0)), trnC c ((bestF c).getD 0)) := rfl
  have e2 : cy c 7 a' b' t' = (nI (pop ((bestF c).getD 0)), trnC c ((bestF c).getD 0)) := rfl
  e1.trans e2.symm
theorem cy_ar {K : Nat} (hK : K < 8) {a b t a' b' t' : Int32} (h1 : 1 ≤ ar K → a = a') (h2 : 2 ≤ ar K → b = b') (h3 : 3 ≤ ar K → t = t') : cy c K a b t = cy c K a' b' t' := by
  obtain ⟨v0, v1, v2, v3, v4, v5, v6, v7⟩ := ar_v
  have hk : K = 0 ∨ K = 1 ∨ K = 2 ∨ K = 3 ∨ K = 4 ∨ K = 5 ∨ K = 6 ∨ K = 7 := by omega
  rcases hk with rfl | rfl | rfl | rfl | rfl | rfl | rfl | rfl
  · rw [h1 (by omega), h2 (by omega), h3 (by omega)]
  · rw [h1 (by omega), h2 (by omega)]; exact cy_1 _ _ _ _
  · rw [h1 (by omega)]; exact cy_2 _ _ _ _ _
  · rw [h1 (by omega)]; exact cy_3 _ _ _ _ _
  · exact cy_4 _ _ _ _ _ _
  · rw [h1 (by omega), h2 (by omega)]; exact cy_5 _ _ _ _
  · rw [h1 (by omega)]; exact cy_6 _ _ _ _ _
  · exact cy_7 _ _ _ _ _ _
theorem cy_b {a b t : Int32} : cy c 0 a b (bI (decide (t = nI 1))) = cy c 0 a b t := by
  show (nI (cn c), addC c (iN a) (iN b) (decide (bI (decide (t = nI 1)) = nI 1))) = (nI (cn c), addC c (iN a) (iN b) (decide (t = nI 1)))
  by_cases h : t = nI 1
  · rw [decide_eq_true h]; rfl
  · rw [decide_eq_false h]; rfl
theorem g_car0 (r : RowAt M 97 0 c) (hw : WF c) (hK : KtR M hs sz) (hW : KWF hs sz) (h6 : M 96 6 = bI w) {j : Nat} (hj31 : j < 31) (h0 : M 103 (4 * j) = nI 0) (hjd : (jd c 0 (M 103 (4 * j + 1)) (M 103 (4 * j + 2))).1 = 0) : RETI G ad (d + 5) mX9_carries [.ref (ad 96), .int (nI (4 * j))] (M, o) (some (.int ((cy c 0 (M 103 (4 * j + 1)) (M 103 (4 * j + 2)) (M 103 (4 * j + 3))).1))) (CHI w hs sz c (cy c 0 (M 103 (4 * j + 1)) (M 103 (4 * j + 2)) (M 103 (4 * j + 3))).2 M) := by
  refine CM_of rfl (by decide) rfl (Nat.le_of_ble_eq_true rfl) rfl ?_
  have hn := hw.n
  have hk := hw.k
  have hw9 := hw.w9
  refine e_aload_n (pc' := 1) dX9_carries_0 rfl rfl rfl ?_
  refine p_gfr (pc' := 4) (a := 96) (k := 18) (t := 103) dX9_carries_1 rfl rfl (by decide) (by decide) rfl fl_X9_33 ?_
  refine e_iload_n (pc' := 5) dX9_carries_4 rfl rfl rfl ?_
  refine e_iconst (pc' := 6) (v := nI 1) dX9_carries_5 rfl (by decide) ?_
  refine e_iaddN (pc' := 7) dX9_carries_6 rfl ?_
  refine p_iald (pc' := 8) (a := 103) (k := (4 * j) + 1) (x := (M 103 (4 * j + 1))) dX9_carries_7 rfl (rfl) (rfl) (by omega) (by decide) (rfl) ?_
  refine e_istore_n (pc' := 9) (L' := [some (.ref (ad 96)), some (.int (nI (4 * j))), some (.int ((M 103 (4 * j + 1)))), none]) dX9_carries_8 rfl rfl (by decide) rfl ?_
  refine e_aload_n (pc' := 10) dX9_carries_9 rfl rfl rfl ?_
  refine p_gfr (pc' := 13) (a := 96) (k := 18) (t := 103) dX9_carries_10 rfl rfl (by decide) (by decide) rfl fl_X9_33 ?_
  refine e_iload_n (pc' := 14) dX9_carries_13 rfl rfl rfl ?_
  refine e_iconst (pc' := 15) (v := nI 2) dX9_carries_14 rfl (by decide) ?_
  refine e_iaddN (pc' := 16) dX9_carries_15 rfl ?_
  refine p_iald (pc' := 17) (a := 103) (k := (4 * j) + 2) (x := (M 103 (4 * j + 2))) dX9_carries_16 rfl (rfl) (rfl) (by omega) (by decide) (rfl) ?_
  refine e_istore_n (pc' := 18) (L' := [some (.ref (ad 96)), some (.int (nI (4 * j))), some (.int ((M 103 (4 * j + 1)))), some (.int ((M 103 (4 * j + 2))))]) dX9_carries_17 rfl rfl (by decide) rfl ?_
  refine e_aload_n (pc' := 19) dX9_carries_18 rfl rfl rfl ?_
  refine p_gfr (pc' := 22) (a := 96) (k := 18) (t := 103) dX9_carries_19 rfl rfl (by decide) (by decide) rfl fl_X9_33 ?_
  refine e_iload_n (pc' := 23) dX9_carries_22 rfl rfl rfl ?_
  refine p_iald (pc' := 24) (a := 103) (k := 4 * j) (x := nI 0) dX9_carries_23 rfl (rfl) (rfl) (by omega) (by decide) (h0) ?_
  refine e_tableIn (tgt := 68) (off := 44) dX9_carries_24 (by decide) (by decide) (by decide) (by decide) ?_
  refine e_aload_n (pc' := 69) dX9_carries_68 rfl rfl rfl ?_
  refine e_iload_n (pc' := 70) dX9_carries_69 rfl rfl rfl ?_
  refine e_iload_n (pc' := 71) dX9_carries_70 rfl rfl rfl ?_
  refine e_aload_n (pc' := 72) dX9_carries_71 rfl rfl rfl ?_
  refine p_gfr (pc' := 75) (a := 96) (k := 18) (t := 103) dX9_carries_72 rfl rfl (by decide) (by decide) rfl fl_X9_33 ?_
  refine e_iload_n (pc' := 76) dX9_carries_75 rfl rfl rfl ?_
  refine e_iconst (pc' := 77) (v := nI 3) dX9_carries_76 rfl (by decide) ?_
  refine e_iaddN (pc' := 78) dX9_carries_77 rfl ?_
  refine p_iald (pc' := 79) (a := 103) (k := (4 * j) + 3) (x := (M 103 (4 * j + 3))) dX9_carries_78 rfl (rfl) (rfl) (by omega) (by decide) (rfl) ?_
  refine e_iconst (pc' := 80) (v := nI 1) dX9_carries_79 rfl (by decide) ?_
  refine e_icmp_ne (pc' := 83) (tgt := 87) dX9_carries_80 rfl (by decide) (fun ht => ?_) (fun ht => ?_)
  · have ht2 : decide (M 103 (4 * j + 3) = nI 1) = false := decide_eq_false ht
    refine e_iconst (pc' := 88) (v := nI 0) dX9_carries_87 rfl (by decide) ?_
    refine r_VI (pc' := 91) (m' := mX9_addMagnet) (As := [.int ((M 103 (4 * j + 1))), .int ((M 103 (4 * j + 2))), .int (nI 0)]) (st := []) (gg_add (d := d) r hw hK hW h6 (M 103 (4 * j + 1)) (M 103 (4 * j + 2)) false hjd) dX9_carries_88 rfl rfl (Nat.le_of_ble_eq_true rfl) (fit_of (by omega) (by decide) (by decide) (by decide)) ml_X9_212 okX9_addMagnet rfl rfl (by decide) rfl (fun M1 hR => ?_)
    show EV _ _ _ _ _ 91 _ ([.int ((cy c 0 (M 103 (4 * j + 1)) (M 103 (4 * j + 2)) (bI false)).1)]) _
    exact e_iret dX9_carries_91 rfl ((by
      have e := cy_b (c := c) (a := M 103 (4 * j + 1)) (b := M 103 (4 * j + 2)) (t := M 103 (4 * j + 3))
      rw [ht2] at e
      rw [← e]
      exact MP.retI rfl hR)) (by decide) (by decide)
  · have ht2 : decide (M 103 (4 * j + 3) = nI 1) = true := decide_eq_true ht
    refine e_iconst (pc' := 84) (v := nI 1) dX9_carries_83 rfl (by decide) ?_
    refine e_goto (tgt := 88) dX9_carries_84 (by decide) ?_
    refine r_VI (pc' := 91) (m' := mX9_addMagnet) (As := [.int ((M 103 (4 * j + 1))), .int ((M 103 (4 * j + 2))), .int (nI 1)]) (st := []) (gg_add (d := d) r hw hK hW h6 (M 103 (4 * j + 1)) (M 103 (4 * j + 2)) true hjd) dX9_carries_88 rfl rfl (Nat.le_of_ble_eq_true rfl) (fit_of (by omega) (by decide) (by decide) (by decide)) ml_X9_212 okX9_addMagnet rfl rfl (by decide) rfl (fun M1 hR => ?_)
    show EV _ _ _ _ _ 91 _ ([.int ((cy c 0 (M 103 (4 * j + 1)) (M 103 (4 * j + 2)) (bI true)).1)]) _
    exact e_iret dX9_carries_91 rfl ((by
      have e := cy_b (c := c) (a := M 103 (4 * j + 1)) (b := M 103 (4 * j + 2)) (t := M 103 (4 * j + 3))
      rw [ht2] at e
      rw [← e]
      exact MP.retI rfl hR)) (by decide) (by decide)
theorem g_car0x (r : RowAt M 97 0 c) (hw : WF c) {j : Nat} (hj31 : j < 31) (h0 : M 103 (4 * j) = nI 0) (hjd : ¬ (jd c 0 (M 103 (4 * j + 1)) (M 103 (4 * j + 2))).1 = 0) : RETI G ad (d + 5) mX9_carries [.ref (ad 96), .int (nI (4 * j))] (M, o) (some (.int (nI 0))) (FLR 0 (jd c 0 (M 103 (4 * j + 1)) (M 103 (4 * j + 2))) M) := by
  refine CM_of rfl (by decide) rfl (Nat.le_of_ble_eq_true rfl) rfl ?_
  have hn := hw.n
  have hk := hw.k
  have hw9 := hw.w9
  refine e_aload_n (pc' := 1) dX9_carries_0 rfl rfl rfl ?_
  refine p_gfr (pc' := 4) (a := 96) (k := 18) (t := 103) dX9_carries_1 rfl rfl (by decide) (by decide) rfl fl_X9_33 ?_
  refine e_iload_n (pc' := 5) dX9_carries_4 rfl rfl rfl ?_
  refine e_iconst (pc' := 6) (v := nI 1) dX9_carries_5 rfl (by decide) ?_
  refine e_iaddN (pc' := 7) dX9_carries_6 rfl ?_
  refine p_iald (pc' := 8) (a := 103) (k := (4 * j) + 1) (x := (M 103 (4 * j + 1))) dX9_carries_7 rfl (rfl) (rfl) (by omega) (by decide) (rfl) ?_
  refine e_istore_n (pc' := 9) (L' := [some (.ref (ad 96)), some (.int (nI (4 * j))), some (.int ((M 103 (4 * j + 1)))), none]) dX9_carries_8 rfl rfl (by decide) rfl ?_
  refine e_aload_n (pc' := 10) dX9_carries_9 rfl rfl rfl ?_
  refine p_gfr (pc' := 13) (a := 96) (k := 18) (t := 103) dX9_carries_10 rfl rfl (by decide) (by decide) rfl fl_X9_33 ?_
  refine e_iload_n (pc' := 14) dX9_carries_13 rfl rfl rfl ?_
  refine e_iconst (pc' := 15) (v := nI 2) dX9_carries_14 rfl (by decide) ?_
  refine e_iaddN (pc' := 16) dX9_carries_15 rfl ?_
  refine p_iald (pc' := 17) (a := 103) (k := (4 * j) + 2) (x := (M 103 (4 * j + 2))) dX9_carries_16 rfl (rfl) (rfl) (by omega) (by decide) (rfl) ?_
  refine e_istore_n (pc' := 18) (L' := [some (.ref (ad 96)), some (.int (nI (4 * j))), some (.int ((M 103 (4 * j + 1)))), some (.int ((M 103 (4 * j + 2))))]) dX9_carries_17 rfl rfl (by decide) rfl ?_
  refine e_aload_n (pc' := 19) dX9_carries_18 rfl rfl rfl ?_
  refine p_gfr (pc' := 22) (a := 96) (k := 18) (t := 103) dX9_carries_19 rfl rfl (by decide) (by decide) rfl fl_X9_33 ?_
  refine e_iload_n (pc' := 23) dX9_carries_22 rfl rfl rfl ?_
  refine p_iald (pc' := 24) (a := 103) (k := 4 * j) (x := nI 0) dX9_carries_23 rfl (rfl) (rfl) (by omega) (by decide) (h0) ?_
  refine e_tableIn (tgt := 68) (off := 44) dX9_carries_24 (by decide) (by decide) (by decide) (by decide) ?_
  refine e_aload_n (pc' := 69) dX9_carries_68 rfl rfl rfl ?_
  refine e_iload_n (pc' := 70) dX9_carries_69 rfl rfl rfl ?_
  refine e_iload_n (pc' := 71) dX9_carries_70 rfl rfl rfl ?_
  refine e_aload_n (pc' := 72) dX9_carries_71 rfl rfl rfl ?_
  refine p_gfr (pc' := 75) (a := 96) (k := 18) (t := 103) dX9_carries_72 rfl rfl (by decide) (by decide) rfl fl_X9_33 ?_
  refine e_iload_n (pc' := 76) dX9_carries_75 rfl rfl rfl ?_
  refine e_iconst (pc' := 77) (v := nI 3) dX9_carries_76 rfl (by decide) ?_
  refine e_iaddN (pc' := 78) dX9_carries_77 rfl ?_
  refine p_iald (pc' := 79) (a := 103) (k := (4 * j) + 3) (x := (M 103 (4 * j + 3))) dX9_carries_78 rfl (rfl) (rfl) (by omega) (by decide) (rfl) ?_
  refine e_iconst (pc' := 80) (v := nI 1) dX9_carries_79 rfl (by decide) ?_
  refine e_icmp_ne (pc' := 83) (tgt := 87) dX9_carries_80 rfl (by decide) (fun ht => ?_) (fun ht => ?_)
  · have ht2 : decide (M 103 (4 * j + 3) = nI 1) = false := decide_eq_false ht
    refine e_iconst (pc' := 88) (v := nI 0) dX9_carries_87 rfl (by decide) ?_
    refine r_VI (pc' := 91) (m' := mX9_addMagnet) (As := [.int ((M 103 (4 * j + 1))), .int ((M 103 (4 * j + 2))), .int (nI 0)]) (st := []) (gg_add_x (d := d) r hw (M 103 (4 * j + 1)) (M 103 (4 * j + 2)) false hjd) dX9_carries_88 rfl rfl (Nat.le_of_ble_eq_true rfl) (fit_of (by omega) (by decide) (by decide) (by decide)) ml_X9_212 okX9_addMagnet rfl rfl (by decide) rfl (fun M1 hR => ?_)
    show EV _ _ _ _ _ 91 _ ([.int (nI 0)]) _
    exact e_iret dX9_carries_91 rfl (MP.retI rfl hR) (by decide) (by decide)
  · have ht2 : decide (M 103 (4 * j + 3) = nI 1) = true := decide_eq_true ht
    refine e_iconst (pc' := 84) (v := nI 1) dX9_carries_83 rfl (by decide) ?_
    refine e_goto (tgt := 88) dX9_carries_84 (by decide) ?_
    refine r_VI (pc' := 91) (m' := mX9_addMagnet) (As := [.int ((M 103 (4 * j + 1))), .int ((M 103 (4 * j + 2))), .int (nI 1)]) (st := []) (gg_add_x (d := d) r hw (M 103 (4 * j + 1)) (M 103 (4 * j + 2)) true hjd) dX9_carries_88 rfl rfl (Nat.le_of_ble_eq_true rfl) (fit_of (by omega) (by decide) (by decide) (by decide)) ml_X9_212 okX9_addMagnet rfl rfl (by decide) rfl (fun M1 hR => ?_)
    show EV _ _ _ _ _ 91 _ ([.int (nI 0)]) _
    exact e_iret dX9_carries_91 rfl (MP.retI rfl hR) (by decide) (by decide)
theorem g_car1 (r : RowAt M 97 0 c) (hw : WF c) (hK : KtR M hs sz) (hW : KWF hs sz) (h6 : M 96 6 = bI w) {j : Nat} (hj31 : j < 31) (h0 : M 103 (4 * j) = nI 7) (hjd : (jd c 1 (M 103 (4 * j + 1)) (M 103 (4 * j + 2))).1 = 0) : RETI G ad (d + 5) mX9_carries [.ref (ad 96), .int (nI (4 * j))] (M, o) (some (.int ((cy c 1 (M 103 (4 * j + 1)) (M 103 (4 * j + 2)) (M 103 (4 * j + 3))).1))) (CHI w hs sz c (cy c 1 (M 103 (4 * j + 1)) (M 103 (4 * j + 2)) (M 103 (4 * j + 3))).2 M) := by
  refine CM_of rfl (by decide) rfl (Nat.le_of_ble_eq_true rfl) rfl ?_
  have hn := hw.n
  have hk := hw.k
  have hw9 := hw.w9
  refine e_aload_n (pc' := 1) dX9_carries_0 rfl rfl rfl ?_
  refine p_gfr (pc' := 4) (a := 96) (k := 18) (t := 103) dX9_carries_1 rfl rfl (by decide) (by decide) rfl fl_X9_33 ?_
  refine e_iload_n (pc' := 5) dX9_carries_4 rfl rfl rfl ?_
  refine e_iconst (pc' := 6) (v := nI 1) dX9_carries_5 rfl (by decide) ?_
  refine e_iaddN (pc' := 7) dX9_carries_6 rfl ?_
  refine p_iald (pc' := 8) (a := 103) (k := (4 * j) + 1) (x := (M 103 (4 * j + 1))) dX9_carries_7 rfl (rfl) (rfl) (by omega) (by decide) (rfl) ?_
  refine e_istore_n (pc' := 9) (L' := [some (.ref (ad 96)), some (.int (nI (4 * j))), some (.int ((M 103 (4 * j + 1)))), none]) dX9_carries_8 rfl rfl (by decide) rfl ?_
  refine e_aload_n (pc' := 10) dX9_carries_9 rfl rfl rfl ?_
  refine p_gfr (pc' := 13) (a := 96) (k := 18) (t := 103) dX9_carries_10 rfl rfl (by decide) (by decide) rfl fl_X9_33 ?_
  refine e_iload_n (pc' := 14) dX9_carries_13 rfl rfl rfl ?_
  refine e_iconst (pc' := 15) (v := nI 2) dX9_carries_14 rfl (by decide) ?_
  refine e_iaddN (pc' := 16) dX9_carries_15 rfl ?_
  refine p_iald (pc' := 17) (a := 103) (k := (4 * j) + 2) (x := (M 103 (4 * j + 2))) dX9_carries_16 rfl (rfl) (rfl) (by omega) (by decide) (rfl) ?_
  refine e_istore_n (pc' := 18) (L' := [some (.ref (ad 96)), some (.int (nI (4 * j))), some (.int ((M 103 (4 * j + 1)))), some (.int ((M 103 (4 * j + 2))))]) dX9_carries_17 rfl rfl (by decide) rfl ?_
  refine e_aload_n (pc' := 19) dX9_carries_18 rfl rfl rfl ?_
  refine p_gfr (pc' := 22) (a := 96) (k := 18) (t := 103) dX9_carries_19 rfl rfl (by decide) (by decide) rfl fl_X9_33 ?_
  refine e_iload_n (pc' := 23) dX9_carries_22 rfl rfl rfl ?_
  refine p_iald (pc' := 24) (a := 103) (k := 4 * j) (x := nI 7) dX9_carries_23 rfl (rfl) (rfl) (by omega) (by decide) (h0) ?_
  refine e_tableOut (tgt := 127) dX9_carries_24 (by decide) (by decide) ?_
  refine e_aload_n (pc' := 128) dX9_carries_127 rfl rfl rfl ?_
  refine e_iload_n (pc' := 129) dX9_carries_128 rfl rfl rfl ?_
  refine e_iload_n (pc' := 130) dX9_carries_129 rfl rfl rfl ?_
  refine r_VI (pc' := 133) (m' := mX9_setStrength) (As := [.int ((M 103 (4 * j + 1))), .int ((M 103 (4 * j + 2)))]) (st := []) (gg_str (d := d) r hw hK hW h6 (M 103 (4 * j + 1)) (M 103 (4 * j + 2)) (M 103 (4 * j + 3)) hjd) dX9_carries_130 rfl rfl (Nat.le_of_ble_eq_true rfl) (fit_of (by omega) (by decide) (by decide) (by decide)) ml_X9_234 okX9_setStrength rfl rfl (by decide) rfl (fun M1 hR => ?_)
  show EV _ _ _ _ _ 133 _ ([.int ((cy c 1 (M 103 (4 * j + 1)) (M 103 (4 * j + 2)) (M 103 (4 * j + 3))).1)]) _
  exact e_iret dX9_carries_133 rfl (MP.retI rfl hR) (by decide) (by decide)
theorem g_car1x (r : RowAt M 97 0 c) (hw : WF c) {j : Nat} (hj31 : j < 31) (h0 : M 103 (4 * j) = nI 7) (hjd : ¬ (jd c 1 (M 103 (4 * j + 1)) (M 103 (4 * j + 2))).1 = 0) : RETI G ad (d + 5) mX9_carries [.ref (ad 96), .int (nI (4 * j))] (M, o) (some (.int (nI 0))) (FLR 1 (jd c 1 (M 103 (4 * j + 1)) (M 103 (4 * j + 2))) M) := by
  refine CM_of rfl (by decide) rfl (Nat.le_of_ble_eq_true rfl) rfl ?_
  have hn := hw.n
  have hk := hw.k
  have hw9 := hw.w9
  refine e_aload_n (pc' := 1) dX9_carries_0 rfl rfl rfl ?_
  refine p_gfr (pc' := 4) (a := 96) (k := 18) (t := 103) dX9_carries_1 rfl rfl (by decide) (by decide) rfl fl_X9_33 ?_
  refine e_iload_n (pc' := 5) dX9_carries_4 rfl rfl rfl ?_
  refine e_iconst (pc' := 6) (v := nI 1) dX9_carries_5 rfl (by decide) ?_
  refine e_iaddN (pc' := 7) dX9_carries_6 rfl ?_
  refine p_iald (pc' := 8) (a := 103) (k := (4 * j) + 1) (x := (M 103 (4 * j + 1))) dX9_carries_7 rfl (rfl) (rfl) (by omega) (by decide) (rfl) ?_
  refine e_istore_n (pc' := 9) (L' := [some (.ref (ad 96)), some (.int (nI (4 * j))), some (.int ((M 103 (4 * j + 1)))), none]) dX9_carries_8 rfl rfl (by decide) rfl ?_
  refine e_aload_n (pc' := 10) dX9_carries_9 rfl rfl rfl ?_
  refine p_gfr (pc' := 13) (a := 96) (k := 18) (t := 103) dX9_carries_10 rfl rfl (by decide) (by decide) rfl fl_X9_33 ?_
  refine e_iload_n (pc' := 14) dX9_carries_13 rfl rfl rfl ?_
  refine e_iconst (pc' := 15) (v := nI 2) dX9_carries_14 rfl (by decide) ?_
  refine e_iaddN (pc' := 16) dX9_carries_15 rfl ?_
  refine p_iald (pc' := 17) (a := 103) (k := (4 * j) + 2) (x := (M 103 (4 * j + 2))) dX9_carries_16 rfl (rfl) (rfl) (by omega) (by decide) (rfl) ?_
  refine e_istore_n (pc' := 18) (L' := [some (.ref (ad 96)), some (.int (nI (4 * j))), some (.int ((M 103 (4 * j + 1)))), some (.int ((M 103 (4 * j + 2))))]) dX9_carries_17 rfl rfl (by decide) rfl ?_
  refine e_aload_n (pc' := 19) dX9_carries_18 rfl rfl rfl ?_
  refine p_gfr (pc' := 22) (a := 96) (k := 18) (t := 103) dX9_carries_19 rfl rfl (by decide) (by decide) rfl fl_X9_33 ?_
  refine e_iload_n (pc' := 23) dX9_carries_22 rfl rfl rfl ?_
  refine p_iald (pc' := 24) (a := 103) (k := 4 * j) (x := nI 7) dX9_carries_23 rfl (rfl) (rfl) (by omega) (by decide) (h0) ?_
  refine e_tableOut (tgt := 127) dX9_carries_24 (by decide) (by decide) ?_
  refine e_aload_n (pc' := 128) dX9_carries_127 rfl rfl rfl ?_
  refine e_iload_n (pc' := 129) dX9_carries_128 rfl rfl rfl ?_
  refine e_iload_n (pc' := 130) dX9_carries_129 rfl rfl rfl ?_
  refine r_VI (pc' := 133) (m' := mX9_setStrength) (As := [.int ((M 103 (4 * j + 1))), .int ((M 103 (4 * j + 2)))]) (st := []) (gg_str_x (d := d) r hw (M 103 (4 * j + 1)) (M 103 (4 * j + 2)) hjd) dX9_carries_130 rfl rfl (Nat.le_of_ble_eq_true rfl) (fit_of (by omega) (by decide) (by decide) (by decide)) ml_X9_234 okX9_setStrength rfl rfl (by decide) rfl (fun M1 hR => ?_)
  show EV _ _ _ _ _ 133 _ ([.int (nI 0)]) _
  exact e_iret dX9_carries_133 rfl (MP.retI rfl hR) (by decide) (by decide)
theorem g_car2 (r : RowAt M 97 0 c) (hw : WF c) (hK : KtR M hs sz) (hW : KWF hs sz) (h6 : M 96 6 = bI w) {j : Nat} (hj31 : j < 31) (h0 : M 103 (4 * j) = nI 1) (hjd : (jd c 2 (M 103 (4 * j + 1)) (M 103 (4 * j + 2))).1 = 0) : RETI G ad (d + 5) mX9_carries [.ref (ad 96), .int (nI (4 * j))] (M, o) (some (.int ((cy c 2 (M 103 (4 * j + 1)) (M 103 (4 * j + 2)) (M 103 (4 * j + 3))).1))) (CHI w hs sz c (cy c 2 (M 103 (4 * j + 1)) (M 103 (4 * j + 2)) (M 103 (4 * j + 3))).2 M) := by
  refine CM_of rfl (by decide) rfl (Nat.le_of_ble_eq_true rfl) rfl ?_
  have hn := hw.n
  have hk := hw.k
  have hw9 := hw.w9
  refine e_aload_n (pc' := 1) dX9_carries_0 rfl rfl rfl ?_
  refine p_gfr (pc' := 4) (a := 96) (k := 18) (t := 103) dX9_carries_1 rfl rfl (by decide) (by decide) rfl fl_X9_33 ?_
  refine e_iload_n (pc' := 5) dX9_carries_4 rfl rfl rfl ?_
  refine e_iconst (pc' := 6) (v := nI 1) dX9_carries_5 rfl (by decide) ?_
  refine e_iaddN (pc' := 7) dX9_carries_6 rfl ?_
  refine p_iald (pc' := 8) (a := 103) (k := (4 * j) + 1) (x := (M 103 (4 * j + 1))) dX9_carries_7 rfl (rfl) (rfl) (by omega) (by decide) (rfl) ?_
  refine e_istore_n (pc' := 9) (L' := [some (.ref (ad 96)), some (.int (nI (4 * j))), some (.int ((M 103 (4 * j + 1)))), none]) dX9_carries_8 rfl rfl (by decide) rfl ?_
  refine e_aload_n (pc' := 10) dX9_carries_9 rfl rfl rfl ?_
  refine p_gfr (pc' := 13) (a := 96) (k := 18) (t := 103) dX9_carries_10 rfl rfl (by decide) (by decide) rfl fl_X9_33 ?_
  refine e_iload_n (pc' := 14) dX9_carries_13 rfl rfl rfl ?_
  refine e_iconst (pc' := 15) (v := nI 2) dX9_carries_14 rfl (by decide) ?_
  refine e_iaddN (pc' := 16) dX9_carries_15 rfl ?_
  refine p_iald (pc' := 17) (a := 103) (k := (4 * j) + 2) (x := (M 103 (4 * j + 2))) dX9_carries_16 rfl (rfl) (rfl) (by omega) (by decide) (rfl) ?_
  refine e_istore_n (pc' := 18) (L' := [some (.ref (ad 96)), some (.int (nI (4 * j))), some (.int ((M 103 (4 * j + 1)))), some (.int ((M 103 (4 * j + 2))))]) dX9_carries_17 rfl rfl (by decide) rfl ?_
  refine e_aload_n (pc' := 19) dX9_carries_18 rfl rfl rfl ?_
  refine p_gfr (pc' := 22) (a := 96) (k := 18) (t := 103) dX9_carries_19 rfl rfl (by decide) (by decide) rfl fl_X9_33 ?_
  refine e_iload_n (pc' := 23) dX9_carries_22 rfl rfl rfl ?_
  refine p_iald (pc' := 24) (a := 103) (k := 4 * j) (x := nI 1) dX9_carries_23 rfl (rfl) (rfl) (by omega) (by decide) (h0) ?_
  refine e_tableIn (tgt := 92) (off := 68) dX9_carries_24 (by decide) (by decide) (by decide) (by decide) ?_
  refine e_aload_n (pc' := 93) dX9_carries_92 rfl rfl rfl ?_
  refine e_iload_n (pc' := 94) dX9_carries_93 rfl rfl rfl ?_
  refine r_VI (pc' := 97) (m' := mX9_turn) (As := [.int ((M 103 (4 * j + 1)))]) (st := []) (gg_turn (d := d) r hw hK hW h6 (M 103 (4 * j + 1)) (M 103 (4 * j + 2)) (M 103 (4 * j + 3)) hjd) dX9_carries_94 rfl rfl (Nat.le_of_ble_eq_true rfl) (fit_of (by omega) (by decide) (by decide) (by decide)) ml_X9_216 okX9_turn rfl rfl (by decide) rfl (fun M1 hR => ?_)
  show EV _ _ _ _ _ 97 _ ([.int ((cy c 2 (M 103 (4 * j + 1)) (M 103 (4 * j + 2)) (M 103 (4 * j + 3))).1)]) _
  exact e_iret dX9_carries_97 rfl (MP.retI rfl hR) (by decide) (by decide)
theorem g_car2x (r : RowAt M 97 0 c) (hw : WF c) {j : Nat} (hj31 : j < 31) (h0 : M 103 (4 * j) = nI 1) (hjd : ¬ (jd c 2 (M 103 (4 * j + 1)) (M 103 (4 * j + 2))).1 = 0) : RETI G ad (d + 5) mX9_carries [.ref (ad 96), .int (nI (4 * j))] (M, o) (some (.int (nI 0))) (FLR 2 (jd c 2 (M 103 (4 * j + 1)) (M 103 (4 * j + 2))) M) := by
  refine CM_of rfl (by decide) rfl (Nat.le_of_ble_eq_true rfl) rfl ?_
  have hn := hw.n
  have hk := hw.k
  have hw9 := hw.w9
  refine e_aload_n (pc' := 1) dX9_carries_0 rfl rfl rfl ?_
  refine p_gfr (pc' := 4) (a := 96) (k := 18) (t := 103) dX9_carries_1 rfl rfl (by decide) (by decide) rfl fl_X9_33 ?_
  refine e_iload_n (pc' := 5) dX9_carries_4 rfl rfl rfl ?_
  refine e_iconst (pc' := 6) (v := nI 1) dX9_carries_5 rfl (by decide) ?_
  refine e_iaddN (pc' := 7) dX9_carries_6 rfl ?_
  refine p_iald (pc' := 8) (a := 103) (k := (4 * j) + 1) (x := (M 103 (4 * j + 1))) dX9_carries_7 rfl (rfl) (rfl) (by omega) (by decide) (rfl) ?_
  refine e_istore_n (pc' := 9) (L' := [some (.ref (ad 96)), some (.int (nI (4 * j))), some (.int ((M 103 (4 * j + 1)))), none]) dX9_carries_8 rfl rfl (by decide) rfl ?_
  refine e_aload_n (pc' := 10) dX9_carries_9 rfl rfl rfl ?_
  refine p_gfr (pc' := 13) (a := 96) (k := 18) (t := 103) dX9_carries_10 rfl rfl (by decide) (by decide) rfl fl_X9_33 ?_
  refine e_iload_n (pc' := 14) dX9_carries_13 rfl rfl rfl ?_
  refine e_iconst (pc' := 15) (v := nI 2) dX9_carries_14 rfl (by decide) ?_
  refine e_iaddN (pc' := 16) dX9_carries_15 rfl ?_
  refine p_iald (pc' := 17) (a := 103) (k := (4 * j) + 2) (x := (M 103 (4 * j + 2))) dX9_carries_16 rfl (rfl) (rfl) (by omega) (by decide) (rfl) ?_
  refine e_istore_n (pc' := 18) (L' := [some (.ref (ad 96)), some (.int (nI (4 * j))), some (.int ((M 103 (4 * j + 1)))), some (.int ((M 103 (4 * j + 2))))]) dX9_carries_17 rfl rfl (by decide) rfl ?_
  refine e_aload_n (pc' := 19) dX9_carries_18 rfl rfl rfl ?_
  refine p_gfr (pc' := 22) (a := 96) (k := 18) (t := 103) dX9_carries_19 rfl rfl (by decide) (by decide) rfl fl_X9_33 ?_
  refine e_iload_n (pc' := 23) dX9_carries_22 rfl rfl rfl ?_
  refine p_iald (pc' := 24) (a := 103) (k := 4 * j) (x := nI 1) dX9_carries_23 rfl (rfl) (rfl) (by omega) (by decide) (h0) ?_
  refine e_tableIn (tgt := 92) (off := 68) dX9_carries_24 (by decide) (by decide) (by decide) (by decide) ?_
  refine e_aload_n (pc' := 93) dX9_carries_92 rfl rfl rfl ?_
  refine e_iload_n (pc' := 94) dX9_carries_93 rfl rfl rfl ?_
  refine r_VI (pc' := 97) (m' := mX9_turn) (As := [.int ((M 103 (4 * j + 1)))]) (st := []) (gg_turn_x (d := d) r hw (M 103 (4 * j + 1)) (M 103 (4 * j + 2)) hjd) dX9_carries_94 rfl rfl (Nat.le_of_ble_eq_true rfl) (fit_of (by omega) (by decide) (by decide) (by decide)) ml_X9_216 okX9_turn rfl rfl (by decide) rfl (fun M1 hR => ?_)
  show EV _ _ _ _ _ 97 _ ([.int (nI 0)]) _
  exact e_iret dX9_carries_97 rfl (MP.retI rfl hR) (by decide) (by decide)
theorem g_car3 (r : RowAt M 97 0 c) (hw : WF c) (hK : KtR M hs sz) (hW : KWF hs sz) (h6 : M 96 6 = bI w) {j : Nat} (hj31 : j < 31) (h0 : M 103 (4 * j) = nI 5) (hjd : (jd c 3 (M 103 (4 * j + 1)) (M 103 (4 * j + 2))).1 = 0) : RETI G ad (d + 5) mX9_carries [.ref (ad 96), .int (nI (4 * j))] (M, o) (some (.int ((cy c 3 (M 103 (4 * j + 1)) (M 103 (4 * j + 2)) (M 103 (4 * j + 3))).1))) (CHI w hs sz c (cy c 3 (M 103 (4 * j + 1)) (M 103 (4 * j + 2)) (M 103 (4 * j + 3))).2 M) := by
  refine CM_of rfl (by decide) rfl (Nat.le_of_ble_eq_true rfl) rfl ?_
  have hn := hw.n
  have hk := hw.k
  have hw9 := hw.w9
  refine e_aload_n (pc' := 1) dX9_carries_0 rfl rfl rfl ?_
  refine p_gfr (pc' := 4) (a := 96) (k := 18) (t := 103) dX9_carries_1 rfl rfl (by decide) (by decide) rfl fl_X9_33 ?_
  refine e_iload_n (pc' := 5) dX9_carries_4 rfl rfl rfl ?_
  refine e_iconst (pc' := 6) (v := nI 1) dX9_carries_5 rfl (by decide) ?_
  refine e_iaddN (pc' := 7) dX9_carries_6 rfl ?_
  refine p_iald (pc' := 8) (a := 103) (k := (4 * j) + 1) (x := (M 103 (4 * j + 1))) dX9_carries_7 rfl (rfl) (rfl) (by omega) (by decide) (rfl) ?_
  refine e_istore_n (pc' := 9) (L' := [some (.ref (ad 96)), some (.int (nI (4 * j))), some (.int ((M 103 (4 * j + 1)))), none]) dX9_carries_8 rfl rfl (by decide) rfl ?_
  refine e_aload_n (pc' := 10) dX9_carries_9 rfl rfl rfl ?_
  refine p_gfr (pc' := 13) (a := 96) (k := 18) (t := 103) dX9_carries_10 rfl rfl (by decide) (by decide) rfl fl_X9_33 ?_
  refine e_iload_n (pc' := 14) dX9_carries_13 rfl rfl rfl ?_
  refine e_iconst (pc' := 15) (v := nI 2) dX9_carries_14 rfl (by decide) ?_
  refine e_iaddN (pc' := 16) dX9_carries_15 rfl ?_
  refine p_iald (pc' := 17) (a := 103) (k := (4 * j) + 2) (x := (M 103 (4 * j + 2))) dX9_carries_16 rfl (rfl) (rfl) (by omega) (by decide) (rfl) ?_
  refine e_istore_n (pc' := 18) (L' := [some (.ref (ad 96)), some (.int (nI (4 * j))), some (.int ((M 103 (4 * j + 1)))), some (.int ((M 103 (4 * j + 2))))]) dX9_carries_17 rfl rfl (by decide) rfl ?_
  refine e_aload_n (pc' := 19) dX9_carries_18 rfl rfl rfl ?_
  refine p_gfr (pc' := 22) (a := 96) (k := 18) (t := 103) dX9_carries_19 rfl rfl (by decide) (by decide) rfl fl_X9_33 ?_
  refine e_iload_n (pc' := 23) dX9_carries_22 rfl rfl rfl ?_
  refine p_iald (pc' := 24) (a := 103) (k := 4 * j) (x := nI 5) dX9_carries_23 rfl (rfl) (rfl) (by omega) (by decide) (h0) ?_
  refine e_tableIn (tgt := 116) (off := 92) dX9_carries_24 (by decide) (by decide) (by decide) (by decide) ?_
  refine e_aload_n (pc' := 117) dX9_carries_116 rfl rfl rfl ?_
  refine e_iload_n (pc' := 118) dX9_carries_117 rfl rfl rfl ?_
  refine r_VI (pc' := 121) (m' := mX9_shift) (As := [.int ((M 103 (4 * j + 1)))]) (st := []) (gg_shift (d := d) r hw hK hW h6 (M 103 (4 * j + 1)) (M 103 (4 * j + 2)) (M 103 (4 * j + 3)) hjd) dX9_carries_118 rfl rfl (Nat.le_of_ble_eq_true rfl) (fit_of (by omega) (by decide) (by decide) (by decide)) ml_X9_228 okX9_shift rfl rfl (by decide) rfl (fun M1 hR => ?_)
  show EV _ _ _ _ _ 121 _ ([.int ((cy c 3 (M 103 (4 * j + 1)) (M 103 (4 * j + 2)) (M 103 (4 * j + 3))).1)]) _
  exact e_iret dX9_carries_121 rfl (MP.retI rfl hR) (by decide) (by decide)
theorem g_car3x (r : RowAt M 97 0 c) (hw : WF c) {j : Nat} (hj31 : j < 31) (h0 : M 103 (4 * j) = nI 5) (hjd : ¬ (jd c 3 (M 103 (4 * j + 1)) (M 103 (4 * j + 2))).1 = 0) : RETI G ad (d + 5) mX9_carries [.ref (ad 96), .int (nI (4 * j))] (M, o) (some (.int (nI 0))) (FLR 3 (jd c 3 (M 103 (4 * j + 1)) (M 103 (4 * j + 2))) M) := by
  refine CM_of rfl (by decide) rfl (Nat.le_of_ble_eq_true rfl) rfl ?_
  have hn := hw.n
  have hk := hw.k
  have hw9 := hw.w9
  refine e_aload_n (pc' := 1) dX9_carries_0 rfl rfl rfl ?_
  refine p_gfr (pc' := 4) (a := 96) (k := 18) (t := 103) dX9_carries_1 rfl rfl (by decide) (by decide) rfl fl_X9_33 ?_
  refine e_iload_n (pc' := 5) dX9_carries_4 rfl rfl rfl ?_
  refine e_iconst (pc' := 6) (v := nI 1) dX9_carries_5 rfl (by decide) ?_
  refine e_iaddN (pc' := 7) dX9_carries_6 rfl ?_
  refine p_iald (pc' := 8) (a := 103) (k := (4 * j) + 1) (x := (M 103 (4 * j + 1))) dX9_carries_7 rfl (rfl) (rfl) (by omega) (by decide) (rfl) ?_
  refine e_istore_n (pc' := 9) (L' := [some (.ref (ad 96)), some (.int (nI (4 * j))), some (.int ((M 103 (4 * j + 1)))), none]) dX9_carries_8 rfl rfl (by decide) rfl ?_
  refine e_aload_n (pc' := 10) dX9_carries_9 rfl rfl rfl ?_
  refine p_gfr (pc' := 13) (a := 96) (k := 18) (t := 103) dX9_carries_10 rfl rfl (by decide) (by decide) rfl fl_X9_33 ?_
  refine e_iload_n (pc' := 14) dX9_carries_13 rfl rfl rfl ?_
  refine e_iconst (pc' := 15) (v := nI 2) dX9_carries_14 rfl (by decide) ?_
  refine e_iaddN (pc' := 16) dX9_carries_15 rfl ?_
  refine p_iald (pc' := 17) (a := 103) (k := (4 * j) + 2) (x := (M 103 (4 * j + 2))) dX9_carries_16 rfl (rfl) (rfl) (by omega) (by decide) (rfl) ?_
  refine e_istore_n (pc' := 18) (L' := [some (.ref (ad 96)), some (.int (nI (4 * j))), some (.int ((M 103 (4 * j + 1)))), some (.int ((M 103 (4 * j + 2))))]) dX9_carries_17 rfl rfl (by decide) rfl ?_
  refine e_aload_n (pc' := 19) dX9_carries_18 rfl rfl rfl ?_
  refine p_gfr (pc' := 22) (a := 96) (k := 18) (t := 103) dX9_carries_19 rfl rfl (by decide) (by decide) rfl fl_X9_33 ?_
  refine e_iload_n (pc' := 23) dX9_carries_22 rfl rfl rfl ?_
  refine p_iald (pc' := 24) (a := 103) (k := 4 * j) (x := nI 5) dX9_carries_23 rfl (rfl) (rfl) (by omega) (by decide) (h0) ?_
  refine e_tableIn (tgt := 116) (off := 92) dX9_carries_24 (by decide) (by decide) (by decide) (by decide) ?_
  refine e_aload_n (pc' := 117) dX9_carries_116 rfl rfl rfl ?_
  refine e_iload_n (pc' := 118) dX9_carries_117 rfl rfl rfl ?_
  refine r_VI (pc' := 121) (m' := mX9_shift) (As := [.int ((M 103 (4 * j + 1)))]) (st := []) (gg_shift_x (d := d) r hw (M 103 (4 * j + 1)) (M 103 (4 * j + 2)) hjd) dX9_carries_118 rfl rfl (Nat.le_of_ble_eq_true rfl) (fit_of (by omega) (by decide) (by decide) (by decide)) ml_X9_228 okX9_shift rfl rfl (by decide) rfl (fun M1 hR => ?_)
  show EV _ _ _ _ _ 121 _ ([.int (nI 0)]) _
  exact e_iret dX9_carries_121 rfl (MP.retI rfl hR) (by decide) (by decide)
theorem g_car4 (r : RowAt M 97 0 c) (hw : WF c) (hK : KtR M hs sz) (hW : KWF hs sz) (h6 : M 96 6 = bI w) {j : Nat} (hj31 : j < 31) (h0 : M 103 (4 * j) = nI 6) : RETI G ad (d + 5) mX9_carries [.ref (ad 96), .int (nI (4 * j))] (M, o) (some (.int ((cy c 4 (M 103 (4 * j + 1)) (M 103 (4 * j + 2)) (M 103 (4 * j + 3))).1))) (CHI w hs sz c (cy c 4 (M 103 (4 * j + 1)) (M 103 (4 * j + 2)) (M 103 (4 * j + 3))).2 M) := by
  refine CM_of rfl (by decide) rfl (Nat.le_of_ble_eq_true rfl) rfl ?_
  have hn := hw.n
  have hk := hw.k
  have hw9 := hw.w9
  refine e_aload_n (pc' := 1) dX9_carries_0 rfl rfl rfl ?_
  refine p_gfr (pc' := 4) (a := 96) (k := 18) (t := 103) dX9_carries_1 rfl rfl (by decide) (by decide) rfl fl_X9_33 ?_
  refine e_iload_n (pc' := 5) dX9_carries_4 rfl rfl rfl ?_
  refine e_iconst (pc' := 6) (v := nI 1) dX9_carries_5 rfl (by decide) ?_
  refine e_iaddN (pc' := 7) dX9_carries_6 rfl ?_
  refine p_iald (pc' := 8) (a := 103) (k := (4 * j) + 1) (x := (M 103 (4 * j + 1))) dX9_carries_7 rfl (rfl) (rfl) (by omega) (by decide) (rfl) ?_
  refine e_istore_n (pc' := 9) (L' := [some (.ref (ad 96)), some (.int (nI (4 * j))), some (.int ((M 103 (4 * j + 1)))), none]) dX9_carries_8 rfl rfl (by decide) rfl ?_
  refine e_aload_n (pc' := 10) dX9_carries_9 rfl rfl rfl ?_
  refine p_gfr (pc' := 13) (a := 96) (k := 18) (t := 103) dX9_carries_10 rfl rfl (by decide) (by decide) rfl fl_X9_33 ?_
  refine e_iload_n (pc' := 14) dX9_carries_13 rfl rfl rfl ?_
  refine e_iconst (pc' := 15) (v := nI 2) dX9_carries_14 rfl (by decide) ?_
  refine e_iaddN (pc' := 16) dX9_carries_15 rfl ?_
  refine p_iald (pc' := 17) (a := 103) (k := (4 * j) + 2) (x := (M 103 (4 * j + 2))) dX9_carries_16 rfl (rfl) (rfl) (by omega) (by decide) (rfl) ?_
  refine e_istore_n (pc' := 18) (L' := [some (.ref (ad 96)), some (.int (nI (4 * j))), some (.int ((M 103 (4 * j + 1)))), some (.int ((M 103 (4 * j + 2))))]) dX9_carries_17 rfl rfl (by decide) rfl ?_
  refine e_aload_n (pc' := 19) dX9_carries_18 rfl rfl rfl ?_
  refine p_gfr (pc' := 22) (a := 96) (k := 18) (t := 103) dX9_carries_19 rfl rfl (by decide) (by decide) rfl fl_X9_33 ?_
  refine e_iload_n (pc' := 23) dX9_carries_22 rfl rfl rfl ?_
  refine p_iald (pc' := 24) (a := 103) (k := 4 * j) (x := nI 6) dX9_carries_23 rfl (rfl) (rfl) (by omega) (by decide) (h0) ?_
  refine e_tableIn (tgt := 122) (off := 98) dX9_carries_24 (by decide) (by decide) (by decide) (by decide) ?_
  refine e_aload_n (pc' := 123) dX9_carries_122 rfl rfl rfl ?_
  refine r_VI (pc' := 126) (m' := mX9_move) (As := []) (st := []) (gg_move (d := d) r hw hK hW h6 (M 103 (4 * j + 1)) (M 103 (4 * j + 2)) (M 103 (4 * j + 3))) dX9_carries_123 rfl rfl (Nat.le_of_ble_eq_true rfl) (fit_of (by omega) (by decide) (by decide) (by decide)) ml_X9_231 okX9_move rfl rfl (by decide) rfl (fun M1 hR => ?_)
  show EV _ _ _ _ _ 126 _ ([.int ((cy c 4 (M 103 (4 * j + 1)) (M 103 (4 * j + 2)) (M 103 (4 * j + 3))).1)]) _
  exact e_iret dX9_carries_126 rfl (MP.retI rfl hR) (by decide) (by decide)
theorem g_car5 (r : RowAt M 97 0 c) (hw : WF c) (hK : KtR M hs sz) (hW : KWF hs sz) (h6 : M 96 6 = bI w) {j : Nat} (hj31 : j < 31) (h0 : M 103 (4 * j) = nI 2) (hjd : (jd c 5 (M 103 (4 * j + 1)) (M 103 (4 * j + 2))).1 = 0) : RETI G ad (d + 5) mX9_carries [.ref (ad 96), .int (nI (4 * j))] (M, o) (some (.int ((cy c 5 (M 103 (4 * j + 1)) (M 103 (4 * j + 2)) (M 103 (4 * j + 3))).1))) (CHI w hs sz c (cy c 5 (M 103 (4 * j + 1)) (M 103 (4 * j + 2)) (M 103 (4 * j + 3))).2 M) := by
  refine CM_of rfl (by decide) rfl (Nat.le_of_ble_eq_true rfl) rfl ?_
  have hn := hw.n
  have hk := hw.k
  have hw9 := hw.w9
  refine e_aload_n (pc' := 1) dX9_carries_0 rfl rfl rfl ?_
  refine p_gfr (pc' := 4) (a := 96) (k := 18) (t := 103) dX9_carries_1 rfl rfl (by decide) (by decide) rfl fl_X9_33 ?_
  refine e_iload_n (pc' := 5) dX9_carries_4 rfl rfl rfl ?_
  refine e_iconst (pc' := 6) (v := nI 1) dX9_carries_5 rfl (by decide) ?_
  refine e_iaddN (pc' := 7) dX9_carries_6 rfl ?_
  refine p_iald (pc' := 8) (a := 103) (k := (4 * j) + 1) (x := (M 103 (4 * j + 1))) dX9_carries_7 rfl (rfl) (rfl) (by omega) (by decide) (rfl) ?_
  refine e_istore_n (pc' := 9) (L' := [some (.ref (ad 96)), some (.int (nI (4 * j))), some (.int ((M 103 (4 * j + 1)))), none]) dX9_carries_8 rfl rfl (by decide) rfl ?_
  refine e_aload_n (pc' := 10) dX9_carries_9 rfl rfl rfl ?_
  refine p_gfr (pc' := 13) (a := 96) (k := 18) (t := 103) dX9_carries_10 rfl rfl (by decide) (by decide) rfl fl_X9_33 ?_
  refine e_iload_n (pc' := 14) dX9_carries_13 rfl rfl rfl ?_
  refine e_iconst (pc' := 15) (v := nI 2) dX9_carries_14 rfl (by decide) ?_
  refine e_iaddN (pc' := 16) dX9_carries_15 rfl ?_
  refine p_iald (pc' := 17) (a := 103) (k := (4 * j) + 2) (x := (M 103 (4 * j + 2))) dX9_carries_16 rfl (rfl) (rfl) (by omega) (by decide) (rfl) ?_
  refine e_istore_n (pc' := 18) (L' := [some (.ref (ad 96)), some (.int (nI (4 * j))), some (.int ((M 103 (4 * j + 1)))), some (.int ((M 103 (4 * j + 2))))]) dX9_carries_17 rfl rfl (by decide) rfl ?_
  refine e_aload_n (pc' := 19) dX9_carries_18 rfl rfl rfl ?_
  refine p_gfr (pc' := 22) (a := 96) (k := 18) (t := 103) dX9_carries_19 rfl rfl (by decide) (by decide) rfl fl_X9_33 ?_
  refine e_iload_n (pc' := 23) dX9_carries_22 rfl rfl rfl ?_
  refine p_iald (pc' := 24) (a := 103) (k := 4 * j) (x := nI 2) dX9_carries_23 rfl (rfl) (rfl) (by omega) (by decide) (h0) ?_
  refine e_tableIn (tgt := 98) (off := 74) dX9_carries_24 (by decide) (by decide) (by decide) (by decide) ?_
  refine e_aload_n (pc' := 99) dX9_carries_98 rfl rfl rfl ?_
  refine e_iload_n (pc' := 100) dX9_carries_99 rfl rfl rfl ?_
  refine e_iload_n (pc' := 101) dX9_carries_100 rfl rfl rfl ?_
  refine r_VI (pc' := 104) (m' := mX9_dig) (As := [.int ((M 103 (4 * j + 1))), .int ((M 103 (4 * j + 2)))]) (st := []) (gg_dig (d := d) r hw hK hW h6 (M 103 (4 * j + 1)) (M 103 (4 * j + 2)) (M 103 (4 * j + 3)) hjd) dX9_carries_101 rfl rfl (Nat.le_of_ble_eq_true rfl) (fit_of (by omega) (by decide) (by decide) (by decide)) ml_X9_219 okX9_dig rfl rfl (by decide) rfl (fun M1 hR => ?_)
  show EV _ _ _ _ _ 104 _ ([.int ((cy c 5 (M 103 (4 * j + 1)) (M 103 (4 * j + 2)) (M 103 (4 * j + 3))).1)]) _
  exact e_iret dX9_carries_104 rfl (MP.retI rfl hR) (by decide) (by decide)
theorem g_car5x (r : RowAt M 97 0 c) (hw : WF c) {j : Nat} (hj31 : j < 31) (h0 : M 103 (4 * j) = nI 2) (hjd : ¬ (jd c 5 (M 103 (4 * j + 1)) (M 103 (4 * j + 2))).1 = 0) : RETI G ad (d + 5) mX9_carries [.ref (ad 96), .int (nI (4 * j))] (M, o) (some (.int (nI 0))) (FLR 5 (jd c 5 (M 103 (4 * j + 1)) (M 103 (4 * j + 2))) M) := by
  refine CM_of rfl (by decide) rfl (Nat.le_of_ble_eq_true rfl) rfl ?_
  have hn := hw.n
  have hk := hw.k
  have hw9 := hw.w9
  refine e_aload_n (pc' := 1) dX9_carries_0 rfl rfl rfl ?_
  refine p_gfr (pc' := 4) (a := 96) (k := 18) (t := 103) dX9_carries_1 rfl rfl (by decide) (by decide) rfl fl_X9_33 ?_
  refine e_iload_n (pc' := 5) dX9_carries_4 rfl rfl rfl ?_
  refine e_iconst (pc' := 6) (v := nI 1) dX9_carries_5 rfl (by decide) ?_
  refine e_iaddN (pc' := 7) dX9_carries_6 rfl ?_
  refine p_iald (pc' := 8) (a := 103) (k := (4 * j) + 1) (x := (M 103 (4 * j + 1))) dX9_carries_7 rfl (rfl) (rfl) (by omega) (by decide) (rfl) ?_
  refine e_istore_n (pc' := 9) (L' := [some (.ref (ad 96)), some (.int (nI (4 * j))), some (.int ((M 103 (4 * j + 1)))), none]) dX9_carries_8 rfl rfl (by decide) rfl ?_
  refine e_aload_n (pc' := 10) dX9_carries_9 rfl rfl rfl ?_
  refine p_gfr (pc' := 13) (a := 96) (k := 18) (t := 103) dX9_carries_10 rfl rfl (by decide) (by decide) rfl fl_X9_33 ?_
  refine e_iload_n (pc' := 14) dX9_carries_13 rfl rfl rfl ?_
  refine e_iconst (pc' := 15) (v := nI 2) dX9_carries_14 rfl (by decide) ?_
  refine e_iaddN (pc' := 16) dX9_carries_15 rfl ?_
  refine p_iald (pc' := 17) (a := 103) (k := (4 * j) + 2) (x := (M 103 (4 * j + 2))) dX9_carries_16 rfl (rfl) (rfl) (by omega) (by decide) (rfl) ?_
  refine e_istore_n (pc' := 18) (L' := [some (.ref (ad 96)), some (.int (nI (4 * j))), some (.int ((M 103 (4 * j + 1)))), some (.int ((M 103 (4 * j + 2))))]) dX9_carries_17 rfl rfl (by decide) rfl ?_
  refine e_aload_n (pc' := 19) dX9_carries_18 rfl rfl rfl ?_
  refine p_gfr (pc' := 22) (a := 96) (k := 18) (t := 103) dX9_carries_19 rfl rfl (by decide) (by decide) rfl fl_X9_33 ?_
  refine e_iload_n (pc' := 23) dX9_carries_22 rfl rfl rfl ?_
  refine p_iald (pc' := 24) (a := 103) (k := 4 * j) (x := nI 2) dX9_carries_23 rfl (rfl) (rfl) (by omega) (by decide) (h0) ?_
  refine e_tableIn (tgt := 98) (off := 74) dX9_carries_24 (by decide) (by decide) (by decide) (by decide) ?_
  refine e_aload_n (pc' := 99) dX9_carries_98 rfl rfl rfl ?_
  refine e_iload_n (pc' := 100) dX9_carries_99 rfl rfl rfl ?_
  refine e_iload_n (pc' := 101) dX9_carries_100 rfl rfl rfl ?_
  refine r_VI (pc' := 104) (m' := mX9_dig) (As := [.int ((M 103 (4 * j + 1))), .int ((M 103 (4 * j + 2)))]) (st := []) (gg_dig_x (d := d) r hw (M 103 (4 * j + 1)) (M 103 (4 * j + 2)) hjd) dX9_carries_101 rfl rfl (Nat.le_of_ble_eq_true rfl) (fit_of (by omega) (by decide) (by decide) (by decide)) ml_X9_219 okX9_dig rfl rfl (by decide) rfl (fun M1 hR => ?_)
  show EV _ _ _ _ _ 104 _ ([.int (nI 0)]) _
  exact e_iret dX9_carries_104 rfl (MP.retI rfl hR) (by decide) (by decide)
theorem g_car6 (r : RowAt M 97 0 c) (hw : WF c) (hK : KtR M hs sz) (hW : KWF hs sz) (h6 : M 96 6 = bI w) {j : Nat} (hj31 : j < 31) (h0 : M 103 (4 * j) = nI 3) (hjd : (jd c 6 (M 103 (4 * j + 1)) (M 103 (4 * j + 2))).1 = 0) : RETI G ad (d + 5) mX9_carries [.ref (ad 96), .int (nI (4 * j))] (M, o) (some (.int ((cy c 6 (M 103 (4 * j + 1)) (M 103 (4 * j + 2)) (M 103 (4 * j + 3))).1))) (CHI w hs sz c (cy c 6 (M 103 (4 * j + 1)) (M 103 (4 * j + 2)) (M 103 (4 * j + 3))).2 M) := by
  refine CM_of rfl (by decide) rfl (Nat.le_of_ble_eq_true rfl) rfl ?_
  have hn := hw.n
  have hk := hw.k
  have hw9 := hw.w9
  refine e_aload_n (pc' := 1) dX9_carries_0 rfl rfl rfl ?_
  refine p_gfr (pc' := 4) (a := 96) (k := 18) (t := 103) dX9_carries_1 rfl rfl (by decide) (by decide) rfl fl_X9_33 ?_
  refine e_iload_n (pc' := 5) dX9_carries_4 rfl rfl rfl ?_
  refine e_iconst (pc' := 6) (v := nI 1) dX9_carries_5 rfl (by decide) ?_
  refine e_iaddN (pc' := 7) dX9_carries_6 rfl ?_
  refine p_iald (pc' := 8) (a := 103) (k := (4 * j) + 1) (x := (M 103 (4 * j + 1))) dX9_carries_7 rfl (rfl) (rfl) (by omega) (by decide) (rfl) ?_
  refine e_istore_n (pc' := 9) (L' := [some (.ref (ad 96)), some (.int (nI (4 * j))), some (.int ((M 103 (4 * j + 1)))), none]) dX9_carries_8 rfl rfl (by decide) rfl ?_
  refine e_aload_n (pc' := 10) dX9_carries_9 rfl rfl rfl ?_
  refine p_gfr (pc' := 13) (a := 96) (k := 18) (t := 103) dX9_carries_10 rfl rfl (by decide) (by decide) rfl fl_X9_33 ?_
  refine e_iload_n (pc' := 14) dX9_carries_13 rfl rfl rfl ?_
  refine e_iconst (pc' := 15) (v := nI 2) dX9_carries_14 rfl (by decide) ?_
  refine e_iaddN (pc' := 16) dX9_carries_15 rfl ?_
  refine p_iald (pc' := 17) (a := 103) (k := (4 * j) + 2) (x := (M 103 (4 * j + 2))) dX9_carries_16 rfl (rfl) (rfl) (by omega) (by decide) (rfl) ?_
  refine e_istore_n (pc' := 18) (L' := [some (.ref (ad 96)), some (.int (nI (4 * j))), some (.int ((M 103 (4 * j + 1)))), some (.int ((M 103 (4 * j + 2))))]) dX9_carries_17 rfl rfl (by decide) rfl ?_
  refine e_aload_n (pc' := 19) dX9_carries_18 rfl rfl rfl ?_
  refine p_gfr (pc' := 22) (a := 96) (k := 18) (t := 103) dX9_carries_19 rfl rfl (by decide) (by decide) rfl fl_X9_33 ?_
  refine e_iload_n (pc' := 23) dX9_carries_22 rfl rfl rfl ?_
  refine p_iald (pc' := 24) (a := 103) (k := 4 * j) (x := nI 3) dX9_carries_23 rfl (rfl) (rfl) (by omega) (by decide) (h0) ?_
  refine e_tableIn (tgt := 105) (off := 81) dX9_carries_24 (by decide) (by decide) (by decide) (by decide) ?_
  refine e_aload_n (pc' := 106) dX9_carries_105 rfl rfl rfl ?_
  refine e_iload_n (pc' := 107) dX9_carries_106 rfl rfl rfl ?_
  refine r_VI (pc' := 110) (m' := mX9_fill) (As := [.int ((M 103 (4 * j + 1)))]) (st := []) (gg_fill (d := d) r hw hK hW h6 (M 103 (4 * j + 1)) (M 103 (4 * j + 2)) (M 103 (4 * j + 3)) hjd) dX9_carries_107 rfl rfl (Nat.le_of_ble_eq_true rfl) (fit_of (by omega) (by decide) (by decide) (by decide)) ml_X9_222 okX9_fill rfl rfl (by decide) rfl (fun M1 hR => ?_)
  show EV _ _ _ _ _ 110 _ ([.int ((cy c 6 (M 103 (4 * j + 1)) (M 103 (4 * j + 2)) (M 103 (4 * j + 3))).1)]) _
  exact e_iret dX9_carries_110 rfl (MP.retI rfl hR) (by decide) (by decide)
theorem g_car6x (r : RowAt M 97 0 c) (hw : WF c) {j : Nat} (hj31 : j < 31) (h0 : M 103 (4 * j) = nI 3) (hjd : ¬ (jd c 6 (M 103 (4 * j + 1)) (M 103 (4 * j + 2))).1 = 0) : RETI G ad (d + 5) mX9_carries [.ref (ad 96), .int (nI (4 * j))] (M, o) (some (.int (nI 0))) (FLR 6 (jd c 6 (M 103 (4 * j + 1)) (M 103 (4 * j + 2))) M) := by
  refine CM_of rfl (by decide) rfl (Nat.le_of_ble_eq_true rfl) rfl ?_
  have hn := hw.n
  have hk := hw.k
  have hw9 := hw.w9
  refine e_aload_n (pc' := 1) dX9_carries_0 rfl rfl rfl ?_
  refine p_gfr (pc' := 4) (a := 96) (k := 18) (t := 103) dX9_carries_1 rfl rfl (by decide) (by decide) rfl fl_X9_33 ?_
  refine e_iload_n (pc' := 5) dX9_carries_4 rfl rfl rfl ?_
  refine e_iconst (pc' := 6) (v := nI 1) dX9_carries_5 rfl (by decide) ?_
  refine e_iaddN (pc' := 7) dX9_carries_6 rfl ?_
  refine p_iald (pc' := 8) (a := 103) (k := (4 * j) + 1) (x := (M 103 (4 * j + 1))) dX9_carries_7 rfl (rfl) (rfl) (by omega) (by decide) (rfl) ?_
  refine e_istore_n (pc' := 9) (L' := [some (.ref (ad 96)), some (.int (nI (4 * j))), some (.int ((M 103 (4 * j + 1)))), none]) dX9_carries_8 rfl rfl (by decide) rfl ?_
  refine e_aload_n (pc' := 10) dX9_carries_9 rfl rfl rfl ?_
  refine p_gfr (pc' := 13) (a := 96) (k := 18) (t := 103) dX9_carries_10 rfl rfl (by decide) (by decide) rfl fl_X9_33 ?_
  refine e_iload_n (pc' := 14) dX9_carries_13 rfl rfl rfl ?_
  refine e_iconst (pc' := 15) (v := nI 2) dX9_carries_14 rfl (by decide) ?_
  refine e_iaddN (pc' := 16) dX9_carries_15 rfl ?_
  refine p_iald (pc' := 17) (a := 103) (k := (4 * j) + 2) (x := (M 103 (4 * j + 2))) dX9_carries_16 rfl (rfl) (rfl) (by omega) (by decide) (rfl) ?_
  refine e_istore_n (pc' := 18) (L' := [some (.ref (ad 96)), some (.int (nI (4 * j))), some (.int ((M 103 (4 * j + 1)))), some (.int ((M 103 (4 * j + 2))))]) dX9_carries_17 rfl rfl (by decide) rfl ?_
  refine e_aload_n (pc' := 19) dX9_carries_18 rfl rfl rfl ?_
  refine p_gfr (pc' := 22) (a := 96) (k := 18) (t := 103) dX9_carries_19 rfl rfl (by decide) (by decide) rfl fl_X9_33 ?_
  refine e_iload_n (pc' := 23) dX9_carries_22 rfl rfl rfl ?_
  refine p_iald (pc' := 24) (a := 103) (k := 4 * j) (x := nI 3) dX9_carries_23 rfl (rfl) (rfl) (by omega) (by decide) (h0) ?_
  refine e_tableIn (tgt := 105) (off := 81) dX9_carries_24 (by decide) (by decide) (by decide) (by decide) ?_
  refine e_aload_n (pc' := 106) dX9_carries_105 rfl rfl rfl ?_
  refine e_iload_n (pc' := 107) dX9_carries_106 rfl rfl rfl ?_
  refine r_VI (pc' := 110) (m' := mX9_fill) (As := [.int ((M 103 (4 * j + 1)))]) (st := []) (gg_fill_x (d := d) r hw (M 103 (4 * j + 1)) (M 103 (4 * j + 2)) hjd) dX9_carries_107 rfl rfl (Nat.le_of_ble_eq_true rfl) (fit_of (by omega) (by decide) (by decide) (by decide)) ml_X9_222 okX9_fill rfl rfl (by decide) rfl (fun M1 hR => ?_)
  show EV _ _ _ _ _ 110 _ ([.int (nI 0)]) _
  exact e_iret dX9_carries_110 rfl (MP.retI rfl hR) (by decide) (by decide)
theorem g_car7 (r : RowAt M 97 0 c) (hw : WF c) (hK : KtR M hs sz) (hW : KWF hs sz) (h6 : M 96 6 = bI w) {j : Nat} (hj31 : j < 31) (h0 : M 103 (4 * j) = nI 4) (hjd : (jd c 7 (M 103 (4 * j + 1)) (M 103 (4 * j + 2))).1 = 0) : RETI G ad (d + 5) mX9_carries [.ref (ad 96), .int (nI (4 * j))] (M, o) (some (.int ((cy c 7 (M 103 (4 * j + 1)) (M 103 (4 * j + 2)) (M 103 (4 * j + 3))).1))) (CHI w hs sz c (cy c 7 (M 103 (4 * j + 1)) (M 103 (4 * j + 2)) (M 103 (4 * j + 3))).2 M) := by
  refine CM_of rfl (by decide) rfl (Nat.le_of_ble_eq_true rfl) rfl ?_
  have hn := hw.n
  have hk := hw.k
  have hw9 := hw.w9
  refine e_aload_n (pc' := 1) dX9_carries_0 rfl rfl rfl ?_
  refine p_gfr (pc' := 4) (a := 96) (k := 18) (t := 103) dX9_carries_1 rfl rfl (by decide) (by decide) rfl fl_X9_33 ?_
  refine e_iload_n (pc' := 5) dX9_carries_4 rfl rfl rfl ?_
  refine e_iconst (pc' := 6) (v := nI 1) dX9_carries_5 rfl (by decide) ?_
  refine e_iaddN (pc' := 7) dX9_carries_6 rfl ?_
  refine p_iald (pc' := 8) (a := 103) (k := (4 * j) + 1) (x := (M 103 (4 * j + 1))) dX9_carries_7 rfl (rfl) (rfl) (by omega) (by decide) (rfl) ?_
  refine e_istore_n (pc' := 9) (L' := [some (.ref (ad 96)), some (.int (nI (4 * j))), some (.int ((M 103 (4 * j + 1)))), none]) dX9_carries_8 rfl rfl (by decide) rfl ?_
  refine e_aload_n (pc' := 10) dX9_carries_9 rfl rfl rfl ?_
  refine p_gfr (pc' := 13) (a := 96) (k := 18) (t := 103) dX9_carries_10 rfl rfl (by decide) (by decide) rfl fl_X9_33 ?_
  refine e_iload_n (pc' := 14) dX9_carries_13 rfl rfl rfl ?_
  refine e_iconst (pc' := 15) (v := nI 2) dX9_carries_14 rfl (by decide) ?_
  refine e_iaddN (pc' := 16) dX9_carries_15 rfl ?_
  refine p_iald (pc' := 17) (a := 103) (k := (4 * j) + 2) (x := (M 103 (4 * j + 2))) dX9_carries_16 rfl (rfl) (rfl) (by omega) (by decide) (rfl) ?_
  refine e_istore_n (pc' := 18) (L' := [some (.ref (ad 96)), some (.int (nI (4 * j))), some (.int ((M 103 (4 * j + 1)))), some (.int ((M 103 (4 * j + 2))))]) dX9_carries_17 rfl rfl (by decide) rfl ?_
  refine e_aload_n (pc' := 19) dX9_carries_18 rfl rfl rfl ?_
  refine p_gfr (pc' := 22) (a := 96) (k := 18) (t := 103) dX9_carries_19 rfl rfl (by decide) (by decide) rfl fl_X9_33 ?_
  refine e_iload_n (pc' := 23) dX9_carries_22 rfl rfl rfl ?_
  refine p_iald (pc' := 24) (a := 103) (k := 4 * j) (x := nI 4) dX9_carries_23 rfl (rfl) (rfl) (by omega) (by decide) (h0) ?_
  refine e_tableIn (tgt := 111) (off := 87) dX9_carries_24 (by decide) (by decide) (by decide) (by decide) ?_
  refine e_aload_n (pc' := 112) dX9_carries_111 rfl rfl rfl ?_
  refine r_VI (pc' := 115) (m' := mX9_settle) (As := []) (st := []) (gg_settle (d := d) r hw hK hW h6 (M 103 (4 * j + 1)) (M 103 (4 * j + 2)) (M 103 (4 * j + 3)) hjd) dX9_carries_112 rfl rfl (Nat.le_of_ble_eq_true rfl) (fit_of (by omega) (by decide) (by decide) (by decide)) ml_X9_225 okX9_settle rfl rfl (by decide) rfl (fun M1 hR => ?_)
  show EV _ _ _ _ _ 115 _ ([.int ((cy c 7 (M 103 (4 * j + 1)) (M 103 (4 * j + 2)) (M 103 (4 * j + 3))).1)]) _
  exact e_iret dX9_carries_115 rfl (MP.retI rfl hR) (by decide) (by decide)
theorem g_car7x (r : RowAt M 97 0 c) (hw : WF c) {j : Nat} (hj31 : j < 31) (h0 : M 103 (4 * j) = nI 4) (hjd : ¬ (jd c 7 (M 103 (4 * j + 1)) (M 103 (4 * j + 2))).1 = 0) : RETI G ad (d + 5) mX9_carries [.ref (ad 96), .int (nI (4 * j))] (M, o) (some (.int (nI 0))) (FLR 7 (jd c 7 (M 103 (4 * j + 1)) (M 103 (4 * j + 2))) M) := by
  refine CM_of rfl (by decide) rfl (Nat.le_of_ble_eq_true rfl) rfl ?_
  have hn := hw.n
  have hk := hw.k
  have hw9 := hw.w9
  refine e_aload_n (pc' := 1) dX9_carries_0 rfl rfl rfl ?_
  refine p_gfr (pc' := 4) (a := 96) (k := 18) (t := 103) dX9_carries_1 rfl rfl (by decide) (by decide) rfl fl_X9_33 ?_
  refine e_iload_n (pc' := 5) dX9_carries_4 rfl rfl rfl ?_
  refine e_iconst (pc' := 6) (v := nI 1) dX9_carries_5 rfl (by decide) ?_
  refine e_iaddN (pc' := 7) dX9_carries_6 rfl ?_
  refine p_iald (pc' := 8) (a := 103) (k := (4 * j) + 1) (x := (M 103 (4 * j + 1))) dX9_carries_7 rfl (rfl) (rfl) (by omega) (by decide) (rfl) ?_
  refine e_istore_n (pc' := 9) (L' := [some (.ref (ad 96)), some (.int (nI (4 * j))), some (.int ((M 103 (4 * j + 1)))), none]) dX9_carries_8 rfl rfl (by decide) rfl ?_
  refine e_aload_n (pc' := 10) dX9_carries_9 rfl rfl rfl ?_
  refine p_gfr (pc' := 13) (a := 96) (k := 18) (t := 103) dX9_carries_10 rfl rfl (by decide) (by decide) rfl fl_X9_33 ?_
  refine e_iload_n (pc' := 14) dX9_carries_13 rfl rfl rfl ?_
  refine e_iconst (pc' := 15) (v := nI 2) dX9_carries_14 rfl (by decide) ?_
  refine e_iaddN (pc' := 16) dX9_carries_15 rfl ?_
  refine p_iald (pc' := 17) (a := 103) (k := (4 * j) + 2) (x := (M 103 (4 * j + 2))) dX9_carries_16 rfl (rfl) (rfl) (by omega) (by decide) (rfl) ?_
  refine e_istore_n (pc' := 18) (L' := [some (.ref (ad 96)), some (.int (nI (4 * j))), some (.int ((M 103 (4 * j + 1)))), some (.int ((M 103 (4 * j + 2))))]) dX9_carries_17 rfl rfl (by decide) rfl ?_
  refine e_aload_n (pc' := 19) dX9_carries_18 rfl rfl rfl ?_
  refine p_gfr (pc' := 22) (a := 96) (k := 18) (t := 103) dX9_carries_19 rfl rfl (by decide) (by decide) rfl fl_X9_33 ?_
  refine e_iload_n (pc' := 23) dX9_carries_22 rfl rfl rfl ?_
  refine p_iald (pc' := 24) (a := 103) (k := 4 * j) (x := nI 4) dX9_carries_23 rfl (rfl) (rfl) (by omega) (by decide) (h0) ?_
  refine e_tableIn (tgt := 111) (off := 87) dX9_carries_24 (by decide) (by decide) (by decide) (by decide) ?_
  refine e_aload_n (pc' := 112) dX9_carries_111 rfl rfl rfl ?_
  refine r_VI (pc' := 115) (m' := mX9_settle) (As := []) (st := []) (gg_settle_x (d := d) r hw (M 103 (4 * j + 1)) (M 103 (4 * j + 2)) hjd) dX9_carries_112 rfl rfl (Nat.le_of_ble_eq_true rfl) (fit_of (by omega) (by decide) (by decide) (by decide)) ml_X9_225 okX9_settle rfl rfl (by decide) rfl (fun M1 hR => ?_)
  show EV _ _ _ _ _ 115 _ ([.int (nI 0)]) _
  exact e_iret dX9_carries_115 rfl (MP.retI rfl hR) (by decide) (by decide)
theorem g_car (r : RowAt M 97 0 c) (hw : WF c) (hK : KtR M hs sz) (hW : KWF hs sz) (h6 : M 96 6 = bI w) {K j : Nat} (hK8 : K < 8) (hj31 : j < 31) (h0 : M 103 (4 * j) = nI (mdK K)) (hjd : (jd c K (M 103 (4 * j + 1)) (M 103 (4 * j + 2))).1 = 0) : RETI G ad (d + 5) mX9_carries [.ref (ad 96), .int (nI (4 * j))] (M, o) (some (.int (cy c K (M 103 (4 * j + 1)) (M 103 (4 * j + 2)) (M 103 (4 * j + 3))).1)) (CHI w hs sz c (cy c K (M 103 (4 * j + 1)) (M 103 (4 * j + 2)) (M 103 (4 * j + 3))).2 M) := by
  match K, hK8 with
  | 0, _ => exact g_car0 r hw hK hW h6 hj31 h0 hjd
  | 1, _ => exact g_car1 r hw hK hW h6 hj31 h0 hjd
  | 2, _ => exact g_car2 r hw hK hW h6 hj31 h0 hjd
  | 3, _ => exact g_car3 r hw hK hW h6 hj31 h0 hjd
  | 4, _ => exact g_car4 r hw hK hW h6 hj31 h0
  | 5, _ => exact g_car5 r hw hK hW h6 hj31 h0 hjd
  | 6, _ => exact g_car6 r hw hK hW h6 hj31 h0 hjd
  | 7, _ => exact g_car7 r hw hK hW h6 hj31 h0 hjd
theorem g_carx (r : RowAt M 97 0 c) (hw : WF c) {K j : Nat} (hK8 : K < 8) (hj31 : j < 31) (h0 : M 103 (4 * j) = nI (mdK K)) (hjd : ¬ (jd c K (M 103 (4 * j + 1)) (M 103 (4 * j + 2))).1 = 0) : RETI G ad (d + 5) mX9_carries [.ref (ad 96), .int (nI (4 * j))] (M, o) (some (.int (nI 0))) (FLR K (jd c K (M 103 (4 * j + 1)) (M 103 (4 * j + 2))) M) := by
  match K, hK8 with
  | 0, _ => exact g_car0x r hw hj31 h0 hjd
  | 1, _ => exact g_car1x r hw hj31 h0 hjd
  | 2, _ => exact g_car2x r hw hj31 h0 hjd
  | 3, _ => exact g_car3x r hw hj31 h0 hjd
  | 4, _ => exact absurd rfl hjd
  | 5, _ => exact g_car5x r hw hj31 h0 hjd
  | 6, _ => exact g_car6x r hw hj31 h0 hjd
  | 7, _ => exact g_car7x r hw hj31 h0 hjd
end T56

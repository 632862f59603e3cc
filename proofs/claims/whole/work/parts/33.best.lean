set_option maxHeartbeats 400000
/-! THE REFERENCE: the best set, the least -/
def lowB (i b : Nat) : Bool := !decide ((nI i &&& (nI i ^^^ nI b)) &&& (-(nI i ^^^ nI b)) = 0)
def mbB (r : Option Nat) (i : Nat) : Bool := match r with
  | none => true
  | some b => decide (pop i < pop b) || (decide (pop i = pop b) && lowB i b)
def mbF (c : Col) : Nat → Option Nat
  | 0 => none
  | i + 1 => if blkN c (cw c ^^^ i) = 0 ∧ mbB (mbF c i) i = true then some i else mbF c i
def lsF (c : Col) : Nat → Nat
  | 0 => 16
  | i + 1 => if blkN c (cw c ^^^ i) < lsF c i then blkN c (cw c ^^^ i) else lsF c i
section T33
variable {G : gC} {ad : Nat → Nat} {d : Nat} {M : Nat → Nat → Int32} {o : (Nat → Int64) × (Nat → UInt64)} {c : Col}
theorem mbF_lt : ∀ {i b : Nat}, mbF c i = some b → b < i
  | 0, b, e => by cases e
  | i + 1, b, e => by
    have e2 : (if blkN c (cw c ^^^ i) = 0 ∧ mbB (mbF c i) i = true then some i else mbF c i) = some b := e
    split at e2
    · cases e2; omega
    · have := mbF_lt e2; omega
theorem oI_lt0 {r : Option Nat} (h : ∀ i, r = some i → i < 2 ^ 31) : oI r < 0 ↔ r = none := by
  cases r with
  | none => exact ⟨fun _ => rfl, fun _ => by decide⟩
  | some i => exact ⟨fun q => absurd q (nI_pos (h i rfl)), fun q => by cases q⟩
theorem mb_take {i : Nat} (h0 : blkN c (cw c ^^^ i) = 0) (h : mbB (mbF c i) i = true) : mbF c (i + 1) = some i := if_pos ⟨h0, h⟩
theorem mb_skip0 {i : Nat} (h0 : 0 < blkN c (cw c ^^^ i)) : mbF c (i + 1) = mbF c i := if_neg (fun q => by omega)
theorem mb_skip {i b : Nat} (hb : mbF c i = some b) (h1 : ¬ pop i < pop b) (h2 : ¬ pop i = pop b ∨ (nI i &&& (nI i ^^^ nI b)) &&& (-(nI i ^^^ nI b)) = 0) : mbF c (i + 1) = some b := by
  have e : mbF c (i + 1) = mbF c i := if_neg (fun q => by
    have q2 := q.2
    rw [hb] at q2
    unfold mbB lowB at q2
    rcases h2 with h2 | h2
    · simp [h1, h2] at q2
    · simp [h1, h2] at q2)
  rw [e, hb]
theorem mb_b1 {i b : Nat} (h : pop i < pop b) : mbB (some b) i = true := by unfold mbB; simp [h]
theorem mb_b2 {i b : Nat} (h : pop i = pop b) (h2 : ¬ (nI i &&& (nI i ^^^ nI b)) &&& (-(nI i ^^^ nI b)) = 0) : mbB (some b) i = true := by unfold mbB lowB; simp [h, h2]
theorem lsF_le : ∀ i, lsF c i ≤ 16
  | 0 => Nat.le_refl _
  | i + 1 => by have := lsF_le i; unfold lsF; split <;> omega
theorem gl_best (r : RowAt M 97 0 c) (hw : WF c) : ∀ i, i ≤ 2 ^ cn c → ER G ad (d + 3) mX9_best (0, 0) (PR (some (.int (oI (mbF c (2 ^ cn c))))) (M, o)) (0, 0) 4 [some (.ref (ad 96)), some (.int (oI (mbF c i))), some (.int (nI i)), none] [] (M, o) := down (2 ^ cn c) _ (fun i hi ih  => by
  have hn := hw.n
  have hk := hw.k
  have hw9 := hw.w9
  have h29 : 2 ^ cn c ≤ 512 := p2_le (n := 9) hw.n
  have hpi := pop_le i
  refine e_iload_n (pc' := 5) dX9_best_4 rfl rfl rfl ?_
  refine e_iconst (pc' := 6) (v := nI 1) dX9_best_5 rfl (by decide) ?_
  refine e_aload_n (pc' := 7) dX9_best_6 rfl rfl rfl ?_
  refine p_gfr (pc' := 10) (a := 96) (k := 0) (t := 97) dX9_best_7 rfl rfl (by decide) (by decide) rfl fl_X9_7 ?_
  refine e_iconst (pc' := 11) (v := nI 0) dX9_best_10 rfl (by decide) ?_
  refine p_iald (pc' := 12) (a := 97) (k := 0) (x := nI (cn c)) dX9_best_11 rfl (rfl) (rfl) (by first | omega | exact Nat.lt_of_le_of_lt (blkN_le _) (by omega)) (by decide) (r.n) ?_
  refine e_ishlN (pc' := 13) dX9_best_12 rfl (by omega) (by rw [Nat.one_mul]; exact Nat.lt_of_le_of_lt h29 (by decide)) ?_
  rw [show (nI (1 * 2 ^ (cn c))) = nI (2 ^ (cn c)) from by rw [Nat.one_mul]]
  refine e_icmp_geN (pc' := 16) (tgt := 74) dX9_best_13 rfl (by decide) (by first | omega | exact Nat.lt_of_le_of_lt (blkN_le _) (by omega)) (by first | omega | exact Nat.lt_of_le_of_lt (blkN_le _) (by omega)) (fun hz1 => ?_) (fun hz1 => ?_)
  · refine e_iload_n (pc' := 75) dX9_best_74 rfl rfl rfl ?_
    exact e_iret dX9_best_75 rfl (MP.ret (congrArg (fun z => some (Value.int z)) (by rw [show i = 2 ^ cn c by omega])) rfl) (by decide) (by decide)
  · refine e_aload_n (pc' := 17) dX9_best_16 rfl rfl rfl ?_
    refine e_iload_n (pc' := 18) dX9_best_17 rfl rfl rfl ?_
    refine r_V (pc' := 21) (m' := mX9_shut) (As := [.int (nI i)]) (st := []) (g_shut (d := d) r hw (w := i) (by first | omega | exact Nat.lt_of_le_of_lt (blkN_le _) (by omega))) dX9_best_18 rfl rfl (Nat.le_of_ble_eq_true rfl) (fit_of (by omega) (by decide) (by decide) (by decide)) ml_X9_100 okX9_shut rfl rfl (by decide) rfl ?_
    show EV _ _ _ _ _ 21 _ ([.int (nI (blkN c (cw c ^^^ i)))]) _
    refine e_if_leN (pc' := 24) (tgt := 27) dX9_best_21 rfl (by decide) (by first | omega | exact Nat.lt_of_le_of_lt (blkN_le _) (by omega)) (fun h0 => ?_) (fun h0 => ?_)
    · refine e_iload_n (pc' := 28) dX9_best_27 rfl rfl rfl ?_
      refine e_iload_n (pc' := 29) dX9_best_28 rfl rfl rfl ?_
      refine e_ixor (pc' := 30) dX9_best_29 rfl ?_
      refine e_istore_n (pc' := 31) (L' := [some (.ref (ad 96)), some (.int (oI (mbF c i))), some (.int (nI i)), some (.int ((nI i) ^^^ (oI (mbF c i))))]) dX9_best_30 rfl rfl (by decide) rfl ?_
      refine e_iload_n (pc' := 32) dX9_best_31 rfl rfl rfl ?_
      refine e_if_lt (pc' := 35) (tgt := 66) dX9_best_32 rfl (by decide) (fun h1 => ?_) (fun h1 => ?_)
      · refine e_iload_n (pc' := 67) dX9_best_66 rfl rfl rfl ?_
        refine e_istore_n (pc' := 68) (L' := [some (.ref (ad 96)), some (.int (nI i)), some (.int (nI i)), some (.int ((nI i) ^^^ (oI (mbF c i))))]) dX9_best_67 rfl rfl (by decide) rfl ?_
        refine e_iincN (pc' := 71) (k := 1) (L' := [some (.ref (ad 96)), some (.int (nI i)), some (.int (nI (i + 1))), some (.int ((nI i) ^^^ (oI (mbF c i))))]) dX9_best_68 rfl rfl rfl (by decide) rfl ?_
        refine e_goto (tgt := 4) dX9_best_71 (by decide) ?_
        refine e_fg (i := 3) (L' := [some (.ref (ad 96)), some (.int (nI i)), some (.int (nI (i + 1))), none]) rfl ?_
        have e : mbF c (i + 1) = some i := mb_take h0 (by first | (rw [(oI_lt0 (fun z q => by have := mbF_lt q; omega)).mp h1]; rfl) | (rw [hb]; exact mb_b1 h2) | (rw [hb]; exact mb_b2 h3 h4))
        exact ih (by omega) |> fun q => by rw [e] at q; exact q
      · obtain ⟨b, hb⟩ : ∃ b, mbF c i = some b := by
          cases hq : mbF c i with
          | none => rw [hq] at h1; exact absurd (show oI none < 0 by decide) h1
          | some b => exact ⟨b, rfl⟩
        rw [hb]
        have hbl := mbF_lt hb
        have hpb := pop_le b
        refine e_iload_n (pc' := 36) dX9_best_35 rfl rfl rfl ?_
        refine r_S (pc' := 39) (m' := mX9_bits) (As := [.int (nI i)]) (st := []) (g_bits (d := d) (w := i) (by first | omega | exact Nat.lt_of_le_of_lt (blkN_le _) (by omega))) dX9_best_36 rfl rfl (Nat.le_of_ble_eq_true rfl) (fit_of (by omega) (by decide) (by decide) (by decide)) ml_X9_127 okX9_bits rfl rfl ?_
        show EV _ _ _ _ _ 39 _ ([.int (nI (pop (i)))]) _
        refine e_iload_n (pc' := 40) dX9_best_39 rfl rfl rfl ?_
        refine r_S (pc' := 43) (m' := mX9_bits) (As := [.int (nI b)]) (st := [.int (nI (pop (i)))]) (g_bits (d := d) (w := b) (by first | omega | exact Nat.lt_of_le_of_lt (blkN_le _) (by omega))) dX9_best_40 rfl rfl (Nat.le_of_ble_eq_true rfl) (fit_of (by omega) (by decide) (by decide) (by decide)) ml_X9_127 okX9_bits rfl rfl ?_
        show EV _ _ _ _ _ 43 _ ([.int (nI (pop (b))), .int (nI (pop (i)))]) _
        refine e_icmp_ltN (pc' := 46) (tgt := 66) dX9_best_43 rfl (by decide) (by first | omega | exact Nat.lt_of_le_of_lt (blkN_le _) (by omega)) (by first | omega | exact Nat.lt_of_le_of_lt (blkN_le _) (by omega)) (fun h2 => ?_) (fun h2 => ?_)
        · refine e_iload_n (pc' := 67) dX9_best_66 rfl rfl rfl ?_
          refine e_istore_n (pc' := 68) (L' := [some (.ref (ad 96)), some (.int (nI i)), some (.int (nI i)), some (.int ((nI i) ^^^ (nI b)))]) dX9_best_67 rfl rfl (by decide) rfl ?_
          refine e_iincN (pc' := 71) (k := 1) (L' := [some (.ref (ad 96)), some (.int (nI i)), some (.int (nI (i + 1))), some (.int ((nI i) ^^^ (nI b)))]) dX9_best_68 rfl rfl rfl (by decide) rfl ?_
          refine e_goto (tgt := 4) dX9_best_71 (by decide) ?_
          refine e_fg (i := 3) (L' := [some (.ref (ad 96)), some (.int (nI i)), some (.int (nI (i + 1))), none]) rfl ?_
          have e : mbF c (i + 1) = some i := mb_take h0 (by first | (rw [(oI_lt0 (fun z q => by have := mbF_lt q; omega)).mp h1]; rfl) | (rw [hb]; exact mb_b1 h2) | (rw [hb]; exact mb_b2 h3 h4))
          exact ih (by omega) |> fun q => by rw [e] at q; exact q
        · refine e_iload_n (pc' := 47) dX9_best_46 rfl rfl rfl ?_
          refine r_S (pc' := 50) (m' := mX9_bits) (As := [.int (nI i)]) (st := []) (g_bits (d := d) (w := i) (by first | omega | exact Nat.lt_of_le_of_lt (blkN_le _) (by omega))) dX9_best_47 rfl rfl (Nat.le_of_ble_eq_true rfl) (fit_of (by omega) (by decide) (by decide) (by decide)) ml_X9_127 okX9_bits rfl rfl ?_
          show EV _ _ _ _ _ 50 _ ([.int (nI (pop (i)))]) _
          refine e_iload_n (pc' := 51) dX9_best_50 rfl rfl rfl ?_
          refine r_S (pc' := 54) (m' := mX9_bits) (As := [.int (nI b)]) (st := [.int (nI (pop (i)))]) (g_bits (d := d) (w := b) (by first | omega | exact Nat.lt_of_le_of_lt (blkN_le _) (by omega))) dX9_best_51 rfl rfl (Nat.le_of_ble_eq_true rfl) (fit_of (by omega) (by decide) (by decide) (by decide)) ml_X9_127 okX9_bits rfl rfl ?_
          show EV _ _ _ _ _ 54 _ ([.int (nI (pop (b))), .int (nI (pop (i)))]) _
          refine e_icmp_neN (pc' := 57) (tgt := 68) dX9_best_54 rfl (by decide) (by first | omega | exact Nat.lt_of_le_of_lt (blkN_le _) (by omega)) (by first | omega | exact Nat.lt_of_le_of_lt (blkN_le _) (by omega)) (fun h3 => ?_) (fun h3 => ?_)
          · refine e_iincN (pc' := 71) (k := 1) (L' := [some (.ref (ad 96)), some (.int (nI b)), some (.int (nI (i + 1))), some (.int ((nI i) ^^^ (nI b)))]) dX9_best_68 rfl rfl rfl (by decide) rfl ?_
            refine e_goto (tgt := 4) dX9_best_71 (by decide) ?_
            refine e_fg (i := 3) (L' := [some (.ref (ad 96)), some (.int (nI b)), some (.int (nI (i + 1))), none]) rfl ?_
            have e : mbF c (i + 1) = some b := mb_skip hb (by omega) (by first | exact Or.inl h3 | exact Or.inr h4)
            exact ih (by omega) |> fun q => by rw [e] at q; exact q
          · refine e_iload_n (pc' := 58) dX9_best_57 rfl rfl rfl ?_
            refine e_iload_n (pc' := 59) dX9_best_58 rfl rfl rfl ?_
            refine e_iand (pc' := 60) dX9_best_59 rfl ?_
            refine e_iload_n (pc' := 61) dX9_best_60 rfl rfl rfl ?_
            refine e_ineg (pc' := 62) dX9_best_61 rfl ?_
            refine e_iand (pc' := 63) dX9_best_62 rfl ?_
            refine e_if_eq (pc' := 66) (tgt := 68) dX9_best_63 rfl (by decide) (fun h4 => ?_) (fun h4 => ?_)
            · refine e_iincN (pc' := 71) (k := 1) (L' := [some (.ref (ad 96)), some (.int (nI b)), some (.int (nI (i + 1))), some (.int ((nI i) ^^^ (nI b)))]) dX9_best_68 rfl rfl rfl (by decide) rfl ?_
              refine e_goto (tgt := 4) dX9_best_71 (by decide) ?_
              refine e_fg (i := 3) (L' := [some (.ref (ad 96)), some (.int (nI b)), some (.int (nI (i + 1))), none]) rfl ?_
              have e : mbF c (i + 1) = some b := mb_skip hb (by omega) (by first | exact Or.inl h3 | exact Or.inr h4)
              exact ih (by omega) |> fun q => by rw [e] at q; exact q
            · refine e_iload_n (pc' := 67) dX9_best_66 rfl rfl rfl ?_
              refine e_istore_n (pc' := 68) (L' := [some (.ref (ad 96)), some (.int (nI i)), some (.int (nI i)), some (.int ((nI i) ^^^ (nI b)))]) dX9_best_67 rfl rfl (by decide) rfl ?_
              refine e_iincN (pc' := 71) (k := 1) (L' := [some (.ref (ad 96)), some (.int (nI i)), some (.int (nI (i + 1))), some (.int ((nI i) ^^^ (nI b)))]) dX9_best_68 rfl rfl rfl (by decide) rfl ?_
              refine e_goto (tgt := 4) dX9_best_71 (by decide) ?_
              refine e_fg (i := 3) (L' := [some (.ref (ad 96)), some (.int (nI i)), some (.int (nI (i + 1))), none]) rfl ?_
              have e : mbF c (i + 1) = some i := mb_take h0 (by first | (rw [(oI_lt0 (fun z q => by have := mbF_lt q; omega)).mp h1]; rfl) | (rw [hb]; exact mb_b1 h2) | (rw [hb]; exact mb_b2 h3 h4))
              exact ih (by omega) |> fun q => by rw [e] at q; exact q
    · refine e_goto (tgt := 68) dX9_best_24 (by decide) ?_
      refine e_iincN (pc' := 71) (k := 1) (L' := [some (.ref (ad 96)), some (.int (oI (mbF c i))), some (.int (nI (i + 1))), none]) dX9_best_68 rfl rfl rfl (by decide) rfl ?_
      refine e_goto (tgt := 4) dX9_best_71 (by decide) ?_
      have e : mbF c (i + 1) = mbF c i := mb_skip0 h0
      exact ih (by omega) |> fun q => by rw [e] at q; exact q)
theorem g_best (r : RowAt M 97 0 c) (hw : WF c) : RET G ad (d + 3) mX9_best [.ref (ad 96)] (M, o) (some (.int (oI (mbF c (2 ^ cn c))))) (M, o) := by
  refine CM_of rfl (by decide) rfl (Nat.le_of_ble_eq_true rfl) rfl ?_
  have hn := hw.n
  have hk := hw.k
  have hw9 := hw.w9
  refine e_iconst (pc' := 1) (v := (-1)) dX9_best_0 rfl (by decide) ?_
  refine e_istore_n (pc' := 2) (L' := [some (.ref (ad 96)), some (.int ((-1))), none, none]) dX9_best_1 rfl rfl (by decide) rfl ?_
  refine e_iconst (pc' := 3) (v := nI 0) dX9_best_2 rfl (by decide) ?_
  refine e_istore_n (pc' := 4) (L' := [some (.ref (ad 96)), some (.int ((-1))), some (.int (nI 0)), none]) dX9_best_3 rfl rfl (by decide) rfl ?_
  exact gl_best r hw 0 (Nat.zero_le _)
theorem gl_least (r : RowAt M 97 0 c) (hw : WF c) : ∀ i, i ≤ 2 ^ cn c → ER G ad (d + 3) mX9_leastShut (0, 0) (PR (some (.int (nI (lsF c (2 ^ cn c))))) (M, o)) (0, 0) 5 [some (.ref (ad 96)), some (.int (nI (lsF c i))), some (.int (nI i))] [] (M, o) := down (2 ^ cn c) _ (fun i hi ih  => by
  have hn := hw.n
  have hk := hw.k
  have hw9 := hw.w9
  have h29 : 2 ^ cn c ≤ 512 := p2_le (n := 9) hw.n
  have h3 := lsF_le (c := c) i
  refine e_iload_n (pc' := 6) dX9_leastShut_5 rfl rfl rfl ?_
  refine e_iconst (pc' := 7) (v := nI 1) dX9_leastShut_6 rfl (by decide) ?_
  refine e_aload_n (pc' := 8) dX9_leastShut_7 rfl rfl rfl ?_
  refine p_gfr (pc' := 11) (a := 96) (k := 0) (t := 97) dX9_leastShut_8 rfl rfl (by decide) (by decide) rfl fl_X9_7 ?_
  refine e_iconst (pc' := 12) (v := nI 0) dX9_leastShut_11 rfl (by decide) ?_
  refine p_iald (pc' := 13) (a := 97) (k := 0) (x := nI (cn c)) dX9_leastShut_12 rfl (rfl) (rfl) (by first | omega | exact Nat.lt_of_le_of_lt (blkN_le _) (by omega)) (by decide) (r.n) ?_
  refine e_ishlN (pc' := 14) dX9_leastShut_13 rfl (by omega) (by rw [Nat.one_mul]; exact Nat.lt_of_le_of_lt h29 (by decide)) ?_
  rw [show (nI (1 * 2 ^ (cn c))) = nI (2 ^ (cn c)) from by rw [Nat.one_mul]]
  refine e_icmp_geN (pc' := 17) (tgt := 38) dX9_leastShut_14 rfl (by decide) (by first | omega | exact Nat.lt_of_le_of_lt (blkN_le _) (by omega)) (by first | omega | exact Nat.lt_of_le_of_lt (blkN_le _) (by omega)) (fun hz1 => ?_) (fun hz1 => ?_)
  · refine e_iload_n (pc' := 39) dX9_leastShut_38 rfl rfl rfl ?_
    exact e_iret dX9_leastShut_39 rfl (MP.ret (congrArg (fun z => some (Value.int z)) (by rw [show i = 2 ^ cn c by omega])) rfl) (by decide) (by decide)
  · refine e_aload_n (pc' := 18) dX9_leastShut_17 rfl rfl rfl ?_
    refine e_iload_n (pc' := 19) dX9_leastShut_18 rfl rfl rfl ?_
    refine r_V (pc' := 22) (m' := mX9_shut) (As := [.int (nI i)]) (st := []) (g_shut (d := d) r hw (w := i) (by first | omega | exact Nat.lt_of_le_of_lt (blkN_le _) (by omega))) dX9_leastShut_19 rfl rfl (Nat.le_of_ble_eq_true rfl) (fit_of (by omega) (by decide) (by decide) (by decide)) ml_X9_100 okX9_shut rfl rfl (by decide) rfl ?_
    show EV _ _ _ _ _ 22 _ ([.int (nI (blkN c (cw c ^^^ i)))]) _
    refine e_iload_n (pc' := 23) dX9_leastShut_22 rfl rfl rfl ?_
    refine e_icmp_geN (pc' := 26) (tgt := 32) dX9_leastShut_23 rfl (by decide) (by first | omega | exact Nat.lt_of_le_of_lt (blkN_le _) (by omega)) (by first | omega | exact Nat.lt_of_le_of_lt (blkN_le _) (by omega)) (fun h1 => ?_) (fun h1 => ?_)
    · refine e_iincN (pc' := 35) (k := 1) (L' := [some (.ref (ad 96)), some (.int (nI (lsF c i))), some (.int (nI (i + 1)))]) dX9_leastShut_32 rfl rfl rfl (by decide) rfl ?_
      refine e_goto (tgt := 5) dX9_leastShut_35 (by decide) ?_
      have e : lsF c (i + 1) = lsF c i := if_neg (by omega)
      exact ih (by omega) |> fun q => by rw [e] at q; exact q
    · refine e_aload_n (pc' := 27) dX9_leastShut_26 rfl rfl rfl ?_
      refine e_iload_n (pc' := 28) dX9_leastShut_27 rfl rfl rfl ?_
      refine r_V (pc' := 31) (m' := mX9_shut) (As := [.int (nI i)]) (st := []) (g_shut (d := d) r hw (w := i) (by first | omega | exact Nat.lt_of_le_of_lt (blkN_le _) (by omega))) dX9_leastShut_28 rfl rfl (Nat.le_of_ble_eq_true rfl) (fit_of (by omega) (by decide) (by decide) (by decide)) ml_X9_100 okX9_shut rfl rfl (by decide) rfl ?_
      show EV _ _ _ _ _ 31 _ ([.int (nI (blkN c (cw c ^^^ i)))]) _
      refine e_istore_n (pc' := 32) (L' := [some (.ref (ad 96)), some (.int (nI (blkN c (cw c ^^^ i)))), some (.int (nI i))]) dX9_leastShut_31 rfl rfl (by decide) rfl ?_
      refine e_iincN (pc' := 35) (k := 1) (L' := [some (.ref (ad 96)), some (.int (nI (blkN c (cw c ^^^ i)))), some (.int (nI (i + 1)))]) dX9_leastShut_32 rfl rfl rfl (by decide) rfl ?_
      refine e_goto (tgt := 5) dX9_leastShut_35 (by decide) ?_
      have e : lsF c (i + 1) = blkN c (cw c ^^^ i) := if_pos h1
      exact ih (by omega) |> fun q => by rw [e] at q; exact q)
theorem g_least (r : RowAt M 97 0 c) (hw : WF c) : RET G ad (d + 3) mX9_leastShut [.ref (ad 96)] (M, o) (some (.int (nI (lsF c (2 ^ cn c))))) (M, o) := by
  refine CM_of rfl (by decide) rfl (Nat.le_of_ble_eq_true rfl) rfl ?_
  have hn := hw.n
  have hk := hw.k
  have hw9 := hw.w9
  refine e_bipush (pc' := 2) (v := nI 16) dX9_leastShut_0 rfl (by decide) ?_
  refine e_istore_n (pc' := 3) (L' := [some (.ref (ad 96)), some (.int (nI 16)), none]) dX9_leastShut_2 rfl rfl (by decide) rfl ?_
  refine e_iconst (pc' := 4) (v := nI 0) dX9_leastShut_3 rfl (by decide) ?_
  refine e_istore_n (pc' := 5) (L' := [some (.ref (ad 96)), some (.int (nI 16)), some (.int (nI 0))]) dX9_leastShut_4 rfl rfl (by decide) rfl ?_
  exact gl_least r hw 0 (Nat.zero_le _)
end T33

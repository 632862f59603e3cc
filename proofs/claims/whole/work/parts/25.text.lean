set_option maxHeartbeats 400000
/-! TEXT: the class's parser -/
theorem SgAt.upk {M : Nat → Nat → Int32} {A k : Nat} {x : Int32} {l : List Nat} (h : SgAt M A l) (hk : k ≠ 1) : SgAt (up2 M A k x) A l := ⟨by rw [up2_k (Ne.symm hk)]; exact h.1, fun i hi => by rw [up2_n (by omega)]; exact h.2 i hi⟩
def digA (l : List Nat) (a : Nat) : Bool := decide (a < l.length ∧ 48 ≤ l.getD a 0 ∧ l.getD a 0 ≤ 57)
def hasA (l : List Nat) (a s : Nat) : Bool := decide (a < l.length ∧ l.getD a 0 = s)
def wid (l : List Nat) (s a : Nat) : Nat := if s = 78 then (if digA l a = true then (if digA l (a + 1) = true then 2 else 1) else 0) else if s = 68 then (if digA l a = true then 1 else 0) else if s = 80 then (if hasA l a 110 = true ∨ hasA l a 115 = true then 1 else 0) else if hasA l a s = true then 1 else 0
def vof (l : List Nat) (s a w : Nat) : Nat := if s = 80 then (if hasA l a 110 = true then 1 else 0) else if w = 1 then l.getD a 0 - 48 else 10 * (l.getD a 0 - 48) + l.getD (a + 1) 0 - 48
theorem wid_le {l : List Nat} {s a : Nat} : wid l s a ≤ 2 := by unfold wid; repeat' split
                                                                all_goals omega
section T25
variable {G : gC} {ad : Nat → Nat} {d : Nat} {M : Nat → Nat → Int32} {o : (Nat → Int64) × (Nat → UInt64)} {l : List Nat}
theorem c_digit (hT : SgAt M 76 l) (hl : l.length ≤ 60) (hc : ∀ i, l.getD i 0 < 65536) {a : Nat} (ha : a < 1000) : RET G ad d mX7_isDigitAt [.ref (ad 76), .int (nI a)] (M, o) (some (.int (bI (digA l a)))) (M, o) := by
  refine CM_of rfl (by decide) rfl (Nat.le_of_ble_eq_true rfl) rfl ?_
  refine e_iload_n (pc' := 1) dX7_isDigitAt_0 rfl rfl rfl ?_
  refine e_if_ltN (pc' := 4) (tgt := 38) dX7_isDigitAt_1 rfl (by decide) (by omega) (fun hz1 => ?_) (fun hz1 => ?_)
  · refine e_iconst (pc' := 39) (v := nI 0) dX7_isDigitAt_38 rfl (by decide) ?_
    exact e_zret (ty := .boolean) dX7_isDigitAt_39 rfl (rfl) (MP.ret (congrArg (fun z => some (Value.int z)) (by first | (exfalso; omega) | exact dec1 (by omega) | exact dec0 (by omega))) rfl) (by decide) (by decide)
  · refine e_iload_n (pc' := 5) dX7_isDigitAt_4 rfl rfl rfl ?_
    refine e_aload_n (pc' := 6) dX7_isDigitAt_5 rfl rfl rfl ?_
    refine p_gfi (pc' := 9) (a := 76) (k := 1) (x := nI (l.length)) dX7_isDigitAt_6 rfl (rfl) (by decide) (by decide) rfl fl_X7_22 (hT.1) ?_
    refine e_icmp_geN (pc' := 12) (tgt := 38) dX7_isDigitAt_9 rfl (by decide) (by omega) (by omega) (fun hz2 => ?_) (fun hz2 => ?_)
    · refine e_iconst (pc' := 39) (v := nI 0) dX7_isDigitAt_38 rfl (by decide) ?_
      exact e_zret (ty := .boolean) dX7_isDigitAt_39 rfl (rfl) (MP.ret (congrArg (fun z => some (Value.int z)) (by first | (exfalso; omega) | exact dec1 (by omega) | exact dec0 (by omega))) rfl) (by decide) (by decide)
    · refine e_aload_n (pc' := 13) dX7_isDigitAt_12 rfl rfl rfl ?_
      refine p_gfr (pc' := 16) (a := 76) (k := 0) (t := 77) dX7_isDigitAt_13 rfl rfl (by decide) (by decide) rfl fl_X7_9 ?_
      refine e_iload_n (pc' := 17) dX7_isDigitAt_16 rfl rfl rfl ?_
      have hi1 : a < l.length := by omega
      have hb1 := hc a
      refine p_cald (pc' := 18) (a := 77) (k := a) (x := nI (l.getD a 0)) dX7_isDigitAt_17 rfl (rfl) (rfl) (by omega) (by decide) (hT.2 _ hi1) ?_
      refine e_bipush (pc' := 20) (v := nI 48) dX7_isDigitAt_18 rfl (by decide) ?_
      refine e_icmp_ltN (pc' := 23) (tgt := 38) dX7_isDigitAt_20 rfl (by decide) (by omega) (by omega) (fun hz3 => ?_) (fun hz3 => ?_)
      · refine e_iconst (pc' := 39) (v := nI 0) dX7_isDigitAt_38 rfl (by decide) ?_
        exact e_zret (ty := .boolean) dX7_isDigitAt_39 rfl (rfl) (MP.ret (congrArg (fun z => some (Value.int z)) (by first | (exfalso; omega) | exact dec1 (by omega) | exact dec0 (by omega))) rfl) (by decide) (by decide)
      · refine e_aload_n (pc' := 24) dX7_isDigitAt_23 rfl rfl rfl ?_
        refine p_gfr (pc' := 27) (a := 76) (k := 0) (t := 77) dX7_isDigitAt_24 rfl rfl (by decide) (by decide) rfl fl_X7_9 ?_
        refine e_iload_n (pc' := 28) dX7_isDigitAt_27 rfl rfl rfl ?_
        have hi2 : a < l.length := by omega
        have hb2 := hc a
        refine p_cald (pc' := 29) (a := 77) (k := a) (x := nI (l.getD a 0)) dX7_isDigitAt_28 rfl (rfl) (rfl) (by omega) (by decide) (hT.2 _ hi2) ?_
        refine e_bipush (pc' := 31) (v := nI 57) dX7_isDigitAt_29 rfl (by decide) ?_
        refine e_icmp_gtN (pc' := 34) (tgt := 38) dX7_isDigitAt_31 rfl (by decide) (by omega) (by omega) (fun hz4 => ?_) (fun hz4 => ?_)
        · refine e_iconst (pc' := 39) (v := nI 0) dX7_isDigitAt_38 rfl (by decide) ?_
          exact e_zret (ty := .boolean) dX7_isDigitAt_39 rfl (rfl) (MP.ret (congrArg (fun z => some (Value.int z)) (by first | (exfalso; omega) | exact dec1 (by omega) | exact dec0 (by omega))) rfl) (by decide) (by decide)
        · refine e_iconst (pc' := 35) (v := nI 1) dX7_isDigitAt_34 rfl (by decide) ?_
          refine e_goto (tgt := 39) dX7_isDigitAt_35 (by decide) ?_
          exact e_zret (ty := .boolean) dX7_isDigitAt_39 rfl (rfl) (MP.ret (congrArg (fun z => some (Value.int z)) (by first | (exfalso; omega) | exact dec1 (by omega) | exact dec0 (by omega))) rfl) (by decide) (by decide)
theorem c_hasAt (hT : SgAt M 76 l) (hl : l.length ≤ 60) (hc : ∀ i, l.getD i 0 < 65536) {a s : Nat} (ha : a < 1000) (hs : s < 65536) : RET G ad d mX7_hasAt [.ref (ad 76), .int (nI a), .int (nI s)] (M, o) (some (.int (bI (hasA l a s)))) (M, o) := by
  refine CM_of rfl (by decide) rfl (Nat.le_of_ble_eq_true rfl) rfl ?_
  refine e_iload_n (pc' := 1) dX7_hasAt_0 rfl rfl rfl ?_
  refine e_if_ltN (pc' := 4) (tgt := 26) dX7_hasAt_1 rfl (by decide) (by omega) (fun hz1 => ?_) (fun hz1 => ?_)
  · refine e_iconst (pc' := 27) (v := nI 0) dX7_hasAt_26 rfl (by decide) ?_
    exact e_zret (ty := .boolean) dX7_hasAt_27 rfl (rfl) (MP.ret (congrArg (fun z => some (Value.int z)) (by first | (exfalso; omega) | exact dec1 (by omega) | exact dec0 (by omega))) rfl) (by decide) (by decide)
  · refine e_iload_n (pc' := 5) dX7_hasAt_4 rfl rfl rfl ?_
    refine e_aload_n (pc' := 6) dX7_hasAt_5 rfl rfl rfl ?_
    refine p_gfi (pc' := 9) (a := 76) (k := 1) (x := nI (l.length)) dX7_hasAt_6 rfl (rfl) (by decide) (by decide) rfl fl_X7_22 (hT.1) ?_
    refine e_icmp_geN (pc' := 12) (tgt := 26) dX7_hasAt_9 rfl (by decide) (by omega) (by omega) (fun hz2 => ?_) (fun hz2 => ?_)
    · refine e_iconst (pc' := 27) (v := nI 0) dX7_hasAt_26 rfl (by decide) ?_
      exact e_zret (ty := .boolean) dX7_hasAt_27 rfl (rfl) (MP.ret (congrArg (fun z => some (Value.int z)) (by first | (exfalso; omega) | exact dec1 (by omega) | exact dec0 (by omega))) rfl) (by decide) (by decide)
    · refine e_aload_n (pc' := 13) dX7_hasAt_12 rfl rfl rfl ?_
      refine p_gfr (pc' := 16) (a := 76) (k := 0) (t := 77) dX7_hasAt_13 rfl rfl (by decide) (by decide) rfl fl_X7_9 ?_
      refine e_iload_n (pc' := 17) dX7_hasAt_16 rfl rfl rfl ?_
      have hi1 : a < l.length := by omega
      have hb1 := hc a
      refine p_cald (pc' := 18) (a := 77) (k := a) (x := nI (l.getD a 0)) dX7_hasAt_17 rfl (rfl) (rfl) (by omega) (by decide) (hT.2 _ hi1) ?_
      refine e_iload_n (pc' := 19) dX7_hasAt_18 rfl rfl rfl ?_
      refine e_icmp_neN (pc' := 22) (tgt := 26) dX7_hasAt_19 rfl (by decide) (by omega) (by omega) (fun hz3 => ?_) (fun hz3 => ?_)
      · refine e_iconst (pc' := 27) (v := nI 0) dX7_hasAt_26 rfl (by decide) ?_
        exact e_zret (ty := .boolean) dX7_hasAt_27 rfl (rfl) (MP.ret (congrArg (fun z => some (Value.int z)) (by first | (exfalso; omega) | exact dec1 (by omega) | exact dec0 (by omega))) rfl) (by decide) (by decide)
      · refine e_iconst (pc' := 23) (v := nI 1) dX7_hasAt_22 rfl (by decide) ?_
        refine e_goto (tgt := 27) dX7_hasAt_23 (by decide) ?_
        exact e_zret (ty := .boolean) dX7_hasAt_27 rfl (rfl) (MP.ret (congrArg (fun z => some (Value.int z)) (by first | (exfalso; omega) | exact dec1 (by omega) | exact dec0 (by omega))) rfl) (by decide) (by decide)
theorem c_width (hT : SgAt M 76 l) (hl : l.length ≤ 60) (hc : ∀ i, l.getD i 0 < 65536) {s a : Nat} (hs : s < 65536) (ha : a < 900) : RET G ad (d + 1) mX7_widthOf [.ref (ad 76), .int (nI s), .int (nI a)] (M, o) (some (.int (nI (wid l s a)))) (M, o) := by
  refine CM_of rfl (by decide) rfl (Nat.le_of_ble_eq_true rfl) rfl ?_
  refine e_iload_n (pc' := 1) dX7_widthOf_0 rfl rfl rfl ?_
  refine e_bipush (pc' := 3) (v := nI 78) dX7_widthOf_1 rfl (by decide) ?_
  refine e_icmp_neN (pc' := 6) (tgt := 26) dX7_widthOf_3 rfl (by decide) (by omega) (by omega) (fun hz1 => ?_) (fun hz1 => ?_)
  · refine e_iload_n (pc' := 27) dX7_widthOf_26 rfl rfl rfl ?_
    refine e_bipush (pc' := 29) (v := nI 78) dX7_widthOf_27 rfl (by decide) ?_
    refine e_icmp_eqN (pc' := 32) (tgt := 38) dX7_widthOf_29 rfl (by decide) (by omega) (by omega) (fun hz2 => ?_) (fun hz2 => ?_)
    · refine e_aload_n (pc' := 39) dX7_widthOf_38 rfl rfl rfl ?_
      refine e_iload_n (pc' := 40) dX7_widthOf_39 rfl rfl rfl ?_
      refine r_V (pc' := 43) (m' := mX7_isDigitAt) (As := [.int (nI a)]) (st := []) (c_digit (d := d) hT hl hc (a := a) (by omega)) dX7_widthOf_40 rfl rfl (Nat.le_of_ble_eq_true rfl) (fit_of (by omega) (by decide) (by decide) (by decide)) ml_X7_94 okX7_isDigitAt rfl rfl (by decide) rfl ?_
      show EV _ _ _ _ _ 43 _ ([.int (bI (digA l (a)))]) _
      refine e_if_eqB (pc' := 46) (tgt := 50) dX7_widthOf_43 rfl (by decide) (fun hz3 => ?_) (fun hz3 => ?_)
      · refine e_iconst (pc' := 51) (v := nI 0) dX7_widthOf_50 rfl (by decide) ?_
        exact e_iret dX7_widthOf_51 rfl (MP.ret (congrArg (fun z => some (Value.int z)) (by unfold wid; congr 1; simp_all)) rfl) (by decide) (by decide)
      · refine e_iconst (pc' := 47) (v := nI 1) dX7_widthOf_46 rfl (by decide) ?_
        refine e_goto (tgt := 51) dX7_widthOf_47 (by decide) ?_
        exact e_iret dX7_widthOf_51 rfl (MP.ret (congrArg (fun z => some (Value.int z)) (by unfold wid; congr 1; simp_all)) rfl) (by decide) (by decide)
    · refine e_iload_n (pc' := 33) dX7_widthOf_32 rfl rfl rfl ?_
      refine e_bipush (pc' := 35) (v := nI 68) dX7_widthOf_33 rfl (by decide) ?_
      refine e_icmp_neN (pc' := 38) (tgt := 52) dX7_widthOf_35 rfl (by decide) (by omega) (by omega) (fun hz4 => ?_) (fun hz4 => ?_)
      · refine e_iload_n (pc' := 53) dX7_widthOf_52 rfl rfl rfl ?_
        refine e_bipush (pc' := 55) (v := nI 80) dX7_widthOf_53 rfl (by decide) ?_
        refine e_icmp_neN (pc' := 58) (tgt := 84) dX7_widthOf_55 rfl (by decide) (by omega) (by omega) (fun hz5 => ?_) (fun hz5 => ?_)
        · refine e_aload_n (pc' := 85) dX7_widthOf_84 rfl rfl rfl ?_
          refine e_iload_n (pc' := 86) dX7_widthOf_85 rfl rfl rfl ?_
          refine e_iload_n (pc' := 87) dX7_widthOf_86 rfl rfl rfl ?_
          refine r_V (pc' := 90) (m' := mX7_hasAt) (As := [.int (nI a), .int (nI s)]) (st := []) (c_hasAt (d := d) hT hl hc (a := a) (s := s) (by omega) (by omega)) dX7_widthOf_87 rfl rfl (Nat.le_of_ble_eq_true rfl) (fit_of (by omega) (by decide) (by decide) (by decide)) ml_X7_36 okX7_hasAt rfl rfl (by decide) rfl ?_
          show EV _ _ _ _ _ 90 _ ([.int (bI (hasA l (a) (s)))]) _
          refine e_if_eqB (pc' := 93) (tgt := 97) dX7_widthOf_90 rfl (by decide) (fun hz6 => ?_) (fun hz6 => ?_)
          · refine e_iconst (pc' := 98) (v := nI 0) dX7_widthOf_97 rfl (by decide) ?_
            exact e_iret dX7_widthOf_98 rfl (MP.ret (congrArg (fun z => some (Value.int z)) (by unfold wid; congr 1; simp_all)) rfl) (by decide) (by decide)
          · refine e_iconst (pc' := 94) (v := nI 1) dX7_widthOf_93 rfl (by decide) ?_
            refine e_goto (tgt := 98) dX7_widthOf_94 (by decide) ?_
            exact e_iret dX7_widthOf_98 rfl (MP.ret (congrArg (fun z => some (Value.int z)) (by unfold wid; congr 1; simp_all)) rfl) (by decide) (by decide)
        · refine e_aload_n (pc' := 59) dX7_widthOf_58 rfl rfl rfl ?_
          refine e_iload_n (pc' := 60) dX7_widthOf_59 rfl rfl rfl ?_
          refine e_bipush (pc' := 62) (v := nI 110) dX7_widthOf_60 rfl (by decide) ?_
          refine r_V (pc' := 65) (m' := mX7_hasAt) (As := [.int (nI a), .int (nI 110)]) (st := []) (c_hasAt (d := d) hT hl hc (a := a) (s := 110) (by omega) (by omega)) dX7_widthOf_62 rfl rfl (Nat.le_of_ble_eq_true rfl) (fit_of (by omega) (by decide) (by decide) (by decide)) ml_X7_36 okX7_hasAt rfl rfl (by decide) rfl ?_
          show EV _ _ _ _ _ 65 _ ([.int (bI (hasA l (a) (110)))]) _
          refine e_if_neB (pc' := 68) (tgt := 78) dX7_widthOf_65 rfl (by decide) (fun hz7 => ?_) (fun hz7 => ?_)
          · refine e_iconst (pc' := 79) (v := nI 1) dX7_widthOf_78 rfl (by decide) ?_
            refine e_goto (tgt := 83) dX7_widthOf_79 (by decide) ?_
            exact e_iret dX7_widthOf_83 rfl (MP.ret (congrArg (fun z => some (Value.int z)) (by unfold wid; congr 1; simp_all)) rfl) (by decide) (by decide)
          · refine e_aload_n (pc' := 69) dX7_widthOf_68 rfl rfl rfl ?_
            refine e_iload_n (pc' := 70) dX7_widthOf_69 rfl rfl rfl ?_
            refine e_bipush (pc' := 72) (v := nI 115) dX7_widthOf_70 rfl (by decide) ?_
            refine r_V (pc' := 75) (m' := mX7_hasAt) (As := [.int (nI a), .int (nI 115)]) (st := []) (c_hasAt (d := d) hT hl hc (a := a) (s := 115) (by omega) (by omega)) dX7_widthOf_72 rfl rfl (Nat.le_of_ble_eq_true rfl) (fit_of (by omega) (by decide) (by decide) (by decide)) ml_X7_36 okX7_hasAt rfl rfl (by decide) rfl ?_
            show EV _ _ _ _ _ 75 _ ([.int (bI (hasA l (a) (115)))]) _
            refine e_if_eqB (pc' := 78) (tgt := 82) dX7_widthOf_75 rfl (by decide) (fun hz8 => ?_) (fun hz8 => ?_)
            · refine e_iconst (pc' := 83) (v := nI 0) dX7_widthOf_82 rfl (by decide) ?_
              exact e_iret dX7_widthOf_83 rfl (MP.ret (congrArg (fun z => some (Value.int z)) (by unfold wid; congr 1; simp_all)) rfl) (by decide) (by decide)
            · refine e_iconst (pc' := 79) (v := nI 1) dX7_widthOf_78 rfl (by decide) ?_
              refine e_goto (tgt := 83) dX7_widthOf_79 (by decide) ?_
              exact e_iret dX7_widthOf_83 rfl (MP.ret (congrArg (fun z => some (Value.int z)) (by unfold wid; congr 1; simp_all)) rfl) (by decide) (by decide)
      · refine e_aload_n (pc' := 39) dX7_widthOf_38 rfl rfl rfl ?_
        refine e_iload_n (pc' := 40) dX7_widthOf_39 rfl rfl rfl ?_
        refine r_V (pc' := 43) (m' := mX7_isDigitAt) (As := [.int (nI a)]) (st := []) (c_digit (d := d) hT hl hc (a := a) (by omega)) dX7_widthOf_40 rfl rfl (Nat.le_of_ble_eq_true rfl) (fit_of (by omega) (by decide) (by decide) (by decide)) ml_X7_94 okX7_isDigitAt rfl rfl (by decide) rfl ?_
        show EV _ _ _ _ _ 43 _ ([.int (bI (digA l (a)))]) _
        refine e_if_eqB (pc' := 46) (tgt := 50) dX7_widthOf_43 rfl (by decide) (fun hz9 => ?_) (fun hz9 => ?_)
        · refine e_iconst (pc' := 51) (v := nI 0) dX7_widthOf_50 rfl (by decide) ?_
          exact e_iret dX7_widthOf_51 rfl (MP.ret (congrArg (fun z => some (Value.int z)) (by unfold wid; congr 1; simp_all)) rfl) (by decide) (by decide)
        · refine e_iconst (pc' := 47) (v := nI 1) dX7_widthOf_46 rfl (by decide) ?_
          refine e_goto (tgt := 51) dX7_widthOf_47 (by decide) ?_
          exact e_iret dX7_widthOf_51 rfl (MP.ret (congrArg (fun z => some (Value.int z)) (by unfold wid; congr 1; simp_all)) rfl) (by decide) (by decide)
  · refine e_aload_n (pc' := 7) dX7_widthOf_6 rfl rfl rfl ?_
    refine e_iload_n (pc' := 8) dX7_widthOf_7 rfl rfl rfl ?_
    refine r_V (pc' := 11) (m' := mX7_isDigitAt) (As := [.int (nI a)]) (st := []) (c_digit (d := d) hT hl hc (a := a) (by omega)) dX7_widthOf_8 rfl rfl (Nat.le_of_ble_eq_true rfl) (fit_of (by omega) (by decide) (by decide) (by decide)) ml_X7_94 okX7_isDigitAt rfl rfl (by decide) rfl ?_
    show EV _ _ _ _ _ 11 _ ([.int (bI (digA l (a)))]) _
    refine e_if_eqB (pc' := 14) (tgt := 26) dX7_widthOf_11 rfl (by decide) (fun hz10 => ?_) (fun hz10 => ?_)
    · refine e_iload_n (pc' := 27) dX7_widthOf_26 rfl rfl rfl ?_
      refine e_bipush (pc' := 29) (v := nI 78) dX7_widthOf_27 rfl (by decide) ?_
      refine e_icmp_eqN (pc' := 32) (tgt := 38) dX7_widthOf_29 rfl (by decide) (by omega) (by omega) (fun hz11 => ?_) (fun hz11 => ?_)
      · refine e_aload_n (pc' := 39) dX7_widthOf_38 rfl rfl rfl ?_
        refine e_iload_n (pc' := 40) dX7_widthOf_39 rfl rfl rfl ?_
        refine r_V (pc' := 43) (m' := mX7_isDigitAt) (As := [.int (nI a)]) (st := []) (c_digit (d := d) hT hl hc (a := a) (by omega)) dX7_widthOf_40 rfl rfl (Nat.le_of_ble_eq_true rfl) (fit_of (by omega) (by decide) (by decide) (by decide)) ml_X7_94 okX7_isDigitAt rfl rfl (by decide) rfl ?_
        show EV _ _ _ _ _ 43 _ ([.int (bI (digA l (a)))]) _
        refine e_if_eqB (pc' := 46) (tgt := 50) dX7_widthOf_43 rfl (by decide) (fun hz12 => ?_) (fun hz12 => ?_)
        · refine e_iconst (pc' := 51) (v := nI 0) dX7_widthOf_50 rfl (by decide) ?_
          exact e_iret dX7_widthOf_51 rfl (MP.ret (congrArg (fun z => some (Value.int z)) (by unfold wid; congr 1; simp_all)) rfl) (by decide) (by decide)
        · refine e_iconst (pc' := 47) (v := nI 1) dX7_widthOf_46 rfl (by decide) ?_
          refine e_goto (tgt := 51) dX7_widthOf_47 (by decide) ?_
          exact e_iret dX7_widthOf_51 rfl (MP.ret (congrArg (fun z => some (Value.int z)) (by unfold wid; congr 1; simp_all)) rfl) (by decide) (by decide)
      · refine e_iload_n (pc' := 33) dX7_widthOf_32 rfl rfl rfl ?_
        refine e_bipush (pc' := 35) (v := nI 68) dX7_widthOf_33 rfl (by decide) ?_
        refine e_icmp_neN (pc' := 38) (tgt := 52) dX7_widthOf_35 rfl (by decide) (by omega) (by omega) (fun hz13 => ?_) (fun hz13 => ?_)
        · refine e_iload_n (pc' := 53) dX7_widthOf_52 rfl rfl rfl ?_
          refine e_bipush (pc' := 55) (v := nI 80) dX7_widthOf_53 rfl (by decide) ?_
          refine e_icmp_neN (pc' := 58) (tgt := 84) dX7_widthOf_55 rfl (by decide) (by omega) (by omega) (fun hz14 => ?_) (fun hz14 => ?_)
          · refine e_aload_n (pc' := 85) dX7_widthOf_84 rfl rfl rfl ?_
            refine e_iload_n (pc' := 86) dX7_widthOf_85 rfl rfl rfl ?_
            refine e_iload_n (pc' := 87) dX7_widthOf_86 rfl rfl rfl ?_
            refine r_V (pc' := 90) (m' := mX7_hasAt) (As := [.int (nI a), .int (nI s)]) (st := []) (c_hasAt (d := d) hT hl hc (a := a) (s := s) (by omega) (by omega)) dX7_widthOf_87 rfl rfl (Nat.le_of_ble_eq_true rfl) (fit_of (by omega) (by decide) (by decide) (by decide)) ml_X7_36 okX7_hasAt rfl rfl (by decide) rfl ?_
            show EV _ _ _ _ _ 90 _ ([.int (bI (hasA l (a) (s)))]) _
            refine e_if_eqB (pc' := 93) (tgt := 97) dX7_widthOf_90 rfl (by decide) (fun hz15 => ?_) (fun hz15 => ?_)
            · refine e_iconst (pc' := 98) (v := nI 0) dX7_widthOf_97 rfl (by decide) ?_
              exact e_iret dX7_widthOf_98 rfl (MP.ret (congrArg (fun z => some (Value.int z)) (by unfold wid; congr 1; simp_all)) rfl) (by decide) (by decide)
            · refine e_iconst (pc' := 94) (v := nI 1) dX7_widthOf_93 rfl (by decide) ?_
              refine e_goto (tgt := 98) dX7_widthOf_94 (by decide) ?_
              exact e_iret dX7_widthOf_98 rfl (MP.ret (congrArg (fun z => some (Value.int z)) (by unfold wid; congr 1; simp_all)) rfl) (by decide) (by decide)
          · refine e_aload_n (pc' := 59) dX7_widthOf_58 rfl rfl rfl ?_
            refine e_iload_n (pc' := 60) dX7_widthOf_59 rfl rfl rfl ?_
            refine e_bipush (pc' := 62) (v := nI 110) dX7_widthOf_60 rfl (by decide) ?_
            refine r_V (pc' := 65) (m' := mX7_hasAt) (As := [.int (nI a), .int (nI 110)]) (st := []) (c_hasAt (d := d) hT hl hc (a := a) (s := 110) (by omega) (by omega)) dX7_widthOf_62 rfl rfl (Nat.le_of_ble_eq_true rfl) (fit_of (by omega) (by decide) (by decide) (by decide)) ml_X7_36 okX7_hasAt rfl rfl (by decide) rfl ?_
            show EV _ _ _ _ _ 65 _ ([.int (bI (hasA l (a) (110)))]) _
            refine e_if_neB (pc' := 68) (tgt := 78) dX7_widthOf_65 rfl (by decide) (fun hz16 => ?_) (fun hz16 => ?_)
            · refine e_iconst (pc' := 79) (v := nI 1) dX7_widthOf_78 rfl (by decide) ?_
              refine e_goto (tgt := 83) dX7_widthOf_79 (by decide) ?_
              exact e_iret dX7_widthOf_83 rfl (MP.ret (congrArg (fun z => some (Value.int z)) (by unfold wid; congr 1; simp_all)) rfl) (by decide) (by decide)
            · refine e_aload_n (pc' := 69) dX7_widthOf_68 rfl rfl rfl ?_
              refine e_iload_n (pc' := 70) dX7_widthOf_69 rfl rfl rfl ?_
              refine e_bipush (pc' := 72) (v := nI 115) dX7_widthOf_70 rfl (by decide) ?_
              refine r_V (pc' := 75) (m' := mX7_hasAt) (As := [.int (nI a), .int (nI 115)]) (st := []) (c_hasAt (d := d) hT hl hc (a := a) (s := 115) (by omega) (by omega)) dX7_widthOf_72 rfl rfl (Nat.le_of_ble_eq_true rfl) (fit_of (by omega) (by decide) (by decide) (by decide)) ml_X7_36 okX7_hasAt rfl rfl (by decide) rfl ?_
              show EV _ _ _ _ _ 75 _ ([.int (bI (hasA l (a) (115)))]) _
              refine e_if_eqB (pc' := 78) (tgt := 82) dX7_widthOf_75 rfl (by decide) (fun hz17 => ?_) (fun hz17 => ?_)
              · refine e_iconst (pc' := 83) (v := nI 0) dX7_widthOf_82 rfl (by decide) ?_
                exact e_iret dX7_widthOf_83 rfl (MP.ret (congrArg (fun z => some (Value.int z)) (by unfold wid; congr 1; simp_all)) rfl) (by decide) (by decide)
              · refine e_iconst (pc' := 79) (v := nI 1) dX7_widthOf_78 rfl (by decide) ?_
                refine e_goto (tgt := 83) dX7_widthOf_79 (by decide) ?_
                exact e_iret dX7_widthOf_83 rfl (MP.ret (congrArg (fun z => some (Value.int z)) (by unfold wid; congr 1; simp_all)) rfl) (by decide) (by decide)
        · refine e_aload_n (pc' := 39) dX7_widthOf_38 rfl rfl rfl ?_
          refine e_iload_n (pc' := 40) dX7_widthOf_39 rfl rfl rfl ?_
          refine r_V (pc' := 43) (m' := mX7_isDigitAt) (As := [.int (nI a)]) (st := []) (c_digit (d := d) hT hl hc (a := a) (by omega)) dX7_widthOf_40 rfl rfl (Nat.le_of_ble_eq_true rfl) (fit_of (by omega) (by decide) (by decide) (by decide)) ml_X7_94 okX7_isDigitAt rfl rfl (by decide) rfl ?_
          show EV _ _ _ _ _ 43 _ ([.int (bI (digA l (a)))]) _
          refine e_if_eqB (pc' := 46) (tgt := 50) dX7_widthOf_43 rfl (by decide) (fun hz18 => ?_) (fun hz18 => ?_)
          · refine e_iconst (pc' := 51) (v := nI 0) dX7_widthOf_50 rfl (by decide) ?_
            exact e_iret dX7_widthOf_51 rfl (MP.ret (congrArg (fun z => some (Value.int z)) (by unfold wid; congr 1; simp_all)) rfl) (by decide) (by decide)
          · refine e_iconst (pc' := 47) (v := nI 1) dX7_widthOf_46 rfl (by decide) ?_
            refine e_goto (tgt := 51) dX7_widthOf_47 (by decide) ?_
            exact e_iret dX7_widthOf_51 rfl (MP.ret (congrArg (fun z => some (Value.int z)) (by unfold wid; congr 1; simp_all)) rfl) (by decide) (by decide)
    · refine e_aload_n (pc' := 15) dX7_widthOf_14 rfl rfl rfl ?_
      refine e_iload_n (pc' := 16) dX7_widthOf_15 rfl rfl rfl ?_
      refine e_iconst (pc' := 17) (v := nI 1) dX7_widthOf_16 rfl (by decide) ?_
      refine e_iaddN (pc' := 18) dX7_widthOf_17 rfl ?_
      refine r_V (pc' := 21) (m' := mX7_isDigitAt) (As := [.int (nI (a + 1))]) (st := []) (c_digit (d := d) hT hl hc (a := a + 1) (by omega)) dX7_widthOf_18 rfl rfl (Nat.le_of_ble_eq_true rfl) (fit_of (by omega) (by decide) (by decide) (by decide)) ml_X7_94 okX7_isDigitAt rfl rfl (by decide) rfl ?_
      show EV _ _ _ _ _ 21 _ ([.int (bI (digA l (a + 1)))]) _
      refine e_if_eqB (pc' := 24) (tgt := 26) dX7_widthOf_21 rfl (by decide) (fun hz19 => ?_) (fun hz19 => ?_)
      · refine e_iload_n (pc' := 27) dX7_widthOf_26 rfl rfl rfl ?_
        refine e_bipush (pc' := 29) (v := nI 78) dX7_widthOf_27 rfl (by decide) ?_
        refine e_icmp_eqN (pc' := 32) (tgt := 38) dX7_widthOf_29 rfl (by decide) (by omega) (by omega) (fun hz20 => ?_) (fun hz20 => ?_)
        · refine e_aload_n (pc' := 39) dX7_widthOf_38 rfl rfl rfl ?_
          refine e_iload_n (pc' := 40) dX7_widthOf_39 rfl rfl rfl ?_
          refine r_V (pc' := 43) (m' := mX7_isDigitAt) (As := [.int (nI a)]) (st := []) (c_digit (d := d) hT hl hc (a := a) (by omega)) dX7_widthOf_40 rfl rfl (Nat.le_of_ble_eq_true rfl) (fit_of (by omega) (by decide) (by decide) (by decide)) ml_X7_94 okX7_isDigitAt rfl rfl (by decide) rfl ?_
          show EV _ _ _ _ _ 43 _ ([.int (bI (digA l (a)))]) _
          refine e_if_eqB (pc' := 46) (tgt := 50) dX7_widthOf_43 rfl (by decide) (fun hz21 => ?_) (fun hz21 => ?_)
          · refine e_iconst (pc' := 51) (v := nI 0) dX7_widthOf_50 rfl (by decide) ?_
            exact e_iret dX7_widthOf_51 rfl (MP.ret (congrArg (fun z => some (Value.int z)) (by unfold wid; congr 1; simp_all)) rfl) (by decide) (by decide)
          · refine e_iconst (pc' := 47) (v := nI 1) dX7_widthOf_46 rfl (by decide) ?_
            refine e_goto (tgt := 51) dX7_widthOf_47 (by decide) ?_
            exact e_iret dX7_widthOf_51 rfl (MP.ret (congrArg (fun z => some (Value.int z)) (by unfold wid; congr 1; simp_all)) rfl) (by decide) (by decide)
        · refine e_iload_n (pc' := 33) dX7_widthOf_32 rfl rfl rfl ?_
          refine e_bipush (pc' := 35) (v := nI 68) dX7_widthOf_33 rfl (by decide) ?_
          refine e_icmp_neN (pc' := 38) (tgt := 52) dX7_widthOf_35 rfl (by decide) (by omega) (by omega) (fun hz22 => ?_) (fun hz22 => ?_)
          · refine e_iload_n (pc' := 53) dX7_widthOf_52 rfl rfl rfl ?_
            refine e_bipush (pc' := 55) (v := nI 80) dX7_widthOf_53 rfl (by decide) ?_
            refine e_icmp_neN (pc' := 58) (tgt := 84) dX7_widthOf_55 rfl (by decide) (by omega) (by omega) (fun hz23 => ?_) (fun hz23 => ?_)
            · refine e_aload_n (pc' := 85) dX7_widthOf_84 rfl rfl rfl ?_
              refine e_iload_n (pc' := 86) dX7_widthOf_85 rfl rfl rfl ?_
              refine e_iload_n (pc' := 87) dX7_widthOf_86 rfl rfl rfl ?_
              refine r_V (pc' := 90) (m' := mX7_hasAt) (As := [.int (nI a), .int (nI s)]) (st := []) (c_hasAt (d := d) hT hl hc (a := a) (s := s) (by omega) (by omega)) dX7_widthOf_87 rfl rfl (Nat.le_of_ble_eq_true rfl) (fit_of (by omega) (by decide) (by decide) (by decide)) ml_X7_36 okX7_hasAt rfl rfl (by decide) rfl ?_
              show EV _ _ _ _ _ 90 _ ([.int (bI (hasA l (a) (s)))]) _
              refine e_if_eqB (pc' := 93) (tgt := 97) dX7_widthOf_90 rfl (by decide) (fun hz24 => ?_) (fun hz24 => ?_)
              · refine e_iconst (pc' := 98) (v := nI 0) dX7_widthOf_97 rfl (by decide) ?_
                exact e_iret dX7_widthOf_98 rfl (MP.ret (congrArg (fun z => some (Value.int z)) (by unfold wid; congr 1; simp_all)) rfl) (by decide) (by decide)
              · refine e_iconst (pc' := 94) (v := nI 1) dX7_widthOf_93 rfl (by decide) ?_
                refine e_goto (tgt := 98) dX7_widthOf_94 (by decide) ?_
                exact e_iret dX7_widthOf_98 rfl (MP.ret (congrArg (fun z => some (Value.int z)) (by unfold wid; congr 1; simp_all)) rfl) (by decide) (by decide)
            · refine e_aload_n (pc' := 59) dX7_widthOf_58 rfl rfl rfl ?_
              refine e_iload_n (pc' := 60) dX7_widthOf_59 rfl rfl rfl ?_
              refine e_bipush (pc' := 62) (v := nI 110) dX7_widthOf_60 rfl (by decide) ?_
              refine r_V (pc' := 65) (m' := mX7_hasAt) (As := [.int (nI a), .int (nI 110)]) (st := []) (c_hasAt (d := d) hT hl hc (a := a) (s := 110) (by omega) (by omega)) dX7_widthOf_62 rfl rfl (Nat.le_of_ble_eq_true rfl) (fit_of (by omega) (by decide) (by decide) (by decide)) ml_X7_36 okX7_hasAt rfl rfl (by decide) rfl ?_
              show EV _ _ _ _ _ 65 _ ([.int (bI (hasA l (a) (110)))]) _
              refine e_if_neB (pc' := 68) (tgt := 78) dX7_widthOf_65 rfl (by decide) (fun hz25 => ?_) (fun hz25 => ?_)
              · refine e_iconst (pc' := 79) (v := nI 1) dX7_widthOf_78 rfl (by decide) ?_
                refine e_goto (tgt := 83) dX7_widthOf_79 (by decide) ?_
                exact e_iret dX7_widthOf_83 rfl (MP.ret (congrArg (fun z => some (Value.int z)) (by unfold wid; congr 1; simp_all)) rfl) (by decide) (by decide)
              · refine e_aload_n (pc' := 69) dX7_widthOf_68 rfl rfl rfl ?_
                refine e_iload_n (pc' := 70) dX7_widthOf_69 rfl rfl rfl ?_
                refine e_bipush (pc' := 72) (v := nI 115) dX7_widthOf_70 rfl (by decide) ?_
                refine r_V (pc' := 75) (m' := mX7_hasAt) (As := [.int (nI a), .int (nI 115)]) (st := []) (c_hasAt (d := d) hT hl hc (a := a) (s := 115) (by omega) (by omega)) dX7_widthOf_72 rfl rfl (Nat.le_of_ble_eq_true rfl) (fit_of (by omega) (by decide) (by decide) (by decide)) ml_X7_36 okX7_hasAt rfl rfl (by decide) rfl ?_
                show EV _ _ _ _ _ 75 _ ([.int (bI (hasA l (a) (115)))]) _
                refine e_if_eqB (pc' := 78) (tgt := 82) dX7_widthOf_75 rfl (by decide) (fun hz26 => ?_) (fun hz26 => ?_)
                · refine e_iconst (pc' := 83) (v := nI 0) dX7_widthOf_82 rfl (by decide) ?_
                  exact e_iret dX7_widthOf_83 rfl (MP.ret (congrArg (fun z => some (Value.int z)) (by unfold wid; congr 1; simp_all)) rfl) (by decide) (by decide)
                · refine e_iconst (pc' := 79) (v := nI 1) dX7_widthOf_78 rfl (by decide) ?_
                  refine e_goto (tgt := 83) dX7_widthOf_79 (by decide) ?_
                  exact e_iret dX7_widthOf_83 rfl (MP.ret (congrArg (fun z => some (Value.int z)) (by unfold wid; congr 1; simp_all)) rfl) (by decide) (by decide)
          · refine e_aload_n (pc' := 39) dX7_widthOf_38 rfl rfl rfl ?_
            refine e_iload_n (pc' := 40) dX7_widthOf_39 rfl rfl rfl ?_
            refine r_V (pc' := 43) (m' := mX7_isDigitAt) (As := [.int (nI a)]) (st := []) (c_digit (d := d) hT hl hc (a := a) (by omega)) dX7_widthOf_40 rfl rfl (Nat.le_of_ble_eq_true rfl) (fit_of (by omega) (by decide) (by decide) (by decide)) ml_X7_94 okX7_isDigitAt rfl rfl (by decide) rfl ?_
            show EV _ _ _ _ _ 43 _ ([.int (bI (digA l (a)))]) _
            refine e_if_eqB (pc' := 46) (tgt := 50) dX7_widthOf_43 rfl (by decide) (fun hz27 => ?_) (fun hz27 => ?_)
            · refine e_iconst (pc' := 51) (v := nI 0) dX7_widthOf_50 rfl (by decide) ?_
              exact e_iret dX7_widthOf_51 rfl (MP.ret (congrArg (fun z => some (Value.int z)) (by unfold wid; congr 1; simp_all)) rfl) (by decide) (by decide)
            · refine e_iconst (pc' := 47) (v := nI 1) dX7_widthOf_46 rfl (by decide) ?_
              refine e_goto (tgt := 51) dX7_widthOf_47 (by decide) ?_
              exact e_iret dX7_widthOf_51 rfl (MP.ret (congrArg (fun z => some (Value.int z)) (by unfold wid; congr 1; simp_all)) rfl) (by decide) (by decide)
      · refine e_iconst (pc' := 25) (v := nI 2) dX7_widthOf_24 rfl (by decide) ?_
        exact e_iret dX7_widthOf_25 rfl (MP.ret (congrArg (fun z => some (Value.int z)) (by unfold wid; congr 1; simp_all)) rfl) (by decide) (by decide)
theorem dig_b {a : Nat} (h : digA l a = true) : a < l.length ∧ 48 ≤ l.getD a 0 ∧ l.getD a 0 ≤ 57 := of_decide_eq_true h
theorem wid_dig {s a : Nat} (hs : s = 78 ∨ s = 68) (h : ¬ wid l s a = 0) : digA l a = true ∧ (¬ wid l s a = 1 → digA l (a + 1) = true) := by
  unfold wid at h ⊢
  rcases hs with rfl | rfl
  · by_cases q : digA l a = true
    · by_cases r : digA l (a + 1) = true
      · exact ⟨q, fun _ => r⟩
      · simp_all
    · simp_all
  · by_cases q : digA l a = true
    · simp_all
    · simp_all
theorem c_value (hT : SgAt M 76 l) (hl : l.length ≤ 60) (hc : ∀ i, l.getD i 0 < 65536) {s a : Nat} (hs : s = 78 ∨ s = 68 ∨ s = 80) (ha : a < 900) (hw : ¬ wid l s a = 0) : RET G ad (d + 1) mX7_valueOf [.ref (ad 76), .int (nI s), .int (nI a), .int (nI (wid l s a))] (M, o) (some (.int (nI (vof l s a (wid l s a))))) (M, o) := by
  refine CM_of rfl (by decide) rfl (Nat.le_of_ble_eq_true rfl) rfl ?_
  have hw2 := wid_le (l := l) (s := s) (a := a)
  refine e_iload_n (pc' := 1) dX7_valueOf_0 rfl rfl rfl ?_
  refine e_bipush (pc' := 3) (v := nI 80) dX7_valueOf_1 rfl (by decide) ?_
  refine e_icmp_neN (pc' := 6) (tgt := 22) dX7_valueOf_3 rfl (by decide) (by omega) (by omega) (fun h1 => ?_) (fun h1 => ?_)
  · obtain ⟨hd1, hd2⟩ := wid_dig (by omega) hw
    obtain ⟨q1, q2, q3⟩ := dig_b hd1
    refine e_aload_n (pc' := 23) dX7_valueOf_22 rfl rfl rfl ?_
    refine p_gfr (pc' := 26) (a := 76) (k := 0) (t := 77) dX7_valueOf_23 rfl rfl (by decide) (by decide) rfl fl_X7_9 ?_
    refine e_iload_n (pc' := 27) dX7_valueOf_26 rfl rfl rfl ?_
    have hi1 : a < l.length := by omega
    have hb1 := hc a
    refine p_cald (pc' := 28) (a := 77) (k := a) (x := nI (l.getD a 0)) dX7_valueOf_27 rfl (rfl) (rfl) (by omega) (by decide) (hT.2 _ hi1) ?_
    refine e_bipush (pc' := 30) (v := nI 48) dX7_valueOf_28 rfl (by decide) ?_
    refine e_isubN (pc' := 31) dX7_valueOf_30 rfl (by omega) ?_
    refine e_istore (pc' := 33) (L' := [some (.ref (ad 76)), some (.int (nI s)), some (.int (nI a)), some (.int (nI (wid l s a))), some (.int (nI ((l.getD a 0) - 48)))]) dX7_valueOf_31 rfl (by decide) rfl ?_
    refine e_iload_n (pc' := 34) dX7_valueOf_33 rfl rfl rfl ?_
    refine e_iconst (pc' := 35) (v := nI 1) dX7_valueOf_34 rfl (by decide) ?_
    refine e_icmp_neN (pc' := 38) (tgt := 43) dX7_valueOf_35 rfl (by decide) (by omega) (by omega) (fun h3 => ?_) (fun h3 => ?_)
    · obtain ⟨q4, q5, q6⟩ := dig_b (hd2 h3)
      refine e_bipush (pc' := 45) (v := nI 10) dX7_valueOf_43 rfl (by decide) ?_
      refine e_iload (pc' := 47) dX7_valueOf_45 rfl rfl ?_
      refine e_imulN (pc' := 48) dX7_valueOf_47 rfl ?_
      refine e_aload_n (pc' := 49) dX7_valueOf_48 rfl rfl rfl ?_
      refine p_gfr (pc' := 52) (a := 76) (k := 0) (t := 77) dX7_valueOf_49 rfl rfl (by decide) (by decide) rfl fl_X7_9 ?_
      refine e_iload_n (pc' := 53) dX7_valueOf_52 rfl rfl rfl ?_
      refine e_iconst (pc' := 54) (v := nI 1) dX7_valueOf_53 rfl (by decide) ?_
      refine e_iaddN (pc' := 55) dX7_valueOf_54 rfl ?_
      have hi2 : a + 1 < l.length := by omega
      have hb2 := hc (a + 1)
      refine p_cald (pc' := 56) (a := 77) (k := a + 1) (x := nI (l.getD (a + 1) 0)) dX7_valueOf_55 rfl (rfl) (rfl) (by omega) (by decide) (hT.2 _ hi2) ?_
      refine e_iaddN (pc' := 57) dX7_valueOf_56 rfl ?_
      refine e_bipush (pc' := 59) (v := nI 48) dX7_valueOf_57 rfl (by decide) ?_
      refine e_isubN (pc' := 60) dX7_valueOf_59 rfl (by omega) ?_
      exact e_iret dX7_valueOf_60 rfl (MP.ret (congrArg (fun z => some (Value.int z)) (by unfold vof; first | rw [if_pos h1, if_pos h2] | rw [if_pos h1, if_neg (by rw [h2]; decide)] | rw [if_neg h1, if_pos h3] | rw [if_neg h1, if_neg h3])) rfl) (by decide) (by decide)
    · refine e_iload (pc' := 40) dX7_valueOf_38 rfl rfl ?_
      refine e_goto (tgt := 60) dX7_valueOf_40 (by decide) ?_
      exact e_iret dX7_valueOf_60 rfl (MP.ret (congrArg (fun z => some (Value.int z)) (by unfold vof; first | rw [if_pos h1, if_pos h2] | rw [if_pos h1, if_neg (by rw [h2]; decide)] | rw [if_neg h1, if_pos h3] | rw [if_neg h1, if_neg h3])) rfl) (by decide) (by decide)
  · refine e_aload_n (pc' := 7) dX7_valueOf_6 rfl rfl rfl ?_
    refine e_iload_n (pc' := 8) dX7_valueOf_7 rfl rfl rfl ?_
    refine e_bipush (pc' := 10) (v := nI 110) dX7_valueOf_8 rfl (by decide) ?_
    refine r_V (pc' := 13) (m' := mX7_hasAt) (As := [.int (nI a), .int (nI 110)]) (st := []) (c_hasAt (d := d) hT hl hc (a := a) (s := 110) (by omega) (by omega)) dX7_valueOf_10 rfl rfl (Nat.le_of_ble_eq_true rfl) (fit_of (by omega) (by decide) (by decide) (by decide)) ml_X7_36 okX7_hasAt rfl rfl (by decide) rfl ?_
    show EV _ _ _ _ _ 13 _ ([.int (bI (hasA l (a) (110)))]) _
    refine e_if_eqB (pc' := 16) (tgt := 20) dX7_valueOf_13 rfl (by decide) (fun h2 => ?_) (fun h2 => ?_)
    · refine e_iconst (pc' := 21) (v := nI 0) dX7_valueOf_20 rfl (by decide) ?_
      exact e_iret dX7_valueOf_21 rfl (MP.ret (congrArg (fun z => some (Value.int z)) (by unfold vof; first | rw [if_pos h1, if_pos h2] | rw [if_pos h1, if_neg (by rw [h2]; decide)] | rw [if_neg h1, if_pos h3] | rw [if_neg h1, if_neg h3])) rfl) (by decide) (by decide)
    · refine e_iconst (pc' := 17) (v := nI 1) dX7_valueOf_16 rfl (by decide) ?_
      refine e_goto (tgt := 21) dX7_valueOf_17 (by decide) ?_
      exact e_iret dX7_valueOf_21 rfl (MP.ret (congrArg (fun z => some (Value.int z)) (by unfold vof; first | rw [if_pos h1, if_pos h2] | rw [if_pos h1, if_neg (by rw [h2]; decide)] | rw [if_neg h1, if_pos h3] | rw [if_neg h1, if_neg h3])) rfl) (by decide) (by decide)
theorem c_shape0  : RET G ad d mX7_shapeOf [.int (nI 0)] (M, o) (some (.ref (gK G 0))) (M, o) := by
  refine CM_of rfl (by decide) rfl (Nat.le_of_ble_eq_true rfl) rfl ?_
  refine e_iload_n (pc' := 1) dX7_shapeOf_0 rfl rfl rfl ?_
  refine e_tableIn (tgt := 44) (off := 43) dX7_shapeOf_1 (by decide) (by decide) (by decide) (by decide) ?_
  refine e_ldcS (pc' := 46) dX7_shapeOf_44 rfl st_X7_44 ?_
  exact e_aret dX7_shapeOf_46 rfl (MP.ret rfl rfl) (by decide) (by decide)
theorem c_shape1  : RET G ad d mX7_shapeOf [.int (nI 1)] (M, o) (some (.ref (gK G 1))) (M, o) := by
  refine CM_of rfl (by decide) rfl (Nat.le_of_ble_eq_true rfl) rfl ?_
  refine e_iload_n (pc' := 1) dX7_shapeOf_0 rfl rfl rfl ?_
  refine e_tableIn (tgt := 47) (off := 46) dX7_shapeOf_1 (by decide) (by decide) (by decide) (by decide) ?_
  refine e_ldcS (pc' := 49) dX7_shapeOf_47 rfl st_X7_46 ?_
  exact e_aret dX7_shapeOf_49 rfl (MP.ret rfl rfl) (by decide) (by decide)
theorem c_shape2  : RET G ad d mX7_shapeOf [.int (nI 2)] (M, o) (some (.ref (gK G 2))) (M, o) := by
  refine CM_of rfl (by decide) rfl (Nat.le_of_ble_eq_true rfl) rfl ?_
  refine e_iload_n (pc' := 1) dX7_shapeOf_0 rfl rfl rfl ?_
  refine e_tableIn (tgt := 50) (off := 49) dX7_shapeOf_1 (by decide) (by decide) (by decide) (by decide) ?_
  refine e_ldcS (pc' := 52) dX7_shapeOf_50 rfl st_X7_48 ?_
  exact e_aret dX7_shapeOf_52 rfl (MP.ret rfl rfl) (by decide) (by decide)
theorem c_shape3  : RET G ad d mX7_shapeOf [.int (nI 3)] (M, o) (some (.ref (gK G 3))) (M, o) := by
  refine CM_of rfl (by decide) rfl (Nat.le_of_ble_eq_true rfl) rfl ?_
  refine e_iload_n (pc' := 1) dX7_shapeOf_0 rfl rfl rfl ?_
  refine e_tableIn (tgt := 53) (off := 52) dX7_shapeOf_1 (by decide) (by decide) (by decide) (by decide) ?_
  refine e_ldcS (pc' := 55) dX7_shapeOf_53 rfl st_X7_50 ?_
  exact e_aret dX7_shapeOf_55 rfl (MP.ret rfl rfl) (by decide) (by decide)
theorem c_shape4  : RET G ad d mX7_shapeOf [.int (nI 4)] (M, o) (some (.ref (gK G 4))) (M, o) := by
  refine CM_of rfl (by decide) rfl (Nat.le_of_ble_eq_true rfl) rfl ?_
  refine e_iload_n (pc' := 1) dX7_shapeOf_0 rfl rfl rfl ?_
  refine e_tableIn (tgt := 56) (off := 55) dX7_shapeOf_1 (by decide) (by decide) (by decide) (by decide) ?_
  refine e_ldcS (pc' := 58) dX7_shapeOf_56 rfl st_X7_52 ?_
  exact e_aret dX7_shapeOf_58 rfl (MP.ret rfl rfl) (by decide) (by decide)
theorem c_shape5  : RET G ad d mX7_shapeOf [.int (nI 5)] (M, o) (some (.ref (gK G 5))) (M, o) := by
  refine CM_of rfl (by decide) rfl (Nat.le_of_ble_eq_true rfl) rfl ?_
  refine e_iload_n (pc' := 1) dX7_shapeOf_0 rfl rfl rfl ?_
  refine e_tableIn (tgt := 59) (off := 58) dX7_shapeOf_1 (by decide) (by decide) (by decide) (by decide) ?_
  refine e_ldcS (pc' := 61) dX7_shapeOf_59 rfl st_X7_54 ?_
  exact e_aret dX7_shapeOf_61 rfl (MP.ret rfl rfl) (by decide) (by decide)
theorem c_shape6  : RET G ad d mX7_shapeOf [.int (nI 6)] (M, o) (some (.ref (gK G 6))) (M, o) := by
  refine CM_of rfl (by decide) rfl (Nat.le_of_ble_eq_true rfl) rfl ?_
  refine e_iload_n (pc' := 1) dX7_shapeOf_0 rfl rfl rfl ?_
  refine e_tableIn (tgt := 62) (off := 61) dX7_shapeOf_1 (by decide) (by decide) (by decide) (by decide) ?_
  refine e_ldcS (pc' := 64) dX7_shapeOf_62 rfl st_X7_56 ?_
  exact e_aret dX7_shapeOf_64 rfl (MP.ret rfl rfl) (by decide) (by decide)
theorem c_shape7  : RET G ad d mX7_shapeOf [.int (nI 7)] (M, o) (some (.ref (gK G 7))) (M, o) := by
  refine CM_of rfl (by decide) rfl (Nat.le_of_ble_eq_true rfl) rfl ?_
  refine e_iload_n (pc' := 1) dX7_shapeOf_0 rfl rfl rfl ?_
  refine e_tableOut (tgt := 65) dX7_shapeOf_1 (by decide) (by decide) ?_
  refine e_ldcS (pc' := 67) dX7_shapeOf_65 rfl st_X7_58 ?_
  exact e_aret dX7_shapeOf_67 rfl (MP.ret rfl rfl) (by decide) (by decide)
theorem c_shape {k : Nat} (hk : k < 8) : RET G ad d mX7_shapeOf [.int (nI k)] (M, o) (some (.ref (gK G k))) (M, o) := by
  match k, hk with
  | 0, _ => exact c_shape0
  | 1, _ => exact c_shape1
  | 2, _ => exact c_shape2
  | 3, _ => exact c_shape3
  | 4, _ => exact c_shape4
  | 5, _ => exact c_shape5
  | 6, _ => exact c_shape6
  | 7, _ => exact c_shape7
def isQ (A : Nat) : Prop := shp[A]? = some (2, 4, [none, none, none, none])
theorem isQs : ∀ i, i < 15 → isQ (79 + i) := by unfold isQ; decide
theorem c_setP0 {A : Nat} (hA : isQ A) (x : Int32) : RET G ad d mX2_setParameter [.ref (ad (A)), .int (nI 0), .int (x)] (M, o) none ((up2 M A 1 x), o) := by
  refine CM_of rfl (by decide) rfl (Nat.le_of_ble_eq_true rfl) rfl ?_
  refine e_iload_n (pc' := 1) dX2_setParameter_0 rfl rfl rfl ?_
  refine e_lookup (tgt := 28) (off := 27) dX2_setParameter_1 (by decide) (by decide) (by decide) ?_
  refine e_aload_n (pc' := 29) dX2_setParameter_28 rfl rfl rfl ?_
  refine e_iload_n (pc' := 30) dX2_setParameter_29 rfl rfl rfl ?_
  refine p_pfi (pc' := 33) (a := A) (k := 1) dX2_setParameter_30 rfl (hA) (by decide) (by decide) rfl fl_X2_7 rfl rfl ?_
  refine e_goto (tgt := 49) dX2_setParameter_33 (by decide) ?_
  exact e_vret dX2_setParameter_49 rfl (MP.ret rfl rfl) (by decide) (by decide)
theorem c_setP1 {A : Nat} (hA : isQ A) (x : Int32) : RET G ad d mX2_setParameter [.ref (ad (A)), .int (nI 1), .int (x)] (M, o) none ((up2 M A 2 x), o) := by
  refine CM_of rfl (by decide) rfl (Nat.le_of_ble_eq_true rfl) rfl ?_
  refine e_iload_n (pc' := 1) dX2_setParameter_0 rfl rfl rfl ?_
  refine e_lookup (tgt := 36) (off := 35) dX2_setParameter_1 (by decide) (by decide) (by decide) ?_
  refine e_aload_n (pc' := 37) dX2_setParameter_36 rfl rfl rfl ?_
  refine e_iload_n (pc' := 38) dX2_setParameter_37 rfl rfl rfl ?_
  refine p_pfi (pc' := 41) (a := A) (k := 2) dX2_setParameter_38 rfl (hA) (by decide) (by decide) rfl fl_X2_13 rfl rfl ?_
  refine e_goto (tgt := 49) dX2_setParameter_41 (by decide) ?_
  exact e_vret dX2_setParameter_49 rfl (MP.ret rfl rfl) (by decide) (by decide)
theorem c_setP2 {A : Nat} (hA : isQ A) (x : Int32) : RET G ad d mX2_setParameter [.ref (ad (A)), .int (nI 2), .int (x)] (M, o) none ((up2 M A 3 x), o) := by
  refine CM_of rfl (by decide) rfl (Nat.le_of_ble_eq_true rfl) rfl ?_
  refine e_iload_n (pc' := 1) dX2_setParameter_0 rfl rfl rfl ?_
  refine e_lookup (tgt := 44) (off := 43) dX2_setParameter_1 (by decide) (by decide) (by decide) ?_
  refine e_aload_n (pc' := 45) dX2_setParameter_44 rfl rfl rfl ?_
  refine e_iload_n (pc' := 46) dX2_setParameter_45 rfl rfl rfl ?_
  refine p_pfi (pc' := 49) (a := A) (k := 3) dX2_setParameter_46 rfl (hA) (by decide) (by decide) rfl fl_X2_16 rfl rfl ?_
  exact e_vret dX2_setParameter_49 rfl (MP.ret rfl rfl) (by decide) (by decide)
theorem c_setP {A : Nat} (hA : isQ A) {i : Nat} (hi : i < 3) (x : Int32) : RET G ad d mX2_setParameter [.ref (ad A), .int (nI i), .int x] (M, o) none (up2 M A (i + 1) x, o) := by
  match i, hi with
  | 0, _ => exact c_setP0 hA x
  | 1, _ => exact c_setP1 hA x
  | 2, _ => exact c_setP2 hA x
end T25

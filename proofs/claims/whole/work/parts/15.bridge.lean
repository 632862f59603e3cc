set_option maxHeartbeats 400000
/-! SURVEY: bridges -/
section T15
variable {G : gC} {ad : Nat → Nat} {d : Nat} {M : Nat → Nat → Int32} {o : (Nat → Int64) × (Nat → UInt64)} {c : Col}
section EXS
variable {rec : Nat → Int32 → BS → BS} {v j x : Nat} {e : Int32} {s : BS}
theorem exst_none (h : oEnd c j v = none) : exst c rec v e j s = s := by unfold exst; rw [h]
theorem exst_eq (h : oEnd c j v = some x) (he : nI j = e) : exst c rec v e j s = s := by unfold exst; rw [h]; exact if_pos he
theorem exst_num (h : oEnd c j v = some x) (he : ¬ nI j = e) (h0 : ¬ s.1 x = 0) : exst c rec v e j s = reaM v (s.1 x) s := by unfold exst; rw [h]; exact (if_neg he).trans (if_pos h0)
theorem exst_rec (h : oEnd c j v = some x) (he : ¬ nI j = e) (h0 : s.1 x = 0) : exst c rec v e j s = foundM v x (reaM v ((rec x (nI j) s).2.1 x) (rec x (nI j) s)) := by unfold exst; rw [h]; exact (if_neg he).trans (if_neg (fun q => q h0))
theorem found_1 (h : ¬ s.2.1 x ≤ s.1 v) : foundM v x s = (s.1, s.2.1, s.2.2.1, s.2.2.2 + nI 1) := if_pos (Int32.not_le.mp h)
theorem found_0 (h : s.2.1 x ≤ s.1 v) : foundM v x s = s := if_neg (Int32.not_lt.mpr h)
end EXS
theorem l_explore {M0 : Nat → Nat → Int32} (hw : WF c) {fu v dp : Nat} {e : Int32} {s : BS} (hd : dp + (fu + 1) = 10) (hv : v < cn c) (IH : ∀ (v : Nat) (e : Int32) (s : BS) (dp : Nat) (M : Nat → Nat → Int32), dp + fu = 10 → v < cn c → ColAt M 1 c → BSAt M s → RETI G ad (d + (fu + 2)) mX6_explore [.ref (ad 7), .int (nI v), .int e, .int (nI dp)] (M, o) none (fun M' => BSAt M' (expl c fu v e s) ∧ KP (inR 7 11) M M')) : ∀ i, i ≤ ck c → ∀ (M : Nat → Nat → Int32), ColAt M 1 c → BSAt M (iter (exst c (expl c fu) v e) i (numM v s)) → KP (inR 7 11) M0 M → ER G ad (d + (fu + 1 + 2)) mX6_explore (0, 0) (PI none o (fun M' => BSAt M' (expl c (fu + 1) v e s) ∧ KP (inR 7 11) M0 M')) (0, 0) 15 [some (.ref (ad 7)), some (.int (nI v)), some (.int (e)), some (.int (nI dp)), some (.int (nI i)), none] [] (M, o) := down (ck c) _ (fun i hi ih M h hB h2 => by
  have hn := hw.n
  have hk := hw.k
  have hw9 := hw.w9
  obtain ⟨hN, hL, h6, h7⟩ := id hB
  refine e_iload (pc' := 17) dX6_explore_15 rfl rfl ?_
  refine e_aload_n (pc' := 18) dX6_explore_17 rfl rfl rfl ?_
  refine p_gfr (pc' := 21) (a := 7) (k := 0) (t := 1) dX6_explore_18 rfl rfl (by decide) (by decide) rfl fl_X6_24 ?_
  refine p_gfi (pc' := 24) (a := 1) (k := 5) (x := nI (ck c)) dX6_explore_21 rfl (rfl) (by decide) (by decide) rfl fl_X6_37 (h.k) ?_
  refine e_icmp_geN (pc' := 27) (tgt := 134) dX6_explore_24 rfl (by decide) (by omega) (by omega) (fun hz1 => ?_) (fun hz1 => ?_)
  · exact e_vret dX6_explore_134 rfl (MP.retI rfl ⟨by rw [show i = ck c by omega] at hB; exact hB, h2⟩) (by decide) (by decide)
  · refine e_aload_n (pc' := 28) dX6_explore_27 rfl rfl rfl ?_
    refine p_gfr (pc' := 31) (a := 7) (k := 0) (t := 1) dX6_explore_28 rfl rfl (by decide) (by decide) rfl fl_X6_24 ?_
    refine e_iload (pc' := 33) dX6_explore_31 rfl rfl ?_
    refine e_iload_n (pc' := 34) dX6_explore_33 rfl rfl rfl ?_
    refine r_V (pc' := 37) (m' := mX1_otherEnd) (As := [.int (nI i), .int (nI v)]) (st := []) (c_otherEnd (d := d) h hw (j := i) (k := v) (by omega) (by omega)) dX6_explore_34 rfl rfl (Nat.le_of_ble_eq_true rfl) (fit_of (by omega) (by decide) (by decide) (by decide)) ml_X6_78 okX1_otherEnd rfl rfl (by decide) rfl ?_
    show EV _ _ _ _ _ 37 _ ([.int (oI (oEnd c i v))]) _
    refine e_istore (pc' := 39) (L' := [some (.ref (ad 7)), some (.int (nI v)), some (.int (e)), some (.int (nI dp)), some (.int (nI i)), some (.int (oI (oEnd c i v)))]) dX6_explore_37 rfl (by decide) rfl ?_
    refine e_iload (pc' := 41) dX6_explore_39 rfl rfl ?_
    refine e_iconst (pc' := 42) (v := (-1)) dX6_explore_41 rfl (by decide) ?_
    refine e_icmp_eq (pc' := 45) (tgt := 128) dX6_explore_42 rfl (by decide) (fun h1 => ?_) (fun h1 => ?_)
    · refine e_iincN (pc' := 131) (k := 1) (L' := [some (.ref (ad 7)), some (.int (nI v)), some (.int (e)), some (.int (nI dp)), some (.int (nI (i + 1))), some (.int (oI (oEnd c i v)))]) dX6_explore_128 rfl rfl rfl (by decide) rfl ?_
      refine e_goto (tgt := 15) dX6_explore_131 (by decide) ?_
      refine e_fg (i := 5) (L' := [some (.ref (ad 7)), some (.int (nI v)), some (.int (e)), some (.int (nI dp)), some (.int (nI (i + 1))), none]) rfl ?_
      have e1 : iter (exst c (expl c fu) v e) (i + 1) (numM v s) = (iter (exst c (expl c fu) v e) i (numM v s)) := by first | exact exst_none ((oI_ne (fun z e => by have := oEnd_lt hw (by omega) e; omega)).mp h1) | exact exst_eq hx h3
      exact ih (by omega) |> fun q => by rw [e1] at q; exact q _ h hB h2
    · obtain ⟨x, hx⟩ : ∃ x, oEnd c i v = some x := by
        cases hq : oEnd c i v with
        | none => rw [hq] at h1; exact absurd rfl h1
        | some x => exact ⟨x, rfl⟩
      rw [hx]
      have hx9 := oEnd_lt hw (by omega) hx
      refine e_iload (pc' := 47) dX6_explore_45 rfl rfl ?_
      refine e_iload_n (pc' := 48) dX6_explore_47 rfl rfl rfl ?_
      refine e_icmp_ne (pc' := 51) (tgt := 54) dX6_explore_48 rfl (by decide) (fun h3 => ?_) (fun h3 => ?_)
      · refine e_aload_n (pc' := 55) dX6_explore_54 rfl rfl rfl ?_
        refine p_gfr (pc' := 58) (a := 7) (k := 3) (t := 10) dX6_explore_55 rfl rfl (by decide) (by decide) rfl fl_X6_18 ?_
        refine e_iload (pc' := 60) dX6_explore_58 rfl rfl ?_
        have hi1 : x < 9 := by omega
        refine p_iald (pc' := 61) (a := 10) (k := x) (x := ((iter (exst c (expl c fu) v e) i (numM v s)).1) x) dX6_explore_60 rfl (rfl) (rfl) (by omega) (by decide) (hN _ hi1) ?_
        refine e_if_eq (pc' := 64) (tgt := 79) dX6_explore_61 rfl (by decide) (fun h4 => ?_) (fun h4 => ?_)
        · refine e_aload_n (pc' := 80) dX6_explore_79 rfl rfl rfl ?_
          refine e_iload (pc' := 82) dX6_explore_80 rfl rfl ?_
          refine e_iload (pc' := 84) dX6_explore_82 rfl rfl ?_
          refine e_iload_n (pc' := 85) dX6_explore_84 rfl rfl rfl ?_
          refine e_iconst (pc' := 86) (v := nI 1) dX6_explore_85 rfl (by decide) ?_
          refine e_iaddN (pc' := 87) dX6_explore_86 rfl ?_
          refine r_SI (pc' := 90) (m' := mX6_explore) (As := [.ref (ad 7), .int (nI x), .int (nI i), .int (nI (dp + 1))]) (st := []) (IH (x) (nI i) (iter (exst c (expl c fu) v e) i (numM v s)) (dp + 1) _ (by omega) (by omega) h ⟨hN, hL, h6, h7⟩) dX6_explore_87 rfl rfl (Nat.le_of_ble_eq_true rfl) (fit_of (by omega) (by decide) (by decide) (by decide)) ml_X6_70 okX6_explore rfl rfl (fun MU1 ⟨⟨hN1, hL1, h61, h71⟩, hV1⟩ => ?_)
          show EV _ _ _ _ _ 90 _ ([]) _
          refine e_aload_n (pc' := 91) dX6_explore_90 rfl rfl rfl ?_
          refine e_iload_n (pc' := 92) dX6_explore_91 rfl rfl rfl ?_
          refine e_aload_n (pc' := 93) dX6_explore_92 rfl rfl rfl ?_
          refine p_gfr (pc' := 96) (a := 7) (k := 4) (t := 11) dX6_explore_93 rfl rfl (by decide) (by decide) rfl fl_X6_21 ?_
          refine e_iload (pc' := 98) dX6_explore_96 rfl rfl ?_
          have hi2 : x < 9 := by omega
          refine p_iald (pc' := 99) (a := 11) (k := x) (x := ((expl c fu (x) (nI i) (iter (exst c (expl c fu) v e) i (numM v s))).2.1) x) dX6_explore_98 rfl (rfl) (rfl) (by omega) (by decide) (hL1 _ hi2) ?_
          refine r_VI (pc' := 102) (m' := mX6_reachNumber) (As := [.int (nI v), .int (((expl c fu (x) (nI i) (iter (exst c (expl c fu) v e) i (numM v s))).2.1) x)]) (st := []) (c_reach (d := d) (s := (expl c fu (x) (nI i) (iter (exst c (expl c fu) v e) i (numM v s)))) ⟨hN1, hL1, h61, h71⟩ (v := v) (by omega) (((expl c fu (x) (nI i) (iter (exst c (expl c fu) v e) i (numM v s))).2.1) x)) dX6_explore_99 rfl rfl (Nat.le_of_ble_eq_true rfl) (fit_of (by omega) (by decide) (by decide) (by decide)) ml_X6_82 okX6_reachNumber rfl rfl (by decide) rfl (fun MU2 ⟨⟨hN2, hL2, h62, h72⟩, hV2⟩ => ?_)
          show EV _ _ _ _ _ 102 _ ([]) _
          refine e_aload_n (pc' := 103) dX6_explore_102 rfl rfl rfl ?_
          refine p_gfr (pc' := 106) (a := 7) (k := 4) (t := 11) dX6_explore_103 rfl rfl (by decide) (by decide) rfl fl_X6_21 ?_
          refine e_iload (pc' := 108) dX6_explore_106 rfl rfl ?_
          have hi3 : x < 9 := by omega
          refine p_iald (pc' := 109) (a := 11) (k := x) (x := ((reaM v (((expl c fu (x) (nI i) (iter (exst c (expl c fu) v e) i (numM v s))).2.1) x) (expl c fu (x) (nI i) (iter (exst c (expl c fu) v e) i (numM v s)))).2.1) x) dX6_explore_108 rfl (rfl) (rfl) (by omega) (by decide) (hL2 _ hi3) ?_
          refine e_aload_n (pc' := 110) dX6_explore_109 rfl rfl rfl ?_
          refine p_gfr (pc' := 113) (a := 7) (k := 3) (t := 10) dX6_explore_110 rfl rfl (by decide) (by decide) rfl fl_X6_18 ?_
          refine e_iload_n (pc' := 114) dX6_explore_113 rfl rfl rfl ?_
          have hi4 : v < 9 := by omega
          refine p_iald (pc' := 115) (a := 10) (k := v) (x := ((reaM v (((expl c fu (x) (nI i) (iter (exst c (expl c fu) v e) i (numM v s))).2.1) x) (expl c fu (x) (nI i) (iter (exst c (expl c fu) v e) i (numM v s)))).1) v) dX6_explore_114 rfl (rfl) (rfl) (by omega) (by decide) (hN2 _ hi4) ?_
          refine e_icmp_le (pc' := 118) (tgt := 128) dX6_explore_115 rfl (by decide) (fun h5 => ?_) (fun h5 => ?_)
          · refine e_iincN (pc' := 131) (k := 1) (L' := [some (.ref (ad 7)), some (.int (nI v)), some (.int (e)), some (.int (nI dp)), some (.int (nI (i + 1))), some (.int (nI x))]) dX6_explore_128 rfl rfl rfl (by decide) rfl ?_
            refine e_goto (tgt := 15) dX6_explore_131 (by decide) ?_
            refine e_fg (i := 5) (L' := [some (.ref (ad 7)), some (.int (nI v)), some (.int (e)), some (.int (nI dp)), some (.int (nI (i + 1))), none]) rfl ?_
            have e1 : iter (exst c (expl c fu) v e) (i + 1) (numM v s) = (reaM v (((expl c fu (x) (nI i) (iter (exst c (expl c fu) v e) i (numM v s))).2.1) x) (expl c fu (x) (nI i) (iter (exst c (expl c fu) v e) i (numM v s)))) := (exst_rec hx h3 h4).trans (found_0 h5)
            exact ih (by omega) |> fun q => by rw [e1] at q; exact q _ ((h.kp hV1 (fun i hi => inR_f (by omega))).kp hV2 (fun i hi => inR_f (by omega))) ⟨hN2, hL2, h62, h72⟩ ((h2.trans hV1).trans hV2)
          · refine e_aload_n (pc' := 119) dX6_explore_118 rfl rfl rfl ?_
            refine e_dup (pc' := 120) dX6_explore_119 rfl rfl ?_
            refine p_gfi (pc' := 123) (a := 7) (k := 7) (x := (reaM v (((expl c fu (x) (nI i) (iter (exst c (expl c fu) v e) i (numM v s))).2.1) x) (expl c fu (x) (nI i) (iter (exst c (expl c fu) v e) i (numM v s)))).2.2.2) dX6_explore_120 rfl (rfl) (by decide) (by decide) rfl fl_X6_67 (h72) ?_
            refine e_iconst (pc' := 124) (v := nI 1) dX6_explore_123 rfl (by decide) ?_
            refine e_iadd (pc' := 125) dX6_explore_124 rfl ?_
            refine p_pfi (pc' := 128) (a := 7) (k := 7) dX6_explore_125 rfl (rfl) (by decide) (by decide) rfl fl_X6_67 rfl rfl ?_
            refine e_iincN (pc' := 131) (k := 1) (L' := [some (.ref (ad 7)), some (.int (nI v)), some (.int (e)), some (.int (nI dp)), some (.int (nI (i + 1))), some (.int (nI x))]) dX6_explore_128 rfl rfl rfl (by decide) rfl ?_
            refine e_goto (tgt := 15) dX6_explore_131 (by decide) ?_
            refine e_fg (i := 5) (L' := [some (.ref (ad 7)), some (.int (nI v)), some (.int (e)), some (.int (nI dp)), some (.int (nI (i + 1))), none]) rfl ?_
            have e1 : iter (exst c (expl c fu) v e) (i + 1) (numM v s) = ((reaM v (((expl c fu (x) (nI i) (iter (exst c (expl c fu) v e) i (numM v s))).2.1) x) (expl c fu (x) (nI i) (iter (exst c (expl c fu) v e) i (numM v s)))).1, (reaM v (((expl c fu (x) (nI i) (iter (exst c (expl c fu) v e) i (numM v s))).2.1) x) (expl c fu (x) (nI i) (iter (exst c (expl c fu) v e) i (numM v s)))).2.1, (reaM v (((expl c fu (x) (nI i) (iter (exst c (expl c fu) v e) i (numM v s))).2.1) x) (expl c fu (x) (nI i) (iter (exst c (expl c fu) v e) i (numM v s)))).2.2.1, (reaM v (((expl c fu (x) (nI i) (iter (exst c (expl c fu) v e) i (numM v s))).2.1) x) (expl c fu (x) (nI i) (iter (exst c (expl c fu) v e) i (numM v s)))).2.2.2 + nI 1) := (exst_rec hx h3 h4).trans (found_1 h5)
            exact ih (by omega) |> fun q => by rw [e1] at q; exact q _ (((h.kp hV1 (fun i hi => inR_f (by omega))).kp hV2 (fun i hi => inR_f (by omega))).up (by decide)) ⟨(hN2.up (by decide)), (hL2.up (by decide)), by rw [up2_k (by decide)]; exact h62, up2_s⟩ (((h2.trans hV1).trans hV2).up (by decide))
        · refine e_aload_n (pc' := 65) dX6_explore_64 rfl rfl rfl ?_
          refine e_iload_n (pc' := 66) dX6_explore_65 rfl rfl rfl ?_
          refine e_aload_n (pc' := 67) dX6_explore_66 rfl rfl rfl ?_
          refine p_gfr (pc' := 70) (a := 7) (k := 3) (t := 10) dX6_explore_67 rfl rfl (by decide) (by decide) rfl fl_X6_18 ?_
          refine e_iload (pc' := 72) dX6_explore_70 rfl rfl ?_
          have hi5 : x < 9 := by omega
          refine p_iald (pc' := 73) (a := 10) (k := x) (x := ((iter (exst c (expl c fu) v e) i (numM v s)).1) x) dX6_explore_72 rfl (rfl) (rfl) (by omega) (by decide) (hN _ hi5) ?_
          refine r_VI (pc' := 76) (m' := mX6_reachNumber) (As := [.int (nI v), .int (((iter (exst c (expl c fu) v e) i (numM v s)).1) x)]) (st := []) (c_reach (d := d) (s := (iter (exst c (expl c fu) v e) i (numM v s))) ⟨hN, hL, h6, h7⟩ (v := v) (by omega) (((iter (exst c (expl c fu) v e) i (numM v s)).1) x)) dX6_explore_73 rfl rfl (Nat.le_of_ble_eq_true rfl) (fit_of (by omega) (by decide) (by decide) (by decide)) ml_X6_82 okX6_reachNumber rfl rfl (by decide) rfl (fun MU1 ⟨⟨hN1, hL1, h61, h71⟩, hV1⟩ => ?_)
          show EV _ _ _ _ _ 76 _ ([]) _
          refine e_goto (tgt := 128) dX6_explore_76 (by decide) ?_
          refine e_iincN (pc' := 131) (k := 1) (L' := [some (.ref (ad 7)), some (.int (nI v)), some (.int (e)), some (.int (nI dp)), some (.int (nI (i + 1))), some (.int (nI x))]) dX6_explore_128 rfl rfl rfl (by decide) rfl ?_
          refine e_goto (tgt := 15) dX6_explore_131 (by decide) ?_
          refine e_fg (i := 5) (L' := [some (.ref (ad 7)), some (.int (nI v)), some (.int (e)), some (.int (nI dp)), some (.int (nI (i + 1))), none]) rfl ?_
          have e1 : iter (exst c (expl c fu) v e) (i + 1) (numM v s) = (reaM v (((iter (exst c (expl c fu) v e) i (numM v s)).1) x) (iter (exst c (expl c fu) v e) i (numM v s))) := exst_num hx h3 h4
          exact ih (by omega) |> fun q => by rw [e1] at q; exact q _ (h.kp hV1 (fun i hi => inR_f (by omega))) ⟨hN1, hL1, h61, h71⟩ (h2.trans hV1)
      · refine e_goto (tgt := 128) dX6_explore_51 (by decide) ?_
        refine e_iincN (pc' := 131) (k := 1) (L' := [some (.ref (ad 7)), some (.int (nI v)), some (.int (e)), some (.int (nI dp)), some (.int (nI (i + 1))), some (.int (nI x))]) dX6_explore_128 rfl rfl rfl (by decide) rfl ?_
        refine e_goto (tgt := 15) dX6_explore_131 (by decide) ?_
        refine e_fg (i := 5) (L' := [some (.ref (ad 7)), some (.int (nI v)), some (.int (e)), some (.int (nI dp)), some (.int (nI (i + 1))), none]) rfl ?_
        have e1 : iter (exst c (expl c fu) v e) (i + 1) (numM v s) = (iter (exst c (expl c fu) v e) i (numM v s)) := by first | exact exst_none ((oI_ne (fun z e => by have := oEnd_lt hw (by omega) e; omega)).mp h1) | exact exst_eq hx h3
        exact ih (by omega) |> fun q => by rw [e1] at q; exact q _ h hB h2)
theorem c_explore (hw : WF c) : ∀ (fu v : Nat) (e : Int32) (s : BS) (dp : Nat) (M : Nat → Nat → Int32), dp + fu = 10 → v < cn c → ColAt M 1 c → BSAt M s → RETI G ad (d + (fu + 2)) mX6_explore [.ref (ad 7), .int (nI v), .int e, .int (nI dp)] (M, o) none (fun M' => BSAt M' (expl c fu v e s) ∧ KP (inR 7 11) M M') := by
  intro fu
  induction fu with
  | zero =>
    intro v e s dp M hd hv h hB
    refine CM_of rfl (by decide) rfl (Nat.le_of_ble_eq_true rfl) rfl ?_
    refine e_iload_n (pc' := 1) dX6_explore_0 rfl rfl rfl ?_
    refine e_bipush (pc' := 3) (v := nI 9) dX6_explore_1 rfl (by decide) ?_
    refine e_icmp_leN (pc' := 6) (tgt := 7) dX6_explore_3 rfl (by decide) (by omega) (by omega) (fun hz1 => absurd hz1 (by omega)) (fun hz1 => ?_)
    exact e_vret dX6_explore_6 rfl (MP.retI rfl ⟨hB, KP.refl⟩) (by decide) (by decide)
  | succ fu IH =>
    intro v e s dp M hd hv h hB
    have hn := hw.n
    obtain ⟨hN, hL, h6, h7⟩ := id hB
    refine CM_of rfl (by decide) rfl (Nat.le_of_ble_eq_true rfl) rfl ?_
    refine e_iload_n (pc' := 1) dX6_explore_0 rfl rfl rfl ?_
    refine e_bipush (pc' := 3) (v := nI 9) dX6_explore_1 rfl (by decide) ?_
    refine e_icmp_leN (pc' := 6) (tgt := 7) dX6_explore_3 rfl (by decide) (by omega) (by omega) (fun hz1 => ?_) (fun hz1 => absurd hz1 (by omega))
    refine e_aload_n (pc' := 8) dX6_explore_7 rfl rfl rfl ?_
    refine e_iload_n (pc' := 9) dX6_explore_8 rfl rfl rfl ?_
    refine r_VI (pc' := 12) (m' := mX6_numberMagnet) (As := [.int (nI v)]) (st := []) (c_num (d := d) (s := s) ⟨hN, hL, h6, h7⟩ (v := v) (by omega)) dX6_explore_9 rfl rfl (Nat.le_of_ble_eq_true rfl) (fit_of (by omega) (by decide) (by decide) (by decide)) ml_X6_74 okX6_numberMagnet rfl rfl (by decide) rfl (fun MU1 ⟨⟨hN1, hL1, h61, h71⟩, hV1⟩ => ?_)
    show EV _ _ _ _ _ 12 _ ([]) _
    refine e_iconst (pc' := 13) (v := nI 0) dX6_explore_12 rfl (by decide) ?_
    refine e_istore (pc' := 15) (L' := [some (.ref (ad 7)), some (.int (nI v)), some (.int (e)), some (.int (nI dp)), some (.int (nI 0)), none]) dX6_explore_13 rfl (by decide) rfl ?_
    exact l_explore hw hd hv (fun v e s dp M => IH v e s dp M) 0 (by omega) _ (h.kp hV1 (fun i hi => inR_f (by omega))) ⟨hN1, hL1, h61, h71⟩ hV1
theorem l_cb {M0 : Nat → Nat → Int32} (hw : WF c) {low : Nat → Int32} : ∀ i, i ≤ cn c → ∀ (M : Nat → Nat → Int32), ColAt M 1 c → BSAt M (brs c low i) → KP (inR 7 11) M0 M → ER G ad (d + 12) mX6_countBridges (0, 0) (PI (some (.int ((brs c low (cn c)).2.2.2))) o (fun M' => KP (inR 7 11) M0 M')) (0, 0) 20 [some (.ref (ad 7)), some (.int (nI i))] [] (M, o) := down (cn c) _ (fun i hi ih M h hB h2 => by
  have hn := hw.n
  have hk := hw.k
  have hw9 := hw.w9
  obtain ⟨hN, hL, h6, h7⟩ := id hB
  refine e_iload_n (pc' := 21) dX6_countBridges_20 rfl rfl rfl ?_
  refine e_aload_n (pc' := 22) dX6_countBridges_21 rfl rfl rfl ?_
  refine p_gfr (pc' := 25) (a := 7) (k := 0) (t := 1) dX6_countBridges_22 rfl rfl (by decide) (by decide) rfl fl_X6_24 ?_
  refine p_gfi (pc' := 28) (a := 1) (k := 0) (x := nI (cn c)) dX6_countBridges_25 rfl (rfl) (by decide) (by decide) rfl fl_X6_31 (h.n) ?_
  refine e_icmp_geN (pc' := 31) (tgt := 53) dX6_countBridges_28 rfl (by decide) (by omega) (by omega) (fun hz1 => ?_) (fun hz1 => ?_)
  · refine e_aload_n (pc' := 54) dX6_countBridges_53 rfl rfl rfl ?_
    refine p_gfi (pc' := 57) (a := 7) (k := 7) (x := (brs c low i).2.2.2) dX6_countBridges_54 rfl (rfl) (by decide) (by decide) rfl fl_X6_67 (h7) ?_
    exact e_iret dX6_countBridges_57 rfl (MP.retI (by rw [show i = cn c by omega]) h2) (by decide) (by decide)
  · refine e_aload_n (pc' := 32) dX6_countBridges_31 rfl rfl rfl ?_
    refine p_gfr (pc' := 35) (a := 7) (k := 3) (t := 10) dX6_countBridges_32 rfl rfl (by decide) (by decide) rfl fl_X6_18 ?_
    refine e_iload_n (pc' := 36) dX6_countBridges_35 rfl rfl rfl ?_
    have hi1 : i < 9 := by omega
    refine p_iald (pc' := 37) (a := 10) (k := i) (x := ((brs c low i).1) i) dX6_countBridges_36 rfl (rfl) (rfl) (by omega) (by decide) (hN _ hi1) ?_
    refine e_if_ne (pc' := 40) (tgt := 47) dX6_countBridges_37 rfl (by decide) (fun h1 => ?_) (fun h1 => ?_)
    · refine e_iincN (pc' := 50) (k := 1) (L' := [some (.ref (ad 7)), some (.int (nI (i + 1)))]) dX6_countBridges_47 rfl rfl rfl (by decide) rfl ?_
      refine e_goto (tgt := 20) dX6_countBridges_50 (by decide) ?_
      have e1 : brs c low (i + 1) = (brs c low i) := if_neg h1
      exact ih (by omega) |> fun q => by rw [e1] at q; exact q _ h hB h2
    · refine e_aload_n (pc' := 41) dX6_countBridges_40 rfl rfl rfl ?_
      refine e_iload_n (pc' := 42) dX6_countBridges_41 rfl rfl rfl ?_
      refine e_iconst (pc' := 43) (v := (-1)) dX6_countBridges_42 rfl (by decide) ?_
      refine e_iconst (pc' := 44) (v := nI 1) dX6_countBridges_43 rfl (by decide) ?_
      refine r_SI (pc' := 47) (m' := mX6_explore) (As := [.ref (ad 7), .int (nI i), .int ((-1)), .int (nI 1)]) (st := []) (c_explore (d := d) hw 9 (i) ((-1)) (brs c low i) (1) _ (by omega) (by omega) h ⟨hN, hL, h6, h7⟩) dX6_countBridges_44 rfl rfl (Nat.le_of_ble_eq_true rfl) (fit_of (by omega) (by decide) (by decide) (by decide)) ml_X6_70 okX6_explore rfl rfl (fun MU1 ⟨⟨hN1, hL1, h61, h71⟩, hV1⟩ => ?_)
      show EV _ _ _ _ _ 47 _ ([]) _
      refine e_iincN (pc' := 50) (k := 1) (L' := [some (.ref (ad 7)), some (.int (nI (i + 1)))]) dX6_countBridges_47 rfl rfl rfl (by decide) rfl ?_
      refine e_goto (tgt := 20) dX6_countBridges_50 (by decide) ?_
      have e1 : brs c low (i + 1) = (expl c 9 (i) ((-1)) (brs c low i)) := if_pos h1
      exact ih (by omega) |> fun q => by rw [e1] at q; exact q _ (h.kp hV1 (fun i hi => inR_f (by omega))) ⟨hN1, hL1, h61, h71⟩ (h2.trans hV1))
theorem c_cb (h : ColAt M 1 c) (hw : WF c) : RETI G ad (d + 12) mX6_countBridges [.ref (ad 7)] (M, o) (some (.int ((brs c (fun k => M 11 k) (cn c)).2.2.2))) (fun M' => KP (inR 7 11) M M') := by
  refine CM_of rfl (by decide) rfl (Nat.le_of_ble_eq_true rfl) rfl ?_
  have hn := hw.n
  have hk := hw.k
  have hw9 := hw.w9
  refine e_aload_n (pc' := 1) dX6_countBridges_0 rfl rfl rfl ?_
  refine p_gfr (pc' := 4) (a := 7) (k := 3) (t := 10) dX6_countBridges_1 rfl rfl (by decide) (by decide) rfl fl_X6_18 ?_
  refine e_iconst (pc' := 5) (v := nI 0) dX6_countBridges_4 rfl (by decide) ?_
  refine r_SI (pc' := 8) (m' := mJ7_fill_53178) (As := [.ref (ad 10), .int (nI 0)]) (st := []) (c_fill10 (d := d) (nI 0)) dX6_countBridges_5 rfl rfl (Nat.le_of_ble_eq_true rfl) (fit_of (by omega) (by decide) (by decide) (by decide)) ml_X6_50 okJ7_fill_53178 rfl rfl (fun MU1 ⟨hF1, hG1⟩ => ?_)
  show EV _ _ _ _ _ 8 _ ([]) _
  have hV1 : KP (inR 7 11) M MU1 := hG1.wide (fun a ha => by unfold inR at *; simp at *; omega)
  refine e_aload_n (pc' := 9) dX6_countBridges_8 rfl rfl rfl ?_
  refine e_iconst (pc' := 10) (v := nI 0) dX6_countBridges_9 rfl (by decide) ?_
  refine p_pfi (pc' := 13) (a := 7) (k := 6) dX6_countBridges_10 rfl (rfl) (by decide) (by decide) rfl fl_X6_64 rfl rfl ?_
  refine e_aload_n (pc' := 14) dX6_countBridges_13 rfl rfl rfl ?_
  refine e_iconst (pc' := 15) (v := nI 0) dX6_countBridges_14 rfl (by decide) ?_
  refine p_pfi (pc' := 18) (a := 7) (k := 7) dX6_countBridges_15 rfl (rfl) (by decide) (by decide) rfl fl_X6_67 rfl rfl ?_
  refine e_iconst (pc' := 19) (v := nI 0) dX6_countBridges_18 rfl (by decide) ?_
  refine e_istore_n (pc' := 20) (L' := [some (.ref (ad 7)), some (.int (nI 0))]) dX6_countBridges_19 rfl rfl (by decide) rfl ?_
  exact l_cb hw (low := fun k => M 11 k) 0 (by omega) _ (((h.kp hV1 (fun i hi => inR_f (by omega))).up (by decide)).up (by decide)) ⟨(((show IAr MU1 10 9 (fun _ => 0) from hF1).up (by decide)).up (by decide)), fun k hk => by rw [up2_n (by decide), up2_n (by decide), hG1 11 (by decide)]; rfl, by rw [up2_k (by decide)]; exact up2_s, up2_s⟩ ((hV1.up (by decide)).up (by decide))
end T15

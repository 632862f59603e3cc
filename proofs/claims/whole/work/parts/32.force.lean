set_option maxHeartbeats 400000
/-! THE REFERENCE: forces, fields, the least -/
section T32
variable {G : gC} {ad : Nat → Nat} {d : Nat} {M : Nat → Nat → Int32} {o : (Nat → Int64) × (Nat → UInt64)} {c : Col}
theorem gap_ne {m i : Nat} (hw : WF c) (hm : m < cn c) (hi : i < cn c) (h : ¬ i = m) : ¬ gapI c m i = 0 := fun e => by
  have h1 := hw.p hm
  have h2 := hw.p hi
  have h3 : nI (cp c m) = nI (cp c i) := by
    have e2 : nI (cp c m) - nI (cp c i) = 0 := e
    have e3 : nI (cp c m) - nI (cp c i) + nI (cp c i) = 0 + nI (cp c i) := by rw [e2]
    rwa [Int32.sub_add_cancel, Int32.zero_add] at e3
  exact h (hw.pp hi hm ((nI_eq (by omega) (by omega)).mp h3.symm))
theorem gap_self {m : Nat} : gapI c m m = 0 := Int32.sub_self ..
theorem tn_inj {a b : Bool} : a.toNat = b.toNat ↔ a = b := by cases a <;> cases b <;> decide
theorem tn_one {a : Bool} : a.toNat = 1 ↔ a = true := by cases a <;> decide
theorem gl_pull (r : RowAt M 97 0 c) (hw : WF c) {m : Nat} (hm : m < cn c) : ∀ i, i ≤ cn c → ER G ad (d + 1) mX9_pull (0, 0) (PR (some (.float (frc c m))) (M, o)) (0, 0) 4 [some (.ref (ad 96)), some (.int (nI m)), some (.float (iter (fst2 c m) i FP.fconst0)), some (.int (nI i)), none, none, none] [] (M, o) := down (cn c) _ (fun i hi ih  => by
  have hn := hw.n
  have hk := hw.k
  have hw9 := hw.w9
  refine e_iload_n (pc' := 5) dX9_pull_4 rfl rfl rfl ?_
  refine e_aload_n (pc' := 6) dX9_pull_5 rfl rfl rfl ?_
  refine p_gfr (pc' := 9) (a := 96) (k := 0) (t := 97) dX9_pull_6 rfl rfl (by decide) (by decide) rfl fl_X9_7 ?_
  refine e_iconst (pc' := 10) (v := nI 0) dX9_pull_9 rfl (by decide) ?_
  refine p_iald (pc' := 11) (a := 97) (k := 0) (x := nI (cn c)) dX9_pull_10 rfl (rfl) (rfl) (by omega) (by decide) (r.n) ?_
  refine e_icmp_geN (pc' := 14) (tgt := 124) dX9_pull_11 rfl (by decide) (by omega) (by omega) (fun hz1 => ?_) (fun hz1 => ?_)
  · refine e_fload_n (pc' := 125) dX9_pull_124 rfl rfl rfl ?_
    exact e_fret dX9_pull_125 rfl (MP.ret (by rw [show i = cn c by omega]; rfl) rfl) (by decide) (by decide)
  · refine e_iload_n (pc' := 15) dX9_pull_14 rfl rfl rfl ?_
    refine e_iload_n (pc' := 16) dX9_pull_15 rfl rfl rfl ?_
    refine e_icmp_neN (pc' := 19) (tgt := 22) dX9_pull_16 rfl (by decide) (by omega) (by omega) (fun h0 => ?_) (fun h0 => ?_)
    · have h1 := gap_ne hw hm (show i < cn c by omega) h0
      refine e_aload_n (pc' := 23) dX9_pull_22 rfl rfl rfl ?_
      refine e_iload_n (pc' := 24) dX9_pull_23 rfl rfl rfl ?_
      refine e_iconst (pc' := 25) (v := nI 0) dX9_pull_24 rfl (by decide) ?_
      have hb1 := hw.p (i := m) (by omega)
      refine r_V (pc' := 28) (m' := mX9_of) (As := [.int (nI m), .int (nI 0)]) (st := []) (g_of0 (d := d) r hw (m := m) (by omega)) dX9_pull_25 rfl rfl (Nat.le_of_ble_eq_true rfl) (fit_of (by omega) (by decide) (by decide) (by decide)) ml_X9_73 okX9_of rfl rfl (by decide) rfl ?_
      show EV _ _ _ _ _ 28 _ ([.int (nI (cp c (m)))]) _
      refine e_aload_n (pc' := 29) dX9_pull_28 rfl rfl rfl ?_
      refine e_iload_n (pc' := 30) dX9_pull_29 rfl rfl rfl ?_
      refine e_iconst (pc' := 31) (v := nI 0) dX9_pull_30 rfl (by decide) ?_
      have hb2 := hw.p (i := i) (by omega)
      refine r_V (pc' := 34) (m' := mX9_of) (As := [.int (nI i), .int (nI 0)]) (st := [.int (nI (cp c (m)))]) (g_of0 (d := d) r hw (m := i) (by omega)) dX9_pull_31 rfl rfl (Nat.le_of_ble_eq_true rfl) (fit_of (by omega) (by decide) (by decide) (by decide)) ml_X9_73 okX9_of rfl rfl (by decide) rfl ?_
      show EV _ _ _ _ _ 34 _ ([.int (nI (cp c (i))), .int (nI (cp c (m)))]) _
      refine e_isub (pc' := 35) dX9_pull_34 rfl ?_
      rw [show ((nI (cp c (m))) - (nI (cp c (i)))) = gapI c m i from rfl]
      refine e_istore (pc' := 37) (L' := [some (.ref (ad 96)), some (.int (nI m)), some (.float (iter (fst2 c m) i FP.fconst0)), some (.int (nI i)), some (.int (gapI c m i)), none, none]) dX9_pull_35 rfl (by decide) rfl ?_
      refine e_aload_n (pc' := 38) dX9_pull_37 rfl rfl rfl ?_
      refine e_iload_n (pc' := 39) dX9_pull_38 rfl rfl rfl ?_
      refine e_iconst (pc' := 40) (v := nI 1) dX9_pull_39 rfl (by decide) ?_
      have hb3 := hw.s2 (i := m) (by omega)
      have hc3 := hw.s1 (i := m) (by omega)
      refine r_V (pc' := 43) (m' := mX9_of) (As := [.int (nI m), .int (nI 1)]) (st := []) (g_of1 (d := d) r hw (m := m) (by omega)) dX9_pull_40 rfl rfl (Nat.le_of_ble_eq_true rfl) (fit_of (by omega) (by decide) (by decide) (by decide)) ml_X9_73 okX9_of rfl rfl (by decide) rfl ?_
      show EV _ _ _ _ _ 43 _ ([.int (nI (cs c (m)))]) _
      refine e_aload_n (pc' := 44) dX9_pull_43 rfl rfl rfl ?_
      refine e_iload_n (pc' := 45) dX9_pull_44 rfl rfl rfl ?_
      refine e_iconst (pc' := 46) (v := nI 1) dX9_pull_45 rfl (by decide) ?_
      have hb4 := hw.s2 (i := i) (by omega)
      have hc4 := hw.s1 (i := i) (by omega)
      refine r_V (pc' := 49) (m' := mX9_of) (As := [.int (nI i), .int (nI 1)]) (st := [.int (nI (cs c (m)))]) (g_of1 (d := d) r hw (m := i) (by omega)) dX9_pull_46 rfl rfl (Nat.le_of_ble_eq_true rfl) (fit_of (by omega) (by decide) (by decide) (by decide)) ml_X9_73 okX9_of rfl rfl (by decide) rfl ?_
      show EV _ _ _ _ _ 49 _ ([.int (nI (cs c (i))), .int (nI (cs c (m)))]) _
      refine e_imulN (pc' := 50) dX9_pull_49 rfl ?_
      refine e_i2f (pc' := 51) dX9_pull_50 rfl ?_
      refine e_iload (pc' := 53) dX9_pull_51 rfl rfl ?_
      refine e_iload (pc' := 55) dX9_pull_53 rfl rfl ?_
      refine e_imul (pc' := 56) dX9_pull_55 rfl ?_
      refine e_i2f (pc' := 57) dX9_pull_56 rfl ?_
      refine e_fdiv (pc' := 58) dX9_pull_57 rfl (vf32_of (FP.Core.FFin.notNaN (fsz_fin hw hm (by omega) h1))) ?_
      rw [show (FP.fdiv (FP.i2f (nI ((cs c (m)) * (cs c (i))))) (FP.i2f ((gapI c m i) * (gapI c m i)))) = fsz c m i from rfl]
      refine e_fstore (pc' := 60) (L' := [some (.ref (ad 96)), some (.int (nI m)), some (.float (iter (fst2 c m) i FP.fconst0)), some (.int (nI i)), some (.int (gapI c m i)), some (.float (fsz c m i)), none]) dX9_pull_58 rfl (by decide) rfl ?_
      refine e_iload (pc' := 62) dX9_pull_60 rfl rfl ?_
      refine e_if_le (pc' := 65) (tgt := 69) dX9_pull_62 rfl (by decide) (fun h3 => ?_) (fun h3 => ?_)
      · refine e_iconst (pc' := 70) (v := nI 0) dX9_pull_69 rfl (by decide) ?_
        refine e_aload_n (pc' := 71) dX9_pull_70 rfl rfl rfl ?_
        refine e_iload_n (pc' := 72) dX9_pull_71 rfl rfl rfl ?_
        refine e_iconst (pc' := 73) (v := nI 2) dX9_pull_72 rfl (by decide) ?_
        have hb5 := tb_le (cw c) (i)
        refine r_V (pc' := 76) (m' := mX9_of) (As := [.int (nI i), .int (nI 2)]) (st := [.int (nI 0)]) (g_of2 (d := d) r hw (m := i) (by omega)) dX9_pull_73 rfl rfl (Nat.le_of_ble_eq_true rfl) (fit_of (by omega) (by decide) (by decide) (by decide)) ml_X9_73 okX9_of rfl rfl (by decide) rfl ?_
        show EV _ _ _ _ _ 76 _ ([.int (nI (((cw c).testBit (i)).toNat)), .int (nI 0)]) _
        refine e_aload_n (pc' := 77) dX9_pull_76 rfl rfl rfl ?_
        refine e_iload_n (pc' := 78) dX9_pull_77 rfl rfl rfl ?_
        refine e_iconst (pc' := 79) (v := nI 2) dX9_pull_78 rfl (by decide) ?_
        have hb6 := tb_le (cw c) (m)
        refine r_V (pc' := 82) (m' := mX9_of) (As := [.int (nI m), .int (nI 2)]) (st := [.int (nI (((cw c).testBit (i)).toNat)), .int (nI 0)]) (g_of2 (d := d) r hw (m := m) (by omega)) dX9_pull_79 rfl rfl (Nat.le_of_ble_eq_true rfl) (fit_of (by omega) (by decide) (by decide) (by decide)) ml_X9_73 okX9_of rfl rfl (by decide) rfl ?_
        show EV _ _ _ _ _ 82 _ ([.int (nI (((cw c).testBit (m)).toNat)), .int (nI (((cw c).testBit (i)).toNat)), .int (nI 0)]) _
        refine e_icmp_neN (pc' := 85) (tgt := 89) dX9_pull_82 rfl (by decide) (by omega) (by omega) (fun h2 => ?_) (fun h2 => ?_)
        · refine e_iconst (pc' := 90) (v := nI 0) dX9_pull_89 rfl (by decide) ?_
          refine e_icmp_neN (pc' := 93) (tgt := 97) dX9_pull_90 rfl (by decide) (by decide) (by decide) (fun h => absurd h (by decide)) (fun _ => ?_)
          refine e_iconst (pc' := 94) (v := nI 1) dX9_pull_93 rfl (by decide) ?_
          refine e_goto (tgt := 98) dX9_pull_94 (by decide) ?_
          refine e_istore (pc' := 100) (L' := [some (.ref (ad 96)), some (.int (nI m)), some (.float (iter (fst2 c m) i FP.fconst0)), some (.int (nI i)), some (.int (gapI c m i)), some (.float (fsz c m i)), some (.int (nI 1))]) dX9_pull_98 rfl (by decide) rfl ?_
          refine e_iload (pc' := 102) dX9_pull_100 rfl rfl ?_
          refine e_if_eqN (pc' := 105) (tgt := 113) dX9_pull_102 rfl (by decide) (by decide) (fun h => absurd h (by decide)) (fun _ => ?_)
          refine e_fload_n (pc' := 106) dX9_pull_105 rfl rfl rfl ?_
          refine e_fload (pc' := 108) dX9_pull_106 rfl rfl ?_
          refine e_fadd (pc' := 109) dX9_pull_108 rfl (vf32_of (FP.Core.fadd_out (frc_nn hw hm i hi) (fsz_fin hw hm (by omega) h1))) ?_
          refine e_fstore_n (pc' := 110) (L' := [some (.ref (ad 96)), some (.int (nI m)), some (.float (FP.fadd (iter (fst2 c m) i FP.fconst0) (fsz c m i))), some (.int (nI i)), some (.int (gapI c m i)), some (.float (fsz c m i)), some (.int (nI 1))]) dX9_pull_109 rfl rfl (by decide) rfl ?_
          refine e_goto (tgt := 118) dX9_pull_110 (by decide) ?_
          refine e_iincN (pc' := 121) (k := 1) (L' := [some (.ref (ad 96)), some (.int (nI m)), some (.float (FP.fadd (iter (fst2 c m) i FP.fconst0) (fsz c m i))), some (.int (nI (i + 1))), some (.int (gapI c m i)), some (.float (fsz c m i)), some (.int (nI 1))]) dX9_pull_118 rfl rfl rfl (by decide) rfl ?_
          refine e_goto (tgt := 4) dX9_pull_121 (by decide) ?_
          refine e_fg (i := 4) (L' := [some (.ref (ad 96)), some (.int (nI m)), some (.float (FP.fadd (iter (fst2 c m) i FP.fconst0) (fsz c m i))), some (.int (nI (i + 1))), none, some (.float (fsz c m i)), some (.int (nI 1))]) rfl ?_
          refine e_fg (i := 5) (L' := [some (.ref (ad 96)), some (.int (nI m)), some (.float (FP.fadd (iter (fst2 c m) i FP.fconst0) (fsz c m i))), some (.int (nI (i + 1))), none, none, some (.int (nI 1))]) rfl ?_
          refine e_fg (i := 6) (L' := [some (.ref (ad 96)), some (.int (nI m)), some (.float (FP.fadd (iter (fst2 c m) i FP.fconst0) (fsz c m i))), some (.int (nI (i + 1))), none, none, none]) rfl ?_
          have e : iter (fst2 c m) (i + 1) FP.fconst0 = FP.fadd (iter (fst2 c m) i FP.fconst0) (fsz c m i) := (show fst2 c m i _ = _ from (if_neg h1).trans (if_pos (by unfold fup; rw [tn_inj] at h2; first | (simp [h2, h3]; done) | (simp [h3]; exact fun q => h2 q.symm))))
          exact ih (by omega) |> fun q => by rw [e] at q; exact q
        · refine e_iconst (pc' := 86) (v := nI 1) dX9_pull_85 rfl (by decide) ?_
          refine e_goto (tgt := 90) dX9_pull_86 (by decide) ?_
          refine e_icmp_neN (pc' := 93) (tgt := 97) dX9_pull_90 rfl (by decide) (by decide) (by decide) (fun _ => ?_) (fun h => absurd h (by decide))
          refine e_iconst (pc' := 98) (v := nI 0) dX9_pull_97 rfl (by decide) ?_
          refine e_istore (pc' := 100) (L' := [some (.ref (ad 96)), some (.int (nI m)), some (.float (iter (fst2 c m) i FP.fconst0)), some (.int (nI i)), some (.int (gapI c m i)), some (.float (fsz c m i)), some (.int (nI 0))]) dX9_pull_98 rfl (by decide) rfl ?_
          refine e_iload (pc' := 102) dX9_pull_100 rfl rfl ?_
          refine e_if_eqN (pc' := 105) (tgt := 113) dX9_pull_102 rfl (by decide) (by decide) (fun _ => ?_) (fun h => absurd h (by decide))
          refine e_fload_n (pc' := 114) dX9_pull_113 rfl rfl rfl ?_
          refine e_fload (pc' := 116) dX9_pull_114 rfl rfl ?_
          refine e_fsub (pc' := 117) dX9_pull_116 rfl (vf32_of (FP.Core.fsub_out (frc_nn hw hm i hi) (fsz_fin hw hm (by omega) h1))) ?_
          refine e_fstore_n (pc' := 118) (L' := [some (.ref (ad 96)), some (.int (nI m)), some (.float (FP.fsub (iter (fst2 c m) i FP.fconst0) (fsz c m i))), some (.int (nI i)), some (.int (gapI c m i)), some (.float (fsz c m i)), some (.int (nI 0))]) dX9_pull_117 rfl rfl (by decide) rfl ?_
          refine e_iincN (pc' := 121) (k := 1) (L' := [some (.ref (ad 96)), some (.int (nI m)), some (.float (FP.fsub (iter (fst2 c m) i FP.fconst0) (fsz c m i))), some (.int (nI (i + 1))), some (.int (gapI c m i)), some (.float (fsz c m i)), some (.int (nI 0))]) dX9_pull_118 rfl rfl rfl (by decide) rfl ?_
          refine e_goto (tgt := 4) dX9_pull_121 (by decide) ?_
          refine e_fg (i := 4) (L' := [some (.ref (ad 96)), some (.int (nI m)), some (.float (FP.fsub (iter (fst2 c m) i FP.fconst0) (fsz c m i))), some (.int (nI (i + 1))), none, some (.float (fsz c m i)), some (.int (nI 0))]) rfl ?_
          refine e_fg (i := 5) (L' := [some (.ref (ad 96)), some (.int (nI m)), some (.float (FP.fsub (iter (fst2 c m) i FP.fconst0) (fsz c m i))), some (.int (nI (i + 1))), none, none, some (.int (nI 0))]) rfl ?_
          refine e_fg (i := 6) (L' := [some (.ref (ad 96)), some (.int (nI m)), some (.float (FP.fsub (iter (fst2 c m) i FP.fconst0) (fsz c m i))), some (.int (nI (i + 1))), none, none, none]) rfl ?_
          have e : iter (fst2 c m) (i + 1) FP.fconst0 = FP.fsub (iter (fst2 c m) i FP.fconst0) (fsz c m i) := (show fst2 c m i _ = _ from (if_neg h1).trans (if_neg (by unfold fup; rw [tn_inj] at h2; first | (simp [h2, h3]; done) | (simp [h3]; exact fun q => h2 q.symm))))
          exact ih (by omega) |> fun q => by rw [e] at q; exact q
      · refine e_iconst (pc' := 66) (v := nI 1) dX9_pull_65 rfl (by decide) ?_
        refine e_goto (tgt := 70) dX9_pull_66 (by decide) ?_
        refine e_aload_n (pc' := 71) dX9_pull_70 rfl rfl rfl ?_
        refine e_iload_n (pc' := 72) dX9_pull_71 rfl rfl rfl ?_
        refine e_iconst (pc' := 73) (v := nI 2) dX9_pull_72 rfl (by decide) ?_
        have hb7 := tb_le (cw c) (i)
        refine r_V (pc' := 76) (m' := mX9_of) (As := [.int (nI i), .int (nI 2)]) (st := [.int (nI 1)]) (g_of2 (d := d) r hw (m := i) (by omega)) dX9_pull_73 rfl rfl (Nat.le_of_ble_eq_true rfl) (fit_of (by omega) (by decide) (by decide) (by decide)) ml_X9_73 okX9_of rfl rfl (by decide) rfl ?_
        show EV _ _ _ _ _ 76 _ ([.int (nI (((cw c).testBit (i)).toNat)), .int (nI 1)]) _
        refine e_aload_n (pc' := 77) dX9_pull_76 rfl rfl rfl ?_
        refine e_iload_n (pc' := 78) dX9_pull_77 rfl rfl rfl ?_
        refine e_iconst (pc' := 79) (v := nI 2) dX9_pull_78 rfl (by decide) ?_
        have hb8 := tb_le (cw c) (m)
        refine r_V (pc' := 82) (m' := mX9_of) (As := [.int (nI m), .int (nI 2)]) (st := [.int (nI (((cw c).testBit (i)).toNat)), .int (nI 1)]) (g_of2 (d := d) r hw (m := m) (by omega)) dX9_pull_79 rfl rfl (Nat.le_of_ble_eq_true rfl) (fit_of (by omega) (by decide) (by decide) (by decide)) ml_X9_73 okX9_of rfl rfl (by decide) rfl ?_
        show EV _ _ _ _ _ 82 _ ([.int (nI (((cw c).testBit (m)).toNat)), .int (nI (((cw c).testBit (i)).toNat)), .int (nI 1)]) _
        refine e_icmp_neN (pc' := 85) (tgt := 89) dX9_pull_82 rfl (by decide) (by omega) (by omega) (fun h2 => ?_) (fun h2 => ?_)
        · refine e_iconst (pc' := 90) (v := nI 0) dX9_pull_89 rfl (by decide) ?_
          refine e_icmp_neN (pc' := 93) (tgt := 97) dX9_pull_90 rfl (by decide) (by decide) (by decide) (fun _ => ?_) (fun h => absurd h (by decide))
          refine e_iconst (pc' := 98) (v := nI 0) dX9_pull_97 rfl (by decide) ?_
          refine e_istore (pc' := 100) (L' := [some (.ref (ad 96)), some (.int (nI m)), some (.float (iter (fst2 c m) i FP.fconst0)), some (.int (nI i)), some (.int (gapI c m i)), some (.float (fsz c m i)), some (.int (nI 0))]) dX9_pull_98 rfl (by decide) rfl ?_
          refine e_iload (pc' := 102) dX9_pull_100 rfl rfl ?_
          refine e_if_eqN (pc' := 105) (tgt := 113) dX9_pull_102 rfl (by decide) (by decide) (fun _ => ?_) (fun h => absurd h (by decide))
          refine e_fload_n (pc' := 114) dX9_pull_113 rfl rfl rfl ?_
          refine e_fload (pc' := 116) dX9_pull_114 rfl rfl ?_
          refine e_fsub (pc' := 117) dX9_pull_116 rfl (vf32_of (FP.Core.fsub_out (frc_nn hw hm i hi) (fsz_fin hw hm (by omega) h1))) ?_
          refine e_fstore_n (pc' := 118) (L' := [some (.ref (ad 96)), some (.int (nI m)), some (.float (FP.fsub (iter (fst2 c m) i FP.fconst0) (fsz c m i))), some (.int (nI i)), some (.int (gapI c m i)), some (.float (fsz c m i)), some (.int (nI 0))]) dX9_pull_117 rfl rfl (by decide) rfl ?_
          refine e_iincN (pc' := 121) (k := 1) (L' := [some (.ref (ad 96)), some (.int (nI m)), some (.float (FP.fsub (iter (fst2 c m) i FP.fconst0) (fsz c m i))), some (.int (nI (i + 1))), some (.int (gapI c m i)), some (.float (fsz c m i)), some (.int (nI 0))]) dX9_pull_118 rfl rfl rfl (by decide) rfl ?_
          refine e_goto (tgt := 4) dX9_pull_121 (by decide) ?_
          refine e_fg (i := 4) (L' := [some (.ref (ad 96)), some (.int (nI m)), some (.float (FP.fsub (iter (fst2 c m) i FP.fconst0) (fsz c m i))), some (.int (nI (i + 1))), none, some (.float (fsz c m i)), some (.int (nI 0))]) rfl ?_
          refine e_fg (i := 5) (L' := [some (.ref (ad 96)), some (.int (nI m)), some (.float (FP.fsub (iter (fst2 c m) i FP.fconst0) (fsz c m i))), some (.int (nI (i + 1))), none, none, some (.int (nI 0))]) rfl ?_
          refine e_fg (i := 6) (L' := [some (.ref (ad 96)), some (.int (nI m)), some (.float (FP.fsub (iter (fst2 c m) i FP.fconst0) (fsz c m i))), some (.int (nI (i + 1))), none, none, none]) rfl ?_
          have e : iter (fst2 c m) (i + 1) FP.fconst0 = FP.fsub (iter (fst2 c m) i FP.fconst0) (fsz c m i) := (show fst2 c m i _ = _ from (if_neg h1).trans (if_neg (by unfold fup; rw [tn_inj] at h2; first | (simp [h2, h3]; done) | (simp [h3]; exact fun q => h2 q.symm))))
          exact ih (by omega) |> fun q => by rw [e] at q; exact q
        · refine e_iconst (pc' := 86) (v := nI 1) dX9_pull_85 rfl (by decide) ?_
          refine e_goto (tgt := 90) dX9_pull_86 (by decide) ?_
          refine e_icmp_neN (pc' := 93) (tgt := 97) dX9_pull_90 rfl (by decide) (by decide) (by decide) (fun h => absurd h (by decide)) (fun _ => ?_)
          refine e_iconst (pc' := 94) (v := nI 1) dX9_pull_93 rfl (by decide) ?_
          refine e_goto (tgt := 98) dX9_pull_94 (by decide) ?_
          refine e_istore (pc' := 100) (L' := [some (.ref (ad 96)), some (.int (nI m)), some (.float (iter (fst2 c m) i FP.fconst0)), some (.int (nI i)), some (.int (gapI c m i)), some (.float (fsz c m i)), some (.int (nI 1))]) dX9_pull_98 rfl (by decide) rfl ?_
          refine e_iload (pc' := 102) dX9_pull_100 rfl rfl ?_
          refine e_if_eqN (pc' := 105) (tgt := 113) dX9_pull_102 rfl (by decide) (by decide) (fun h => absurd h (by decide)) (fun _ => ?_)
          refine e_fload_n (pc' := 106) dX9_pull_105 rfl rfl rfl ?_
          refine e_fload (pc' := 108) dX9_pull_106 rfl rfl ?_
          refine e_fadd (pc' := 109) dX9_pull_108 rfl (vf32_of (FP.Core.fadd_out (frc_nn hw hm i hi) (fsz_fin hw hm (by omega) h1))) ?_
          refine e_fstore_n (pc' := 110) (L' := [some (.ref (ad 96)), some (.int (nI m)), some (.float (FP.fadd (iter (fst2 c m) i FP.fconst0) (fsz c m i))), some (.int (nI i)), some (.int (gapI c m i)), some (.float (fsz c m i)), some (.int (nI 1))]) dX9_pull_109 rfl rfl (by decide) rfl ?_
          refine e_goto (tgt := 118) dX9_pull_110 (by decide) ?_
          refine e_iincN (pc' := 121) (k := 1) (L' := [some (.ref (ad 96)), some (.int (nI m)), some (.float (FP.fadd (iter (fst2 c m) i FP.fconst0) (fsz c m i))), some (.int (nI (i + 1))), some (.int (gapI c m i)), some (.float (fsz c m i)), some (.int (nI 1))]) dX9_pull_118 rfl rfl rfl (by decide) rfl ?_
          refine e_goto (tgt := 4) dX9_pull_121 (by decide) ?_
          refine e_fg (i := 4) (L' := [some (.ref (ad 96)), some (.int (nI m)), some (.float (FP.fadd (iter (fst2 c m) i FP.fconst0) (fsz c m i))), some (.int (nI (i + 1))), none, some (.float (fsz c m i)), some (.int (nI 1))]) rfl ?_
          refine e_fg (i := 5) (L' := [some (.ref (ad 96)), some (.int (nI m)), some (.float (FP.fadd (iter (fst2 c m) i FP.fconst0) (fsz c m i))), some (.int (nI (i + 1))), none, none, some (.int (nI 1))]) rfl ?_
          refine e_fg (i := 6) (L' := [some (.ref (ad 96)), some (.int (nI m)), some (.float (FP.fadd (iter (fst2 c m) i FP.fconst0) (fsz c m i))), some (.int (nI (i + 1))), none, none, none]) rfl ?_
          have e : iter (fst2 c m) (i + 1) FP.fconst0 = FP.fadd (iter (fst2 c m) i FP.fconst0) (fsz c m i) := (show fst2 c m i _ = _ from (if_neg h1).trans (if_pos (by unfold fup; rw [tn_inj] at h2; first | (simp [h2, h3]; done) | (simp [h3]; exact fun q => h2 q.symm))))
          exact ih (by omega) |> fun q => by rw [e] at q; exact q
    · refine e_goto (tgt := 118) dX9_pull_19 (by decide) ?_
      refine e_iincN (pc' := 121) (k := 1) (L' := [some (.ref (ad 96)), some (.int (nI m)), some (.float (iter (fst2 c m) i FP.fconst0)), some (.int (nI (i + 1))), none, none, none]) dX9_pull_118 rfl rfl rfl (by decide) rfl ?_
      refine e_goto (tgt := 4) dX9_pull_121 (by decide) ?_
      have e : iter (fst2 c m) (i + 1) FP.fconst0 = iter (fst2 c m) i FP.fconst0 := (show fst2 c m i _ = _ by rw [h0]; exact if_pos gap_self)
      exact ih (by omega) |> fun q => by rw [e] at q; exact q)
theorem g_pull (r : RowAt M 97 0 c) (hw : WF c) {m : Nat} (hm : m < cn c) : RET G ad (d + 1) mX9_pull [.ref (ad 96), .int (nI m)] (M, o) (some (.float (frc c m))) (M, o) := by
  refine CM_of rfl (by decide) rfl (Nat.le_of_ble_eq_true rfl) rfl ?_
  have hn := hw.n
  have hk := hw.k
  have hw9 := hw.w9
  refine e_fconst0 (pc' := 1) dX9_pull_0 rfl ?_
  refine e_fstore_n (pc' := 2) (L' := [some (.ref (ad 96)), some (.int (nI m)), some (.float (FP.fconst0)), none, none, none, none]) dX9_pull_1 rfl rfl (by decide) rfl ?_
  refine e_iconst (pc' := 3) (v := nI 0) dX9_pull_2 rfl (by decide) ?_
  refine e_istore_n (pc' := 4) (L' := [some (.ref (ad 96)), some (.int (nI m)), some (.float (FP.fconst0)), some (.int (nI 0)), none, none, none]) dX9_pull_3 rfl rfl (by decide) rfl ?_
  exact gl_pull r hw hm 0 (by omega)
theorem g_size (x : Int32) : RET G ad d mX9_size [.int (x)] (M, o) (some (.int (if 0 ≤ x then x else -x))) (M, o) := by
  refine CM_of rfl (by decide) rfl (Nat.le_of_ble_eq_true rfl) rfl ?_
  refine e_iload_n (pc' := 1) dX9_size_0 rfl rfl rfl ?_
  refine e_if_ge (pc' := 4) (tgt := 9) dX9_size_1 rfl (by decide) (fun h1 => ?_) (fun h1 => ?_)
  · refine e_iload_n (pc' := 10) dX9_size_9 rfl rfl rfl ?_
    exact e_iret dX9_size_10 rfl (MP.ret (congrArg (fun z => some (Value.int z)) (by first | rw [if_pos h1] | rw [if_neg h1])) rfl) (by decide) (by decide)
  · refine e_iload_n (pc' := 5) dX9_size_4 rfl rfl rfl ?_
    refine e_ineg (pc' := 6) dX9_size_5 rfl ?_
    refine e_goto (tgt := 10) dX9_size_6 (by decide) ?_
    exact e_iret dX9_size_10 rfl (MP.ret (congrArg (fun z => some (Value.int z)) (by first | rw [if_pos h1] | rw [if_neg h1])) rfl) (by decide) (by decide)
theorem size_dif {p q : Nat} (hp : p < 2 ^ 30) (hq : q < 2 ^ 30) : (if 0 ≤ (nI q - nI p) then (nI q - nI p) else -(nI q - nI p)) = nI (dif p q) := by
  have h := abs_dif (p := q) (q := p) hq hp
  rw [Int32.zero_sub] at h
  rw [h]
  unfold dif
  congr 1
  split <;> split <;> omega
theorem gl_field (r : RowAt M 97 0 c) (hw : WF c) {p : Nat} (hp : p < 100) : ∀ i, i ≤ cn c → ER G ad (d + 1) mX9_fieldAt (0, 0) (PR (some (.double (fld c p))) (M, o)) (0, 0) 5 [some (.ref (ad 96)), some (.int (nI p)), some (.double (iter (fdst c p) i FP.dconst0)), none, some (.int (nI i)), none, none] [] (M, o) := down (cn c) _ (fun i hi ih  => by
  have hn := hw.n
  have hk := hw.k
  have hw9 := hw.w9
  refine e_iload (pc' := 7) dX9_fieldAt_5 rfl rfl ?_
  refine e_aload_n (pc' := 8) dX9_fieldAt_7 rfl rfl rfl ?_
  refine p_gfr (pc' := 11) (a := 96) (k := 0) (t := 97) dX9_fieldAt_8 rfl rfl (by decide) (by decide) rfl fl_X9_7 ?_
  refine e_iconst (pc' := 12) (v := nI 0) dX9_fieldAt_11 rfl (by decide) ?_
  refine p_iald (pc' := 13) (a := 97) (k := 0) (x := nI (cn c)) dX9_fieldAt_12 rfl (rfl) (rfl) (by omega) (by decide) (r.n) ?_
  refine e_icmp_geN (pc' := 16) (tgt := 72) dX9_fieldAt_13 rfl (by decide) (by omega) (by omega) (fun hz1 => ?_) (fun hz1 => ?_)
  · refine e_dload_n (pc' := 73) dX9_fieldAt_72 rfl rfl rfl ?_
    exact e_dret dX9_fieldAt_73 rfl (MP.ret (by rw [show i = cn c by omega]; rfl) rfl) (by decide) (by decide)
  · refine e_aload_n (pc' := 17) dX9_fieldAt_16 rfl rfl rfl ?_
    refine e_iload (pc' := 19) dX9_fieldAt_17 rfl rfl ?_
    refine e_iconst (pc' := 20) (v := nI 1) dX9_fieldAt_19 rfl (by decide) ?_
    have hb1 := hw.s2 (i := i) (by omega)
    have hc1 := hw.s1 (i := i) (by omega)
    refine r_V (pc' := 23) (m' := mX9_of) (As := [.int (nI i), .int (nI 1)]) (st := []) (g_of1 (d := d) r hw (m := i) (by omega)) dX9_fieldAt_20 rfl rfl (Nat.le_of_ble_eq_true rfl) (fit_of (by omega) (by decide) (by decide) (by decide)) ml_X9_73 okX9_of rfl rfl (by decide) rfl ?_
    show EV _ _ _ _ _ 23 _ ([.int (nI (cs c (i)))]) _
    refine e_i2d (pc' := 24) dX9_fieldAt_23 rfl ?_
    refine e_iconst (pc' := 25) (v := nI 1) dX9_fieldAt_24 rfl (by decide) ?_
    refine e_aload_n (pc' := 26) dX9_fieldAt_25 rfl rfl rfl ?_
    refine e_iload (pc' := 28) dX9_fieldAt_26 rfl rfl ?_
    refine e_iconst (pc' := 29) (v := nI 0) dX9_fieldAt_28 rfl (by decide) ?_
    have hb2 := hw.p (i := i) (by omega)
    refine r_V (pc' := 32) (m' := mX9_of) (As := [.int (nI i), .int (nI 0)]) (st := [.int (nI 1), .double (FP.i2d (nI (cs c (i))))]) (g_of0 (d := d) r hw (m := i) (by omega)) dX9_fieldAt_29 rfl rfl (Nat.le_of_ble_eq_true rfl) (fit_of (by omega) (by decide) (by decide) (by decide)) ml_X9_73 okX9_of rfl rfl (by decide) rfl ?_
    show EV _ _ _ _ _ 32 _ ([.int (nI (cp c (i))), .int (nI 1), .double (FP.i2d (nI (cs c (i))))]) _
    refine e_iload_n (pc' := 33) dX9_fieldAt_32 rfl rfl rfl ?_
    refine e_isub (pc' := 34) dX9_fieldAt_33 rfl ?_
    refine r_S (pc' := 37) (m' := mX9_size) (As := [.int ((nI (cp c (i))) - (nI p))]) (st := [.int (nI 1), .double (FP.i2d (nI (cs c (i))))]) (g_size (d := d) ((nI (cp c (i))) - (nI p))) dX9_fieldAt_34 rfl rfl (Nat.le_of_ble_eq_true rfl) (fit_of (by omega) (by decide) (by decide) (by decide)) ml_X9_149 okX9_size rfl rfl ?_
    show EV _ _ _ _ _ 37 _ ([.int (if 0 ≤ ((nI (cp c (i))) - (nI p)) then ((nI (cp c (i))) - (nI p)) else -((nI (cp c (i))) - (nI p))), .int (nI 1), .double (FP.i2d (nI (cs c (i))))]) _
    rw [size_dif (p := p) (q := cp c i) (by omega) (by omega)]
    refine e_iaddN (pc' := 38) dX9_fieldAt_37 rfl ?_
    refine e_i2d (pc' := 39) dX9_fieldAt_38 rfl ?_
    refine e_ddiv (pc' := 40) dX9_fieldAt_39 rfl (vf64_of (FP.Core.DFin.notNaN (fdv_fin hw hp (by omega)))) ?_
    rw [show (FP.ddiv (FP.i2d (nI (cs c (i)))) (FP.i2d (nI (1 + (dif p (cp c i)))))) = fdv c p i from rfl]
    refine e_dstore (pc' := 42) (L' := [some (.ref (ad 96)), some (.int (nI p)), some (.double (iter (fdst c p) i FP.dconst0)), none, some (.int (nI i)), some (.double (fdv c p i)), none]) dX9_fieldAt_40 rfl (by decide) rfl ?_
    refine e_aload_n (pc' := 43) dX9_fieldAt_42 rfl rfl rfl ?_
    refine e_iload (pc' := 45) dX9_fieldAt_43 rfl rfl ?_
    refine e_iconst (pc' := 46) (v := nI 2) dX9_fieldAt_45 rfl (by decide) ?_
    have hb3 := tb_le (cw c) (i)
    refine r_V (pc' := 49) (m' := mX9_of) (As := [.int (nI i), .int (nI 2)]) (st := []) (g_of2 (d := d) r hw (m := i) (by omega)) dX9_fieldAt_46 rfl rfl (Nat.le_of_ble_eq_true rfl) (fit_of (by omega) (by decide) (by decide) (by decide)) ml_X9_73 okX9_of rfl rfl (by decide) rfl ?_
    show EV _ _ _ _ _ 49 _ ([.int (nI (((cw c).testBit (i)).toNat))]) _
    refine e_iconst (pc' := 50) (v := nI 1) dX9_fieldAt_49 rfl (by decide) ?_
    refine e_icmp_neN (pc' := 53) (tgt := 61) dX9_fieldAt_50 rfl (by decide) (by omega) (by omega) (fun hb => ?_) (fun hb => ?_)
    · refine e_dload_n (pc' := 62) dX9_fieldAt_61 rfl rfl rfl ?_
      refine e_dload (pc' := 64) dX9_fieldAt_62 rfl rfl ?_
      refine e_dsub (pc' := 65) dX9_fieldAt_64 rfl (vf64_of (FP.Core.dsub_out (fld_nn hw hp i hi) (fdv_fin hw hp (by omega)))) ?_
      refine e_dstore_n (pc' := 66) (L' := [some (.ref (ad 96)), some (.int (nI p)), some (.double (FP.dsub (iter (fdst c p) i FP.dconst0) (fdv c p i))), none, some (.int (nI i)), some (.double (fdv c p i)), none]) dX9_fieldAt_65 rfl rfl (by decide) rfl ?_
      refine e_iincN (pc' := 69) (k := 1) (L' := [some (.ref (ad 96)), some (.int (nI p)), some (.double (FP.dsub (iter (fdst c p) i FP.dconst0) (fdv c p i))), none, some (.int (nI (i + 1))), some (.double (fdv c p i)), none]) dX9_fieldAt_66 rfl rfl rfl (by decide) rfl ?_
      refine e_goto (tgt := 5) dX9_fieldAt_69 (by decide) ?_
      refine e_fg (i := 5) (L' := [some (.ref (ad 96)), some (.int (nI p)), some (.double (FP.dsub (iter (fdst c p) i FP.dconst0) (fdv c p i))), none, some (.int (nI (i + 1))), none, none]) rfl ?_
      have e : iter (fdst c p) (i + 1) FP.dconst0 = FP.dsub (iter (fdst c p) i FP.dconst0) (fdv c p i) := (show fdst c p i _ = _ from if_neg (fun q => hb (tn_one.mpr q)))
      exact ih (by omega) |> fun q => by rw [e] at q; exact q
    · refine e_dload_n (pc' := 54) dX9_fieldAt_53 rfl rfl rfl ?_
      refine e_dload (pc' := 56) dX9_fieldAt_54 rfl rfl ?_
      refine e_dadd (pc' := 57) dX9_fieldAt_56 rfl (vf64_of (FP.Core.dadd_out (fld_nn hw hp i hi) (fdv_fin hw hp (by omega)))) ?_
      refine e_dstore_n (pc' := 58) (L' := [some (.ref (ad 96)), some (.int (nI p)), some (.double (FP.dadd (iter (fdst c p) i FP.dconst0) (fdv c p i))), none, some (.int (nI i)), some (.double (fdv c p i)), none]) dX9_fieldAt_57 rfl rfl (by decide) rfl ?_
      refine e_goto (tgt := 66) dX9_fieldAt_58 (by decide) ?_
      refine e_iincN (pc' := 69) (k := 1) (L' := [some (.ref (ad 96)), some (.int (nI p)), some (.double (FP.dadd (iter (fdst c p) i FP.dconst0) (fdv c p i))), none, some (.int (nI (i + 1))), some (.double (fdv c p i)), none]) dX9_fieldAt_66 rfl rfl rfl (by decide) rfl ?_
      refine e_goto (tgt := 5) dX9_fieldAt_69 (by decide) ?_
      refine e_fg (i := 5) (L' := [some (.ref (ad 96)), some (.int (nI p)), some (.double (FP.dadd (iter (fdst c p) i FP.dconst0) (fdv c p i))), none, some (.int (nI (i + 1))), none, none]) rfl ?_
      have e : iter (fdst c p) (i + 1) FP.dconst0 = FP.dadd (iter (fdst c p) i FP.dconst0) (fdv c p i) := (show fdst c p i _ = _ from if_pos (tn_one.mp hb))
      exact ih (by omega) |> fun q => by rw [e] at q; exact q)
theorem g_field (r : RowAt M 97 0 c) (hw : WF c) {p : Nat} (hp : p < 100) : RET G ad (d + 1) mX9_fieldAt [.ref (ad 96), .int (nI p)] (M, o) (some (.double (fld c p))) (M, o) := by
  refine CM_of rfl (by decide) rfl (Nat.le_of_ble_eq_true rfl) rfl ?_
  have hn := hw.n
  have hk := hw.k
  have hw9 := hw.w9
  refine e_dconst0 (pc' := 1) dX9_fieldAt_0 rfl ?_
  refine e_dstore_n (pc' := 2) (L' := [some (.ref (ad 96)), some (.int (nI p)), some (.double (FP.dconst0)), none, none, none, none]) dX9_fieldAt_1 rfl rfl (by decide) rfl ?_
  refine e_iconst (pc' := 3) (v := nI 0) dX9_fieldAt_2 rfl (by decide) ?_
  refine e_istore (pc' := 5) (L' := [some (.ref (ad 96)), some (.int (nI p)), some (.double (FP.dconst0)), none, some (.int (nI 0)), none, none]) dX9_fieldAt_3 rfl (by decide) rfl ?_
  exact gl_field r hw hp 0 (by omega)
end T32

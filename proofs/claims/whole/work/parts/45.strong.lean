set_option maxHeartbeats 400000
/-! THE REFERENCE: the strongest field, shares -/
theorem dsub0 {x : UInt64} (hn : FP.Core.dIsNaN x = false) (hx : ¬ x = 0) : FP.dsub FP.dconst0 x = FP.dneg x := by
  have hv := (FP.Core.notNaN_iff x).mp hn
  rw [FP.dneg_core hn]
  show FP.Core.dsub FP.Core.dconst0 x = FP.Core.dneg x
  rw [FP.Core.dsub_eq, FP.Core.dadd_comm, FP.Core.dadd_zero]
  · rw [FP.Core.val64_dneg]; exact FP.Core.negate_ne_nan hv
  · intro e
    apply hx
    rw [← FP.Core.dneg_dneg hv, e]
    decide +kernel
def ung (x : UInt64) : UInt64 := if 0 ≤ Op.cmpValue (FP.dcmp x FP.dconst0) .g then x else FP.dneg x
theorem ung_ne {x : UInt64} (h : ¬ 0 ≤ Op.cmpValue (FP.dcmp x FP.dconst0) .g) : ¬ x = 0 := fun e => h (by subst e; decide +kernel)
theorem dneg_nn {x : UInt64} (h : FP.Core.dIsNaN x = false) : FP.Core.dIsNaN (FP.dneg x) = false := (FP.dneg_nan x).trans h
theorem EVM_ofD {G : gC} {m : MD} {P : PQ} {K : Nat × Nat} {d : Nat} {w : va_W} {x : UInt64} (hh : m.2.2.2.2 = []) (hy : plainName m.1.cls = true) (hn : m.2.2.1 = 2) (k : EV G (rmK d K) m (mQ G P K) (0, 0) 0 [some (.double x), none] [] w) : EVM G d m K [.double x] w P := by
  refine vx_ofW (cc := m.2.1) (maxL := m.2.2.1) (ret := m.2.2.2.1) (ws' := wG) hy (by rw [cwd_plain hh]) ?_
  intro p e s mid args below meth c s₁ B hml ht hv
  obtain ⟨rfl, hC, hP, hD⟩ := hv
  have hts := atoms_spec (ws := cwd m :: wG) B.pre
  rw [lg_entry_eq]
  have hl : lvp ((lg_sl [Value.double x] ++ List.replicate (m.2.2.1 - (lg_sl [Value.double x]).length) Slot.unset).toArray) m.2.2.1 [some (.double x), none] := by
    have h := lv_entry [Value.double x] (n := m.2.2.1) (by rw [hn]; exact Nat.le_of_eq rfl)
    refine ⟨h.1, h.2.1, fun i v hi => ?_⟩
    match i, hi with
    | 0, hi => cases hi; exact h.2.2 (0, .double x) (by simp [lv_args])
    | 1, hi => cases hi
  refine k p e s mid [Value.double x].toArray below meth c s.heap [] _ ⟨B.exec, B.bytes, B.returns, hml, findClass_of_methodNamed B.named, fun x hx => hts x (List.mem_cons_of_mem _ hx), B.notSynchronized, hC, ?_, (name_of_methodNamed B.named B.method).1⟩ hP hD va_S.rf hl
  rw [hh]
  cases hq : c.exceptionTable.toList with
  | nil => rfl
  | cons a l => exact (ht a (by rw [hq]; exact List.mem_cons_self)).elim
section T45
variable {G : gC} {ad : Nat → Nat} {d : Nat} {M : Nat → Nat → Int32} {o : (Nat → Int64) × (Nat → UInt64)} {c : Col}
theorem g_strong {x : UInt64} (hn : FP.Core.dIsNaN x = false) : RET G ad d mX9_strong [.double x] (M, o) (some (.double (ung x))) (M, o) := by
  refine EVM_ofD rfl (by decide) rfl ?_
  refine e_dload_n (pc' := 1) dX9_strong_0 rfl rfl rfl ?_
  refine e_dconst0 (pc' := 2) dX9_strong_1 rfl ?_
  refine e_dcmp (pc' := 3) dX9_strong_2 rfl ?_
  refine e_if_ge (pc' := 6) (tgt := 12) dX9_strong_3 rfl (by decide) (fun h1 => ?_) (fun h1 => ?_)
  · refine e_dload_n (pc' := 13) dX9_strong_12 rfl rfl rfl ?_
    exact e_dret dX9_strong_13 rfl (MP.ret (congrArg (fun z => some (Value.double z)) (by unfold ung; first | rw [if_pos h1] | rw [if_neg h1, dsub0 hn (ung_ne h1)])) rfl) (by decide) (by decide)
  · refine e_dconst0 (pc' := 7) dX9_strong_6 rfl ?_
    refine e_dload_n (pc' := 8) dX9_strong_7 rfl rfl rfl ?_
    refine e_dsub (pc' := 9) dX9_strong_8 rfl (by rw [dsub0 hn (ung_ne h1)]; exact vf64_of (dneg_nn hn)) ?_
    refine e_goto (tgt := 13) dX9_strong_9 (by decide) ?_
    exact e_dret dX9_strong_13 rfl (MP.ret (congrArg (fun z => some (Value.double z)) (by unfold ung; first | rw [if_pos h1] | rw [if_neg h1, dsub0 hn (ung_ne h1)])) rfl) (by decide) (by decide)
theorem fld_n (hw : WF c) {p : Nat} (hp : p < 100) : FP.Core.dIsNaN (fld c p) = false := fld_nn hw hp (cn c) (Nat.le_refl _)
theorem psF_t (h0 : ¬ cn c = 0) : psF c = some (psf c 99) := if_neg h0
theorem psF_n (h0 : cn c = 0) : psF c = none := if_pos h0
theorem gl_spos {M1 : Nat → Nat → Int32} (hq : QR 0 M M1) (r1 : RowAt M1 97 0 c) (hw : WF c) : ∀ i, i ≤ 99 → ER G ad (d + 3) mX9_strongestPosition (0, 0) (PI (some (.int (nI (psf c 99)))) o (QR 0 M)) (0, 0) 27 [some (.ref (ad 96)), some (.int (nI (psf c i))), some (.int (nI (i + 1)))] [] (M1, o) := down (99) _ (fun i hi ih  => by
  have hps := psf_le (c := c) i
  have hn := hw.n
  refine e_iload_n (pc' := 28) dX9_strongestPosition_27 rfl rfl rfl ?_
  refine e_bipush (pc' := 30) (v := nI 99) dX9_strongestPosition_28 rfl (by decide) ?_
  refine e_icmp_gtN (pc' := 33) (tgt := 61) dX9_strongestPosition_30 rfl (by decide) (by omega) (by omega) (fun hz1 => ?_) (fun hz1 => ?_)
  · refine e_iload_n (pc' := 62) dX9_strongestPosition_61 rfl rfl rfl ?_
    exact e_iret dX9_strongestPosition_62 rfl (by
      obtain rfl : i = 99 := by omega
      exact MP.retI rfl hq) (by decide) (by decide)
  · refine e_aload_n (pc' := 34) dX9_strongestPosition_33 rfl rfl rfl ?_
    refine e_iload_n (pc' := 35) dX9_strongestPosition_34 rfl rfl rfl ?_
    refine r_V (pc' := 38) (m' := mX9_fieldAt) (As := [.int (nI (i + 1))]) (st := []) (g_field (d := d) r1 hw (p := i + 1) (by omega)) dX9_strongestPosition_35 rfl rfl (Nat.le_of_ble_eq_true rfl) (fit_of (by omega) (by decide) (by decide) (by decide)) ml_X9_152 okX9_fieldAt rfl rfl (by decide) rfl ?_
    show EV _ _ _ _ _ 38 _ ([.double (fld c (i + 1))]) _
    refine r_S (pc' := 41) (m' := mX9_strong) (As := [.double (fld c (i + 1))]) (st := []) (g_strong (d := d) (fld_n hw (p := (i + 1)) (by omega))) dX9_strongestPosition_38 rfl rfl (Nat.le_of_ble_eq_true rfl) (fit_of (by omega) (by decide) (by decide) (by decide)) ml_X9_156 okX9_strong rfl rfl ?_
    show EV _ _ _ _ _ 41 _ ([.double (ufl c (i + 1))]) _
    refine e_aload_n (pc' := 42) dX9_strongestPosition_41 rfl rfl rfl ?_
    refine e_iload_n (pc' := 43) dX9_strongestPosition_42 rfl rfl rfl ?_
    refine r_V (pc' := 46) (m' := mX9_fieldAt) (As := [.int (nI (psf c i))]) (st := [.double (ufl c (i + 1))]) (g_field (d := d) r1 hw (p := psf c i) (by omega)) dX9_strongestPosition_43 rfl rfl (Nat.le_of_ble_eq_true rfl) (fit_of (by omega) (by decide) (by decide) (by decide)) ml_X9_152 okX9_fieldAt rfl rfl (by decide) rfl ?_
    show EV _ _ _ _ _ 46 _ ([.double (fld c (psf c i)), .double (ufl c (i + 1))]) _
    refine r_S (pc' := 49) (m' := mX9_strong) (As := [.double (fld c (psf c i))]) (st := [.double (ufl c (i + 1))]) (g_strong (d := d) (fld_n hw (p := (psf c i)) (by omega))) dX9_strongestPosition_46 rfl rfl (Nat.le_of_ble_eq_true rfl) (fit_of (by omega) (by decide) (by decide) (by decide)) ml_X9_156 okX9_strong rfl rfl ?_
    show EV _ _ _ _ _ 49 _ ([.double (ufl c (psf c i)), .double (ufl c (i + 1))]) _
    refine e_dcmp (pc' := 50) dX9_strongestPosition_49 rfl ?_
    refine e_if_le (pc' := 53) (tgt := 55) dX9_strongestPosition_50 rfl (by decide) (fun h1 => ?_) (fun h1 => ?_)
    · refine e_iincN (pc' := 58) (k := 1) (L' := [some (.ref (ad 96)), some (.int (nI (psf c i))), some (.int (nI (i + 1 + 1)))]) dX9_strongestPosition_55 rfl rfl rfl (by decide) rfl ?_
      refine e_goto (tgt := 27) dX9_strongestPosition_58 (by decide) ?_
      have e : psf c (i + 1) = psf c i := if_pos h1
      exact ih (by omega) |> fun q => by rw [e] at q; exact q
    · refine e_iload_n (pc' := 54) dX9_strongestPosition_53 rfl rfl rfl ?_
      refine e_istore_n (pc' := 55) (L' := [some (.ref (ad 96)), some (.int (nI (i + 1))), some (.int (nI (i + 1)))]) dX9_strongestPosition_54 rfl rfl (by decide) rfl ?_
      refine e_iincN (pc' := 58) (k := 1) (L' := [some (.ref (ad 96)), some (.int (nI (i + 1))), some (.int (nI (i + 1 + 1)))]) dX9_strongestPosition_55 rfl rfl rfl (by decide) rfl ?_
      refine e_goto (tgt := 27) dX9_strongestPosition_58 (by decide) ?_
      have e : psf c (i + 1) = i + 1 := if_neg h1
      exact ih (by omega) |> fun q => by rw [e] at q; exact q)
theorem g_spos (r : RowAt M 97 0 c) (hw : WF c) (h0 : ¬ cn c = 0) : RETI G ad (d + 3) mX9_strongestPosition [.ref (ad 96)] (M, o) (some (.int (nI (psf c 99)))) (QR 0 M) := by
  refine CM_of rfl (by decide) rfl (Nat.le_of_ble_eq_true rfl) rfl ?_
  have hn := hw.n
  have hk := hw.k
  have hw9 := hw.w9
  refine e_aload_n (pc' := 1) dX9_strongestPosition_0 rfl rfl rfl ?_
  refine e_aload_n (pc' := 2) dX9_strongestPosition_1 rfl rfl rfl ?_
  refine p_gfr (pc' := 5) (a := 96) (k := 0) (t := 97) dX9_strongestPosition_2 rfl rfl (by decide) (by decide) rfl fl_X9_7 ?_
  refine e_iconst (pc' := 6) (v := nI 0) dX9_strongestPosition_5 rfl (by decide) ?_
  refine p_iald (pc' := 7) (a := 97) (k := 0) (x := nI (cn c)) dX9_strongestPosition_6 rfl (rfl) (rfl) (by omega) (by decide) (r.n) ?_
  refine e_if_neN (pc' := 10) (tgt := 14) dX9_strongestPosition_7 rfl (by decide) (by omega) (fun hz1 => ?_) (fun hz1 => absurd hz1 (h0))
  refine e_iconst (pc' := 15) (v := nI 0) dX9_strongestPosition_14 rfl (by decide) ?_
  refine r_V (pc' := 18) (m' := mX9_fails) (As := [.int (nI 0)]) (st := []) (g_fails (d := d) (p := 0) (by omega)) dX9_strongestPosition_15 rfl rfl (Nat.le_of_ble_eq_true rfl) (fit_of (by omega) (by decide) (by decide) (by decide)) ml_X9_70 okX9_fails rfl rfl (by decide) rfl ?_
  show EV _ _ _ _ _ 18 _ ([.int (bI (decide (0 < 0)))]) _
  refine e_if_eqB (pc' := 21) (tgt := 23) dX9_strongestPosition_18 rfl (by decide) (fun hz2 => ?_) (fun hz2 => absurd hz2 (by decide))
  refine e_iconst (pc' := 24) (v := nI 0) dX9_strongestPosition_23 rfl (by decide) ?_
  refine e_istore_n (pc' := 25) (L' := [some (.ref (ad 96)), some (.int (nI 0)), none]) dX9_strongestPosition_24 rfl rfl (by decide) rfl ?_
  refine e_iconst (pc' := 26) (v := nI 1) dX9_strongestPosition_25 rfl (by decide) ?_
  have r1 : RowAt (up2 (up2 M 96 8 (nI 0)) 96 7 (nI 0)) 97 0 c := ((r.up (by decide)).up (by decide))
  refine e_istore_n (pc' := 27) (L' := [some (.ref (ad 96)), some (.int (nI 0)), some (.int (nI 1))]) dX9_strongestPosition_26 rfl rfl (by decide) rfl ?_
  exact gl_spos QR.f r1 hw 0 (by omega)
theorem g_spos_n (r : RowAt M 97 0 c) (hw : WF c) (h0 : cn c = 0) : RETI G ad (d + 3) mX9_strongestPosition [.ref (ad 96)] (M, o) (some (.int (nI 0))) (QR 1 M) := by
  refine CM_of rfl (by decide) rfl (Nat.le_of_ble_eq_true rfl) rfl ?_
  have hn := hw.n
  have hk := hw.k
  have hw9 := hw.w9
  refine e_aload_n (pc' := 1) dX9_strongestPosition_0 rfl rfl rfl ?_
  refine e_aload_n (pc' := 2) dX9_strongestPosition_1 rfl rfl rfl ?_
  refine p_gfr (pc' := 5) (a := 96) (k := 0) (t := 97) dX9_strongestPosition_2 rfl rfl (by decide) (by decide) rfl fl_X9_7 ?_
  refine e_iconst (pc' := 6) (v := nI 0) dX9_strongestPosition_5 rfl (by decide) ?_
  refine p_iald (pc' := 7) (a := 97) (k := 0) (x := nI (cn c)) dX9_strongestPosition_6 rfl (rfl) (rfl) (by omega) (by decide) (r.n) ?_
  refine e_if_neN (pc' := 10) (tgt := 14) dX9_strongestPosition_7 rfl (by decide) (by omega) (fun hz1 => absurd hz1 (not_not_intro h0)) (fun hz1 => ?_)
  refine e_iconst (pc' := 11) (v := nI 1) dX9_strongestPosition_10 rfl (by decide) ?_
  refine e_goto (tgt := 15) dX9_strongestPosition_11 (by decide) ?_
  refine r_V (pc' := 18) (m' := mX9_fails) (As := [.int (nI 1)]) (st := []) (g_fails (d := d) (p := 1) (by omega)) dX9_strongestPosition_15 rfl rfl (Nat.le_of_ble_eq_true rfl) (fit_of (by omega) (by decide) (by decide) (by decide)) ml_X9_70 okX9_fails rfl rfl (by decide) rfl ?_
  show EV _ _ _ _ _ 18 _ ([.int (bI (decide (0 < 1)))]) _
  refine e_if_eqB (pc' := 21) (tgt := 23) dX9_strongestPosition_18 rfl (by decide) (fun hz2 => absurd hz2 (by decide)) (fun hz2 => ?_)
  refine e_iconst (pc' := 22) (v := nI 0) dX9_strongestPosition_21 rfl (by decide) ?_
  exact e_iret dX9_strongestPosition_22 rfl (MP.retI (rfl) QR.f) (by decide) (by decide)
theorem gl_queen {M1 : Nat → Nat → Int32} (hq : QR 0 M M1) (r1 : RowAt M1 97 0 c) (hw : WF c) (h0 : ¬ cn c = 0) : ∀ i, i ≤ cn c - 1 → ∀ (b : Nat), mif c (i + 1) = some b → ER G ad (d + 3) mX9_queen (0, 0) (PI (some (.int (oI (mif c (cn c))))) o (QR 0 M)) (0, 0) 27 [some (.ref (ad 96)), some (.int (nI b)), some (.int (nI (i + 1)))] [] (M1, o) := down (cn c - 1) _ (fun i hi ih b hb => by
  have hbl := mif_lt _ _ hb
  have hn := hw.n
  refine e_iload_n (pc' := 28) dX9_queen_27 rfl rfl rfl ?_
  refine e_aload_n (pc' := 29) dX9_queen_28 rfl rfl rfl ?_
  refine p_gfr (pc' := 32) (a := 96) (k := 0) (t := 97) dX9_queen_29 rfl rfl (by decide) (by decide) rfl fl_X9_7 ?_
  refine e_iconst (pc' := 33) (v := nI 0) dX9_queen_32 rfl (by decide) ?_
  refine p_iald (pc' := 34) (a := 97) (k := 0) (x := nI (cn c)) dX9_queen_33 rfl (rfl) (rfl) (by omega) (by decide) (r1.n) ?_
  refine e_icmp_geN (pc' := 37) (tgt := 75) dX9_queen_34 rfl (by decide) (by omega) (by omega) (fun hz1 => ?_) (fun hz1 => ?_)
  · refine e_iload_n (pc' := 76) dX9_queen_75 rfl rfl rfl ?_
    exact e_iret dX9_queen_76 rfl (by
      have e9 : mif c (cn c) = some b := by rw [show cn c = i + 1 by omega]; exact hb
      rw [e9]
      exact MP.retI rfl hq) (by decide) (by decide)
  · refine e_aload_n (pc' := 38) dX9_queen_37 rfl rfl rfl ?_
    refine e_aload_n (pc' := 39) dX9_queen_38 rfl rfl rfl ?_
    refine e_iload_n (pc' := 40) dX9_queen_39 rfl rfl rfl ?_
    refine e_iconst (pc' := 41) (v := nI 0) dX9_queen_40 rfl (by decide) ?_
    have hb1 := hw.p (i := i + 1) (by omega)
    refine r_V (pc' := 44) (m' := mX9_of) (As := [.int (nI (i + 1)), .int (nI 0)]) (st := [.ref (ad 96)]) (g_of0 (d := d) r1 hw (m := i + 1) (by omega)) dX9_queen_41 rfl rfl (Nat.le_of_ble_eq_true rfl) (fit_of (by omega) (by decide) (by decide) (by decide)) ml_X9_73 okX9_of rfl rfl (by decide) rfl ?_
    show EV _ _ _ _ _ 44 _ ([.int (nI (cp c (i + 1))), .ref (ad 96)]) _
    refine r_V (pc' := 47) (m' := mX9_fieldAt) (As := [.int (nI (cp c (i + 1)))]) (st := []) (g_field (d := d) r1 hw (p := cp c (i + 1)) (by omega)) dX9_queen_44 rfl rfl (Nat.le_of_ble_eq_true rfl) (fit_of (by omega) (by decide) (by decide) (by decide)) ml_X9_152 okX9_fieldAt rfl rfl (by decide) rfl ?_
    show EV _ _ _ _ _ 47 _ ([.double (fld c (cp c (i + 1)))]) _
    refine r_S (pc' := 50) (m' := mX9_strong) (As := [.double (fld c (cp c (i + 1)))]) (st := []) (g_strong (d := d) (fld_n hw (p := (cp c (i + 1))) (by omega))) dX9_queen_47 rfl rfl (Nat.le_of_ble_eq_true rfl) (fit_of (by omega) (by decide) (by decide) (by decide)) ml_X9_156 okX9_strong rfl rfl ?_
    show EV _ _ _ _ _ 50 _ ([.double (ufl c (cp c (i + 1)))]) _
    refine e_aload_n (pc' := 51) dX9_queen_50 rfl rfl rfl ?_
    refine e_aload_n (pc' := 52) dX9_queen_51 rfl rfl rfl ?_
    refine e_iload_n (pc' := 53) dX9_queen_52 rfl rfl rfl ?_
    refine e_iconst (pc' := 54) (v := nI 0) dX9_queen_53 rfl (by decide) ?_
    have hb2 := hw.p (i := b) (by omega)
    refine r_V (pc' := 57) (m' := mX9_of) (As := [.int (nI b), .int (nI 0)]) (st := [.ref (ad 96), .double (ufl c (cp c (i + 1)))]) (g_of0 (d := d) r1 hw (m := b) (by omega)) dX9_queen_54 rfl rfl (Nat.le_of_ble_eq_true rfl) (fit_of (by omega) (by decide) (by decide) (by decide)) ml_X9_73 okX9_of rfl rfl (by decide) rfl ?_
    show EV _ _ _ _ _ 57 _ ([.int (nI (cp c (b))), .ref (ad 96), .double (ufl c (cp c (i + 1)))]) _
    refine r_V (pc' := 60) (m' := mX9_fieldAt) (As := [.int (nI (cp c (b)))]) (st := [.double (ufl c (cp c (i + 1)))]) (g_field (d := d) r1 hw (p := cp c (b)) (by omega)) dX9_queen_57 rfl rfl (Nat.le_of_ble_eq_true rfl) (fit_of (by omega) (by decide) (by decide) (by decide)) ml_X9_152 okX9_fieldAt rfl rfl (by decide) rfl ?_
    show EV _ _ _ _ _ 60 _ ([.double (fld c (cp c (b))), .double (ufl c (cp c (i + 1)))]) _
    refine r_S (pc' := 63) (m' := mX9_strong) (As := [.double (fld c (cp c (b)))]) (st := [.double (ufl c (cp c (i + 1)))]) (g_strong (d := d) (fld_n hw (p := (cp c (b))) (by omega))) dX9_queen_60 rfl rfl (Nat.le_of_ble_eq_true rfl) (fit_of (by omega) (by decide) (by decide) (by decide)) ml_X9_156 okX9_strong rfl rfl ?_
    show EV _ _ _ _ _ 63 _ ([.double (ufl c (cp c (b))), .double (ufl c (cp c (i + 1)))]) _
    refine e_dcmp (pc' := 64) dX9_queen_63 rfl ?_
    refine e_if_le (pc' := 67) (tgt := 69) dX9_queen_64 rfl (by decide) (fun h1 => ?_) (fun h1 => ?_)
    · refine e_iincN (pc' := 72) (k := 1) (L' := [some (.ref (ad 96)), some (.int (nI b)), some (.int (nI (i + 1 + 1)))]) dX9_queen_69 rfl rfl rfl (by decide) rfl ?_
      refine e_goto (tgt := 27) dX9_queen_72 (by decide) ?_
      have e : mif c (i + 1 + 1) = some b := by
        show (match mif c (i + 1) with | none => some (i + 1) | some b => if Op.cmpValue (FP.dcmp (ufl c (cp c (i + 1))) (ufl c (cp c b))) .l ≤ 0 then some b else some (i + 1)) = _
        rw [hb]; exact if_pos h1
      exact ih (by omega) b e
    · refine e_iload_n (pc' := 68) dX9_queen_67 rfl rfl rfl ?_
      refine e_istore_n (pc' := 69) (L' := [some (.ref (ad 96)), some (.int (nI (i + 1))), some (.int (nI (i + 1)))]) dX9_queen_68 rfl rfl (by decide) rfl ?_
      refine e_iincN (pc' := 72) (k := 1) (L' := [some (.ref (ad 96)), some (.int (nI (i + 1))), some (.int (nI (i + 1 + 1)))]) dX9_queen_69 rfl rfl rfl (by decide) rfl ?_
      refine e_goto (tgt := 27) dX9_queen_72 (by decide) ?_
      have e : mif c (i + 1 + 1) = some (i + 1) := by
        show (match mif c (i + 1) with | none => some (i + 1) | some b => if Op.cmpValue (FP.dcmp (ufl c (cp c (i + 1))) (ufl c (cp c b))) .l ≤ 0 then some b else some (i + 1)) = _
        rw [hb]; exact if_neg h1
      exact ih (by omega) (i + 1) e)
theorem g_queen (r : RowAt M 97 0 c) (hw : WF c) (h0 : ¬ cn c = 0) : RETI G ad (d + 3) mX9_queen [.ref (ad 96)] (M, o) (some (.int (oI (mif c (cn c))))) (QR 0 M) := by
  refine CM_of rfl (by decide) rfl (Nat.le_of_ble_eq_true rfl) rfl ?_
  have hn := hw.n
  have hk := hw.k
  have hw9 := hw.w9
  refine e_aload_n (pc' := 1) dX9_queen_0 rfl rfl rfl ?_
  refine e_aload_n (pc' := 2) dX9_queen_1 rfl rfl rfl ?_
  refine p_gfr (pc' := 5) (a := 96) (k := 0) (t := 97) dX9_queen_2 rfl rfl (by decide) (by decide) rfl fl_X9_7 ?_
  refine e_iconst (pc' := 6) (v := nI 0) dX9_queen_5 rfl (by decide) ?_
  refine p_iald (pc' := 7) (a := 97) (k := 0) (x := nI (cn c)) dX9_queen_6 rfl (rfl) (rfl) (by omega) (by decide) (r.n) ?_
  refine e_if_neN (pc' := 10) (tgt := 14) dX9_queen_7 rfl (by decide) (by omega) (fun hz1 => ?_) (fun hz1 => absurd hz1 (h0))
  refine e_iconst (pc' := 15) (v := nI 0) dX9_queen_14 rfl (by decide) ?_
  refine r_V (pc' := 18) (m' := mX9_fails) (As := [.int (nI 0)]) (st := []) (g_fails (d := d) (p := 0) (by omega)) dX9_queen_15 rfl rfl (Nat.le_of_ble_eq_true rfl) (fit_of (by omega) (by decide) (by decide) (by decide)) ml_X9_70 okX9_fails rfl rfl (by decide) rfl ?_
  show EV _ _ _ _ _ 18 _ ([.int (bI (decide (0 < 0)))]) _
  refine e_if_eqB (pc' := 21) (tgt := 23) dX9_queen_18 rfl (by decide) (fun hz2 => ?_) (fun hz2 => absurd hz2 (by decide))
  refine e_iconst (pc' := 24) (v := nI 0) dX9_queen_23 rfl (by decide) ?_
  refine e_istore_n (pc' := 25) (L' := [some (.ref (ad 96)), some (.int (nI 0)), none]) dX9_queen_24 rfl rfl (by decide) rfl ?_
  refine e_iconst (pc' := 26) (v := nI 1) dX9_queen_25 rfl (by decide) ?_
  have r1 : RowAt (up2 (up2 M 96 8 (nI 0)) 96 7 (nI 0)) 97 0 c := ((r.up (by decide)).up (by decide))
  refine e_istore_n (pc' := 27) (L' := [some (.ref (ad 96)), some (.int (nI 0)), some (.int (nI 1))]) dX9_queen_26 rfl rfl (by decide) rfl ?_
  exact gl_queen QR.f r1 hw h0 0 (by omega) 0 rfl
theorem g_queen_n (r : RowAt M 97 0 c) (hw : WF c) (h0 : cn c = 0) : RETI G ad (d + 3) mX9_queen [.ref (ad 96)] (M, o) (some (.int (nI 0))) (QR 1 M) := by
  refine CM_of rfl (by decide) rfl (Nat.le_of_ble_eq_true rfl) rfl ?_
  have hn := hw.n
  have hk := hw.k
  have hw9 := hw.w9
  refine e_aload_n (pc' := 1) dX9_queen_0 rfl rfl rfl ?_
  refine e_aload_n (pc' := 2) dX9_queen_1 rfl rfl rfl ?_
  refine p_gfr (pc' := 5) (a := 96) (k := 0) (t := 97) dX9_queen_2 rfl rfl (by decide) (by decide) rfl fl_X9_7 ?_
  refine e_iconst (pc' := 6) (v := nI 0) dX9_queen_5 rfl (by decide) ?_
  refine p_iald (pc' := 7) (a := 97) (k := 0) (x := nI (cn c)) dX9_queen_6 rfl (rfl) (rfl) (by omega) (by decide) (r.n) ?_
  refine e_if_neN (pc' := 10) (tgt := 14) dX9_queen_7 rfl (by decide) (by omega) (fun hz1 => absurd hz1 (not_not_intro h0)) (fun hz1 => ?_)
  refine e_iconst (pc' := 11) (v := nI 1) dX9_queen_10 rfl (by decide) ?_
  refine e_goto (tgt := 15) dX9_queen_11 (by decide) ?_
  refine r_V (pc' := 18) (m' := mX9_fails) (As := [.int (nI 1)]) (st := []) (g_fails (d := d) (p := 1) (by omega)) dX9_queen_15 rfl rfl (Nat.le_of_ble_eq_true rfl) (fit_of (by omega) (by decide) (by decide) (by decide)) ml_X9_70 okX9_fails rfl rfl (by decide) rfl ?_
  show EV _ _ _ _ _ 18 _ ([.int (bI (decide (0 < 1)))]) _
  refine e_if_eqB (pc' := 21) (tgt := 23) dX9_queen_18 rfl (by decide) (fun hz2 => absurd hz2 (by decide)) (fun hz2 => ?_)
  refine e_iconst (pc' := 22) (v := nI 0) dX9_queen_21 rfl (by decide) ?_
  exact e_iret dX9_queen_22 rfl (MP.retI (rfl) QR.f) (by decide) (by decide)
theorem gl_mean {M1 : Nat → Nat → Int32} (hq : QR 0 M M1) (r1 : RowAt M1 97 0 c) (hw : WF c) (h0 : ¬ cn c = 0) : ∀ i, i ≤ cn c → ER G ad (d + 3) mX9_meanStrength (0, 0) (PI (some (.double (meanF c))) o (QR 0 M)) (0, 0) 27 [some (.ref (ad 96)), some (.int (nI (summ (cs c) i))), some (.int (nI i))] [] (M1, o) := down (cn c) _ (fun i hi ih  => by
  have hn := hw.n
  refine e_iload_n (pc' := 28) dX9_meanStrength_27 rfl rfl rfl ?_
  refine e_aload_n (pc' := 29) dX9_meanStrength_28 rfl rfl rfl ?_
  refine p_gfr (pc' := 32) (a := 96) (k := 0) (t := 97) dX9_meanStrength_29 rfl rfl (by decide) (by decide) rfl fl_X9_7 ?_
  refine e_iconst (pc' := 33) (v := nI 0) dX9_meanStrength_32 rfl (by decide) ?_
  refine p_iald (pc' := 34) (a := 97) (k := 0) (x := nI (cn c)) dX9_meanStrength_33 rfl (rfl) (rfl) (by omega) (by decide) (r1.n) ?_
  refine e_icmp_geN (pc' := 37) (tgt := 52) dX9_meanStrength_34 rfl (by decide) (by omega) (by omega) (fun hz1 => ?_) (fun hz1 => ?_)
  · refine e_iload_n (pc' := 53) dX9_meanStrength_52 rfl rfl rfl ?_
    refine e_i2d (pc' := 54) dX9_meanStrength_53 rfl ?_
    refine e_aload_n (pc' := 55) dX9_meanStrength_54 rfl rfl rfl ?_
    refine p_gfr (pc' := 58) (a := 96) (k := 0) (t := 97) dX9_meanStrength_55 rfl rfl (by decide) (by decide) rfl fl_X9_7 ?_
    refine e_iconst (pc' := 59) (v := nI 0) dX9_meanStrength_58 rfl (by decide) ?_
    refine p_iald (pc' := 60) (a := 97) (k := 0) (x := nI (cn c)) dX9_meanStrength_59 rfl (rfl) (rfl) (by omega) (by decide) (r1.n) ?_
    refine e_i2d (pc' := 61) dX9_meanStrength_60 rfl ?_
    refine e_ddiv (pc' := 62) dX9_meanStrength_61 rfl (vf64_of (FP.Core.DFin.notNaN (ddiv_fin (by omega) (by omega)))) ?_
    exact e_dret dX9_meanStrength_62 rfl (by
      obtain rfl : i = cn c := by omega
      exact MP.retI rfl hq) (by decide) (by decide)
  · refine e_iload_n (pc' := 38) dX9_meanStrength_37 rfl rfl rfl ?_
    refine e_aload_n (pc' := 39) dX9_meanStrength_38 rfl rfl rfl ?_
    refine e_iload_n (pc' := 40) dX9_meanStrength_39 rfl rfl rfl ?_
    refine e_iconst (pc' := 41) (v := nI 1) dX9_meanStrength_40 rfl (by decide) ?_
    have hb1 := hw.s2 (i := i) (by omega)
    have hc1 := hw.s1 (i := i) (by omega)
    refine r_V (pc' := 44) (m' := mX9_of) (As := [.int (nI i), .int (nI 1)]) (st := [.int (nI (summ (cs c) i))]) (g_of1 (d := d) r1 hw (m := i) (by omega)) dX9_meanStrength_41 rfl rfl (Nat.le_of_ble_eq_true rfl) (fit_of (by omega) (by decide) (by decide) (by decide)) ml_X9_73 okX9_of rfl rfl (by decide) rfl ?_
    show EV _ _ _ _ _ 44 _ ([.int (nI (cs c (i))), .int (nI (summ (cs c) i))]) _
    refine e_iaddN (pc' := 45) dX9_meanStrength_44 rfl ?_
    refine e_istore_n (pc' := 46) (L' := [some (.ref (ad 96)), some (.int (nI ((summ (cs c) i) + (cs c (i))))), some (.int (nI i))]) dX9_meanStrength_45 rfl rfl (by decide) rfl ?_
    refine e_iincN (pc' := 49) (k := 1) (L' := [some (.ref (ad 96)), some (.int (nI ((summ (cs c) i) + (cs c (i))))), some (.int (nI (i + 1)))]) dX9_meanStrength_46 rfl rfl rfl (by decide) rfl ?_
    refine e_goto (tgt := 27) dX9_meanStrength_49 (by decide) ?_
    exact ih (by omega))
theorem g_mean (r : RowAt M 97 0 c) (hw : WF c) (h0 : ¬ cn c = 0) : RETI G ad (d + 3) mX9_meanStrength [.ref (ad 96)] (M, o) (some (.double (meanF c))) (QR 0 M) := by
  refine CM_of rfl (by decide) rfl (Nat.le_of_ble_eq_true rfl) rfl ?_
  have hn := hw.n
  have hk := hw.k
  have hw9 := hw.w9
  refine e_aload_n (pc' := 1) dX9_meanStrength_0 rfl rfl rfl ?_
  refine e_aload_n (pc' := 2) dX9_meanStrength_1 rfl rfl rfl ?_
  refine p_gfr (pc' := 5) (a := 96) (k := 0) (t := 97) dX9_meanStrength_2 rfl rfl (by decide) (by decide) rfl fl_X9_7 ?_
  refine e_iconst (pc' := 6) (v := nI 0) dX9_meanStrength_5 rfl (by decide) ?_
  refine p_iald (pc' := 7) (a := 97) (k := 0) (x := nI (cn c)) dX9_meanStrength_6 rfl (rfl) (rfl) (by omega) (by decide) (r.n) ?_
  refine e_if_neN (pc' := 10) (tgt := 14) dX9_meanStrength_7 rfl (by decide) (by omega) (fun hz1 => ?_) (fun hz1 => absurd hz1 (h0))
  refine e_iconst (pc' := 15) (v := nI 0) dX9_meanStrength_14 rfl (by decide) ?_
  refine r_V (pc' := 18) (m' := mX9_fails) (As := [.int (nI 0)]) (st := []) (g_fails (d := d) (p := 0) (by omega)) dX9_meanStrength_15 rfl rfl (Nat.le_of_ble_eq_true rfl) (fit_of (by omega) (by decide) (by decide) (by decide)) ml_X9_70 okX9_fails rfl rfl (by decide) rfl ?_
  show EV _ _ _ _ _ 18 _ ([.int (bI (decide (0 < 0)))]) _
  refine e_if_eqB (pc' := 21) (tgt := 23) dX9_meanStrength_18 rfl (by decide) (fun hz2 => ?_) (fun hz2 => absurd hz2 (by decide))
  refine e_iconst (pc' := 24) (v := nI 0) dX9_meanStrength_23 rfl (by decide) ?_
  refine e_istore_n (pc' := 25) (L' := [some (.ref (ad 96)), some (.int (nI 0)), none]) dX9_meanStrength_24 rfl rfl (by decide) rfl ?_
  refine e_iconst (pc' := 26) (v := nI 0) dX9_meanStrength_25 rfl (by decide) ?_
  have r1 : RowAt (up2 (up2 M 96 8 (nI 0)) 96 7 (nI 0)) 97 0 c := ((r.up (by decide)).up (by decide))
  refine e_istore_n (pc' := 27) (L' := [some (.ref (ad 96)), some (.int (nI 0)), some (.int (nI 0))]) dX9_meanStrength_26 rfl rfl (by decide) rfl ?_
  exact gl_mean QR.f r1 hw h0 0 (by omega)
theorem g_mean_n (r : RowAt M 97 0 c) (hw : WF c) (h0 : cn c = 0) : RETI G ad (d + 3) mX9_meanStrength [.ref (ad 96)] (M, o) (some (.double (FP.dconst0))) (QR 1 M) := by
  refine CM_of rfl (by decide) rfl (Nat.le_of_ble_eq_true rfl) rfl ?_
  have hn := hw.n
  have hk := hw.k
  have hw9 := hw.w9
  refine e_aload_n (pc' := 1) dX9_meanStrength_0 rfl rfl rfl ?_
  refine e_aload_n (pc' := 2) dX9_meanStrength_1 rfl rfl rfl ?_
  refine p_gfr (pc' := 5) (a := 96) (k := 0) (t := 97) dX9_meanStrength_2 rfl rfl (by decide) (by decide) rfl fl_X9_7 ?_
  refine e_iconst (pc' := 6) (v := nI 0) dX9_meanStrength_5 rfl (by decide) ?_
  refine p_iald (pc' := 7) (a := 97) (k := 0) (x := nI (cn c)) dX9_meanStrength_6 rfl (rfl) (rfl) (by omega) (by decide) (r.n) ?_
  refine e_if_neN (pc' := 10) (tgt := 14) dX9_meanStrength_7 rfl (by decide) (by omega) (fun hz1 => absurd hz1 (not_not_intro h0)) (fun hz1 => ?_)
  refine e_iconst (pc' := 11) (v := nI 1) dX9_meanStrength_10 rfl (by decide) ?_
  refine e_goto (tgt := 15) dX9_meanStrength_11 (by decide) ?_
  refine r_V (pc' := 18) (m' := mX9_fails) (As := [.int (nI 1)]) (st := []) (g_fails (d := d) (p := 1) (by omega)) dX9_meanStrength_15 rfl rfl (Nat.le_of_ble_eq_true rfl) (fit_of (by omega) (by decide) (by decide) (by decide)) ml_X9_70 okX9_fails rfl rfl (by decide) rfl ?_
  show EV _ _ _ _ _ 18 _ ([.int (bI (decide (0 < 1)))]) _
  refine e_if_eqB (pc' := 21) (tgt := 23) dX9_meanStrength_18 rfl (by decide) (fun hz2 => absurd hz2 (by decide)) (fun hz2 => ?_)
  refine e_dconst0 (pc' := 22) dX9_meanStrength_21 rfl ?_
  exact e_dret dX9_meanStrength_22 rfl (MP.retI (rfl) QR.f) (by decide) (by decide)
theorem g_share (r : RowAt M 97 0 c) (hw : WF c) (h0 : ¬ ck c = 0) : RETI G ad (d + 3) mX9_openShare [.ref (ad 96)] (M, o) (some (.float (shareF c))) (QR 0 M) := by
  refine CM_of rfl (by decide) rfl (Nat.le_of_ble_eq_true rfl) rfl ?_
  have hn := hw.n
  have hk := hw.k
  have hw9 := hw.w9
  refine e_aload_n (pc' := 1) dX9_openShare_0 rfl rfl rfl ?_
  refine e_aload_n (pc' := 2) dX9_openShare_1 rfl rfl rfl ?_
  refine p_gfr (pc' := 5) (a := 96) (k := 0) (t := 97) dX9_openShare_2 rfl rfl (by decide) (by decide) rfl fl_X9_7 ?_
  refine e_iconst (pc' := 6) (v := nI 1) dX9_openShare_5 rfl (by decide) ?_
  refine p_iald (pc' := 7) (a := 97) (k := 1) (x := nI (ck c)) dX9_openShare_6 rfl (rfl) (rfl) (by omega) (by decide) (r.k) ?_
  refine e_if_neN (pc' := 10) (tgt := 14) dX9_openShare_7 rfl (by decide) (by omega) (fun hz1 => ?_) (fun hz1 => absurd hz1 (h0))
  refine e_iconst (pc' := 15) (v := nI 0) dX9_openShare_14 rfl (by decide) ?_
  refine r_V (pc' := 18) (m' := mX9_fails) (As := [.int (nI 0)]) (st := []) (g_fails (d := d) (p := 0) (by omega)) dX9_openShare_15 rfl rfl (Nat.le_of_ble_eq_true rfl) (fit_of (by omega) (by decide) (by decide) (by decide)) ml_X9_70 okX9_fails rfl rfl (by decide) rfl ?_
  show EV _ _ _ _ _ 18 _ ([.int (bI (decide (0 < 0)))]) _
  refine e_if_eqB (pc' := 21) (tgt := 25) dX9_openShare_18 rfl (by decide) (fun hz2 => ?_) (fun hz2 => absurd hz2 (by decide))
  refine e_aload_n (pc' := 26) dX9_openShare_25 rfl rfl rfl ?_
  refine p_gfr (pc' := 29) (a := 96) (k := 0) (t := 97) dX9_openShare_26 rfl rfl (by decide) (by decide) rfl fl_X9_7 ?_
  refine e_iconst (pc' := 30) (v := nI 1) dX9_openShare_29 rfl (by decide) ?_
  refine p_iald (pc' := 31) (a := 97) (k := 1) (x := nI (ck c)) dX9_openShare_30 rfl (rfl) (rfl) (by omega) (by decide) (by rw [up2_n (by decide)]; exact by rw [up2_n (by decide)]; exact r.k) ?_
  refine e_aload_n (pc' := 32) dX9_openShare_31 rfl rfl rfl ?_
  refine e_iconst (pc' := 33) (v := nI 0) dX9_openShare_32 rfl (by decide) ?_
  refine r_V (pc' := 36) (m' := mX9_shut) (As := [.int (nI 0)]) (st := [.int (nI (ck c))]) (g_shut (d := d) ((r.up (by decide)).up (by decide)) hw (w := 0) (by omega)) dX9_openShare_33 rfl rfl (Nat.le_of_ble_eq_true rfl) (fit_of (by omega) (by decide) (by decide) (by decide)) ml_X9_100 okX9_shut rfl rfl (by decide) rfl ?_
  show EV _ _ _ _ _ 36 _ ([.int (nI (blkN c (cw c ^^^ 0))), .int (nI (ck c))]) _
  refine e_isub (pc' := 37) dX9_openShare_36 rfl ?_
  rw [show ((nI (ck c)) - (nI (blkN c (cw c ^^^ 0)))) = nI (ck c) - nI (blkN c (cw c)) from by rw [Nat.xor_zero]]
  refine e_i2f (pc' := 38) dX9_openShare_37 rfl ?_
  refine e_aload_n (pc' := 39) dX9_openShare_38 rfl rfl rfl ?_
  refine p_gfr (pc' := 42) (a := 96) (k := 0) (t := 97) dX9_openShare_39 rfl rfl (by decide) (by decide) rfl fl_X9_7 ?_
  refine e_iconst (pc' := 43) (v := nI 1) dX9_openShare_42 rfl (by decide) ?_
  refine p_iald (pc' := 44) (a := 97) (k := 1) (x := nI (ck c)) dX9_openShare_43 rfl (rfl) (rfl) (by omega) (by decide) (by rw [up2_n (by decide)]; exact by rw [up2_n (by decide)]; exact r.k) ?_
  refine e_i2f (pc' := 45) dX9_openShare_44 rfl ?_
  refine e_fdiv (pc' := 46) dX9_openShare_45 rfl (vf32_of (FP.Core.FFin.notNaN (fdiv_fin (by omega) (by omega)))) ?_
  exact e_fret dX9_openShare_46 rfl (MP.retI (rfl) QR.f) (by decide) (by decide)
theorem g_share_n (r : RowAt M 97 0 c) (hw : WF c) (h0 : ck c = 0) : RETI G ad (d + 3) mX9_openShare [.ref (ad 96)] (M, o) (some (.float (FP.fconst0))) (QR 1 M) := by
  refine CM_of rfl (by decide) rfl (Nat.le_of_ble_eq_true rfl) rfl ?_
  have hn := hw.n
  have hk := hw.k
  have hw9 := hw.w9
  refine e_aload_n (pc' := 1) dX9_openShare_0 rfl rfl rfl ?_
  refine e_aload_n (pc' := 2) dX9_openShare_1 rfl rfl rfl ?_
  refine p_gfr (pc' := 5) (a := 96) (k := 0) (t := 97) dX9_openShare_2 rfl rfl (by decide) (by decide) rfl fl_X9_7 ?_
  refine e_iconst (pc' := 6) (v := nI 1) dX9_openShare_5 rfl (by decide) ?_
  refine p_iald (pc' := 7) (a := 97) (k := 1) (x := nI (ck c)) dX9_openShare_6 rfl (rfl) (rfl) (by omega) (by decide) (r.k) ?_
  refine e_if_neN (pc' := 10) (tgt := 14) dX9_openShare_7 rfl (by decide) (by omega) (fun hz1 => absurd hz1 (not_not_intro h0)) (fun hz1 => ?_)
  refine e_iconst (pc' := 11) (v := nI 1) dX9_openShare_10 rfl (by decide) ?_
  refine e_goto (tgt := 15) dX9_openShare_11 (by decide) ?_
  refine r_V (pc' := 18) (m' := mX9_fails) (As := [.int (nI 1)]) (st := []) (g_fails (d := d) (p := 1) (by omega)) dX9_openShare_15 rfl rfl (Nat.le_of_ble_eq_true rfl) (fit_of (by omega) (by decide) (by decide) (by decide)) ml_X9_70 okX9_fails rfl rfl (by decide) rfl ?_
  show EV _ _ _ _ _ 18 _ ([.int (bI (decide (0 < 1)))]) _
  refine e_if_eqB (pc' := 21) (tgt := 25) dX9_openShare_18 rfl (by decide) (fun hz2 => absurd hz2 (by decide)) (fun hz2 => ?_)
  refine e_fconst0 (pc' := 22) dX9_openShare_21 rfl ?_
  refine e_goto (tgt := 46) dX9_openShare_22 (by decide) ?_
  exact e_fret dX9_openShare_46 rfl (MP.retI (rfl) QR.f) (by decide) (by decide)
end T45

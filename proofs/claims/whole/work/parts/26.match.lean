set_option maxHeartbeats 400000
/-! TEXT: matching -/
def parS (s : Nat) : Bool := decide (s = 78 ∨ s = 68 ∨ s = 80)
abbrev MS : Type := Nat × Nat × (Nat → Int32)
def mstep (l : List Nat) (k i : Nat) (s : MS) : MS := (s.1 + wid l (chr k i) s.1, if parS (chr k i) = true then s.2.1 + 1 else s.2.1, if parS (chr k i) = true then ups s.2.2 (s.2.1 + 1) (nI (vof l (chr k i) s.1 (wid l (chr k i) s.1))) else s.2.2)
def mrun (l : List Nat) (k a0 : Nat) (cmd : Nat → Int32) (i : Nat) : MS := iter (mstep l k) i (a0, 0, cmd)
def mfail (l : List Nat) (k a0 : Nat) (cmd : Nat → Int32) : Option Nat := fnd (fun i => decide (wid l (chr k i) (mrun l k a0 cmd i).1 = 0)) (slen k)
def mkR (l : List Nat) (k a0 : Nat) (cmd : Nat → Int32) (f : Nat) : Option Nat × (Nat → Int32) × Nat := match mfail l k a0 cmd with
  | some i => (none, (mrun l k a0 cmd i).2.2, max f (mrun l k a0 cmd i).1)
  | none => (some (mrun l k a0 cmd (slen k)).1, ups (mrun l k a0 cmd (slen k)).2.2 0 (nI k), f)
theorem mrun_le {l : List Nat} {k a0 : Nat} {cmd : Nat → Int32} : ∀ i, (mrun l k a0 cmd i).1 ≤ a0 + 2 * i
  | 0 => Nat.le_refl _
  | i + 1 => by
    have h := mrun_le (l := l) (k := k) (a0 := a0) (cmd := cmd) i
    have h2 := wid_le (l := l) (s := chr k i) (a := (mrun l k a0 cmd i).1)
    show (mrun l k a0 cmd i).1 + wid l (chr k i) (mrun l k a0 cmd i).1 ≤ _
    omega
theorem mrun_np {l : List Nat} {k a0 : Nat} {cmd : Nat → Int32} : ∀ i, (mrun l k a0 cmd i).2.1 = cnt (fun j => parS (chr k j)) i
  | 0 => rfl
  | i + 1 => by
    have h := mrun_np (l := l) (k := k) (a0 := a0) (cmd := cmd) i
    show (if parS (chr k i) = true then (mrun l k a0 cmd i).2.1 + 1 else (mrun l k a0 cmd i).2.1) = _
    rw [h]
    show _ = cnt (fun j => parS (chr k j)) i + (if parS (chr k i) = true then 1 else 0)
    split <;> rfl
theorem par_lt : ∀ k, k < 8 → ∀ i, i < 13 → i < slen k → parS (chr k i) = true → cnt (fun j => parS (chr k j)) i < 3 := by decide
theorem mstep_p {l : List Nat} {k i : Nat} {s : MS} (h : chr k i = 78 ∨ chr k i = 68 ∨ chr k i = 80) : mstep l k i s = (s.1 + wid l (chr k i) s.1, s.2.1 + 1, ups s.2.2 (s.2.1 + 1) (nI (vof l (chr k i) s.1 (wid l (chr k i) s.1)))) := by
  have e : parS (chr k i) = true := decide_eq_true h
  unfold mstep
  rw [if_pos e, if_pos e]
theorem mstep_n {l : List Nat} {k i : Nat} {s : MS} (h : ¬ (chr k i = 78 ∨ chr k i = 68 ∨ chr k i = 80)) : mstep l k i s = (s.1 + wid l (chr k i) s.1, s.2.1, s.2.2) := by
  have e : ¬ parS (chr k i) = true := by unfold parS; rw [decide_eq_false h]; decide
  unfold mstep
  rw [if_neg e, if_neg e]
theorem mkR_f {l : List Nat} {k a0 i f : Nat} {cmd : Nat → Int32} (hi : i < slen k) (hj : ∀ j, j < i → ¬ wid l (chr k j) (mrun l k a0 cmd j).1 = 0) (h : wid l (chr k i) (mrun l k a0 cmd i).1 = 0) : mkR l k a0 cmd f = (none, (mrun l k a0 cmd i).2.2, max f (mrun l k a0 cmd i).1) := by
  unfold mkR mfail
  rw [fnd_some hi (fun j h2 => decide_eq_false (hj j h2)) (decide_eq_true h)]
theorem mkR_s {l : List Nat} {k a0 f : Nat} {cmd : Nat → Int32} (hj : ∀ j, j < slen k → ¬ wid l (chr k j) (mrun l k a0 cmd j).1 = 0) : mkR l k a0 cmd f = (some (mrun l k a0 cmd (slen k)).1, ups (mrun l k a0 cmd (slen k)).2.2 0 (nI k), f) := by
  unfold mkR mfail
  rw [fnd_none (fun j h2 => decide_eq_false (hj j h2))]
/-- what matching makes: the command at A, the fault -/
def MkI (M0 : Nat → Nat → Int32) (A : Nat) (r : Option Nat × (Nat → Int32) × Nat) (M' : Nat → Nat → Int32) : Prop := IAr M' A 4 r.2.1 ∧ M' 76 4 = nI r.2.2 ∧ (∀ j, j ≠ 4 → M' 76 j = M0 76 j) ∧ KP (fun a => a == A || a == 76) M0 M'
section T26
variable {G : gC} {ad : Nat → Nat} {d : Nat} {M : Nat → Nat → Int32} {o : (Nat → Int64) × (Nat → UInt64)} {l : List Nat}
theorem l_match {M0 : Nat → Nat → Int32} {A : Nat} (hA : isQ A) (hA9 : 79 ≤ A) (hl : l.length ≤ 60) (hc : ∀ i, l.getD i 0 < 65536) {k a0 f : Nat} {cmd : Nat → Int32} (hk8 : k < 8) (ha : a0 < 100) (hf : f < 1000) : ∀ i, i ≤ slen k → ∀ (M : Nat → Nat → Int32), SgAt M 76 l → IAr M A 4 (mrun l k a0 cmd i).2.2 → M 76 4 = nI f → (∀ j, j < i → ¬ wid l (chr k j) (mrun l k a0 cmd j).1 = 0) → (∀ j, j ≠ 4 → M 76 j = M0 76 j) → KP (fun a => a == A || a == 76) M0 M → ER G ad (d + 4) mX7_matchKind (0, 0) (PI (some (.int (oI (mkR l k a0 cmd f).1))) o (fun M' => MkI M0 A (mkR l k a0 cmd f) M')) (0, 0) 15 [some (.ref (ad 76)), some (.int (nI k)), some (.int (nI a0)), some (.ref (ad (A))), some (.ref (gK G k)), some (.int (nI ((mrun l k a0 cmd i).1))), some (.int (nI ((mrun l k a0 cmd i).2.1))), some (.int (nI i)), none, none] [] (M, o) := down (slen k) _ (fun i hi ih M hT hq h4 hz hr h3 => by
  have hk : k < 16 := by omega
  have h13 := slen_lt k hk
  have hch := fun (h : i < 13) => (chr_all k hk i h).2
  have hle := mrun_le (l := l) (k := k) (a0 := a0) (cmd := cmd) i
  have hnp := mrun_np (l := l) (k := k) (a0 := a0) (cmd := cmd) i
  have hww := wid_le (l := l) (s := chr k i) (a := (mrun l k a0 cmd i).1)
  have hcl := cnt_le (fun j => parS (chr k j)) i
  have hpl := fun (h1 : i < 13) (h2 : i < slen k) (h3 : chr k i = 78 ∨ chr k i = 68 ∨ chr k i = 80) => par_lt k hk8 i h1 h2 (decide_eq_true h3)
  refine e_iload (pc' := 17) dX7_matchKind_15 rfl rfl ?_
  refine e_aload (pc' := 19) dX7_matchKind_17 rfl rfl ?_
  refine r_Vs (pc' := 22) (m' := mJ0_length_8abf5) (As := []) (st := [.int (nI i)]) (c_slen (d := d) hk) dX7_matchKind_19 rfl rfl (Nat.le_of_ble_eq_true rfl) (fit_of (by omega) (by decide) (by decide) (by decide)) ml_X7_64 okJ0_length_8abf5 rfl hk rfl ?_
  show EV _ _ _ _ _ 22 _ ([.int (nI (slen k)), .int (nI i)]) _
  refine e_icmp_geN (pc' := 25) (tgt := 117) dX7_matchKind_22 rfl (by decide) (by omega) (by omega) (fun h22 => ?_) (fun h22 => ?_)
  · obtain rfl : i = slen k := by omega
    refine e_aload_n (pc' := 118) dX7_matchKind_117 rfl rfl rfl ?_
    refine e_iload_n (pc' := 119) dX7_matchKind_118 rfl rfl rfl ?_
    refine p_pfi (pc' := 122) (a := A) (k := 0) dX7_matchKind_119 rfl (hA) (by decide) (by decide) rfl fl_X7_91 rfl rfl ?_
    refine e_iload (pc' := 124) dX7_matchKind_122 rfl rfl ?_
    exact e_iret dX7_matchKind_124 rfl ((by
      have e := mkR_s (f := f) hz
      exact MP.retI (by rw [e]; rfl) (by rw [e]; exact ⟨hq.set, by rw [up2_n (by omega)]; exact h4, fun j hj => by rw [up2_n (by omega)]; exact hr j hj, h3.up (by simp)⟩))) (by decide) (by decide)
  · have hch2 := hch (by omega)
    refine e_aload (pc' := 27) dX7_matchKind_25 rfl rfl ?_
    refine e_iload (pc' := 29) dX7_matchKind_27 rfl rfl ?_
    refine r_Vs (pc' := 32) (m' := mJ0_charAt_5068e) (As := [.int (nI i)]) (st := []) (c_charAt (d := d) hk (j := i) (by omega)) dX7_matchKind_29 rfl rfl (Nat.le_of_ble_eq_true rfl) (fit_of (by omega) (by decide) (by decide) (by decide)) ml_X7_69 okJ0_charAt_5068e rfl hk rfl ?_
    show EV _ _ _ _ _ 32 _ ([.int (nI (chr k i))]) _
    refine e_istore (pc' := 34) (L' := [some (.ref (ad 76)), some (.int (nI k)), some (.int (nI a0)), some (.ref (ad (A))), some (.ref (gK G k)), some (.int (nI ((mrun l k a0 cmd i).1))), some (.int (nI ((mrun l k a0 cmd i).2.1))), some (.int (nI i)), some (.int (nI (chr k i))), none]) dX7_matchKind_32 rfl (by decide) rfl ?_
    refine e_aload_n (pc' := 35) dX7_matchKind_34 rfl rfl rfl ?_
    refine e_iload (pc' := 37) dX7_matchKind_35 rfl rfl ?_
    refine e_iload (pc' := 39) dX7_matchKind_37 rfl rfl ?_
    refine r_V (pc' := 42) (m' := mX7_widthOf) (As := [.int (nI (chr k i)), .int (nI ((mrun l k a0 cmd i).1))]) (st := []) (c_width (d := d) hT hl hc (s := chr k i) (a := (mrun l k a0 cmd i).1) (by omega) (by omega)) dX7_matchKind_39 rfl rfl (Nat.le_of_ble_eq_true rfl) (fit_of (by omega) (by decide) (by decide) (by decide)) ml_X7_73 okX7_widthOf rfl rfl (by decide) rfl ?_
    show EV _ _ _ _ _ 42 _ ([.int (nI (wid l (chr k i) ((mrun l k a0 cmd i).1)))]) _
    refine e_istore (pc' := 44) (L' := [some (.ref (ad 76)), some (.int (nI k)), some (.int (nI a0)), some (.ref (ad (A))), some (.ref (gK G k)), some (.int (nI ((mrun l k a0 cmd i).1))), some (.int (nI ((mrun l k a0 cmd i).2.1))), some (.int (nI i)), some (.int (nI (chr k i))), some (.int (nI (wid l (chr k i) ((mrun l k a0 cmd i).1))))]) dX7_matchKind_42 rfl (by decide) rfl ?_
    refine e_iload (pc' := 46) dX7_matchKind_44 rfl rfl ?_
    refine e_if_neN (pc' := 49) (tgt := 64) dX7_matchKind_46 rfl (by decide) (by omega) (fun hwz => ?_) (fun hwz => ?_)
    · refine e_iload (pc' := 66) dX7_matchKind_64 rfl rfl ?_
      refine e_bipush (pc' := 68) (v := nI 78) dX7_matchKind_66 rfl (by decide) ?_
      refine e_icmp_eqN (pc' := 71) (tgt := 85) dX7_matchKind_68 rfl (by decide) (by omega) (by omega) (fun hz3 => ?_) (fun hz3 => ?_)
      · have hp3 := hpl (by omega) (by omega) (by omega)
        refine e_aload_n (pc' := 86) dX7_matchKind_85 rfl rfl rfl ?_
        refine e_iload (pc' := 88) dX7_matchKind_86 rfl rfl ?_
        refine e_aload_n (pc' := 89) dX7_matchKind_88 rfl rfl rfl ?_
        refine e_iload (pc' := 91) dX7_matchKind_89 rfl rfl ?_
        refine e_iload (pc' := 93) dX7_matchKind_91 rfl rfl ?_
        refine e_iload (pc' := 95) dX7_matchKind_93 rfl rfl ?_
        refine r_V (pc' := 98) (m' := mX7_valueOf) (As := [.int (nI (chr k i)), .int (nI ((mrun l k a0 cmd i).1)), .int (nI (wid l (chr k i) ((mrun l k a0 cmd i).1)))]) (st := [.int (nI ((mrun l k a0 cmd i).2.1)), .ref (ad (A))]) (c_value (d := d) hT hl hc (s := chr k i) (a := (mrun l k a0 cmd i).1) (by omega) (by omega) hwz) dX7_matchKind_95 rfl rfl (Nat.le_of_ble_eq_true rfl) (fit_of (by omega) (by decide) (by decide) (by decide)) ml_X7_83 okX7_valueOf rfl rfl (by decide) rfl ?_
        show EV _ _ _ _ _ 98 _ ([.int (nI (vof l (chr k i) ((mrun l k a0 cmd i).1) (wid l (chr k i) ((mrun l k a0 cmd i).1)))), .int (nI ((mrun l k a0 cmd i).2.1)), .ref (ad (A))]) _
        refine r_V (pc' := 101) (m' := mX2_setParameter) (As := [.int (nI ((mrun l k a0 cmd i).2.1)), .int (nI (vof l (chr k i) ((mrun l k a0 cmd i).1) (wid l (chr k i) ((mrun l k a0 cmd i).1))))]) (st := []) (c_setP (d := d) hA (i := (mrun l k a0 cmd i).2.1) (by omega) (nI (vof l (chr k i) ((mrun l k a0 cmd i).1) (wid l (chr k i) ((mrun l k a0 cmd i).1))))) dX7_matchKind_98 rfl rfl (Nat.le_of_ble_eq_true rfl) (fit_of (by omega) (by decide) (by decide) (by decide)) ml_X7_87 okX2_setParameter rfl hA (by decide) rfl ?_
        show EV _ _ _ _ _ 101 _ ([]) _
        refine e_iincN (pc' := 104) (k := 1) (L' := [some (.ref (ad 76)), some (.int (nI k)), some (.int (nI a0)), some (.ref (ad (A))), some (.ref (gK G k)), some (.int (nI ((mrun l k a0 cmd i).1))), some (.int (nI ((mrun l k a0 cmd i).2.1 + 1))), some (.int (nI i)), some (.int (nI (chr k i))), some (.int (nI (wid l (chr k i) ((mrun l k a0 cmd i).1))))]) dX7_matchKind_101 rfl rfl rfl (by decide) rfl ?_
        refine e_iload (pc' := 106) dX7_matchKind_104 rfl rfl ?_
        refine e_iload (pc' := 108) dX7_matchKind_106 rfl rfl ?_
        refine e_iaddN (pc' := 109) dX7_matchKind_108 rfl ?_
        refine e_istore (pc' := 111) (L' := [some (.ref (ad 76)), some (.int (nI k)), some (.int (nI a0)), some (.ref (ad (A))), some (.ref (gK G k)), some (.int (nI (((mrun l k a0 cmd i).1) + (wid l (chr k i) ((mrun l k a0 cmd i).1))))), some (.int (nI ((mrun l k a0 cmd i).2.1 + 1))), some (.int (nI i)), some (.int (nI (chr k i))), some (.int (nI (wid l (chr k i) ((mrun l k a0 cmd i).1))))]) dX7_matchKind_109 rfl (by decide) rfl ?_
        refine e_iincN (pc' := 114) (k := 1) (L' := [some (.ref (ad 76)), some (.int (nI k)), some (.int (nI a0)), some (.ref (ad (A))), some (.ref (gK G k)), some (.int (nI (((mrun l k a0 cmd i).1) + (wid l (chr k i) ((mrun l k a0 cmd i).1))))), some (.int (nI ((mrun l k a0 cmd i).2.1 + 1))), some (.int (nI (i + 1))), some (.int (nI (chr k i))), some (.int (nI (wid l (chr k i) ((mrun l k a0 cmd i).1))))]) dX7_matchKind_111 rfl rfl rfl (by decide) rfl ?_
        refine e_goto (tgt := 15) dX7_matchKind_114 (by decide) ?_
        refine e_fg (i := 8) (L' := [some (.ref (ad 76)), some (.int (nI k)), some (.int (nI a0)), some (.ref (ad (A))), some (.ref (gK G k)), some (.int (nI (((mrun l k a0 cmd i).1) + (wid l (chr k i) ((mrun l k a0 cmd i).1))))), some (.int (nI ((mrun l k a0 cmd i).2.1 + 1))), some (.int (nI (i + 1))), none, some (.int (nI (wid l (chr k i) ((mrun l k a0 cmd i).1))))]) rfl ?_
        refine e_fg (i := 9) (L' := [some (.ref (ad 76)), some (.int (nI k)), some (.int (nI a0)), some (.ref (ad (A))), some (.ref (gK G k)), some (.int (nI (((mrun l k a0 cmd i).1) + (wid l (chr k i) ((mrun l k a0 cmd i).1))))), some (.int (nI ((mrun l k a0 cmd i).2.1 + 1))), some (.int (nI (i + 1))), none, none]) rfl ?_
        have e : mrun l k a0 cmd (i + 1) = (((mrun l k a0 cmd i).1) + (wid l (chr k i) ((mrun l k a0 cmd i).1)), (mrun l k a0 cmd i).2.1 + 1, (ups ((mrun l k a0 cmd i).2.2) ((mrun l k a0 cmd i).2.1 + 1) (nI (vof l (chr k i) ((mrun l k a0 cmd i).1) (wid l (chr k i) ((mrun l k a0 cmd i).1)))))) := mstep_p (by omega)
        exact ih (by omega) |> fun q => by rw [e] at q; exact q _ (hT.up (by omega)) (hq.set (i := (mrun l k a0 cmd i).2.1 + 1) (x := nI (vof l (chr k i) ((mrun l k a0 cmd i).1) (wid l (chr k i) ((mrun l k a0 cmd i).1))))) (by rw [up2_n (by omega)]; exact h4) (fun j hj2 => by by_cases e3 : j = i; rw [e3]; exact hwz; exact hz j (by omega)) (fun j hj => by rw [up2_n (by omega)]; exact hr j hj) (h3.up (by simp))
      · refine e_iload (pc' := 73) dX7_matchKind_71 rfl rfl ?_
        refine e_bipush (pc' := 75) (v := nI 68) dX7_matchKind_73 rfl (by decide) ?_
        refine e_icmp_eqN (pc' := 78) (tgt := 85) dX7_matchKind_75 rfl (by decide) (by omega) (by omega) (fun hz4 => ?_) (fun hz4 => ?_)
        · have hp3 := hpl (by omega) (by omega) (by omega)
          refine e_aload_n (pc' := 86) dX7_matchKind_85 rfl rfl rfl ?_
          refine e_iload (pc' := 88) dX7_matchKind_86 rfl rfl ?_
          refine e_aload_n (pc' := 89) dX7_matchKind_88 rfl rfl rfl ?_
          refine e_iload (pc' := 91) dX7_matchKind_89 rfl rfl ?_
          refine e_iload (pc' := 93) dX7_matchKind_91 rfl rfl ?_
          refine e_iload (pc' := 95) dX7_matchKind_93 rfl rfl ?_
          refine r_V (pc' := 98) (m' := mX7_valueOf) (As := [.int (nI (chr k i)), .int (nI ((mrun l k a0 cmd i).1)), .int (nI (wid l (chr k i) ((mrun l k a0 cmd i).1)))]) (st := [.int (nI ((mrun l k a0 cmd i).2.1)), .ref (ad (A))]) (c_value (d := d) hT hl hc (s := chr k i) (a := (mrun l k a0 cmd i).1) (by omega) (by omega) hwz) dX7_matchKind_95 rfl rfl (Nat.le_of_ble_eq_true rfl) (fit_of (by omega) (by decide) (by decide) (by decide)) ml_X7_83 okX7_valueOf rfl rfl (by decide) rfl ?_
          show EV _ _ _ _ _ 98 _ ([.int (nI (vof l (chr k i) ((mrun l k a0 cmd i).1) (wid l (chr k i) ((mrun l k a0 cmd i).1)))), .int (nI ((mrun l k a0 cmd i).2.1)), .ref (ad (A))]) _
          refine r_V (pc' := 101) (m' := mX2_setParameter) (As := [.int (nI ((mrun l k a0 cmd i).2.1)), .int (nI (vof l (chr k i) ((mrun l k a0 cmd i).1) (wid l (chr k i) ((mrun l k a0 cmd i).1))))]) (st := []) (c_setP (d := d) hA (i := (mrun l k a0 cmd i).2.1) (by omega) (nI (vof l (chr k i) ((mrun l k a0 cmd i).1) (wid l (chr k i) ((mrun l k a0 cmd i).1))))) dX7_matchKind_98 rfl rfl (Nat.le_of_ble_eq_true rfl) (fit_of (by omega) (by decide) (by decide) (by decide)) ml_X7_87 okX2_setParameter rfl hA (by decide) rfl ?_
          show EV _ _ _ _ _ 101 _ ([]) _
          refine e_iincN (pc' := 104) (k := 1) (L' := [some (.ref (ad 76)), some (.int (nI k)), some (.int (nI a0)), some (.ref (ad (A))), some (.ref (gK G k)), some (.int (nI ((mrun l k a0 cmd i).1))), some (.int (nI ((mrun l k a0 cmd i).2.1 + 1))), some (.int (nI i)), some (.int (nI (chr k i))), some (.int (nI (wid l (chr k i) ((mrun l k a0 cmd i).1))))]) dX7_matchKind_101 rfl rfl rfl (by decide) rfl ?_
          refine e_iload (pc' := 106) dX7_matchKind_104 rfl rfl ?_
          refine e_iload (pc' := 108) dX7_matchKind_106 rfl rfl ?_
          refine e_iaddN (pc' := 109) dX7_matchKind_108 rfl ?_
          refine e_istore (pc' := 111) (L' := [some (.ref (ad 76)), some (.int (nI k)), some (.int (nI a0)), some (.ref (ad (A))), some (.ref (gK G k)), some (.int (nI (((mrun l k a0 cmd i).1) + (wid l (chr k i) ((mrun l k a0 cmd i).1))))), some (.int (nI ((mrun l k a0 cmd i).2.1 + 1))), some (.int (nI i)), some (.int (nI (chr k i))), some (.int (nI (wid l (chr k i) ((mrun l k a0 cmd i).1))))]) dX7_matchKind_109 rfl (by decide) rfl ?_
          refine e_iincN (pc' := 114) (k := 1) (L' := [some (.ref (ad 76)), some (.int (nI k)), some (.int (nI a0)), some (.ref (ad (A))), some (.ref (gK G k)), some (.int (nI (((mrun l k a0 cmd i).1) + (wid l (chr k i) ((mrun l k a0 cmd i).1))))), some (.int (nI ((mrun l k a0 cmd i).2.1 + 1))), some (.int (nI (i + 1))), some (.int (nI (chr k i))), some (.int (nI (wid l (chr k i) ((mrun l k a0 cmd i).1))))]) dX7_matchKind_111 rfl rfl rfl (by decide) rfl ?_
          refine e_goto (tgt := 15) dX7_matchKind_114 (by decide) ?_
          refine e_fg (i := 8) (L' := [some (.ref (ad 76)), some (.int (nI k)), some (.int (nI a0)), some (.ref (ad (A))), some (.ref (gK G k)), some (.int (nI (((mrun l k a0 cmd i).1) + (wid l (chr k i) ((mrun l k a0 cmd i).1))))), some (.int (nI ((mrun l k a0 cmd i).2.1 + 1))), some (.int (nI (i + 1))), none, some (.int (nI (wid l (chr k i) ((mrun l k a0 cmd i).1))))]) rfl ?_
          refine e_fg (i := 9) (L' := [some (.ref (ad 76)), some (.int (nI k)), some (.int (nI a0)), some (.ref (ad (A))), some (.ref (gK G k)), some (.int (nI (((mrun l k a0 cmd i).1) + (wid l (chr k i) ((mrun l k a0 cmd i).1))))), some (.int (nI ((mrun l k a0 cmd i).2.1 + 1))), some (.int (nI (i + 1))), none, none]) rfl ?_
          have e : mrun l k a0 cmd (i + 1) = (((mrun l k a0 cmd i).1) + (wid l (chr k i) ((mrun l k a0 cmd i).1)), (mrun l k a0 cmd i).2.1 + 1, (ups ((mrun l k a0 cmd i).2.2) ((mrun l k a0 cmd i).2.1 + 1) (nI (vof l (chr k i) ((mrun l k a0 cmd i).1) (wid l (chr k i) ((mrun l k a0 cmd i).1)))))) := mstep_p (by omega)
          exact ih (by omega) |> fun q => by rw [e] at q; exact q _ (hT.up (by omega)) (hq.set (i := (mrun l k a0 cmd i).2.1 + 1) (x := nI (vof l (chr k i) ((mrun l k a0 cmd i).1) (wid l (chr k i) ((mrun l k a0 cmd i).1))))) (by rw [up2_n (by omega)]; exact h4) (fun j hj2 => by by_cases e3 : j = i; rw [e3]; exact hwz; exact hz j (by omega)) (fun j hj => by rw [up2_n (by omega)]; exact hr j hj) (h3.up (by simp))
        · refine e_iload (pc' := 80) dX7_matchKind_78 rfl rfl ?_
          refine e_bipush (pc' := 82) (v := nI 80) dX7_matchKind_80 rfl (by decide) ?_
          refine e_icmp_neN (pc' := 85) (tgt := 104) dX7_matchKind_82 rfl (by decide) (by omega) (by omega) (fun hz5 => ?_) (fun hz5 => ?_)
          · refine e_iload (pc' := 106) dX7_matchKind_104 rfl rfl ?_
            refine e_iload (pc' := 108) dX7_matchKind_106 rfl rfl ?_
            refine e_iaddN (pc' := 109) dX7_matchKind_108 rfl ?_
            refine e_istore (pc' := 111) (L' := [some (.ref (ad 76)), some (.int (nI k)), some (.int (nI a0)), some (.ref (ad (A))), some (.ref (gK G k)), some (.int (nI (((mrun l k a0 cmd i).1) + (wid l (chr k i) ((mrun l k a0 cmd i).1))))), some (.int (nI ((mrun l k a0 cmd i).2.1))), some (.int (nI i)), some (.int (nI (chr k i))), some (.int (nI (wid l (chr k i) ((mrun l k a0 cmd i).1))))]) dX7_matchKind_109 rfl (by decide) rfl ?_
            refine e_iincN (pc' := 114) (k := 1) (L' := [some (.ref (ad 76)), some (.int (nI k)), some (.int (nI a0)), some (.ref (ad (A))), some (.ref (gK G k)), some (.int (nI (((mrun l k a0 cmd i).1) + (wid l (chr k i) ((mrun l k a0 cmd i).1))))), some (.int (nI ((mrun l k a0 cmd i).2.1))), some (.int (nI (i + 1))), some (.int (nI (chr k i))), some (.int (nI (wid l (chr k i) ((mrun l k a0 cmd i).1))))]) dX7_matchKind_111 rfl rfl rfl (by decide) rfl ?_
            refine e_goto (tgt := 15) dX7_matchKind_114 (by decide) ?_
            refine e_fg (i := 8) (L' := [some (.ref (ad 76)), some (.int (nI k)), some (.int (nI a0)), some (.ref (ad (A))), some (.ref (gK G k)), some (.int (nI (((mrun l k a0 cmd i).1) + (wid l (chr k i) ((mrun l k a0 cmd i).1))))), some (.int (nI ((mrun l k a0 cmd i).2.1))), some (.int (nI (i + 1))), none, some (.int (nI (wid l (chr k i) ((mrun l k a0 cmd i).1))))]) rfl ?_
            refine e_fg (i := 9) (L' := [some (.ref (ad 76)), some (.int (nI k)), some (.int (nI a0)), some (.ref (ad (A))), some (.ref (gK G k)), some (.int (nI (((mrun l k a0 cmd i).1) + (wid l (chr k i) ((mrun l k a0 cmd i).1))))), some (.int (nI ((mrun l k a0 cmd i).2.1))), some (.int (nI (i + 1))), none, none]) rfl ?_
            have e : mrun l k a0 cmd (i + 1) = (((mrun l k a0 cmd i).1) + (wid l (chr k i) ((mrun l k a0 cmd i).1)), (mrun l k a0 cmd i).2.1, (mrun l k a0 cmd i).2.2) := mstep_n (by omega)
            exact ih (by omega) |> fun q => by rw [e] at q; exact q _ hT hq (h4) (fun j hj2 => by by_cases e3 : j = i; rw [e3]; exact hwz; exact hz j (by omega)) hr h3
          · have hp3 := hpl (by omega) (by omega) (by omega)
            refine e_aload_n (pc' := 86) dX7_matchKind_85 rfl rfl rfl ?_
            refine e_iload (pc' := 88) dX7_matchKind_86 rfl rfl ?_
            refine e_aload_n (pc' := 89) dX7_matchKind_88 rfl rfl rfl ?_
            refine e_iload (pc' := 91) dX7_matchKind_89 rfl rfl ?_
            refine e_iload (pc' := 93) dX7_matchKind_91 rfl rfl ?_
            refine e_iload (pc' := 95) dX7_matchKind_93 rfl rfl ?_
            refine r_V (pc' := 98) (m' := mX7_valueOf) (As := [.int (nI (chr k i)), .int (nI ((mrun l k a0 cmd i).1)), .int (nI (wid l (chr k i) ((mrun l k a0 cmd i).1)))]) (st := [.int (nI ((mrun l k a0 cmd i).2.1)), .ref (ad (A))]) (c_value (d := d) hT hl hc (s := chr k i) (a := (mrun l k a0 cmd i).1) (by omega) (by omega) hwz) dX7_matchKind_95 rfl rfl (Nat.le_of_ble_eq_true rfl) (fit_of (by omega) (by decide) (by decide) (by decide)) ml_X7_83 okX7_valueOf rfl rfl (by decide) rfl ?_
            show EV _ _ _ _ _ 98 _ ([.int (nI (vof l (chr k i) ((mrun l k a0 cmd i).1) (wid l (chr k i) ((mrun l k a0 cmd i).1)))), .int (nI ((mrun l k a0 cmd i).2.1)), .ref (ad (A))]) _
            refine r_V (pc' := 101) (m' := mX2_setParameter) (As := [.int (nI ((mrun l k a0 cmd i).2.1)), .int (nI (vof l (chr k i) ((mrun l k a0 cmd i).1) (wid l (chr k i) ((mrun l k a0 cmd i).1))))]) (st := []) (c_setP (d := d) hA (i := (mrun l k a0 cmd i).2.1) (by omega) (nI (vof l (chr k i) ((mrun l k a0 cmd i).1) (wid l (chr k i) ((mrun l k a0 cmd i).1))))) dX7_matchKind_98 rfl rfl (Nat.le_of_ble_eq_true rfl) (fit_of (by omega) (by decide) (by decide) (by decide)) ml_X7_87 okX2_setParameter rfl hA (by decide) rfl ?_
            show EV _ _ _ _ _ 101 _ ([]) _
            refine e_iincN (pc' := 104) (k := 1) (L' := [some (.ref (ad 76)), some (.int (nI k)), some (.int (nI a0)), some (.ref (ad (A))), some (.ref (gK G k)), some (.int (nI ((mrun l k a0 cmd i).1))), some (.int (nI ((mrun l k a0 cmd i).2.1 + 1))), some (.int (nI i)), some (.int (nI (chr k i))), some (.int (nI (wid l (chr k i) ((mrun l k a0 cmd i).1))))]) dX7_matchKind_101 rfl rfl rfl (by decide) rfl ?_
            refine e_iload (pc' := 106) dX7_matchKind_104 rfl rfl ?_
            refine e_iload (pc' := 108) dX7_matchKind_106 rfl rfl ?_
            refine e_iaddN (pc' := 109) dX7_matchKind_108 rfl ?_
            refine e_istore (pc' := 111) (L' := [some (.ref (ad 76)), some (.int (nI k)), some (.int (nI a0)), some (.ref (ad (A))), some (.ref (gK G k)), some (.int (nI (((mrun l k a0 cmd i).1) + (wid l (chr k i) ((mrun l k a0 cmd i).1))))), some (.int (nI ((mrun l k a0 cmd i).2.1 + 1))), some (.int (nI i)), some (.int (nI (chr k i))), some (.int (nI (wid l (chr k i) ((mrun l k a0 cmd i).1))))]) dX7_matchKind_109 rfl (by decide) rfl ?_
            refine e_iincN (pc' := 114) (k := 1) (L' := [some (.ref (ad 76)), some (.int (nI k)), some (.int (nI a0)), some (.ref (ad (A))), some (.ref (gK G k)), some (.int (nI (((mrun l k a0 cmd i).1) + (wid l (chr k i) ((mrun l k a0 cmd i).1))))), some (.int (nI ((mrun l k a0 cmd i).2.1 + 1))), some (.int (nI (i + 1))), some (.int (nI (chr k i))), some (.int (nI (wid l (chr k i) ((mrun l k a0 cmd i).1))))]) dX7_matchKind_111 rfl rfl rfl (by decide) rfl ?_
            refine e_goto (tgt := 15) dX7_matchKind_114 (by decide) ?_
            refine e_fg (i := 8) (L' := [some (.ref (ad 76)), some (.int (nI k)), some (.int (nI a0)), some (.ref (ad (A))), some (.ref (gK G k)), some (.int (nI (((mrun l k a0 cmd i).1) + (wid l (chr k i) ((mrun l k a0 cmd i).1))))), some (.int (nI ((mrun l k a0 cmd i).2.1 + 1))), some (.int (nI (i + 1))), none, some (.int (nI (wid l (chr k i) ((mrun l k a0 cmd i).1))))]) rfl ?_
            refine e_fg (i := 9) (L' := [some (.ref (ad 76)), some (.int (nI k)), some (.int (nI a0)), some (.ref (ad (A))), some (.ref (gK G k)), some (.int (nI (((mrun l k a0 cmd i).1) + (wid l (chr k i) ((mrun l k a0 cmd i).1))))), some (.int (nI ((mrun l k a0 cmd i).2.1 + 1))), some (.int (nI (i + 1))), none, none]) rfl ?_
            have e : mrun l k a0 cmd (i + 1) = (((mrun l k a0 cmd i).1) + (wid l (chr k i) ((mrun l k a0 cmd i).1)), (mrun l k a0 cmd i).2.1 + 1, (ups ((mrun l k a0 cmd i).2.2) ((mrun l k a0 cmd i).2.1 + 1) (nI (vof l (chr k i) ((mrun l k a0 cmd i).1) (wid l (chr k i) ((mrun l k a0 cmd i).1)))))) := mstep_p (by omega)
            exact ih (by omega) |> fun q => by rw [e] at q; exact q _ (hT.up (by omega)) (hq.set (i := (mrun l k a0 cmd i).2.1 + 1) (x := nI (vof l (chr k i) ((mrun l k a0 cmd i).1) (wid l (chr k i) ((mrun l k a0 cmd i).1))))) (by rw [up2_n (by omega)]; exact h4) (fun j hj2 => by by_cases e3 : j = i; rw [e3]; exact hwz; exact hz j (by omega)) (fun j hj => by rw [up2_n (by omega)]; exact hr j hj) (h3.up (by simp))
    · refine e_aload_n (pc' := 50) dX7_matchKind_49 rfl rfl rfl ?_
      refine e_aload_n (pc' := 51) dX7_matchKind_50 rfl rfl rfl ?_
      refine p_gfi (pc' := 54) (a := 76) (k := 4) (x := nI f) dX7_matchKind_51 rfl (rfl) (by decide) (by decide) rfl fl_X7_29 (h4) ?_
      refine e_iload (pc' := 56) dX7_matchKind_54 rfl rfl ?_
      refine e_max (pc' := 59) dX7_matchKind_56 rfl ml_X7_77 ma_max_s in_Math ma_max_c (by simp [rmK]) (by simp [rmK, Value.category] <;> omega) (Nat.zero_le _) (Nat.zero_le _) ?_
      rw [show (if (nI f) < (nI ((mrun l k a0 cmd i).1)) then (nI ((mrun l k a0 cmd i).1)) else (nI f)) = nI (max f (mrun l k a0 cmd i).1) from max_nI (by omega) (by omega)]
      refine p_pfi (pc' := 62) (a := 76) (k := 4) dX7_matchKind_59 rfl (rfl) (by decide) (by decide) rfl fl_X7_29 rfl rfl ?_
      refine e_iconst (pc' := 63) (v := (-1)) dX7_matchKind_62 rfl (by decide) ?_
      exact e_iret dX7_matchKind_63 rfl ((by
      have e := mkR_f (f := f) h22 hz hwz
      exact MP.retI (by rw [e]; rfl) (by rw [e]; exact ⟨(hq.up (by omega)), up2_s, fun j hj => by rw [up2_k hj]; exact hr j hj, h3.up (by simp)⟩))) (by decide) (by decide))
theorem c_match (hT : SgAt M 76 l) {A : Nat} (hA : isQ A) (hA9 : 79 ≤ A) (hl : l.length ≤ 60) (hc : ∀ i, l.getD i 0 < 65536) {k a0 f : Nat} {cmd : Nat → Int32} (hk8 : k < 8) (ha : a0 < 100) (hf : f < 1000) (hq : IAr M A 4 cmd) (h4 : M 76 4 = nI f) : RETI G ad (d + 4) mX7_matchKind [.ref (ad 76), .int (nI k), .int (nI a0), .ref (ad (A))] (M, o) (some (.int (oI (mkR l k a0 cmd f).1))) (fun M' => MkI M A (mkR l k a0 cmd f) M') := by
  refine CM_of rfl (by decide) rfl (Nat.le_of_ble_eq_true rfl) rfl ?_
  have hk : k < 16 := by omega
  refine e_iload_n (pc' := 1) dX7_matchKind_0 rfl rfl rfl ?_
  refine r_S (pc' := 4) (m' := mX7_shapeOf) (As := [.int (nI k)]) (st := []) (c_shape (d := d) (k := k) hk8) dX7_matchKind_1 rfl rfl (Nat.le_of_ble_eq_true rfl) (fit_of (by omega) (by decide) (by decide) (by decide)) ml_X7_60 okX7_shapeOf rfl rfl ?_
  show EV _ _ _ _ _ 4 _ ([.ref (gK G k)]) _
  refine e_astore (pc' := 6) (L' := [some (.ref (ad 76)), some (.int (nI k)), some (.int (nI a0)), some (.ref (ad (A))), some (.ref (gK G k)), none, none, none, none, none]) dX7_matchKind_4 rfl (by decide) rfl ?_
  refine e_iload_n (pc' := 7) dX7_matchKind_6 rfl rfl rfl ?_
  refine e_istore (pc' := 9) (L' := [some (.ref (ad 76)), some (.int (nI k)), some (.int (nI a0)), some (.ref (ad (A))), some (.ref (gK G k)), some (.int (nI a0)), none, none, none, none]) dX7_matchKind_7 rfl (by decide) rfl ?_
  refine e_iconst (pc' := 10) (v := nI 0) dX7_matchKind_9 rfl (by decide) ?_
  refine e_istore (pc' := 12) (L' := [some (.ref (ad 76)), some (.int (nI k)), some (.int (nI a0)), some (.ref (ad (A))), some (.ref (gK G k)), some (.int (nI a0)), some (.int (nI 0)), none, none, none]) dX7_matchKind_10 rfl (by decide) rfl ?_
  refine e_iconst (pc' := 13) (v := nI 0) dX7_matchKind_12 rfl (by decide) ?_
  refine e_istore (pc' := 15) (L' := [some (.ref (ad 76)), some (.int (nI k)), some (.int (nI a0)), some (.ref (ad (A))), some (.ref (gK G k)), some (.int (nI a0)), some (.int (nI 0)), some (.int (nI 0)), none, none]) dX7_matchKind_13 rfl (by decide) rfl ?_
  exact l_match hA hA9 hl hc hk8 ha hf 0 (Nat.zero_le _) M hT hq h4 (fun j hj => absurd hj (Nat.not_lt_zero j)) (fun j hj => rfl) KP.refl
end T26

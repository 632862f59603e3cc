set_option maxHeartbeats 400000
/-! THE REFERENCE: changes -/
/-- a change that is made -/
def CHI (w : Bool) (hs : Nat → Col) (sz : Nat) (c c' : Col) (M M' : Nat → Nat → Int32) : Prop := M' 96 8 = nI 0 ∧ RowAt M' 97 0 c' ∧ KtR M' (hsW w hs sz c) (szW w sz) ∧ (∀ j, j ≠ 5 → j ≠ 7 → j ≠ 8 → M' 96 j = M 96 j) ∧ KP (fun a => a == 96 || a == 97 || a == 98) M M'
/-- one that fails -/
def FLI (p : Nat) (M M' : Nat → Nat → Int32) : Prop := M' 96 8 = nI p ∧ M' 96 7 = nI 0 ∧ (∀ j, j ≠ 7 → j ≠ 8 → M' 96 j = M 96 j) ∧ KP (fun a => a == 96) M M'
/-- one that is denied -/
def FDI (p r : Nat) (x : Int32) (M M' : Nat → Nat → Int32) : Prop := M' 96 8 = nI p ∧ M' 96 7 = nI 1 ∧ M' 96 9 = nI r ∧ M' 96 10 = x ∧ M' 96 11 = nI 0 ∧ (∀ j, j ≠ 7 → j ≠ 8 → j ≠ 9 → j ≠ 10 → j ≠ 11 → M' 96 j = M 96 j) ∧ KP (fun a => a == 96) M M'
section T48
variable {G : gC} {ad : Nat → Nat} {d : Nat} {M : Nat → Nat → Int32} {o : (Nat → Int64) × (Nat → UInt64)} {c : Col} {hs : Nat → Col} {sz : Nat} {w : Bool}
theorem CHI.mk {c' : Col} {M M0 M1 M' : Nat → Nat → Int32} (hI : KWI w hs sz c M0 M1) (h0 : ∀ j, j ≠ 7 → j ≠ 8 → M0 96 j = M 96 j) (k0 : KP (fun a => a == 96) M M0) (hr : RowAt M' 97 0 c') (hk : KP (fun a => a == 97) M1 M') : CHI w hs sz c c' M M' := by
  obtain ⟨h1, h2, h3, h4⟩ := hI
  have e96 : M' 96 = M1 96 := hk 96 (by decide)
  have e98 : M' 98 = M1 98 := hk 98 (by decide)
  refine ⟨by rw [e96]; exact h1, hr, h2.kp (by rw [e96]) e98, fun j g5 g7 g8 => by rw [e96, h3 j g5 g8]; exact h0 j g7 g8, ((k0.wide (fun a ha => by simp at ha ⊢; exact ha.1.1)).trans (h4.wide (fun a ha => by simp at ha ⊢; exact ⟨ha.1.1, ha.2⟩))).trans (hk.wide (fun a ha => by simp at ha ⊢; exact ha.1.2))⟩
theorem FLI.f {p : Nat} : FLI p M (up2 (up2 M 96 8 (nI p)) 96 7 (nI 0)) := ⟨by rw [up2_k (by decide)]; exact up2_s, up2_s, fun j h1 h2 => by rw [up2_k h1, up2_k h2], (KP.refl.up (by decide)).up (by decide)⟩
theorem FDI.of {p r : Nat} {x : Int32} {M M0 : Nat → Nat → Int32} (h0 : ∀ j, j ≠ 7 → j ≠ 8 → M0 96 j = M 96 j) (k0 : KP (fun a => a == 96) M M0) : FDI p r x M (up2 (up2 (up2 (up2 (up2 M0 96 8 (nI p)) 96 7 (nI 1)) 96 9 (nI r)) 96 10 x) 96 11 (nI 0)) :=
  ⟨by rw [up2_k (by decide), up2_k (by decide), up2_k (by decide), up2_k (by decide)]; exact up2_s, by rw [up2_k (by decide), up2_k (by decide), up2_k (by decide)]; exact up2_s, by rw [up2_k (by decide), up2_k (by decide)]; exact up2_s, by rw [up2_k (by decide)]; exact up2_s, up2_s, fun j h1 h2 h3 h4 h5 => by rw [up2_k h5, up2_k h4, up2_k h3, up2_k h1, up2_k h2]; exact h0 j h1 h2, k0.trans (((((KP.refl.up (by decide)).up (by decide)).up (by decide)).up (by decide)).up (by decide))⟩
theorem kp97 {M1 M' : Nat → Nat → Int32} (h : KP (fun a => a == 97) M1 M') : KP (fun a => a == 97) M1 M' := h
theorem isS_n {s : Nat} (h1 : 1 ≤ s) (h2 : s ≤ 30) : isS (nI s) = true := decide_eq_true ⟨(nI_leI (by decide) (by omega)).mpr h1, (nI_leI (by omega) (by decide)).mpr h2⟩
theorem isS_d {x : Int32} : decide (nI 1 ≤ x ∧ x ≤ nI 30) = isS x := rfl
theorem none_lt {r : Option Nat} (h : r = none) : oI r < 0 := by rw [h]; decide
theorem some_lt {r : Option Nat} {i : Nat} (h : r = some i) (hi : i < 100) : ¬ oI r < 0 := by rw [h]; exact nI_pos (by omega)
theorem g_add (r : RowAt M 97 0 c) (hw : WF c) (hK : KtR M hs sz) (hW : KWF hs sz) (h6 : M 96 6 = bI w) {p s : Nat} (hp : p < 100) (hs1 : 1 ≤ s) (hs2 : s ≤ 30) (hl : cn c < 9) (hm : mOn c (nI p) = none) (b : Bool) : RETI G ad (d + 3) mX9_addMagnet [.ref (ad 96), .int (nI p), .int (nI s), .int (bI (b))] (M, o) (some (.int (nI (cn c)))) (CHI w hs sz c (addC c p s b) M) := by
  refine CM_of rfl (by decide) rfl (Nat.le_of_ble_eq_true rfl) rfl ?_
  have hn := hw.n
  have hk := hw.k
  have hw9 := hw.w9
  refine e_aload_n (pc' := 1) dX9_addMagnet_0 rfl rfl rfl ?_
  refine e_iload_n (pc' := 2) dX9_addMagnet_1 rfl rfl rfl ?_
  refine e_iconst (pc' := 3) (v := nI 0) dX9_addMagnet_2 rfl (by decide) ?_
  refine e_bipush (pc' := 5) (v := nI 99) dX9_addMagnet_3 rfl (by decide) ?_
  refine r_S (pc' := 8) (m' := mX9_in) (As := [.int (nI p), .int (nI 0), .int (nI 99)]) (st := [.ref (ad 96)]) (g_in (d := d) (nI p) (nI 0) (nI 99)) dX9_addMagnet_5 rfl rfl (Nat.le_of_ble_eq_true rfl) (fit_of (by omega) (by decide) (by decide) (by decide)) ml_X9_62 okX9_in rfl rfl ?_
  show EV _ _ _ _ _ 8 _ ([.int (bI (decide ((nI 0) ≤ (nI p) ∧ (nI p) ≤ (nI 99)))), .ref (ad 96)]) _
  refine e_if_eqB (pc' := 11) (tgt := 25) dX9_addMagnet_8 rfl (by decide) (fun hz1 => absurd hz1 (by rw [in99, isP_n hp]; decide)) (fun hz1 => ?_)
  refine e_iload_n (pc' := 12) dX9_addMagnet_11 rfl rfl rfl ?_
  refine e_iconst (pc' := 13) (v := nI 1) dX9_addMagnet_12 rfl (by decide) ?_
  refine e_bipush (pc' := 15) (v := nI 30) dX9_addMagnet_13 rfl (by decide) ?_
  refine r_S (pc' := 18) (m' := mX9_in) (As := [.int (nI s), .int (nI 1), .int (nI 30)]) (st := [.ref (ad 96)]) (g_in (d := d) (nI s) (nI 1) (nI 30)) dX9_addMagnet_15 rfl rfl (Nat.le_of_ble_eq_true rfl) (fit_of (by omega) (by decide) (by decide) (by decide)) ml_X9_62 okX9_in rfl rfl ?_
  show EV _ _ _ _ _ 18 _ ([.int (bI (decide ((nI 1) ≤ (nI s) ∧ (nI s) ≤ (nI 30)))), .ref (ad 96)]) _
  refine e_if_eqB (pc' := 21) (tgt := 25) dX9_addMagnet_18 rfl (by decide) (fun hz2 => absurd hz2 (by rw [isS_d, isS_n hs1 hs2]; decide)) (fun hz2 => ?_)
  refine e_iconst (pc' := 22) (v := nI 0) dX9_addMagnet_21 rfl (by decide) ?_
  refine e_goto (tgt := 26) dX9_addMagnet_22 (by decide) ?_
  refine r_V (pc' := 29) (m' := mX9_fails) (As := [.int (nI 0)]) (st := []) (g_fails (d := d) (p := 0) (by omega)) dX9_addMagnet_26 rfl rfl (Nat.le_of_ble_eq_true rfl) (fit_of (by omega) (by decide) (by decide) (by decide)) ml_X9_70 okX9_fails rfl rfl (by decide) rfl ?_
  show EV _ _ _ _ _ 29 _ ([.int (bI (decide (0 < 0)))]) _
  refine e_if_eqB (pc' := 32) (tgt := 34) dX9_addMagnet_29 rfl (by decide) (fun hz3 => ?_) (fun hz3 => absurd hz3 (by decide))
  refine e_aload_n (pc' := 35) dX9_addMagnet_34 rfl rfl rfl ?_
  refine p_gfr (pc' := 38) (a := 96) (k := 0) (t := 97) dX9_addMagnet_35 rfl rfl (by decide) (by decide) rfl fl_X9_7 ?_
  refine e_iconst (pc' := 39) (v := nI 0) dX9_addMagnet_38 rfl (by decide) ?_
  refine p_iald (pc' := 40) (a := 97) (k := 0) (x := nI (cn c)) dX9_addMagnet_39 rfl (rfl) (rfl) (by omega) (by decide) (by rw [up2_n (by decide)]; exact by rw [up2_n (by decide)]; exact r.n) ?_
  refine e_bipush (pc' := 42) (v := nI 9) dX9_addMagnet_40 rfl (by decide) ?_
  refine e_icmp_neN (pc' := 45) (tgt := 54) dX9_addMagnet_42 rfl (by decide) (by omega) (by omega) (fun hz4 => ?_) (fun hz4 => absurd hz4 (by omega))
  refine e_aload_n (pc' := 55) dX9_addMagnet_54 rfl rfl rfl ?_
  refine e_iload_n (pc' := 56) dX9_addMagnet_55 rfl rfl rfl ?_
  refine r_V (pc' := 59) (m' := mX9_found) (As := [.int (nI p)]) (st := []) (g_found (d := d) ((r.up (by decide)).up (by decide)) hw (nI p)) dX9_addMagnet_56 rfl rfl (Nat.le_of_ble_eq_true rfl) (fit_of (by omega) (by decide) (by decide) (by decide)) ml_X9_81 okX9_found rfl rfl (by decide) rfl ?_
  show EV _ _ _ _ _ 59 _ ([.int (oI (mOn c (nI p)))]) _
  refine e_if_lt (pc' := 62) (tgt := 74) dX9_addMagnet_59 rfl (by decide) (fun hz5 => ?_) (fun hz5 => absurd hz5 (not_not_intro (none_lt hm)))
  refine e_aload_n (pc' := 75) dX9_addMagnet_74 rfl rfl rfl ?_
  refine e_aload_n (pc' := 76) dX9_addMagnet_75 rfl rfl rfl ?_
  refine p_gfr (pc' := 79) (a := 96) (k := 0) (t := 97) dX9_addMagnet_76 rfl rfl (by decide) (by decide) rfl fl_X9_7 ?_
  refine r_VI (pc' := 82) (m' := mX9_keeps) (As := [.ref (ad 97)]) (st := []) (g_keeps (d := d) (w := w) ((r.up (by decide)).up (by decide)) hw (hK.kp (by rw [up2_k (by decide), up2_k (by decide)]) (by rw [up2_n (by decide), up2_n (by decide)])) hW (by rw [up2_k (by decide), up2_k (by decide)]; exact h6)) dX9_addMagnet_79 rfl rfl (Nat.le_of_ble_eq_true rfl) (fit_of (by omega) (by decide) (by decide) (by decide)) ml_X9_85 okX9_keeps rfl rfl (by decide) rfl (fun M1 hI => ?_)
  show EV _ _ _ _ _ 82 _ ([]) _
  refine e_aload_n (pc' := 83) dX9_addMagnet_82 rfl rfl rfl ?_
  refine p_gfr (pc' := 86) (a := 96) (k := 0) (t := 97) dX9_addMagnet_83 rfl rfl (by decide) (by decide) rfl fl_X9_7 ?_
  refine e_iconst (pc' := 87) (v := nI 0) dX9_addMagnet_86 rfl (by decide) ?_
  refine p_iald (pc' := 88) (a := 97) (k := 0) (x := nI (cn c)) dX9_addMagnet_87 rfl (rfl) (rfl) (by omega) (by decide) ((((r.up (by decide)).up (by decide)).kp hI.2.2.2 (by decide)).n) ?_
  refine e_istore (pc' := 90) (L' := [some (.ref (ad 96)), some (.int (nI p)), some (.int (nI s)), some (.int (bI (b))), some (.int (nI (cn c)))]) dX9_addMagnet_88 rfl (by decide) rfl ?_
  refine e_aload_n (pc' := 91) dX9_addMagnet_90 rfl rfl rfl ?_
  refine p_gfr (pc' := 94) (a := 96) (k := 0) (t := 97) dX9_addMagnet_91 rfl rfl (by decide) (by decide) rfl fl_X9_7 ?_
  refine e_iconst (pc' := 95) (v := nI 0) dX9_addMagnet_94 rfl (by decide) ?_
  refine e_dup2 (pc' := 96) dX9_addMagnet_95 rfl rfl rfl ?_
  refine p_iald (pc' := 97) (a := 97) (k := 0) (x := nI (cn c)) dX9_addMagnet_96 rfl (rfl) (rfl) (by omega) (by decide) ((((r.up (by decide)).up (by decide)).kp hI.2.2.2 (by decide)).n) ?_
  refine e_iconst (pc' := 98) (v := nI 1) dX9_addMagnet_97 rfl (by decide) ?_
  refine e_iaddN (pc' := 99) dX9_addMagnet_98 rfl ?_
  refine p_iast (pc' := 100) (a := 97) (k := 0) dX9_addMagnet_99 rfl (rfl) (rfl) (by omega) (by decide) ?_
  refine e_aload_n (pc' := 101) dX9_addMagnet_100 rfl rfl rfl ?_
  refine e_iload (pc' := 103) dX9_addMagnet_101 rfl rfl ?_
  refine e_iconst (pc' := 104) (v := nI 0) dX9_addMagnet_103 rfl (by decide) ?_
  refine e_iload_n (pc' := 105) dX9_addMagnet_104 rfl rfl rfl ?_
  refine r_V (pc' := 108) (m' := mX9_lays) (As := [.int (nI (cn c)), .int (nI 0), .int (nI p)]) (st := []) (g_lays0 (d := d) (m := cn c) (by omega) (nI p)) dX9_addMagnet_105 rfl rfl (Nat.le_of_ble_eq_true rfl) (fit_of (by omega) (by decide) (by decide) (by decide)) ml_X9_89 okX9_lays rfl rfl (by decide) rfl ?_
  show EV _ _ _ _ _ 108 _ ([]) _
  refine e_aload_n (pc' := 109) dX9_addMagnet_108 rfl rfl rfl ?_
  refine e_iload (pc' := 111) dX9_addMagnet_109 rfl rfl ?_
  refine e_iconst (pc' := 112) (v := nI 1) dX9_addMagnet_111 rfl (by decide) ?_
  refine e_iload_n (pc' := 113) dX9_addMagnet_112 rfl rfl rfl ?_
  refine r_V (pc' := 116) (m' := mX9_lays) (As := [.int (nI (cn c)), .int (nI 1), .int (nI s)]) (st := []) (g_lays1 (d := d) (m := cn c) (by omega) (nI s)) dX9_addMagnet_113 rfl rfl (Nat.le_of_ble_eq_true rfl) (fit_of (by omega) (by decide) (by decide) (by decide)) ml_X9_89 okX9_lays rfl rfl (by decide) rfl ?_
  show EV _ _ _ _ _ 116 _ ([]) _
  refine e_aload_n (pc' := 117) dX9_addMagnet_116 rfl rfl rfl ?_
  refine e_iload (pc' := 119) dX9_addMagnet_117 rfl rfl ?_
  refine e_iconst (pc' := 120) (v := nI 2) dX9_addMagnet_119 rfl (by decide) ?_
  refine e_iload_n (pc' := 121) dX9_addMagnet_120 rfl rfl rfl ?_
  refine e_if_eqB (pc' := 124) (tgt := 128) dX9_addMagnet_121 rfl (by decide) (fun hz9 => ?_) (fun hz9 => ?_)
  · refine e_iconst (pc' := 129) (v := nI 0) dX9_addMagnet_128 rfl (by decide) ?_
    refine r_V (pc' := 132) (m' := mX9_lays) (As := [.int (nI (cn c)), .int (nI 2), .int (nI 0)]) (st := []) (g_lays2 (d := d) (m := cn c) (by omega) (nI 0)) dX9_addMagnet_129 rfl rfl (Nat.le_of_ble_eq_true rfl) (fit_of (by omega) (by decide) (by decide) (by decide)) ml_X9_89 okX9_lays rfl rfl (by decide) rfl ?_
    show EV _ _ _ _ _ 132 _ ([]) _
    refine e_aload_n (pc' := 133) dX9_addMagnet_132 rfl rfl rfl ?_
    refine e_iload (pc' := 135) dX9_addMagnet_133 rfl rfl ?_
    refine e_iconst (pc' := 136) (v := nI 3) dX9_addMagnet_135 rfl (by decide) ?_
    refine e_iconst (pc' := 137) (v := nI 0) dX9_addMagnet_136 rfl (by decide) ?_
    refine r_V (pc' := 140) (m' := mX9_lays) (As := [.int (nI (cn c)), .int (nI 3), .int (nI 0)]) (st := []) (g_lays3 (d := d) (m := cn c) (by omega) (nI 0)) dX9_addMagnet_137 rfl rfl (Nat.le_of_ble_eq_true rfl) (fit_of (by omega) (by decide) (by decide) (by decide)) ml_X9_89 okX9_lays rfl rfl (by decide) rfl ?_
    show EV _ _ _ _ _ 140 _ ([]) _
    refine e_iload (pc' := 142) dX9_addMagnet_140 rfl rfl ?_
    exact e_iret dX9_addMagnet_142 rfl (MP.retI (rfl) (CHI.mk hI (fun j g7 g8 => by rw [up2_k g7, up2_k g8]) ((KP.refl.up (by decide)).up (by decide)) (row_add ((((r.up (by decide)).up (by decide)).kp hI.2.2.2 (by decide))) hl hw.w (by rw [hz9]; rfl)) ((((((KP.refl.up (by decide)).up (by decide)).up (by decide)).up (by decide)).up (by decide))))) (by decide) (by decide)
  · refine e_iconst (pc' := 125) (v := nI 1) dX9_addMagnet_124 rfl (by decide) ?_
    refine e_goto (tgt := 129) dX9_addMagnet_125 (by decide) ?_
    refine r_V (pc' := 132) (m' := mX9_lays) (As := [.int (nI (cn c)), .int (nI 2), .int (nI 1)]) (st := []) (g_lays2 (d := d) (m := cn c) (by omega) (nI 1)) dX9_addMagnet_129 rfl rfl (Nat.le_of_ble_eq_true rfl) (fit_of (by omega) (by decide) (by decide) (by decide)) ml_X9_89 okX9_lays rfl rfl (by decide) rfl ?_
    show EV _ _ _ _ _ 132 _ ([]) _
    refine e_aload_n (pc' := 133) dX9_addMagnet_132 rfl rfl rfl ?_
    refine e_iload (pc' := 135) dX9_addMagnet_133 rfl rfl ?_
    refine e_iconst (pc' := 136) (v := nI 3) dX9_addMagnet_135 rfl (by decide) ?_
    refine e_iconst (pc' := 137) (v := nI 0) dX9_addMagnet_136 rfl (by decide) ?_
    refine r_V (pc' := 140) (m' := mX9_lays) (As := [.int (nI (cn c)), .int (nI 3), .int (nI 0)]) (st := []) (g_lays3 (d := d) (m := cn c) (by omega) (nI 0)) dX9_addMagnet_137 rfl rfl (Nat.le_of_ble_eq_true rfl) (fit_of (by omega) (by decide) (by decide) (by decide)) ml_X9_89 okX9_lays rfl rfl (by decide) rfl ?_
    show EV _ _ _ _ _ 140 _ ([]) _
    refine e_iload (pc' := 142) dX9_addMagnet_140 rfl rfl ?_
    exact e_iret dX9_addMagnet_142 rfl (MP.retI (rfl) (CHI.mk hI (fun j g7 g8 => by rw [up2_k g7, up2_k g8]) ((KP.refl.up (by decide)).up (by decide)) (row_add ((((r.up (by decide)).up (by decide)).kp hI.2.2.2 (by decide))) hl hw.w (by rw [hz9]; rfl)) ((((((KP.refl.up (by decide)).up (by decide)).up (by decide)).up (by decide)).up (by decide))))) (by decide) (by decide)
theorem g_add_p (r : RowAt M 97 0 c) (hw : WF c) (x y : Int32) (b : Bool) (hx : isP x = false) : RETI G ad (d + 3) mX9_addMagnet [.ref (ad 96), .int (x), .int (y), .int (bI (b))] (M, o) (some (.int (nI 0))) (FLI 1 M) := by
  refine CM_of rfl (by decide) rfl (Nat.le_of_ble_eq_true rfl) rfl ?_
  have hn := hw.n
  have hk := hw.k
  have hw9 := hw.w9
  refine e_aload_n (pc' := 1) dX9_addMagnet_0 rfl rfl rfl ?_
  refine e_iload_n (pc' := 2) dX9_addMagnet_1 rfl rfl rfl ?_
  refine e_iconst (pc' := 3) (v := nI 0) dX9_addMagnet_2 rfl (by decide) ?_
  refine e_bipush (pc' := 5) (v := nI 99) dX9_addMagnet_3 rfl (by decide) ?_
  refine r_S (pc' := 8) (m' := mX9_in) (As := [.int (x), .int (nI 0), .int (nI 99)]) (st := [.ref (ad 96)]) (g_in (d := d) (x) (nI 0) (nI 99)) dX9_addMagnet_5 rfl rfl (Nat.le_of_ble_eq_true rfl) (fit_of (by omega) (by decide) (by decide) (by decide)) ml_X9_62 okX9_in rfl rfl ?_
  show EV _ _ _ _ _ 8 _ ([.int (bI (decide ((nI 0) ≤ (x) ∧ (x) ≤ (nI 99)))), .ref (ad 96)]) _
  refine e_if_eqB (pc' := 11) (tgt := 25) dX9_addMagnet_8 rfl (by decide) (fun hz1 => ?_) (fun hz1 => absurd hz1 (by rw [in99, hx]; decide))
  refine e_iconst (pc' := 26) (v := nI 1) dX9_addMagnet_25 rfl (by decide) ?_
  refine r_V (pc' := 29) (m' := mX9_fails) (As := [.int (nI 1)]) (st := []) (g_fails (d := d) (p := 1) (by omega)) dX9_addMagnet_26 rfl rfl (Nat.le_of_ble_eq_true rfl) (fit_of (by omega) (by decide) (by decide) (by decide)) ml_X9_70 okX9_fails rfl rfl (by decide) rfl ?_
  show EV _ _ _ _ _ 29 _ ([.int (bI (decide (0 < 1)))]) _
  refine e_if_eqB (pc' := 32) (tgt := 34) dX9_addMagnet_29 rfl (by decide) (fun hz2 => absurd hz2 (by decide)) (fun hz2 => ?_)
  refine e_iconst (pc' := 33) (v := nI 0) dX9_addMagnet_32 rfl (by decide) ?_
  exact e_iret dX9_addMagnet_33 rfl (MP.retI rfl FLI.f) (by decide) (by decide)
theorem g_add_s (r : RowAt M 97 0 c) (hw : WF c) {p : Nat} (hp : p < 100) (y : Int32) (b : Bool) (hy : isS y = false) : RETI G ad (d + 3) mX9_addMagnet [.ref (ad 96), .int (nI p), .int (y), .int (bI (b))] (M, o) (some (.int (nI 0))) (FLI 1 M) := by
  refine CM_of rfl (by decide) rfl (Nat.le_of_ble_eq_true rfl) rfl ?_
  have hn := hw.n
  have hk := hw.k
  have hw9 := hw.w9
  refine e_aload_n (pc' := 1) dX9_addMagnet_0 rfl rfl rfl ?_
  refine e_iload_n (pc' := 2) dX9_addMagnet_1 rfl rfl rfl ?_
  refine e_iconst (pc' := 3) (v := nI 0) dX9_addMagnet_2 rfl (by decide) ?_
  refine e_bipush (pc' := 5) (v := nI 99) dX9_addMagnet_3 rfl (by decide) ?_
  refine r_S (pc' := 8) (m' := mX9_in) (As := [.int (nI p), .int (nI 0), .int (nI 99)]) (st := [.ref (ad 96)]) (g_in (d := d) (nI p) (nI 0) (nI 99)) dX9_addMagnet_5 rfl rfl (Nat.le_of_ble_eq_true rfl) (fit_of (by omega) (by decide) (by decide) (by decide)) ml_X9_62 okX9_in rfl rfl ?_
  show EV _ _ _ _ _ 8 _ ([.int (bI (decide ((nI 0) ≤ (nI p) ∧ (nI p) ≤ (nI 99)))), .ref (ad 96)]) _
  refine e_if_eqB (pc' := 11) (tgt := 25) dX9_addMagnet_8 rfl (by decide) (fun hz1 => absurd hz1 (by rw [in99, isP_n hp]; decide)) (fun hz1 => ?_)
  refine e_iload_n (pc' := 12) dX9_addMagnet_11 rfl rfl rfl ?_
  refine e_iconst (pc' := 13) (v := nI 1) dX9_addMagnet_12 rfl (by decide) ?_
  refine e_bipush (pc' := 15) (v := nI 30) dX9_addMagnet_13 rfl (by decide) ?_
  refine r_S (pc' := 18) (m' := mX9_in) (As := [.int (y), .int (nI 1), .int (nI 30)]) (st := [.ref (ad 96)]) (g_in (d := d) (y) (nI 1) (nI 30)) dX9_addMagnet_15 rfl rfl (Nat.le_of_ble_eq_true rfl) (fit_of (by omega) (by decide) (by decide) (by decide)) ml_X9_62 okX9_in rfl rfl ?_
  show EV _ _ _ _ _ 18 _ ([.int (bI (decide ((nI 1) ≤ (y) ∧ (y) ≤ (nI 30)))), .ref (ad 96)]) _
  refine e_if_eqB (pc' := 21) (tgt := 25) dX9_addMagnet_18 rfl (by decide) (fun hz2 => ?_) (fun hz2 => absurd hz2 (by rw [isS_d, hy]; decide))
  refine e_iconst (pc' := 26) (v := nI 1) dX9_addMagnet_25 rfl (by decide) ?_
  refine r_V (pc' := 29) (m' := mX9_fails) (As := [.int (nI 1)]) (st := []) (g_fails (d := d) (p := 1) (by omega)) dX9_addMagnet_26 rfl rfl (Nat.le_of_ble_eq_true rfl) (fit_of (by omega) (by decide) (by decide) (by decide)) ml_X9_70 okX9_fails rfl rfl (by decide) rfl ?_
  show EV _ _ _ _ _ 29 _ ([.int (bI (decide (0 < 1)))]) _
  refine e_if_eqB (pc' := 32) (tgt := 34) dX9_addMagnet_29 rfl (by decide) (fun hz3 => absurd hz3 (by decide)) (fun hz3 => ?_)
  refine e_iconst (pc' := 33) (v := nI 0) dX9_addMagnet_32 rfl (by decide) ?_
  exact e_iret dX9_addMagnet_33 rfl (MP.retI rfl FLI.f) (by decide) (by decide)
theorem g_add_1 (r : RowAt M 97 0 c) (hw : WF c) {p s : Nat} (hp : p < 100) (hs1 : 1 ≤ s) (hs2 : s ≤ 30) (hl : cn c = 9) (b : Bool) : RETI G ad (d + 3) mX9_addMagnet [.ref (ad 96), .int (nI p), .int (nI s), .int (bI (b))] (M, o) (some (.int (nI 0))) (FDI 2 1 (nI 9) M) := by
  refine CM_of rfl (by decide) rfl (Nat.le_of_ble_eq_true rfl) rfl ?_
  have hn := hw.n
  have hk := hw.k
  have hw9 := hw.w9
  refine e_aload_n (pc' := 1) dX9_addMagnet_0 rfl rfl rfl ?_
  refine e_iload_n (pc' := 2) dX9_addMagnet_1 rfl rfl rfl ?_
  refine e_iconst (pc' := 3) (v := nI 0) dX9_addMagnet_2 rfl (by decide) ?_
  refine e_bipush (pc' := 5) (v := nI 99) dX9_addMagnet_3 rfl (by decide) ?_
  refine r_S (pc' := 8) (m' := mX9_in) (As := [.int (nI p), .int (nI 0), .int (nI 99)]) (st := [.ref (ad 96)]) (g_in (d := d) (nI p) (nI 0) (nI 99)) dX9_addMagnet_5 rfl rfl (Nat.le_of_ble_eq_true rfl) (fit_of (by omega) (by decide) (by decide) (by decide)) ml_X9_62 okX9_in rfl rfl ?_
  show EV _ _ _ _ _ 8 _ ([.int (bI (decide ((nI 0) ≤ (nI p) ∧ (nI p) ≤ (nI 99)))), .ref (ad 96)]) _
  refine e_if_eqB (pc' := 11) (tgt := 25) dX9_addMagnet_8 rfl (by decide) (fun hz1 => absurd hz1 (by rw [in99, isP_n hp]; decide)) (fun hz1 => ?_)
  refine e_iload_n (pc' := 12) dX9_addMagnet_11 rfl rfl rfl ?_
  refine e_iconst (pc' := 13) (v := nI 1) dX9_addMagnet_12 rfl (by decide) ?_
  refine e_bipush (pc' := 15) (v := nI 30) dX9_addMagnet_13 rfl (by decide) ?_
  refine r_S (pc' := 18) (m' := mX9_in) (As := [.int (nI s), .int (nI 1), .int (nI 30)]) (st := [.ref (ad 96)]) (g_in (d := d) (nI s) (nI 1) (nI 30)) dX9_addMagnet_15 rfl rfl (Nat.le_of_ble_eq_true rfl) (fit_of (by omega) (by decide) (by decide) (by decide)) ml_X9_62 okX9_in rfl rfl ?_
  show EV _ _ _ _ _ 18 _ ([.int (bI (decide ((nI 1) ≤ (nI s) ∧ (nI s) ≤ (nI 30)))), .ref (ad 96)]) _
  refine e_if_eqB (pc' := 21) (tgt := 25) dX9_addMagnet_18 rfl (by decide) (fun hz2 => absurd hz2 (by rw [isS_d, isS_n hs1 hs2]; decide)) (fun hz2 => ?_)
  refine e_iconst (pc' := 22) (v := nI 0) dX9_addMagnet_21 rfl (by decide) ?_
  refine e_goto (tgt := 26) dX9_addMagnet_22 (by decide) ?_
  refine r_V (pc' := 29) (m' := mX9_fails) (As := [.int (nI 0)]) (st := []) (g_fails (d := d) (p := 0) (by omega)) dX9_addMagnet_26 rfl rfl (Nat.le_of_ble_eq_true rfl) (fit_of (by omega) (by decide) (by decide) (by decide)) ml_X9_70 okX9_fails rfl rfl (by decide) rfl ?_
  show EV _ _ _ _ _ 29 _ ([.int (bI (decide (0 < 0)))]) _
  refine e_if_eqB (pc' := 32) (tgt := 34) dX9_addMagnet_29 rfl (by decide) (fun hz3 => ?_) (fun hz3 => absurd hz3 (by decide))
  refine e_aload_n (pc' := 35) dX9_addMagnet_34 rfl rfl rfl ?_
  refine p_gfr (pc' := 38) (a := 96) (k := 0) (t := 97) dX9_addMagnet_35 rfl rfl (by decide) (by decide) rfl fl_X9_7 ?_
  refine e_iconst (pc' := 39) (v := nI 0) dX9_addMagnet_38 rfl (by decide) ?_
  refine p_iald (pc' := 40) (a := 97) (k := 0) (x := nI (cn c)) dX9_addMagnet_39 rfl (rfl) (rfl) (by omega) (by decide) (by rw [up2_n (by decide)]; exact by rw [up2_n (by decide)]; exact r.n) ?_
  refine e_bipush (pc' := 42) (v := nI 9) dX9_addMagnet_40 rfl (by decide) ?_
  refine e_icmp_neN (pc' := 45) (tgt := 54) dX9_addMagnet_42 rfl (by decide) (by omega) (by omega) (fun hz4 => absurd hz4 (by omega)) (fun hz4 => ?_)
  refine e_aload_n (pc' := 46) dX9_addMagnet_45 rfl rfl rfl ?_
  refine e_iconst (pc' := 47) (v := nI 2) dX9_addMagnet_46 rfl (by decide) ?_
  refine e_iconst (pc' := 48) (v := nI 1) dX9_addMagnet_47 rfl (by decide) ?_
  refine e_bipush (pc' := 50) (v := nI 9) dX9_addMagnet_48 rfl (by decide) ?_
  refine r_V (pc' := 53) (m' := mX9_denies) (As := [.int (nI 2), .int (nI 1), .int (nI 9)]) (st := []) (g_denies (d := d) (2) (1) (nI 9)) dX9_addMagnet_50 rfl rfl (Nat.le_of_ble_eq_true rfl) (fit_of (by omega) (by decide) (by decide) (by decide)) ml_X9_77 okX9_denies rfl rfl (by decide) rfl ?_
  show EV _ _ _ _ _ 53 _ ([.int (nI 0)]) _
  exact e_iret dX9_addMagnet_53 rfl (MP.retI rfl (FDI.of (fun j g7 g8 => by rw [up2_k g7, up2_k g8]) ((KP.refl.up (by decide)).up (by decide)))) (by decide) (by decide)
theorem g_add_2 (r : RowAt M 97 0 c) (hw : WF c) {p s i : Nat} (hp : p < 100) (hs1 : 1 ≤ s) (hs2 : s ≤ 30) (hl : cn c < 9) (hm : mOn c (nI p) = some i) (b : Bool) : RETI G ad (d + 3) mX9_addMagnet [.ref (ad 96), .int (nI p), .int (nI s), .int (bI (b))] (M, o) (some (.int (nI 0))) (FDI 2 2 (oI (mOn c (nI p))) M) := by
  refine CM_of rfl (by decide) rfl (Nat.le_of_ble_eq_true rfl) rfl ?_
  have hn := hw.n
  have hk := hw.k
  have hw9 := hw.w9
  refine e_aload_n (pc' := 1) dX9_addMagnet_0 rfl rfl rfl ?_
  refine e_iload_n (pc' := 2) dX9_addMagnet_1 rfl rfl rfl ?_
  refine e_iconst (pc' := 3) (v := nI 0) dX9_addMagnet_2 rfl (by decide) ?_
  refine e_bipush (pc' := 5) (v := nI 99) dX9_addMagnet_3 rfl (by decide) ?_
  refine r_S (pc' := 8) (m' := mX9_in) (As := [.int (nI p), .int (nI 0), .int (nI 99)]) (st := [.ref (ad 96)]) (g_in (d := d) (nI p) (nI 0) (nI 99)) dX9_addMagnet_5 rfl rfl (Nat.le_of_ble_eq_true rfl) (fit_of (by omega) (by decide) (by decide) (by decide)) ml_X9_62 okX9_in rfl rfl ?_
  show EV _ _ _ _ _ 8 _ ([.int (bI (decide ((nI 0) ≤ (nI p) ∧ (nI p) ≤ (nI 99)))), .ref (ad 96)]) _
  refine e_if_eqB (pc' := 11) (tgt := 25) dX9_addMagnet_8 rfl (by decide) (fun hz1 => absurd hz1 (by rw [in99, isP_n hp]; decide)) (fun hz1 => ?_)
  refine e_iload_n (pc' := 12) dX9_addMagnet_11 rfl rfl rfl ?_
  refine e_iconst (pc' := 13) (v := nI 1) dX9_addMagnet_12 rfl (by decide) ?_
  refine e_bipush (pc' := 15) (v := nI 30) dX9_addMagnet_13 rfl (by decide) ?_
  refine r_S (pc' := 18) (m' := mX9_in) (As := [.int (nI s), .int (nI 1), .int (nI 30)]) (st := [.ref (ad 96)]) (g_in (d := d) (nI s) (nI 1) (nI 30)) dX9_addMagnet_15 rfl rfl (Nat.le_of_ble_eq_true rfl) (fit_of (by omega) (by decide) (by decide) (by decide)) ml_X9_62 okX9_in rfl rfl ?_
  show EV _ _ _ _ _ 18 _ ([.int (bI (decide ((nI 1) ≤ (nI s) ∧ (nI s) ≤ (nI 30)))), .ref (ad 96)]) _
  refine e_if_eqB (pc' := 21) (tgt := 25) dX9_addMagnet_18 rfl (by decide) (fun hz2 => absurd hz2 (by rw [isS_d, isS_n hs1 hs2]; decide)) (fun hz2 => ?_)
  refine e_iconst (pc' := 22) (v := nI 0) dX9_addMagnet_21 rfl (by decide) ?_
  refine e_goto (tgt := 26) dX9_addMagnet_22 (by decide) ?_
  refine r_V (pc' := 29) (m' := mX9_fails) (As := [.int (nI 0)]) (st := []) (g_fails (d := d) (p := 0) (by omega)) dX9_addMagnet_26 rfl rfl (Nat.le_of_ble_eq_true rfl) (fit_of (by omega) (by decide) (by decide) (by decide)) ml_X9_70 okX9_fails rfl rfl (by decide) rfl ?_
  show EV _ _ _ _ _ 29 _ ([.int (bI (decide (0 < 0)))]) _
  refine e_if_eqB (pc' := 32) (tgt := 34) dX9_addMagnet_29 rfl (by decide) (fun hz3 => ?_) (fun hz3 => absurd hz3 (by decide))
  refine e_aload_n (pc' := 35) dX9_addMagnet_34 rfl rfl rfl ?_
  refine p_gfr (pc' := 38) (a := 96) (k := 0) (t := 97) dX9_addMagnet_35 rfl rfl (by decide) (by decide) rfl fl_X9_7 ?_
  refine e_iconst (pc' := 39) (v := nI 0) dX9_addMagnet_38 rfl (by decide) ?_
  refine p_iald (pc' := 40) (a := 97) (k := 0) (x := nI (cn c)) dX9_addMagnet_39 rfl (rfl) (rfl) (by omega) (by decide) (by rw [up2_n (by decide)]; exact by rw [up2_n (by decide)]; exact r.n) ?_
  refine e_bipush (pc' := 42) (v := nI 9) dX9_addMagnet_40 rfl (by decide) ?_
  refine e_icmp_neN (pc' := 45) (tgt := 54) dX9_addMagnet_42 rfl (by decide) (by omega) (by omega) (fun hz4 => ?_) (fun hz4 => absurd hz4 (by omega))
  refine e_aload_n (pc' := 55) dX9_addMagnet_54 rfl rfl rfl ?_
  refine e_iload_n (pc' := 56) dX9_addMagnet_55 rfl rfl rfl ?_
  refine r_V (pc' := 59) (m' := mX9_found) (As := [.int (nI p)]) (st := []) (g_found (d := d) ((r.up (by decide)).up (by decide)) hw (nI p)) dX9_addMagnet_56 rfl rfl (Nat.le_of_ble_eq_true rfl) (fit_of (by omega) (by decide) (by decide) (by decide)) ml_X9_81 okX9_found rfl rfl (by decide) rfl ?_
  show EV _ _ _ _ _ 59 _ ([.int (oI (mOn c (nI p)))]) _
  refine e_if_lt (pc' := 62) (tgt := 74) dX9_addMagnet_59 rfl (by decide) (fun hz5 => absurd hz5 (some_lt hm (by have := (mOn_lt hm).1; omega))) (fun hz5 => ?_)
  refine e_aload_n (pc' := 63) dX9_addMagnet_62 rfl rfl rfl ?_
  refine e_iconst (pc' := 64) (v := nI 2) dX9_addMagnet_63 rfl (by decide) ?_
  refine e_iconst (pc' := 65) (v := nI 2) dX9_addMagnet_64 rfl (by decide) ?_
  refine e_aload_n (pc' := 66) dX9_addMagnet_65 rfl rfl rfl ?_
  refine e_iload_n (pc' := 67) dX9_addMagnet_66 rfl rfl rfl ?_
  refine r_V (pc' := 70) (m' := mX9_found) (As := [.int (nI p)]) (st := [.int (nI 2), .int (nI 2), .ref (ad 96)]) (g_found (d := d) ((r.up (by decide)).up (by decide)) hw (nI p)) dX9_addMagnet_67 rfl rfl (Nat.le_of_ble_eq_true rfl) (fit_of (by omega) (by decide) (by decide) (by decide)) ml_X9_81 okX9_found rfl rfl (by decide) rfl ?_
  show EV _ _ _ _ _ 70 _ ([.int (oI (mOn c (nI p))), .int (nI 2), .int (nI 2), .ref (ad 96)]) _
  refine r_V (pc' := 73) (m' := mX9_denies) (As := [.int (nI 2), .int (nI 2), .int (oI (mOn c (nI p)))]) (st := []) (g_denies (d := d) (2) (2) (oI (mOn c (nI p)))) dX9_addMagnet_70 rfl rfl (Nat.le_of_ble_eq_true rfl) (fit_of (by omega) (by decide) (by decide) (by decide)) ml_X9_77 okX9_denies rfl rfl (by decide) rfl ?_
  show EV _ _ _ _ _ 73 _ ([.int (nI 0)]) _
  exact e_iret dX9_addMagnet_73 rfl (MP.retI rfl (FDI.of (fun j g7 g8 => by rw [up2_k g7, up2_k g8]) ((KP.refl.up (by decide)).up (by decide)))) (by decide) (by decide)
theorem q2 {M : Nat → Nat → Int32} {x y : Int32} : ∀ j, j ≠ 7 → j ≠ 8 → (up2 (up2 (up2 (up2 M 96 8 x) 96 7 y) 96 8 x) 96 7 y) 96 j = M 96 j := fun j g7 g8 => by rw [up2_k g7, up2_k g8, up2_k g7, up2_k g8]
theorem g_str (r : RowAt M 97 0 c) (hw : WF c) (hK : KtR M hs sz) (hW : KWF hs sz) (h6 : M 96 6 = bI w) {i : Nat} (hi : i < cn c) {s : Nat} (hs1 : 1 ≤ s) (hs2 : s ≤ 30) : RETI G ad (d + 3) mX9_setStrength [.ref (ad 96), .int (nI i), .int (nI s)] (M, o) (some (.int (nI (cs c i)))) (CHI w hs sz c (strC c i s) M) := by
  refine CM_of rfl (by decide) rfl (Nat.le_of_ble_eq_true rfl) rfl ?_
  have hn := hw.n
  have hk := hw.k
  have hw9 := hw.w9
  refine e_aload_n (pc' := 1) dX9_setStrength_0 rfl rfl rfl ?_
  refine e_iload_n (pc' := 2) dX9_setStrength_1 rfl rfl rfl ?_
  refine r_V (pc' := 5) (m' := mX9_isNone) (As := [.int (nI i)]) (st := []) (g_isNone_ok (d := d) r hw (nI i) (hasM_n hw hi)) dX9_setStrength_2 rfl rfl (Nat.le_of_ble_eq_true rfl) (fit_of (by omega) (by decide) (by decide) (by decide)) ml_X9_93 okX9_isNone rfl rfl (by decide) rfl ?_
  show EV _ _ _ _ _ 5 _ ([.int (bI (false))]) _
  refine e_if_neB (pc' := 8) (tgt := 30) dX9_setStrength_5 rfl (by decide) (fun hz1 => absurd hz1 (by decide)) (fun hz1 => ?_)
  refine e_aload_n (pc' := 9) dX9_setStrength_8 rfl rfl rfl ?_
  refine e_iload_n (pc' := 10) dX9_setStrength_9 rfl rfl rfl ?_
  refine e_iconst (pc' := 11) (v := nI 1) dX9_setStrength_10 rfl (by decide) ?_
  refine e_bipush (pc' := 13) (v := nI 30) dX9_setStrength_11 rfl (by decide) ?_
  refine r_S (pc' := 16) (m' := mX9_in) (As := [.int (nI s), .int (nI 1), .int (nI 30)]) (st := [.ref (ad 96)]) (g_in (d := d) (nI s) (nI 1) (nI 30)) dX9_setStrength_13 rfl rfl (Nat.le_of_ble_eq_true rfl) (fit_of (by omega) (by decide) (by decide) (by decide)) ml_X9_62 okX9_in rfl rfl ?_
  show EV _ _ _ _ _ 16 _ ([.int (bI (decide ((nI 1) ≤ (nI s) ∧ (nI s) ≤ (nI 30)))), .ref (ad 96)]) _
  refine e_if_eqB (pc' := 19) (tgt := 23) dX9_setStrength_16 rfl (by decide) (fun hz2 => absurd hz2 (by rw [isS_d, isS_n hs1 hs2]; decide)) (fun hz2 => ?_)
  refine e_iconst (pc' := 20) (v := nI 0) dX9_setStrength_19 rfl (by decide) ?_
  refine e_goto (tgt := 24) dX9_setStrength_20 (by decide) ?_
  refine r_V (pc' := 27) (m' := mX9_fails) (As := [.int (nI 0)]) (st := []) (g_fails (d := d) (p := 0) (by omega)) dX9_setStrength_24 rfl rfl (Nat.le_of_ble_eq_true rfl) (fit_of (by omega) (by decide) (by decide) (by decide)) ml_X9_70 okX9_fails rfl rfl (by decide) rfl ?_
  show EV _ _ _ _ _ 27 _ ([.int (bI (decide (0 < 0)))]) _
  refine e_if_eqB (pc' := 30) (tgt := 32) dX9_setStrength_27 rfl (by decide) (fun hz3 => ?_) (fun hz3 => absurd hz3 (by decide))
  refine e_aload_n (pc' := 33) dX9_setStrength_32 rfl rfl rfl ?_
  refine e_iload_n (pc' := 34) dX9_setStrength_33 rfl rfl rfl ?_
  refine e_iconst (pc' := 35) (v := nI 1) dX9_setStrength_34 rfl (by decide) ?_
  have hb1 := hw.s2 (i := i) (by omega)
  have hc1 := hw.s1 (i := i) (by omega)
  refine r_V (pc' := 38) (m' := mX9_of) (As := [.int (nI i), .int (nI 1)]) (st := []) (g_of1 (d := d) ((((r.up (by decide)).up (by decide)).up (by decide)).up (by decide)) hw (m := i) (by omega)) dX9_setStrength_35 rfl rfl (Nat.le_of_ble_eq_true rfl) (fit_of (by omega) (by decide) (by decide) (by decide)) ml_X9_73 okX9_of rfl rfl (by decide) rfl ?_
  show EV _ _ _ _ _ 38 _ ([.int (nI (cs c (i)))]) _
  refine e_istore_n (pc' := 39) (L' := [some (.ref (ad 96)), some (.int (nI i)), some (.int (nI s)), some (.int (nI (cs c (i))))]) dX9_setStrength_38 rfl rfl (by decide) rfl ?_
  refine e_aload_n (pc' := 40) dX9_setStrength_39 rfl rfl rfl ?_
  refine e_aload_n (pc' := 41) dX9_setStrength_40 rfl rfl rfl ?_
  refine p_gfr (pc' := 44) (a := 96) (k := 0) (t := 97) dX9_setStrength_41 rfl rfl (by decide) (by decide) rfl fl_X9_7 ?_
  refine r_VI (pc' := 47) (m' := mX9_keeps) (As := [.ref (ad 97)]) (st := []) (g_keeps (d := d) (w := w) ((((r.up (by decide)).up (by decide)).up (by decide)).up (by decide)) hw (hK.kp (by rw [up2_k (by decide), up2_k (by decide), up2_k (by decide), up2_k (by decide)]) (by rw [up2_n (by decide), up2_n (by decide), up2_n (by decide), up2_n (by decide)])) hW (by rw [up2_k (by decide), up2_k (by decide), up2_k (by decide), up2_k (by decide)]; exact h6)) dX9_setStrength_44 rfl rfl (Nat.le_of_ble_eq_true rfl) (fit_of (by omega) (by decide) (by decide) (by decide)) ml_X9_85 okX9_keeps rfl rfl (by decide) rfl (fun M1 hI => ?_)
  show EV _ _ _ _ _ 47 _ ([]) _
  refine e_aload_n (pc' := 48) dX9_setStrength_47 rfl rfl rfl ?_
  refine e_iload_n (pc' := 49) dX9_setStrength_48 rfl rfl rfl ?_
  refine e_iconst (pc' := 50) (v := nI 1) dX9_setStrength_49 rfl (by decide) ?_
  refine e_iload_n (pc' := 51) dX9_setStrength_50 rfl rfl rfl ?_
  refine r_V (pc' := 54) (m' := mX9_lays) (As := [.int (nI i), .int (nI 1), .int (nI s)]) (st := []) (g_lays1 (d := d) (m := i) (by omega) (nI s)) dX9_setStrength_51 rfl rfl (Nat.le_of_ble_eq_true rfl) (fit_of (by omega) (by decide) (by decide) (by decide)) ml_X9_89 okX9_lays rfl rfl (by decide) rfl ?_
  show EV _ _ _ _ _ 54 _ ([]) _
  refine e_iload_n (pc' := 55) dX9_setStrength_54 rfl rfl rfl ?_
  exact e_iret dX9_setStrength_55 rfl (MP.retI rfl (CHI.mk hI q2 ((((KP.refl.up (by decide)).up (by decide)).up (by decide)).up (by decide)) (((((((r.up (by decide)).up (by decide)).up (by decide)).up (by decide)).kp hI.2.2.2 (by decide))).sS hn (by omega)) (KP.refl.up (by decide)))) (by decide) (by decide)
theorem g_str_m (r : RowAt M 97 0 c) (hw : WF c) (x y : Int32) (hx : hasM c x = false) : RETI G ad (d + 3) mX9_setStrength [.ref (ad 96), .int (x), .int (y)] (M, o) (some (.int (nI 0))) (FLI 1 M) := by
  refine CM_of rfl (by decide) rfl (Nat.le_of_ble_eq_true rfl) rfl ?_
  have hn := hw.n
  have hk := hw.k
  have hw9 := hw.w9
  refine e_aload_n (pc' := 1) dX9_setStrength_0 rfl rfl rfl ?_
  refine e_iload_n (pc' := 2) dX9_setStrength_1 rfl rfl rfl ?_
  refine r_V (pc' := 5) (m' := mX9_isNone) (As := [.int (x)]) (st := []) (g_isNone_no (d := d) r hw (x) hx) dX9_setStrength_2 rfl rfl (Nat.le_of_ble_eq_true rfl) (fit_of (by omega) (by decide) (by decide) (by decide)) ml_X9_93 okX9_isNone rfl rfl (by decide) rfl ?_
  show EV _ _ _ _ _ 5 _ ([.int (bI (true))]) _
  refine e_if_neB (pc' := 8) (tgt := 30) dX9_setStrength_5 rfl (by decide) (fun hz1 => ?_) (fun hz1 => absurd hz1 (by decide))
  refine e_iconst (pc' := 31) (v := nI 0) dX9_setStrength_30 rfl (by decide) ?_
  exact e_iret dX9_setStrength_31 rfl (MP.retI rfl FLI.f) (by decide) (by decide)
theorem FLI.f2 {p k : Nat} {M : Nat → Nat → Int32} {y : Int32} : FLI p M (up2 (up2 (up2 (up2 M 96 8 (nI k)) 96 7 y) 96 8 (nI p)) 96 7 (nI 0)) := ⟨by rw [up2_k (by decide)]; exact up2_s, up2_s, fun j h1 h2 => by rw [up2_k h1, up2_k h2, up2_k h1, up2_k h2], (((KP.refl.up (by decide)).up (by decide)).up (by decide)).up (by decide)⟩
theorem g_str_s (r : RowAt M 97 0 c) (hw : WF c) {i : Nat} (hi : i < cn c) (y : Int32) (hy : isS y = false) : RETI G ad (d + 3) mX9_setStrength [.ref (ad 96), .int (nI i), .int (y)] (M, o) (some (.int (nI 0))) (FLI 2 M) := by
  refine CM_of rfl (by decide) rfl (Nat.le_of_ble_eq_true rfl) rfl ?_
  have hn := hw.n
  have hk := hw.k
  have hw9 := hw.w9
  refine e_aload_n (pc' := 1) dX9_setStrength_0 rfl rfl rfl ?_
  refine e_iload_n (pc' := 2) dX9_setStrength_1 rfl rfl rfl ?_
  refine r_V (pc' := 5) (m' := mX9_isNone) (As := [.int (nI i)]) (st := []) (g_isNone_ok (d := d) r hw (nI i) (hasM_n hw hi)) dX9_setStrength_2 rfl rfl (Nat.le_of_ble_eq_true rfl) (fit_of (by omega) (by decide) (by decide) (by decide)) ml_X9_93 okX9_isNone rfl rfl (by decide) rfl ?_
  show EV _ _ _ _ _ 5 _ ([.int (bI (false))]) _
  refine e_if_neB (pc' := 8) (tgt := 30) dX9_setStrength_5 rfl (by decide) (fun hz1 => absurd hz1 (by decide)) (fun hz1 => ?_)
  refine e_aload_n (pc' := 9) dX9_setStrength_8 rfl rfl rfl ?_
  refine e_iload_n (pc' := 10) dX9_setStrength_9 rfl rfl rfl ?_
  refine e_iconst (pc' := 11) (v := nI 1) dX9_setStrength_10 rfl (by decide) ?_
  refine e_bipush (pc' := 13) (v := nI 30) dX9_setStrength_11 rfl (by decide) ?_
  refine r_S (pc' := 16) (m' := mX9_in) (As := [.int (y), .int (nI 1), .int (nI 30)]) (st := [.ref (ad 96)]) (g_in (d := d) (y) (nI 1) (nI 30)) dX9_setStrength_13 rfl rfl (Nat.le_of_ble_eq_true rfl) (fit_of (by omega) (by decide) (by decide) (by decide)) ml_X9_62 okX9_in rfl rfl ?_
  show EV _ _ _ _ _ 16 _ ([.int (bI (decide ((nI 1) ≤ (y) ∧ (y) ≤ (nI 30)))), .ref (ad 96)]) _
  refine e_if_eqB (pc' := 19) (tgt := 23) dX9_setStrength_16 rfl (by decide) (fun hz2 => ?_) (fun hz2 => absurd hz2 (by rw [isS_d, hy]; decide))
  refine e_iconst (pc' := 24) (v := nI 2) dX9_setStrength_23 rfl (by decide) ?_
  refine r_V (pc' := 27) (m' := mX9_fails) (As := [.int (nI 2)]) (st := []) (g_fails (d := d) (p := 2) (by omega)) dX9_setStrength_24 rfl rfl (Nat.le_of_ble_eq_true rfl) (fit_of (by omega) (by decide) (by decide) (by decide)) ml_X9_70 okX9_fails rfl rfl (by decide) rfl ?_
  show EV _ _ _ _ _ 27 _ ([.int (bI (decide (0 < 2)))]) _
  refine e_if_eqB (pc' := 30) (tgt := 32) dX9_setStrength_27 rfl (by decide) (fun hz3 => absurd hz3 (by decide)) (fun hz3 => ?_)
  refine e_iconst (pc' := 31) (v := nI 0) dX9_setStrength_30 rfl (by decide) ?_
  exact e_iret dX9_setStrength_31 rfl (MP.retI rfl FLI.f2) (by decide) (by decide)
theorem p2_lt9 {i : Nat} (hi : i < cn c) (hw : WF c) : i < 9 := by have := hw.n; omega
theorem g_turn (r : RowAt M 97 0 c) (hw : WF c) (hK : KtR M hs sz) (hW : KWF hs sz) (h6 : M 96 6 = bI w) {i : Nat} (hi : i < cn c) : RETI G ad (d + 3) mX9_turn [.ref (ad 96), .int (nI i)] (M, o) (some (.int (nI (blkN (trnC c (2 ^ i)) (cw (trnC c (2 ^ i))))))) (CHI w hs sz c (trnC c (2 ^ i)) M) := by
  refine CM_of rfl (by decide) rfl (Nat.le_of_ble_eq_true rfl) rfl ?_
  have hn := hw.n
  have hk := hw.k
  have hw9 := hw.w9
  refine e_aload_n (pc' := 1) dX9_turn_0 rfl rfl rfl ?_
  refine e_iload_n (pc' := 2) dX9_turn_1 rfl rfl rfl ?_
  refine r_V (pc' := 5) (m' := mX9_isNone) (As := [.int (nI i)]) (st := []) (g_isNone_ok (d := d) r hw (nI i) (hasM_n hw hi)) dX9_turn_2 rfl rfl (Nat.le_of_ble_eq_true rfl) (fit_of (by omega) (by decide) (by decide) (by decide)) ml_X9_93 okX9_isNone rfl rfl (by decide) rfl ?_
  show EV _ _ _ _ _ 5 _ ([.int (bI (false))]) _
  refine e_if_eqB (pc' := 8) (tgt := 10) dX9_turn_5 rfl (by decide) (fun hz1 => ?_) (fun hz1 => absurd hz1 (by decide))
  refine e_aload_n (pc' := 11) dX9_turn_10 rfl rfl rfl ?_
  refine e_aload_n (pc' := 12) dX9_turn_11 rfl rfl rfl ?_
  refine p_gfr (pc' := 15) (a := 96) (k := 0) (t := 97) dX9_turn_12 rfl rfl (by decide) (by decide) rfl fl_X9_7 ?_
  refine r_VI (pc' := 18) (m' := mX9_keeps) (As := [.ref (ad 97)]) (st := []) (g_keeps (d := d) (w := w) ((r.up (by decide)).up (by decide)) hw (hK.kp (by rw [up2_k (by decide), up2_k (by decide)]) (by rw [up2_n (by decide), up2_n (by decide)])) hW (by rw [up2_k (by decide), up2_k (by decide)]; exact h6)) dX9_turn_15 rfl rfl (Nat.le_of_ble_eq_true rfl) (fit_of (by omega) (by decide) (by decide) (by decide)) ml_X9_85 okX9_keeps rfl rfl (by decide) rfl (fun M1 hI => ?_)
  show EV _ _ _ _ _ 18 _ ([]) _
  refine e_aload_n (pc' := 19) dX9_turn_18 rfl rfl rfl ?_
  refine e_iload_n (pc' := 20) dX9_turn_19 rfl rfl rfl ?_
  refine r_VI (pc' := 23) (m' := mX9_turnsOne) (As := [.int (nI i)]) (st := []) (g_turnsOne (d := d) (((r.up (by decide)).up (by decide)).kp hI.2.2.2 (by decide)) hw (m := i) hi) dX9_turn_20 rfl rfl (Nat.le_of_ble_eq_true rfl) (fit_of (by omega) (by decide) (by decide) (by decide)) ml_X9_96 okX9_turnsOne rfl rfl (by decide) rfl (fun M2 ⟨hR2, hK2⟩ => ?_)
  show EV _ _ _ _ _ 23 _ ([]) _
  rw [t1C_eq (by omega)] at hR2
  have hw2 := trn_wf hw (p2_lt hi)
  refine e_aload_n (pc' := 24) dX9_turn_23 rfl rfl rfl ?_
  refine e_iconst (pc' := 25) (v := nI 0) dX9_turn_24 rfl (by decide) ?_
  refine r_V (pc' := 28) (m' := mX9_shut) (As := [.int (nI 0)]) (st := []) (g_shut (d := d) hR2 hw2 (w := 0) (by omega)) dX9_turn_25 rfl rfl (Nat.le_of_ble_eq_true rfl) (fit_of (by omega) (by decide) (by decide) (by decide)) ml_X9_100 okX9_shut rfl rfl (by decide) rfl ?_
  show EV _ _ _ _ _ 28 _ ([.int (nI (blkN (trnC c (2 ^ i)) (cw (trnC c (2 ^ i)) ^^^ 0)))]) _
  exact e_iret dX9_turn_28 rfl (MP.retI (by rw [Nat.xor_zero]) (CHI.mk hI (fun j g7 g8 => by rw [up2_k g7, up2_k g8]) ((KP.refl.up (by decide)).up (by decide)) hR2 hK2)) (by decide) (by decide)
theorem g_turn_m (r : RowAt M 97 0 c) (hw : WF c) (x : Int32) (hx : hasM c x = false) : RETI G ad (d + 3) mX9_turn [.ref (ad 96), .int (x)] (M, o) (some (.int (nI 0))) (FLI 1 M) := by
  refine CM_of rfl (by decide) rfl (Nat.le_of_ble_eq_true rfl) rfl ?_
  have hn := hw.n
  have hk := hw.k
  have hw9 := hw.w9
  refine e_aload_n (pc' := 1) dX9_turn_0 rfl rfl rfl ?_
  refine e_iload_n (pc' := 2) dX9_turn_1 rfl rfl rfl ?_
  refine r_V (pc' := 5) (m' := mX9_isNone) (As := [.int (x)]) (st := []) (g_isNone_no (d := d) r hw (x) hx) dX9_turn_2 rfl rfl (Nat.le_of_ble_eq_true rfl) (fit_of (by omega) (by decide) (by decide) (by decide)) ml_X9_93 okX9_isNone rfl rfl (by decide) rfl ?_
  show EV _ _ _ _ _ 5 _ ([.int (bI (true))]) _
  refine e_if_eqB (pc' := 8) (tgt := 10) dX9_turn_5 rfl (by decide) (fun hz1 => absurd hz1 (by decide)) (fun hz1 => ?_)
  refine e_iconst (pc' := 9) (v := nI 0) dX9_turn_8 rfl (by decide) ?_
  exact e_iret dX9_turn_9 rfl (MP.retI rfl FLI.f) (by decide) (by decide)
/-- one more is turned -/
theorem pop_or {v i : Nat} (hi : i < 9) (hv : v < 2 ^ i) : pop (v ||| 2 ^ i) = pop v + 1 := by
  have h0 : v.testBit i = false := Nat.testBit_lt_two_pow hv
  unfold pop
  refine (cnt_drop (P := (v ||| 2 ^ i).testBit) (Q := v.testBit) (D := i) (by rw [Nat.testBit_or, Nat.testBit_two_pow_self, Bool.or_true]) h0 (fun m hm => ?_) hi).symm
  rw [Nat.testBit_or, Nat.testBit_two_pow, decide_eq_false (fun e => hm e.symm), Bool.or_false]
theorem trn_step {v i : Nat} (hi : i < 9) (hv : v < 2 ^ i) : t1C (trnC c v) i = trnC c (v ||| 2 ^ i) := by
  have h0 : v.testBit i = false := Nat.testBit_lt_two_pow hv
  have hp := pop_or hi hv
  have hx : v ^^^ 2 ^ i = v ||| 2 ^ i := by
    refine Nat.eq_of_testBit_eq (fun j => ?_)
    rw [Nat.testBit_xor, Nat.testBit_or, Nat.testBit_two_pow]
    by_cases e : i = j
    · subst e; simp [h0]
    · simp [e]
  obtain ⟨n, k, w, p, s, t, f, g, tt, mm⟩ := c
  simp only [t1C, setTT, setT, setW, trnC, cn, ck, cw, cp, cs, ct, cf, cg, ctt, cmm, hp]
  rw [Nat.xor_assoc, hx, ← nI_add, Int32.add_assoc]
  congr 6
  · funext j
    rw [Nat.testBit_or, Nat.testBit_two_pow]
    by_cases e : j = i
    · subst e
      rw [ups_s, h0]
      simp
      rfl
    · rw [ups_n e]
      simp [Ne.symm e]
theorem trn_zero : trnC c 0 = c := by
  have hp : pop 0 = 0 := by decide
  obtain ⟨n, k, w, p, s, t, f, g, tt, mm⟩ := c
  simp only [trnC, cn, ck, cw, cp, cs, ct, cf, cg, ctt, cmm, hp, Nat.xor_zero, Nat.zero_testBit, Bool.false_eq_true, if_false]
  rw [show tt + nI 0 = tt from Int32.add_zero tt]
theorem gl_shift {M1 : Nat → Nat → Int32} (hw : WF c) (q : Int32) {P : PM} (hfin : ∀ M, RowAt M 97 0 (trnC c (aboW c q (cn c))) → KP (fun a => a == 97) M1 M → P (.inl (some (.int (nI (pop (aboW c q (cn c))))))) (M, o)) : ∀ i, i ≤ cn c → ∀ (M : Nat → Nat → Int32), RowAt M 97 0 (trnC c (aboW c q i)) → KP (fun a => a == 97) M1 M → ER G ad (d + 3) mX9_shift (0, 0) (P) (0, 0) 36 [some (.ref (ad 96)), some (.int (q)), some (.int (nI (pop (aboW c q i)))), some (.int (nI i))] [] (M, o) := down (cn c) _ (fun i hi ih M g1 g2 => by
  have hn := hw.n
  have hk := hw.k
  have hw9 := hw.w9
  have hcn : cn (trnC c (aboW c q i)) = cn c := rfl
  have hwi := trn_wf hw (Nat.lt_of_lt_of_le (aboW_lt c q i) (Nat.pow_le_pow_right (by decide) hi))
  refine e_iload_n (pc' := 37) dX9_shift_36 rfl rfl rfl ?_
  refine e_aload_n (pc' := 38) dX9_shift_37 rfl rfl rfl ?_
  refine p_gfr (pc' := 41) (a := 96) (k := 0) (t := 97) dX9_shift_38 rfl rfl (by decide) (by decide) rfl fl_X9_7 ?_
  refine e_iconst (pc' := 42) (v := nI 0) dX9_shift_41 rfl (by decide) ?_
  refine p_iald (pc' := 43) (a := 97) (k := 0) (x := nI (cn (trnC c (aboW c q i)))) dX9_shift_42 rfl (rfl) (rfl) (by first | omega | exact Nat.lt_of_le_of_lt (pop_le _) (by decide) | (show i < cn c; omega)) (by decide) (g1.n) ?_
  refine e_icmp_geN (pc' := 46) (tgt := 73) dX9_shift_43 rfl (by decide) (by first | omega | exact Nat.lt_of_le_of_lt (pop_le _) (by decide) | (show i < cn c; omega)) (by first | omega | exact Nat.lt_of_le_of_lt (pop_le _) (by decide) | (show i < cn c; omega)) (fun hz1 => ?_) (fun hz1 => ?_)
  · refine e_iload_n (pc' := 74) dX9_shift_73 rfl rfl rfl ?_
    exact e_iret dX9_shift_74 rfl (by
      obtain rfl : i = cn c := by omega
      exact ⟨(M, o), rfl, hfin M g1 g2⟩) (by decide) (by decide)
  · refine e_aload_n (pc' := 47) dX9_shift_46 rfl rfl rfl ?_
    refine e_iload_n (pc' := 48) dX9_shift_47 rfl rfl rfl ?_
    refine e_iconst (pc' := 49) (v := nI 0) dX9_shift_48 rfl (by decide) ?_
    have hb1 := hwi.p (i := i) (by omega)
    refine r_V (pc' := 52) (m' := mX9_of) (As := [.int (nI i), .int (nI 0)]) (st := []) (g_of0 (d := d) g1 hwi (m := i) (by omega)) dX9_shift_49 rfl rfl (Nat.le_of_ble_eq_true rfl) (fit_of (by omega) (by decide) (by decide) (by decide)) ml_X9_73 okX9_of rfl rfl (by decide) rfl ?_
    show EV _ _ _ _ _ 52 _ ([.int (nI (cp (trnC c (aboW c q i)) (i)))]) _
    refine e_iload_n (pc' := 53) dX9_shift_52 rfl rfl rfl ?_
    refine e_icmp_ge (pc' := 56) (tgt := 59) dX9_shift_53 rfl (by decide) (fun h1 => ?_) (fun h1 => ?_)
    · refine e_aload_n (pc' := 60) dX9_shift_59 rfl rfl rfl ?_
      refine e_iload_n (pc' := 61) dX9_shift_60 rfl rfl rfl ?_
      refine r_VI (pc' := 64) (m' := mX9_turnsOne) (As := [.int (nI i)]) (st := []) (g_turnsOne (d := d) g1 hwi (m := i) (by omega)) dX9_shift_61 rfl rfl (Nat.le_of_ble_eq_true rfl) (fit_of (by omega) (by decide) (by decide) (by decide)) ml_X9_96 okX9_turnsOne rfl rfl (by decide) rfl (fun M2 ⟨hR2, hK2⟩ => ?_)
      show EV _ _ _ _ _ 64 _ ([]) _
      refine e_iincN (pc' := 67) (k := 1) (L' := [some (.ref (ad 96)), some (.int (q)), some (.int (nI (pop (aboW c q i) + 1))), some (.int (nI i))]) dX9_shift_64 rfl rfl rfl (by decide) rfl ?_
      refine e_iincN (pc' := 70) (k := 1) (L' := [some (.ref (ad 96)), some (.int (q)), some (.int (nI (pop (aboW c q i) + 1))), some (.int (nI (i + 1)))]) dX9_shift_67 rfl rfl rfl (by decide) rfl ?_
      refine e_goto (tgt := 36) dX9_shift_70 (by decide) ?_
      have e : aboW c q (i + 1) = aboW c q i ||| 2 ^ i := if_pos h1
      have e2 := pop_or (v := aboW c q i) (i := i) (by omega) (aboW_lt c q i)
      rw [trn_step (by omega) (aboW_lt c q i), ← e] at hR2
      rw [← e] at e2
      rw [← e2]
      exact ih (by omega) M2 hR2 (g2.trans hK2)
    · refine e_goto (tgt := 67) dX9_shift_56 (by decide) ?_
      refine e_iincN (pc' := 70) (k := 1) (L' := [some (.ref (ad 96)), some (.int (q)), some (.int (nI (pop (aboW c q i)))), some (.int (nI (i + 1)))]) dX9_shift_67 rfl rfl rfl (by decide) rfl ?_
      refine e_goto (tgt := 36) dX9_shift_70 (by decide) ?_
      have e : aboW c q (i + 1) = aboW c q i := if_neg h1
      exact ih (by omega) M (by rw [e]; exact g1) g2 |> fun q => by rw [e] at q; exact q)
theorem g_shift (r : RowAt M 97 0 c) (hw : WF c) (hK : KtR M hs sz) (hW : KWF hs sz) (h6 : M 96 6 = bI w) {p : Nat} (hp : p < 100) : RETI G ad (d + 3) mX9_shift [.ref (ad 96), .int (nI p)] (M, o) (some (.int (nI (pop (aboW c (nI p) (cn c)))))) (CHI w hs sz c (trnC c (aboW c (nI p) (cn c))) M) := by
  refine CM_of rfl (by decide) rfl (Nat.le_of_ble_eq_true rfl) rfl ?_
  have hn := hw.n
  have hk := hw.k
  have hw9 := hw.w9
  refine e_aload_n (pc' := 1) dX9_shift_0 rfl rfl rfl ?_
  refine e_iload_n (pc' := 2) dX9_shift_1 rfl rfl rfl ?_
  refine e_iconst (pc' := 3) (v := nI 0) dX9_shift_2 rfl (by decide) ?_
  refine e_bipush (pc' := 5) (v := nI 99) dX9_shift_3 rfl (by decide) ?_
  refine r_S (pc' := 8) (m' := mX9_in) (As := [.int (nI p), .int (nI 0), .int (nI 99)]) (st := [.ref (ad 96)]) (g_in (d := d) (nI p) (nI 0) (nI 99)) dX9_shift_5 rfl rfl (Nat.le_of_ble_eq_true rfl) (fit_of (by omega) (by decide) (by decide) (by decide)) ml_X9_62 okX9_in rfl rfl ?_
  show EV _ _ _ _ _ 8 _ ([.int (bI (decide ((nI 0) ≤ (nI p) ∧ (nI p) ≤ (nI 99)))), .ref (ad 96)]) _
  refine e_if_eqB (pc' := 11) (tgt := 15) dX9_shift_8 rfl (by decide) (fun hz1 => absurd hz1 (by rw [in99, isP_n hp]; decide)) (fun hz1 => ?_)
  refine e_iconst (pc' := 12) (v := nI 0) dX9_shift_11 rfl (by decide) ?_
  refine e_goto (tgt := 16) dX9_shift_12 (by decide) ?_
  refine r_V (pc' := 19) (m' := mX9_fails) (As := [.int (nI 0)]) (st := []) (g_fails (d := d) (p := 0) (by omega)) dX9_shift_16 rfl rfl (Nat.le_of_ble_eq_true rfl) (fit_of (by omega) (by decide) (by decide) (by decide)) ml_X9_70 okX9_fails rfl rfl (by decide) rfl ?_
  show EV _ _ _ _ _ 19 _ ([.int (bI (decide (0 < 0)))]) _
  refine e_if_eqB (pc' := 22) (tgt := 24) dX9_shift_19 rfl (by decide) (fun hz2 => ?_) (fun hz2 => absurd hz2 (by decide))
  refine e_aload_n (pc' := 25) dX9_shift_24 rfl rfl rfl ?_
  refine e_aload_n (pc' := 26) dX9_shift_25 rfl rfl rfl ?_
  refine p_gfr (pc' := 29) (a := 96) (k := 0) (t := 97) dX9_shift_26 rfl rfl (by decide) (by decide) rfl fl_X9_7 ?_
  refine r_VI (pc' := 32) (m' := mX9_keeps) (As := [.ref (ad 97)]) (st := []) (g_keeps (d := d) (w := w) ((r.up (by decide)).up (by decide)) hw (hK.kp (by rw [up2_k (by decide), up2_k (by decide)]) (by rw [up2_n (by decide), up2_n (by decide)])) hW (by rw [up2_k (by decide), up2_k (by decide)]; exact h6)) dX9_shift_29 rfl rfl (Nat.le_of_ble_eq_true rfl) (fit_of (by omega) (by decide) (by decide) (by decide)) ml_X9_85 okX9_keeps rfl rfl (by decide) rfl (fun M1 hI => ?_)
  show EV _ _ _ _ _ 32 _ ([]) _
  refine e_iconst (pc' := 33) (v := nI 0) dX9_shift_32 rfl (by decide) ?_
  refine e_istore_n (pc' := 34) (L' := [some (.ref (ad 96)), some (.int (nI p)), some (.int (nI 0)), none]) dX9_shift_33 rfl rfl (by decide) rfl ?_
  refine e_iconst (pc' := 35) (v := nI 0) dX9_shift_34 rfl (by decide) ?_
  refine e_istore_n (pc' := 36) (L' := [some (.ref (ad 96)), some (.int (nI p)), some (.int (nI 0)), some (.int (nI 0))]) dX9_shift_35 rfl rfl (by decide) rfl ?_
  have z0 : pop (aboW c (nI p) 0) = 0 := by
    show pop 0 = 0
    decide
  have q := gl_shift (G := G) (ad := ad) (d := d) (o := o) (P := PI (some (.int (nI (pop (aboW c (nI p) (cn c)))))) o (CHI w hs sz c (trnC c (aboW c (nI p) (cn c))) M)) hw (nI p) (fun M' hr hk => ⟨rfl, M', rfl, CHI.mk hI (fun j g7 g8 => by rw [up2_k g7, up2_k g8]) ((KP.refl.up (by decide)).up (by decide)) hr hk⟩) 0 (by omega) M1 (by show RowAt M1 97 0 (trnC c 0); rw [trn_zero]; exact (((r.up (by decide)).up (by decide)).kp hI.2.2.2 (by decide))) KP.refl
  rw [z0] at q
  exact q
theorem g_shift_p (r : RowAt M 97 0 c) (hw : WF c) (x : Int32) (hx : isP x = false) : RETI G ad (d + 3) mX9_shift [.ref (ad 96), .int (x)] (M, o) (some (.int (nI 0))) (FLI 1 M) := by
  refine CM_of rfl (by decide) rfl (Nat.le_of_ble_eq_true rfl) rfl ?_
  have hn := hw.n
  have hk := hw.k
  have hw9 := hw.w9
  refine e_aload_n (pc' := 1) dX9_shift_0 rfl rfl rfl ?_
  refine e_iload_n (pc' := 2) dX9_shift_1 rfl rfl rfl ?_
  refine e_iconst (pc' := 3) (v := nI 0) dX9_shift_2 rfl (by decide) ?_
  refine e_bipush (pc' := 5) (v := nI 99) dX9_shift_3 rfl (by decide) ?_
  refine r_S (pc' := 8) (m' := mX9_in) (As := [.int (x), .int (nI 0), .int (nI 99)]) (st := [.ref (ad 96)]) (g_in (d := d) (x) (nI 0) (nI 99)) dX9_shift_5 rfl rfl (Nat.le_of_ble_eq_true rfl) (fit_of (by omega) (by decide) (by decide) (by decide)) ml_X9_62 okX9_in rfl rfl ?_
  show EV _ _ _ _ _ 8 _ ([.int (bI (decide ((nI 0) ≤ (x) ∧ (x) ≤ (nI 99)))), .ref (ad 96)]) _
  refine e_if_eqB (pc' := 11) (tgt := 15) dX9_shift_8 rfl (by decide) (fun hz1 => ?_) (fun hz1 => absurd hz1 (by rw [in99, hx]; decide))
  refine e_iconst (pc' := 16) (v := nI 1) dX9_shift_15 rfl (by decide) ?_
  refine r_V (pc' := 19) (m' := mX9_fails) (As := [.int (nI 1)]) (st := []) (g_fails (d := d) (p := 1) (by omega)) dX9_shift_16 rfl rfl (Nat.le_of_ble_eq_true rfl) (fit_of (by omega) (by decide) (by decide) (by decide)) ml_X9_70 okX9_fails rfl rfl (by decide) rfl ?_
  show EV _ _ _ _ _ 19 _ ([.int (bI (decide (0 < 1)))]) _
  refine e_if_eqB (pc' := 22) (tgt := 24) dX9_shift_19 rfl (by decide) (fun hz2 => absurd hz2 (by decide)) (fun hz2 => ?_)
  refine e_iconst (pc' := 23) (v := nI 0) dX9_shift_22 rfl (by decide) ?_
  exact e_iret dX9_shift_23 rfl (MP.retI rfl FLI.f) (by decide) (by decide)
end T48

set_option maxHeartbeats 400000
/-! EXECUTE AND THE LINES, WHOLE -/
def qK (l : List Nat) (cmds : Nat → Nat → Int32) : Nat → Nat → Int32 := fun j => (prT l cmds j).2.1
def kK (l : List Nat) (cmds : Nat → Nat → Int32) : Nat → Nat := fun j => iN (qK l cmds j 0)
theorem kK_ok {l : List Nat} {cmds : Nat → Nat → Int32} (hb : (prR l cmds).1 = true) : ∀ j, j < (prR l cmds).2.1 → qK l cmds j 0 = nI (kK l cmds j) ∧ kK l cmds j < 8 := fun j hj => by
  obtain ⟨e, he⟩ := (prR_ok hb).2 j hj
  obtain ⟨k, h1, h2⟩ := pcR_k he
  have h3 : qK l cmds j 0 = nI k := h2
  have h4 : kK l cmds j = k := by unfold kK; rw [h3]; exact iN_nI (by omega)
  rw [h4]
  exact ⟨h3, h1⟩
theorem SgAt.nil {M : Nat → Nat → Int32} {A : Nat} (h : M A 1 = nI 0) : SgAt M A [] := ⟨h, fun i hi => absurd hi (Nat.not_lt_zero i)⟩
section T29
variable {G : gC} {ad : Nat → Nat} {d : Nat} {M : Nat → Nat → Int32} {o : (Nat → Int64) × (Nat → UInt64)} {c : Col} {hs : Nat → Col} {nx sz : Nat} {l : List Nat}
theorem m_exec_bad (h : ColAt M 1 c) (hw : WF c) (hH : HsAt M hs nx sz) (hT : SgAt M 76 l) (hl : l.length ≤ 60) (hc : ∀ i, l.getD i 0 < 65536) (hb : (prR l (fun j => M (79 + j))).1 = false) : THRI G ad (d + 8) mX8_execute [.ref (ad 0)] M o "java/lang/IllegalArgumentException" (fun M' => M' 0 10 = nI (prR l (fun j => M (79 + j))).2.2 ∧ (∀ k, k ≠ 10 → M' 0 k = M 0 k) ∧ SgAt M' 76 [] ∧ KP (fun a => inR 76 93 a || a == 0) M M') := by
  refine CM_of rfl (by decide) rfl (Nat.le_of_ble_eq_true rfl) rfl ?_
  refine e_aload_n (pc' := 1) dX8_execute_0 rfl rfl rfl ?_
  refine p_gfr (pc' := 4) (a := 0) (k := 7) (t := 76) dX8_execute_1 rfl rfl (by decide) (by decide) rfl fl_X8_57 ?_
  refine r_VI (pc' := 7) (m' := mX7_parse) (As := []) (st := []) (c_parse (d := d) hT hl hc) dX8_execute_4 rfl rfl (Nat.le_of_ble_eq_true rfl) (fit_of (by omega) (by decide) (by decide) (by decide)) ml_X8_203 okX7_parse rfl rfl (by decide) rfl (fun MZ hZ => ?_)
  show EV _ _ _ _ _ 7 _ ([.int (bI ((prR l (fun j => M (79 + j))).1))]) _
  refine e_istore_n (pc' := 8) (L' := [some (.ref (ad 0)), some (.int (bI ((prR l (fun j => M (79 + j))).1))), none, none, none]) dX8_execute_7 rfl rfl (by decide) rfl ?_
  refine e_aload_n (pc' := 9) dX8_execute_8 rfl rfl rfl ?_
  refine p_gfr (pc' := 12) (a := 0) (k := 7) (t := 76) dX8_execute_9 rfl rfl (by decide) (by decide) rfl fl_X8_57 ?_
  refine r_V (pc' := 15) (m' := mX7_clear) (As := []) (st := []) (c_clear (d := d)) dX8_execute_12 rfl rfl (Nat.le_of_ble_eq_true rfl) (fit_of (by omega) (by decide) (by decide) (by decide)) ml_X8_206 okX7_clear rfl rfl (by decide) rfl ?_
  show EV _ _ _ _ _ 15 _ ([]) _
  refine e_iload_n (pc' := 16) dX8_execute_15 rfl rfl rfl ?_
  refine e_if_neB (pc' := 19) (tgt := 40) dX8_execute_16 rfl (by decide) (fun hz1 => absurd hz1 (by rw [hb]; decide)) (fun hz1 => ?_)
  refine e_aload_n (pc' := 20) dX8_execute_19 rfl rfl rfl ?_
  refine e_aload_n (pc' := 21) dX8_execute_20 rfl rfl rfl ?_
  refine p_gfr (pc' := 24) (a := 0) (k := 7) (t := 76) dX8_execute_21 rfl rfl (by decide) (by decide) rfl fl_X8_57 ?_
  refine p_gfi (pc' := 27) (a := 76) (k := 4) (x := nI ((prR l (fun j => M (79 + j))).2.2)) dX8_execute_24 rfl (rfl) (by decide) (by decide) rfl fl_X8_209 (by rw [up2_k (by decide)]; exact hZ.2.1) ?_
  refine p_pfi (pc' := 30) (a := 0) (k := 10) dX8_execute_27 rfl (rfl) (by decide) (by decide) rfl fl_X8_68 rfl rfl ?_
  exact e_throw (K := (1, 6)) (names := ["java/lang/RuntimeException", "java/lang/Exception"]) rfl xok_IllegalArgumentException st_X8_214 dX8_execute_30 dX8_execute_33 dX8_execute_34 dX8_execute_36 dX8_execute_39 (by simp [rmK]) (by simp [rmK, Value.category] <;> omega) (Nat.le_refl _) (Nat.le_refl _) (MP.thrI rfl ⟨up2_s, fun k hk => by rw [up2_k hk, up2_n (by decide), hZ.2.2.2.2 0 (by decide)], SgAt.nil (by rw [up2_n (by decide)]; exact up2_s), ((hZ.2.2.2.2.wide (fun a ha => by unfold inR at *; simp at *; omega)).up (by decide)).up (by decide)⟩) (by decide) (by decide)
theorem m_exec (h : ColAt M 1 c) (hw : WF c) (hH : HsAt M hs nx sz) (hT : SgAt M 76 l) (hl : l.length ≤ 60) (hc : ∀ i, l.getD i 0 < 65536) (hb : (prR l (fun j => M (79 + j))).1 = true) (hok : ∀ j, j < (prR l (fun j => M (79 + j))).2.1 → exJ c (qK l (fun j => M (79 + j))) (kK l (fun j => M (79 + j))) j = 0) : RETI G ad (d + 8) mX8_execute [.ref (ad 0)] (M, o) (some (.int (nI ((prR l (fun j => M (79 + j))).2.1)))) (fun M' => ColAt M' 1 (exC c (qK l (fun j => M (79 + j))) (kK l (fun j => M (79 + j))) (prR l (fun j => M (79 + j))).2.1) ∧ HsAt M' (psh hs sz c) ((nx + 1) % 8) (min (sz + 1) 8) ∧ SgAt M' 76 [] ∧ M' 0 = M 0 ∧ KP (fun a => inR 1 69 a || inR 76 93 a) M M') := by
  refine CM_of rfl (by decide) rfl (Nat.le_of_ble_eq_true rfl) rfl ?_
  refine e_aload_n (pc' := 1) dX8_execute_0 rfl rfl rfl ?_
  refine p_gfr (pc' := 4) (a := 0) (k := 7) (t := 76) dX8_execute_1 rfl rfl (by decide) (by decide) rfl fl_X8_57 ?_
  refine r_VI (pc' := 7) (m' := mX7_parse) (As := []) (st := []) (c_parse (d := d) hT hl hc) dX8_execute_4 rfl rfl (Nat.le_of_ble_eq_true rfl) (fit_of (by omega) (by decide) (by decide) (by decide)) ml_X8_203 okX7_parse rfl rfl (by decide) rfl (fun MZ hZ => ?_)
  show EV _ _ _ _ _ 7 _ ([.int (bI ((prR l (fun j => M (79 + j))).1))]) _
  refine e_istore_n (pc' := 8) (L' := [some (.ref (ad 0)), some (.int (bI ((prR l (fun j => M (79 + j))).1))), none, none, none]) dX8_execute_7 rfl rfl (by decide) rfl ?_
  refine e_aload_n (pc' := 9) dX8_execute_8 rfl rfl rfl ?_
  refine p_gfr (pc' := 12) (a := 0) (k := 7) (t := 76) dX8_execute_9 rfl rfl (by decide) (by decide) rfl fl_X8_57 ?_
  refine r_V (pc' := 15) (m' := mX7_clear) (As := []) (st := []) (c_clear (d := d)) dX8_execute_12 rfl rfl (Nat.le_of_ble_eq_true rfl) (fit_of (by omega) (by decide) (by decide) (by decide)) ml_X8_206 okX7_clear rfl rfl (by decide) rfl ?_
  show EV _ _ _ _ _ 15 _ ([]) _
  refine e_iload_n (pc' := 16) dX8_execute_15 rfl rfl rfl ?_
  refine e_if_neB (pc' := 19) (tgt := 40) dX8_execute_16 rfl (by decide) (fun hz1 => ?_) (fun hz1 => absurd hz1 (by rw [hb]; decide))
  refine e_aload_n (pc' := 41) dX8_execute_40 rfl rfl rfl ?_
  refine p_gfr (pc' := 44) (a := 0) (k := 5) (t := 64) dX8_execute_41 rfl rfl (by decide) (by decide) rfl fl_X8_48 ?_
  refine e_aload_n (pc' := 45) dX8_execute_44 rfl rfl rfl ?_
  refine p_gfr (pc' := 48) (a := 0) (k := 0) (t := 1) dX8_execute_45 rfl rfl (by decide) (by decide) rfl fl_X8_12 ?_
  refine r_VI (pc' := 51) (m' := mX1_copyFrom) (As := [.ref (ad 1)]) (st := []) (c_copyFrom (d := d) isC64 isC1 (by omega) ((h.kp hZ.2.2.2.2 (fun i hi => by unfold inR; simp; omega)).up (by decide)) hw) dX8_execute_48 rfl rfl (Nat.le_of_ble_eq_true rfl) (fit_of (by omega) (by decide) (by decide) (by decide)) ml_X8_217 okX1_copyFrom rfl rfl (by decide) rfl (fun MCc ⟨hCc, hKc⟩ => ?_)
  show EV _ _ _ _ _ 51 _ ([]) _
  refine e_iconst (pc' := 52) (v := nI 0) dX8_execute_51 rfl (by decide) ?_
  refine e_istore_n (pc' := 53) (L' := [some (.ref (ad 0)), some (.int (bI ((prR l (fun j => M (79 + j))).1))), some (.int (nI 0)), none, none]) dX8_execute_52 rfl rfl (by decide) rfl ?_
  refine e_fg (i := 1) (L' := [some (.ref (ad 0)), none, some (.int (nI 0)), none, none]) rfl ?_
  exact l_exok hCc hw ((hH.kp hZ.2.2.2.2 (fun a h1 h2 => by unfold inR; simp; omega)).up (by decide) |>.kp hKc (fun a h1 h2 => inR_f (by omega))) (n := (prR l (fun j => M (79 + j))).2.1) (q := qK l (fun j => M (79 + j))) (kk := kK l (fun j => M (79 + j))) ((hKc.at (inR_f (by omega)) 3).trans (by rw [up2_k (by decide)]; exact hZ.1)) (prR_ok hb).1 (fun j hj => ((hZ.2.2.1 hb j hj).up (by omega)).kp hKc (inR_f (by omega))) (kK_ok hb) (hfin := fun M2 g1 g2 g3 => ⟨g1, g2, (SgAt.nil ((g3.at (inR_f (by omega)) 1).trans ((hKc.at (inR_f (by omega)) 1).trans up2_s))), by rw [g3 0 (by decide)]; exact (by rw [hKc 0 (by decide), up2_n (by decide), hZ.2.2.2.2 0 (by decide)]), ((((hZ.2.2.2.2.wide (fun a ha => by unfold inR at *; simp at *; omega)).up (by decide)).trans (hKc.wide (fun a ha => by unfold inR at *; simp at *; omega))).trans (g3.wide (fun a ha => by unfold inR at *; simp at *; omega)))⟩) hok 0 (Nat.zero_le _) _ (((h.kp hZ.2.2.2.2 (fun i hi => by unfold inR; simp; omega)).up (by decide)).kp hKc (fun i hi => inR_f (by omega))) KP.refl
theorem m_exec_no (h : ColAt M 1 c) (hw : WF c) (hH : HsAt M hs nx sz) (hT : SgAt M 76 l) (hl : l.length ≤ 60) (hc : ∀ i, l.getD i 0 < 65536) (hb : (prR l (fun j => M (79 + j))).1 = true) {z : Nat} (hz : z < (prR l (fun j => M (79 + j))).2.1) (hok : ∀ j, j < z → exJ c (qK l (fun j => M (79 + j))) (kK l (fun j => M (79 + j))) j = 0) (hnz : ¬ exJ c (qK l (fun j => M (79 + j))) (kK l (fun j => M (79 + j))) z = 0) : THRI G ad (d + 8) mX8_execute [.ref (ad 0)] M o "java/lang/UnsupportedOperationException" (fun M' => ColAt M' 1 c ∧ HsAt M' hs nx sz ∧ M' 0 11 = nI 6 ∧ M' 0 12 = nI z ∧ M' 0 13 = nI (if exJ c (qK l (fun j => M (79 + j))) (kK l (fun j => M (79 + j))) z < 6 then exJ c (qK l (fun j => M (79 + j))) (kK l (fun j => M (79 + j))) z else 7) ∧ (∀ k, k < 11 → M' 0 k = M 0 k) ∧ SgAt M' 76 [] ∧ KP (fun a => inR 0 69 a || inR 76 93 a) M M') := by
  refine CM_of rfl (by decide) rfl (Nat.le_of_ble_eq_true rfl) rfl ?_
  refine e_aload_n (pc' := 1) dX8_execute_0 rfl rfl rfl ?_
  refine p_gfr (pc' := 4) (a := 0) (k := 7) (t := 76) dX8_execute_1 rfl rfl (by decide) (by decide) rfl fl_X8_57 ?_
  refine r_VI (pc' := 7) (m' := mX7_parse) (As := []) (st := []) (c_parse (d := d) hT hl hc) dX8_execute_4 rfl rfl (Nat.le_of_ble_eq_true rfl) (fit_of (by omega) (by decide) (by decide) (by decide)) ml_X8_203 okX7_parse rfl rfl (by decide) rfl (fun MZ hZ => ?_)
  show EV _ _ _ _ _ 7 _ ([.int (bI ((prR l (fun j => M (79 + j))).1))]) _
  refine e_istore_n (pc' := 8) (L' := [some (.ref (ad 0)), some (.int (bI ((prR l (fun j => M (79 + j))).1))), none, none, none]) dX8_execute_7 rfl rfl (by decide) rfl ?_
  refine e_aload_n (pc' := 9) dX8_execute_8 rfl rfl rfl ?_
  refine p_gfr (pc' := 12) (a := 0) (k := 7) (t := 76) dX8_execute_9 rfl rfl (by decide) (by decide) rfl fl_X8_57 ?_
  refine r_V (pc' := 15) (m' := mX7_clear) (As := []) (st := []) (c_clear (d := d)) dX8_execute_12 rfl rfl (Nat.le_of_ble_eq_true rfl) (fit_of (by omega) (by decide) (by decide) (by decide)) ml_X8_206 okX7_clear rfl rfl (by decide) rfl ?_
  show EV _ _ _ _ _ 15 _ ([]) _
  refine e_iload_n (pc' := 16) dX8_execute_15 rfl rfl rfl ?_
  refine e_if_neB (pc' := 19) (tgt := 40) dX8_execute_16 rfl (by decide) (fun hz1 => ?_) (fun hz1 => absurd hz1 (by rw [hb]; decide))
  refine e_aload_n (pc' := 41) dX8_execute_40 rfl rfl rfl ?_
  refine p_gfr (pc' := 44) (a := 0) (k := 5) (t := 64) dX8_execute_41 rfl rfl (by decide) (by decide) rfl fl_X8_48 ?_
  refine e_aload_n (pc' := 45) dX8_execute_44 rfl rfl rfl ?_
  refine p_gfr (pc' := 48) (a := 0) (k := 0) (t := 1) dX8_execute_45 rfl rfl (by decide) (by decide) rfl fl_X8_12 ?_
  refine r_VI (pc' := 51) (m' := mX1_copyFrom) (As := [.ref (ad 1)]) (st := []) (c_copyFrom (d := d) isC64 isC1 (by omega) ((h.kp hZ.2.2.2.2 (fun i hi => by unfold inR; simp; omega)).up (by decide)) hw) dX8_execute_48 rfl rfl (Nat.le_of_ble_eq_true rfl) (fit_of (by omega) (by decide) (by decide) (by decide)) ml_X8_217 okX1_copyFrom rfl rfl (by decide) rfl (fun MCc ⟨hCc, hKc⟩ => ?_)
  show EV _ _ _ _ _ 51 _ ([]) _
  refine e_iconst (pc' := 52) (v := nI 0) dX8_execute_51 rfl (by decide) ?_
  refine e_istore_n (pc' := 53) (L' := [some (.ref (ad 0)), some (.int (bI ((prR l (fun j => M (79 + j))).1))), some (.int (nI 0)), none, none]) dX8_execute_52 rfl rfl (by decide) rfl ?_
  refine e_fg (i := 1) (L' := [some (.ref (ad 0)), none, some (.int (nI 0)), none, none]) rfl ?_
  exact l_exno hCc hw ((hH.kp hZ.2.2.2.2 (fun a h1 h2 => by unfold inR; simp; omega)).up (by decide) |>.kp hKc (fun a h1 h2 => inR_f (by omega))) (n := (prR l (fun j => M (79 + j))).2.1) (q := qK l (fun j => M (79 + j))) (kk := kK l (fun j => M (79 + j))) ((hKc.at (inR_f (by omega)) 3).trans (by rw [up2_k (by decide)]; exact hZ.1)) (prR_ok hb).1 (fun j hj => ((hZ.2.2.1 hb j hj).up (by omega)).kp hKc (inR_f (by omega))) (kK_ok hb) hz hok hnz (hfin := fun M2 g1 g2 g3 g4 g5 g6 g7 => ⟨g1, g2, g3, g4, g5, fun k hk => (g6 k hk).trans (by rw [hKc 0 (by decide), up2_n (by decide), hZ.2.2.2.2 0 (by decide)]), (SgAt.nil ((g7.at (inR_f (by omega)) 1).trans ((hKc.at (inR_f (by omega)) 1).trans up2_s))), ((((hZ.2.2.2.2.wide (fun a ha => by unfold inR at *; simp at *; omega)).up (by decide)).trans (hKc.wide (fun a ha => by unfold inR at *; simp at *; omega))).trans (g7.wide (fun a ha => by unfold inR at *; simp at *; omega)))⟩) 0 (Nat.zero_le _) _ (((h.kp hZ.2.2.2.2 (fun i hi => by unfold inR; simp; omega)).up (by decide)).kp hKc (fun i hi => inR_f (by omega))) KP.refl
theorem m_write (h : ColAt M 1 c) (hw : WF c) {i : Nat} (hi : i < cn c) : RETI G ad (d + 4) mX8_writeMagnet [.ref (ad 0), .int (nI i)] (M, o) (some (.int (nI ((dln c i).length)))) (fun M' => SgAt M' 94 (dln c i) ∧ KP (inR 94 95) M M') := by
  refine CM_of rfl (by decide) rfl (Nat.le_of_ble_eq_true rfl) rfl ?_
  have hn := hw.n
  have hk := hw.k
  have hw9 := hw.w9
  refine e_aload_n (pc' := 1) dX8_writeMagnet_0 rfl rfl rfl ?_
  refine e_iload_n (pc' := 2) dX8_writeMagnet_1 rfl rfl rfl ?_
  refine r_V (pc' := 5) (m' := mX8_requireMagnet) (As := [.int (nI i)]) (st := []) (c_reqM_ok (d := d) h hw (i := i) (by omega)) dX8_writeMagnet_2 rfl rfl (Nat.le_of_ble_eq_true rfl) (fit_of (by omega) (by decide) (by decide) (by decide)) ml_X8_79 okX8_requireMagnet rfl rfl (by decide) rfl ?_
  show EV _ _ _ _ _ 5 _ ([]) _
  refine e_aload_n (pc' := 6) dX8_writeMagnet_5 rfl rfl rfl ?_
  refine p_gfr (pc' := 9) (a := 0) (k := 8) (t := 94) dX8_writeMagnet_6 rfl rfl (by decide) (by decide) rfl fl_X8_64 ?_
  refine e_aload_n (pc' := 10) dX8_writeMagnet_9 rfl rfl rfl ?_
  refine p_gfr (pc' := 13) (a := 0) (k := 0) (t := 1) dX8_writeMagnet_10 rfl rfl (by decide) (by decide) rfl fl_X8_12 ?_
  refine e_iload_n (pc' := 14) dX8_writeMagnet_13 rfl rfl rfl ?_
  refine r_VI (pc' := 17) (m' := mX5_describe) (As := [.ref (ad 1), .int (nI i)]) (st := []) (c_desc (d := d) h hw (m := i) (by omega)) dX8_writeMagnet_14 rfl rfl (Nat.le_of_ble_eq_true rfl) (fit_of (by omega) (by decide) (by decide) (by decide)) ml_X8_263 okX5_describe rfl rfl (by decide) rfl (fun MLn ⟨hLn, hKn⟩ => ?_)
  show EV _ _ _ _ _ 17 _ ([]) _
  refine e_aload_n (pc' := 18) dX8_writeMagnet_17 rfl rfl rfl ?_
  refine p_gfr (pc' := 21) (a := 0) (k := 8) (t := 94) dX8_writeMagnet_18 rfl rfl (by decide) (by decide) rfl fl_X8_64 ?_
  refine p_gfi (pc' := 24) (a := 94) (k := 1) (x := nI ((dln c i).length)) dX8_writeMagnet_21 rfl (rfl) (by decide) (by decide) rfl fl_X8_267 (hLn.1) ?_
  exact e_iret dX8_writeMagnet_24 rfl (MP.retI rfl ⟨hLn, hKn⟩) (by decide) (by decide)
theorem m_write_x (h : ColAt M 1 c) (hw : WF c) (x : Int32) (hx : hasM c x = false) : THR G ad (d + 4) mX8_writeMagnet [.ref (ad 0), .int (x)] (M, o) "java/lang/IndexOutOfBoundsException" (M, o) := by
  refine CM_of rfl (by decide) rfl (Nat.le_of_ble_eq_true rfl) rfl ?_
  have hn := hw.n
  have hk := hw.k
  have hw9 := hw.w9
  refine e_aload_n (pc' := 1) dX8_writeMagnet_0 rfl rfl rfl ?_
  refine e_iload_n (pc' := 2) dX8_writeMagnet_1 rfl rfl rfl ?_
  exact t_V (m' := mX8_requireMagnet) (As := [.int (x)]) (st := []) (c_reqM_no (d := d) h hw (x) hx) dX8_writeMagnet_2 rfl (Nat.le_of_ble_eq_true rfl) (fit_of (by omega) (by decide) (by decide) (by decide)) ml_X8_79 okX8_requireMagnet rfl rfl (by decide) rfl rfl (MP.thr rfl rfl) (by decide) (by decide)
theorem m_lineC (hL : SgAt M 94 l) (hl : l.length ≤ 23) {j : Nat} (hj : j < l.length) (hv : l.getD j 0 < 65536) : RET G ad d mX8_lineCharacter [.ref (ad 0), .int (nI j)] (M, o) (some (.int (nI (l.getD j 0)))) (M, o) := by
  refine CM_of rfl (by decide) rfl (Nat.le_of_ble_eq_true rfl) rfl ?_
  refine e_iload_n (pc' := 1) dX8_lineCharacter_0 rfl rfl rfl ?_
  refine e_if_ltN (pc' := 4) (tgt := 15) dX8_lineCharacter_1 rfl (by decide) (by omega) (fun hz1 => absurd hz1 (by omega)) (fun hz1 => ?_)
  refine e_iload_n (pc' := 5) dX8_lineCharacter_4 rfl rfl rfl ?_
  refine e_aload_n (pc' := 6) dX8_lineCharacter_5 rfl rfl rfl ?_
  refine p_gfr (pc' := 9) (a := 0) (k := 8) (t := 94) dX8_lineCharacter_6 rfl rfl (by decide) (by decide) rfl fl_X8_64 ?_
  refine p_gfi (pc' := 12) (a := 94) (k := 1) (x := nI (l.length)) dX8_lineCharacter_9 rfl (rfl) (by decide) (by decide) rfl fl_X8_267 (hL.1) ?_
  refine e_icmp_ltN (pc' := 15) (tgt := 26) dX8_lineCharacter_12 rfl (by decide) (by omega) (by omega) (fun hz2 => ?_) (fun hz2 => absurd hz2 (by omega))
  refine e_aload_n (pc' := 27) dX8_lineCharacter_26 rfl rfl rfl ?_
  refine p_gfr (pc' := 30) (a := 0) (k := 8) (t := 94) dX8_lineCharacter_27 rfl rfl (by decide) (by decide) rfl fl_X8_64 ?_
  refine p_gfr (pc' := 33) (a := 94) (k := 0) (t := 95) dX8_lineCharacter_30 rfl rfl (by decide) (by decide) rfl fl_X8_273 ?_
  refine e_iload_n (pc' := 34) dX8_lineCharacter_33 rfl rfl rfl ?_
  refine p_cald (pc' := 35) (a := 95) (k := j) (x := nI (l.getD j 0)) dX8_lineCharacter_34 rfl (rfl) (rfl) (by omega) (by decide) (hL.2 j hj) ?_
  exact e_zret (ty := .char) dX8_lineCharacter_35 rfl (congrArg Value.int (i2c_nI hv)) (MP.ret rfl rfl) (by decide) (by decide)
theorem m_lineC_x (hL : SgAt M 94 l) (hl : l.length ≤ 23) (x : Int32) (hx : ¬ (0 ≤ x ∧ x < nI l.length)) : THR G ad d mX8_lineCharacter [.ref (ad 0), .int (x)] (M, o) "java/lang/IndexOutOfBoundsException" (M, o) := by
  refine CM_of rfl (by decide) rfl (Nat.le_of_ble_eq_true rfl) rfl ?_
  refine e_iload_n (pc' := 1) dX8_lineCharacter_0 rfl rfl rfl ?_
  refine e_if_lt (pc' := 4) (tgt := 15) dX8_lineCharacter_1 rfl (by decide) (fun hz1 => ?_) (fun hz1 => ?_)
  · exact e_throwW (K := (1, 6)) (names := ["java/lang/RuntimeException", "java/lang/Exception"]) rfl xok_IndexOutOfBoundsException st_X8_270 dX8_lineCharacter_15 dX8_lineCharacter_18 dX8_lineCharacter_19 dX8_lineCharacter_22 dX8_lineCharacter_25 (by simp [rmK]) (by simp [rmK, Value.category] <;> omega) (Nat.le_refl _) (Nat.le_refl _) (MP.thr rfl rfl) (by decide) (by decide)
  · refine e_iload_n (pc' := 5) dX8_lineCharacter_4 rfl rfl rfl ?_
    refine e_aload_n (pc' := 6) dX8_lineCharacter_5 rfl rfl rfl ?_
    refine p_gfr (pc' := 9) (a := 0) (k := 8) (t := 94) dX8_lineCharacter_6 rfl rfl (by decide) (by decide) rfl fl_X8_64 ?_
    refine p_gfi (pc' := 12) (a := 94) (k := 1) (x := nI (l.length)) dX8_lineCharacter_9 rfl (rfl) (by decide) (by decide) rfl fl_X8_267 (hL.1) ?_
    refine e_icmp_lt (pc' := 15) (tgt := 26) dX8_lineCharacter_12 rfl (by decide) (fun hz2 => absurd hz2 (fun q => hx ⟨Int32.not_lt.mp hz1, q⟩)) (fun hz2 => ?_)
    exact e_throwW (K := (1, 6)) (names := ["java/lang/RuntimeException", "java/lang/Exception"]) rfl xok_IndexOutOfBoundsException st_X8_270 dX8_lineCharacter_15 dX8_lineCharacter_18 dX8_lineCharacter_19 dX8_lineCharacter_22 dX8_lineCharacter_25 (by simp [rmK]) (by simp [rmK, Value.category] <;> omega) (Nat.le_refl _) (Nat.le_refl _) (MP.thr rfl rfl) (by decide) (by decide)
end T29

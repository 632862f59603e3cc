set_option maxHeartbeats 400000
/-! UNDO, SNAPSHOTS, FEEDING, LINES -/
/-- a row of signs: its length at (A, k), its signs at A + 1 -/
def SgAt (M : Nat → Nat → Int32) (A : Nat) (l : List Nat) : Prop := M A 1 = nI l.length ∧ ∀ i, i < l.length → M (A + 1) i = nI (l.getD i 0)
theorem SgAt.kp {M M' : Nat → Nat → Int32} {A : Nat} {l : List Nat} {F : Nat → Bool} (h : SgAt M A l) (hk : KP F M M') (h1 : F A = false) (h2 : F (A + 1) = false) : SgAt M' A l := ⟨(hk.at h1 1).trans h.1, fun i hi => (hk.at h2 i).trans (h.2 i hi)⟩
theorem SgAt.up {M : Nat → Nat → Int32} {A b k : Nat} {x : Int32} {l : List Nat} (h : SgAt M A l) (h1 : b < A ∨ A + 1 < b) : SgAt (up2 M b k x) A l := h.kp (F := fun a => a == b) (KP.refl.up (by simp)) (by simp; omega) (by simp; omega)
theorem SgAt.add {M : Nat → Nat → Int32} {A x : Nat} {l : List Nat} (h : SgAt M A l) : SgAt (up2 (up2 M (A + 1) l.length (nI x)) A 1 (nI (l.length + 1))) A (l ++ [x]) := by
  refine ⟨by rw [up2_s, List.length_append]; rfl, fun i hi => ?_⟩
  rw [List.length_append] at hi
  have hi2 : i < l.length + 1 := hi
  rw [up2_n (by omega)]
  by_cases e : i = l.length
  · subst e
    rw [up2_s]
    simp [List.getD_eq_getElem?_getD]
  · rw [up2_k e, h.2 i (by omega)]
    have : (l ++ [x]).getD i 0 = l.getD i 0 := by
      rw [List.getD_eq_getElem?_getD, List.getD_eq_getElem?_getD, List.getElem?_append_left (by omega)]
    rw [this]
def lput (l : List Nat) (x : Nat) : List Nat := if l.length < 23 then l ++ [x] else l
def lnum (l : List Nat) (n : Nat) : List Nat := lput (if n < 10 then l else lput l (48 + n / 10)) (48 + n % 10)
def dst (c : Col) (m j : Nat) (l : List Nat) : List Nat := match oEnd c j m with
  | none => l
  | some x => lnum (lput l (if blk c (cw c) j then 35 else 61)) x
def dln (c : Col) (m : Nat) : List Nat := iter (dst c m) (ck c) (lnum (lput (lnum (lput (lnum [] m) 64) (cp c m)) (sgn c m)) (cs c m))
theorem lput_le {l : List Nat} {x : Nat} (h : l.length ≤ 23) : (lput l x).length ≤ 23 := by
  unfold lput; split
  · rw [List.length_append]; show l.length + 1 ≤ 23; omega
  · exact h
theorem lnum_le {l : List Nat} {n : Nat} (h : l.length ≤ 23) : (lnum l n).length ≤ 23 := by
  unfold lnum
  refine lput_le ?_
  split
  · exact h
  · exact lput_le h
theorem dst_le {c : Col} {m : Nat} {l : List Nat} (h : l.length ≤ 23) : ∀ i, (iter (dst c m) i l).length ≤ 23
  | 0 => h
  | i + 1 => by
    have ih := dst_le (c := c) (m := m) h i
    show (dst c m i _).length ≤ 23
    unfold dst
    split
    · exact ih
    · exact lnum_le (lput_le ih)
theorem i2c_nI {x : Nat} (h : x < 65536) : ((nI x).toUInt32 % 65536).toInt32 = nI x := by
  have e : (nI x).toUInt32 = UInt32.ofNat x := rfl
  rw [e]
  apply Int32.toBitVec_inj.1
  show (BitVec.ofNat 32 x % 65536#32) = BitVec.ofNat 32 x
  apply BitVec.eq_of_toNat_eq
  rw [BitVec.toNat_umod, show (65536#32).toNat = 65536 from rfl, BitVec.toNat_ofNat]
  omega
theorem nar_nI {x : Nat} (h : x < 65536) : vp_nar .char (nI x) = nI x := i2c_nI h
section T23
variable {G : gC} {ad : Nat → Nat} {d : Nat} {M : Nat → Nat → Int32} {o : (Nat → Int64) × (Nat → UInt64)} {c : Col} {hs : Nat → Col} {nx sz : Nat} {l : List Nat}
theorem m_undo (hH : HsAt M hs nx sz) (h0 : 0 < sz) (hwl : WF (hs (sz - 1))) : RETI G ad (d + 2) mX8_undo [.ref (ad 0)] (M, o) (some (.int (nI (sz - 1)))) (fun M' => ColAt M' 1 (hs (sz - 1)) ∧ HsAt M' hs ((nx + 8 - 1) % 8) (sz - 1) ∧ KP (fun a => inR 1 6 a || a == 14) M M') := by
  refine CM_of rfl (by decide) rfl (Nat.le_of_ble_eq_true rfl) rfl ?_
  have hnx := hH.2.2.1
  have hsz := hH.2.2.2.1
  refine e_aload_n (pc' := 1) dX8_undo_0 rfl rfl rfl ?_
  refine p_gfr (pc' := 4) (a := 0) (k := 4) (t := 14) dX8_undo_1 rfl rfl (by decide) (by decide) rfl fl_X8_44 ?_
  refine p_gfi (pc' := 7) (a := 14) (k := 2) (x := nI sz) dX8_undo_4 rfl (rfl) (by decide) (by decide) rfl fl_X8_294 (hH.2.1) ?_
  refine e_if_neN (pc' := 10) (tgt := 21) dX8_undo_7 rfl (by decide) (by omega) (fun hz1 => ?_) (fun hz1 => absurd hz1 (by omega))
  refine e_aload_n (pc' := 22) dX8_undo_21 rfl rfl rfl ?_
  refine p_gfr (pc' := 25) (a := 0) (k := 4) (t := 14) dX8_undo_22 rfl rfl (by decide) (by decide) rfl fl_X8_44 ?_
  refine e_aload_n (pc' := 26) dX8_undo_25 rfl rfl rfl ?_
  refine p_gfr (pc' := 29) (a := 0) (k := 0) (t := 1) dX8_undo_26 rfl rfl (by decide) (by decide) rfl fl_X8_12 ?_
  refine r_VI (pc' := 32) (m' := mX4_popInto) (As := [.ref (ad 1)]) (st := []) (c_pop (d := d) hH h0 hwl) dX8_undo_29 rfl rfl (Nat.le_of_ble_eq_true rfl) (fit_of (by omega) (by decide) (by decide) (by decide)) ml_X8_299 okX4_popInto rfl rfl (by decide) rfl (fun MU ⟨hC1, hH1, hK1⟩ => ?_)
  show EV _ _ _ _ _ 32 _ ([]) _
  refine e_aload_n (pc' := 33) dX8_undo_32 rfl rfl rfl ?_
  refine p_gfr (pc' := 36) (a := 0) (k := 4) (t := 14) dX8_undo_33 rfl rfl (by decide) (by decide) rfl fl_X8_44 ?_
  refine p_gfi (pc' := 39) (a := 14) (k := 2) (x := nI ((sz - 1))) dX8_undo_36 rfl (rfl) (by decide) (by decide) rfl fl_X8_294 (hH1.2.1) ?_
  exact e_iret dX8_undo_39 rfl (MP.retI rfl ⟨hC1, hH1, hK1⟩) (by decide) (by decide)
theorem m_undo_x (hH : HsAt M hs nx sz) (h0 : sz = 0) : THR G ad (d + 2) mX8_undo [.ref (ad 0)] (M, o) "java/lang/IllegalStateException" (M, o) := by
  refine CM_of rfl (by decide) rfl (Nat.le_of_ble_eq_true rfl) rfl ?_
  have hnx := hH.2.2.1
  have hsz := hH.2.2.2.1
  refine e_aload_n (pc' := 1) dX8_undo_0 rfl rfl rfl ?_
  refine p_gfr (pc' := 4) (a := 0) (k := 4) (t := 14) dX8_undo_1 rfl rfl (by decide) (by decide) rfl fl_X8_44 ?_
  refine p_gfi (pc' := 7) (a := 14) (k := 2) (x := nI sz) dX8_undo_4 rfl (rfl) (by decide) (by decide) rfl fl_X8_294 (hH.2.1) ?_
  refine e_if_neN (pc' := 10) (tgt := 21) dX8_undo_7 rfl (by decide) (by omega) (fun hz1 => absurd hz1 (by omega)) (fun hz1 => ?_)
  exact e_throwW (K := (1, 6)) (names := ["java/lang/RuntimeException", "java/lang/Exception"]) rfl xok_IllegalStateException st_X8_297 dX8_undo_10 dX8_undo_13 dX8_undo_14 dX8_undo_17 dX8_undo_20 (by simp [rmK]) (by simp [rmK, Value.category] <;> omega) (Nat.le_refl _) (Nat.le_refl _) (MP.thr rfl rfl) (by decide) (by decide)
theorem m_save (h : ColAt M 1 c) (hw : WF c) : RETI G ad (d + 2) mX8_saveSnapshot [.ref (ad 0)] (M, o) (some (.int (nI (cn c)))) (fun M' => ColAt M' 70 c ∧ M' 0 9 = nI 1 ∧ (∀ k, k ≠ 9 → M' 0 k = M 0 k) ∧ KP (fun a => inR 70 75 a || a == 0) M M') := by
  refine CM_of rfl (by decide) rfl (Nat.le_of_ble_eq_true rfl) rfl ?_
  have hn := hw.n
  have hk := hw.k
  have hw9 := hw.w9
  refine e_aload_n (pc' := 1) dX8_saveSnapshot_0 rfl rfl rfl ?_
  refine p_gfr (pc' := 4) (a := 0) (k := 6) (t := 70) dX8_saveSnapshot_1 rfl rfl (by decide) (by decide) rfl fl_X8_51 ?_
  refine e_aload_n (pc' := 5) dX8_saveSnapshot_4 rfl rfl rfl ?_
  refine p_gfr (pc' := 8) (a := 0) (k := 0) (t := 1) dX8_saveSnapshot_5 rfl rfl (by decide) (by decide) rfl fl_X8_12 ?_
  refine r_VI (pc' := 11) (m' := mX1_copyFrom) (As := [.ref (ad 1)]) (st := []) (c_copyFrom (d := d) isC70 isC1 (by omega) h hw) dX8_saveSnapshot_8 rfl rfl (Nat.le_of_ble_eq_true rfl) (fit_of (by omega) (by decide) (by decide) (by decide)) ml_X8_217 okX1_copyFrom rfl rfl (by decide) rfl (fun MCc ⟨hCc, hKc⟩ => ?_)
  show EV _ _ _ _ _ 11 _ ([]) _
  refine e_aload_n (pc' := 12) dX8_saveSnapshot_11 rfl rfl rfl ?_
  refine e_iconst (pc' := 13) (v := nI 1) dX8_saveSnapshot_12 rfl (by decide) ?_
  refine p_pfz (pc' := 16) (a := 0) (k := 9) dX8_saveSnapshot_13 rfl (rfl) (by decide) (by decide) rfl fl_X8_302 rfl rfl (by decide) ?_
  refine e_aload_n (pc' := 17) dX8_saveSnapshot_16 rfl rfl rfl ?_
  refine p_gfr (pc' := 20) (a := 0) (k := 0) (t := 1) dX8_saveSnapshot_17 rfl rfl (by decide) (by decide) rfl fl_X8_12 ?_
  refine p_gfi (pc' := 23) (a := 1) (k := 0) (x := nI (cn c)) dX8_saveSnapshot_20 rfl (rfl) (by decide) (by decide) rfl fl_X8_76 (by rw [up2_n (by decide)]; exact (h.kp hKc (fun i hi => inR_f (by omega))).n) ?_
  exact e_iret dX8_saveSnapshot_23 rfl (MP.retI rfl ⟨hCc.up (by decide), up2_s, fun k hk => by rw [up2_k hk, hKc 0 (by decide)], (hKc.wide (fun a ha => by simp at *; exact ha.1)).up (by decide)⟩) (by decide) (by decide)
theorem HsAt.drop {M : Nat → Nat → Int32} (h : HsAt M hs nx sz) : HsAt (up2 M 14 2 (nI 0)) hs nx 0 := ⟨by rw [up2_k (by decide)]; exact h.1, up2_s, h.2.2.1, Nat.zero_le _, fun k hk => absurd hk (Nat.not_lt_zero k)⟩
theorem m_restore (h : ColAt M 70 c) (hw : WF c) (hH : HsAt M hs nx sz) (h9 : M 0 9 = nI 1) : RETI G ad (d + 2) mX8_restoreSnapshot [.ref (ad 0)] (M, o) (some (.int (nI (cn c)))) (fun M' => ColAt M' 1 c ∧ HsAt M' hs nx 0 ∧ KP (fun a => inR 1 6 a || a == 14) M M') := by
  refine CM_of rfl (by decide) rfl (Nat.le_of_ble_eq_true rfl) rfl ?_
  have hn := hw.n
  have hk := hw.k
  have hw9 := hw.w9
  refine e_aload_n (pc' := 1) dX8_restoreSnapshot_0 rfl rfl rfl ?_
  refine p_gfi (pc' := 4) (a := 0) (k := 9) (x := nI 1) dX8_restoreSnapshot_1 rfl (rfl) (by decide) (by decide) rfl fl_X8_302 (h9) ?_
  refine e_if_neN (pc' := 7) (tgt := 18) dX8_restoreSnapshot_4 rfl (by decide) (by decide) (fun _ => ?_) (fun h => absurd h (by decide))
  refine e_aload_n (pc' := 19) dX8_restoreSnapshot_18 rfl rfl rfl ?_
  refine p_gfr (pc' := 22) (a := 0) (k := 0) (t := 1) dX8_restoreSnapshot_19 rfl rfl (by decide) (by decide) rfl fl_X8_12 ?_
  refine e_aload_n (pc' := 23) dX8_restoreSnapshot_22 rfl rfl rfl ?_
  refine p_gfr (pc' := 26) (a := 0) (k := 6) (t := 70) dX8_restoreSnapshot_23 rfl rfl (by decide) (by decide) rfl fl_X8_51 ?_
  refine r_VI (pc' := 29) (m' := mX1_copyFrom) (As := [.ref (ad 70)]) (st := []) (c_copyFrom (d := d) isC1 isC70 (by omega) h hw) dX8_restoreSnapshot_26 rfl rfl (Nat.le_of_ble_eq_true rfl) (fit_of (by omega) (by decide) (by decide) (by decide)) ml_X8_217 okX1_copyFrom rfl rfl (by decide) rfl (fun MCc ⟨hCc, hKc⟩ => ?_)
  show EV _ _ _ _ _ 29 _ ([]) _
  refine e_aload_n (pc' := 30) dX8_restoreSnapshot_29 rfl rfl rfl ?_
  refine p_gfr (pc' := 33) (a := 0) (k := 4) (t := 14) dX8_restoreSnapshot_30 rfl rfl (by decide) (by decide) rfl fl_X8_44 ?_
  refine r_V (pc' := 36) (m' := mX4_forgetAll) (As := []) (st := []) (c_forget (d := d) (hH.kp hKc (fun a h1 h2 => inR_f (by omega)))) dX8_restoreSnapshot_33 rfl rfl (Nat.le_of_ble_eq_true rfl) (fit_of (by omega) (by decide) (by decide) (by decide)) ml_X8_308 okX4_forgetAll rfl rfl (by decide) rfl ?_
  show EV _ _ _ _ _ 36 _ ([]) _
  refine e_aload_n (pc' := 37) dX8_restoreSnapshot_36 rfl rfl rfl ?_
  refine p_gfr (pc' := 40) (a := 0) (k := 0) (t := 1) dX8_restoreSnapshot_37 rfl rfl (by decide) (by decide) rfl fl_X8_12 ?_
  refine p_gfi (pc' := 43) (a := 1) (k := 0) (x := nI (cn c)) dX8_restoreSnapshot_40 rfl (rfl) (by decide) (by decide) rfl fl_X8_76 (by rw [up2_n (by decide)]; exact hCc.n) ?_
  exact e_iret dX8_restoreSnapshot_43 rfl (MP.retI rfl ⟨hCc.up (by decide), (hH.kp hKc (fun a h1 h2 => inR_f (by omega))).drop, (hKc.wide (fun a ha => by simp at *; exact ha.1)).up (by decide)⟩) (by decide) (by decide)
theorem m_restore_x (h9 : M 0 9 = nI 0) : THR G ad (d + 2) mX8_restoreSnapshot [.ref (ad 0)] (M, o) "java/lang/IllegalStateException" (M, o) := by
  refine CM_of rfl (by decide) rfl (Nat.le_of_ble_eq_true rfl) rfl ?_
  refine e_aload_n (pc' := 1) dX8_restoreSnapshot_0 rfl rfl rfl ?_
  refine p_gfi (pc' := 4) (a := 0) (k := 9) (x := nI 0) dX8_restoreSnapshot_1 rfl (rfl) (by decide) (by decide) rfl fl_X8_302 (h9) ?_
  refine e_if_neN (pc' := 7) (tgt := 18) dX8_restoreSnapshot_4 rfl (by decide) (by decide) (fun h => absurd h (by decide)) (fun _ => ?_)
  exact e_throwW (K := (1, 6)) (names := ["java/lang/RuntimeException", "java/lang/Exception"]) rfl xok_IllegalStateException st_X8_306 dX8_restoreSnapshot_7 dX8_restoreSnapshot_10 dX8_restoreSnapshot_11 dX8_restoreSnapshot_14 dX8_restoreSnapshot_17 (by simp [rmK]) (by simp [rmK, Value.category] <;> omega) (Nat.le_refl _) (Nat.le_refl _) (MP.thr rfl rfl) (by decide) (by decide)
theorem c_hasRoom (hT : SgAt M 76 l) (hl : l.length ≤ 60) : RET G ad d mX7_hasRoom [.ref (ad 76)] (M, o) (some (.int (bI (decide (l.length < 60))))) (M, o) := by
  refine CM_of rfl (by decide) rfl (Nat.le_of_ble_eq_true rfl) rfl ?_
  refine e_aload_n (pc' := 1) dX7_hasRoom_0 rfl rfl rfl ?_
  refine p_gfi (pc' := 4) (a := 76) (k := 1) (x := nI (l.length)) dX7_hasRoom_1 rfl (rfl) (by decide) (by decide) rfl fl_X7_22 (hT.1) ?_
  refine e_bipush (pc' := 6) (v := nI 60) dX7_hasRoom_4 rfl (by decide) ?_
  refine e_icmp_geN (pc' := 9) (tgt := 13) dX7_hasRoom_6 rfl (by decide) (by omega) (by omega) (fun hz1 => ?_) (fun hz1 => ?_)
  · refine e_iconst (pc' := 14) (v := nI 0) dX7_hasRoom_13 rfl (by decide) ?_
    exact e_zret (ty := .boolean) dX7_hasRoom_14 rfl (rfl) (MP.ret (congrArg (fun z => some (Value.int z)) (by first | exact dec1 (by omega) | exact dec0 (by omega))) rfl) (by decide) (by decide)
  · refine e_iconst (pc' := 10) (v := nI 1) dX7_hasRoom_9 rfl (by decide) ?_
    refine e_goto (tgt := 14) dX7_hasRoom_10 (by decide) ?_
    exact e_zret (ty := .boolean) dX7_hasRoom_14 rfl (rfl) (MP.ret (congrArg (fun z => some (Value.int z)) (by first | exact dec1 (by omega) | exact dec0 (by omega))) rfl) (by decide) (by decide)
theorem c_append (hT : SgAt M 76 l) (hl : l.length < 60) {v : Nat} (hv : v < 65536) : RETI G ad d mX7_append [.ref (ad 76), .int (nI v)] (M, o) none (fun M' => SgAt M' 76 (l ++ [v]) ∧ KP (inR 76 77) M M') := by
  refine CM_of rfl (by decide) rfl (Nat.le_of_ble_eq_true rfl) rfl ?_
  refine e_aload_n (pc' := 1) dX7_append_0 rfl rfl rfl ?_
  refine p_gfr (pc' := 4) (a := 76) (k := 0) (t := 77) dX7_append_1 rfl rfl (by decide) (by decide) rfl fl_X7_9 ?_
  refine e_aload_n (pc' := 5) dX7_append_4 rfl rfl rfl ?_
  refine p_gfi (pc' := 8) (a := 76) (k := 1) (x := nI (l.length)) dX7_append_5 rfl (rfl) (by decide) (by decide) rfl fl_X7_22 (hT.1) ?_
  refine e_iload_n (pc' := 9) dX7_append_8 rfl rfl rfl ?_
  refine p_cast (pc' := 10) (a := 77) (k := l.length) dX7_append_9 rfl (rfl) (rfl) (by omega) (by decide) (nar_nI hv) ?_
  refine e_aload_n (pc' := 11) dX7_append_10 rfl rfl rfl ?_
  refine e_dup (pc' := 12) dX7_append_11 rfl rfl ?_
  refine p_gfi (pc' := 15) (a := 76) (k := 1) (x := nI (l.length)) dX7_append_12 rfl (rfl) (by decide) (by decide) rfl fl_X7_22 (by rw [up2_n (by decide)]; exact hT.1) ?_
  refine e_iconst (pc' := 16) (v := nI 1) dX7_append_15 rfl (by decide) ?_
  refine e_iaddN (pc' := 17) dX7_append_16 rfl ?_
  refine p_pfi (pc' := 20) (a := 76) (k := 1) dX7_append_17 rfl (rfl) (by decide) (by decide) rfl fl_X7_22 rfl rfl ?_
  exact e_vret dX7_append_20 rfl (MP.retI rfl ⟨hT.add, (KP.refl.up (by decide)).up (by decide)⟩) (by decide) (by decide)
theorem c_clear  : RET G ad d mX7_clear [.ref (ad 76)] (M, o) none ((up2 M 76 1 (nI 0)), o) := by
  refine CM_of rfl (by decide) rfl (Nat.le_of_ble_eq_true rfl) rfl ?_
  refine e_aload_n (pc' := 1) dX7_clear_0 rfl rfl rfl ?_
  refine e_iconst (pc' := 2) (v := nI 0) dX7_clear_1 rfl (by decide) ?_
  refine p_pfi (pc' := 5) (a := 76) (k := 1) dX7_clear_2 rfl (rfl) (by decide) (by decide) rfl fl_X7_22 rfl rfl ?_
  exact e_vret dX7_clear_5 rfl (MP.ret rfl rfl) (by decide) (by decide)
theorem m_feed (hT : SgAt M 76 l) (hl : l.length < 60) {v : Nat} (hv : v < 65536) : RETI G ad (d + 1) mX8_feed [.ref (ad 0), .int (nI v)] (M, o) (some (.int (nI (l.length + 1)))) (fun M' => SgAt M' 76 (l ++ [v]) ∧ KP (inR 76 77) M M') := by
  refine CM_of rfl (by decide) rfl (Nat.le_of_ble_eq_true rfl) rfl ?_
  refine e_aload_n (pc' := 1) dX8_feed_0 rfl rfl rfl ?_
  refine p_gfr (pc' := 4) (a := 0) (k := 7) (t := 76) dX8_feed_1 rfl rfl (by decide) (by decide) rfl fl_X8_57 ?_
  refine r_V (pc' := 7) (m' := mX7_hasRoom) (As := []) (st := []) (c_hasRoom (d := d) hT (by omega)) dX8_feed_4 rfl rfl (Nat.le_of_ble_eq_true rfl) (fit_of (by omega) (by decide) (by decide) (by decide)) ml_X8_188 okX7_hasRoom rfl rfl (by decide) rfl ?_
  show EV _ _ _ _ _ 7 _ ([.int (bI (decide (l.length < 60)))]) _
  refine e_if_neB (pc' := 10) (tgt := 20) dX8_feed_7 rfl (by decide) (fun hz1 => ?_) (fun hz1 => absurd hz1 (by rw [decide_eq_true hl]; decide))
  refine e_aload_n (pc' := 21) dX8_feed_20 rfl rfl rfl ?_
  refine p_gfr (pc' := 24) (a := 0) (k := 7) (t := 76) dX8_feed_21 rfl rfl (by decide) (by decide) rfl fl_X8_57 ?_
  refine e_iload_n (pc' := 25) dX8_feed_24 rfl rfl rfl ?_
  refine r_VI (pc' := 28) (m' := mX7_append) (As := [.int (nI v)]) (st := []) (c_append (d := d) hT (by omega) (v := v) hv) dX8_feed_25 rfl rfl (Nat.le_of_ble_eq_true rfl) (fit_of (by omega) (by decide) (by decide) (by decide)) ml_X8_196 okX7_append rfl rfl (by decide) rfl (fun MT2 ⟨hT2, hK2⟩ => ?_)
  show EV _ _ _ _ _ 28 _ ([]) _
  refine e_aload_n (pc' := 29) dX8_feed_28 rfl rfl rfl ?_
  refine p_gfr (pc' := 32) (a := 0) (k := 7) (t := 76) dX8_feed_29 rfl rfl (by decide) (by decide) rfl fl_X8_57 ?_
  refine p_gfi (pc' := 35) (a := 76) (k := 1) (x := nI ((l ++ [v]).length)) dX8_feed_32 rfl (rfl) (by decide) (by decide) rfl fl_X8_200 (hT2.1) ?_
  exact e_iret dX8_feed_35 rfl (MP.retI (by rw [List.length_append]; rfl) ⟨hT2, hK2⟩) (by decide) (by decide)
theorem m_feed_x (hT : SgAt M 76 l) (hl : l.length = 60) (v : Nat) : THR G ad (d + 1) mX8_feed [.ref (ad 0), .int (nI v)] (M, o) "java/lang/IllegalStateException" (M, o) := by
  refine CM_of rfl (by decide) rfl (Nat.le_of_ble_eq_true rfl) rfl ?_
  refine e_aload_n (pc' := 1) dX8_feed_0 rfl rfl rfl ?_
  refine p_gfr (pc' := 4) (a := 0) (k := 7) (t := 76) dX8_feed_1 rfl rfl (by decide) (by decide) rfl fl_X8_57 ?_
  refine r_V (pc' := 7) (m' := mX7_hasRoom) (As := []) (st := []) (c_hasRoom (d := d) hT (by omega)) dX8_feed_4 rfl rfl (Nat.le_of_ble_eq_true rfl) (fit_of (by omega) (by decide) (by decide) (by decide)) ml_X8_188 okX7_hasRoom rfl rfl (by decide) rfl ?_
  show EV _ _ _ _ _ 7 _ ([.int (bI (decide (l.length < 60)))]) _
  refine e_if_neB (pc' := 10) (tgt := 20) dX8_feed_7 rfl (by decide) (fun hz1 => absurd hz1 (by rw [decide_eq_false (by omega)]; decide)) (fun hz1 => ?_)
  exact e_throw (K := (1, 6)) (names := ["java/lang/RuntimeException", "java/lang/Exception"]) rfl xok_IllegalStateException st_X8_193 dX8_feed_10 dX8_feed_13 dX8_feed_14 dX8_feed_16 dX8_feed_19 (by simp [rmK]) (by simp [rmK, Value.category] <;> omega) (Nat.le_refl _) (Nat.le_refl _) (MP.thr rfl rfl) (by decide) (by decide)
theorem c_put (hl : SgAt M 94 l) (h23 : l.length ≤ 23) {v : Nat} (hv : v < 65536) : RETI G ad d mX5_put [.ref (ad 94), .int (nI v)] (M, o) none (fun M' => SgAt M' 94 (lput l v) ∧ KP (inR 94 95) M M') := by
  refine CM_of rfl (by decide) rfl (Nat.le_of_ble_eq_true rfl) rfl ?_
  refine e_aload_n (pc' := 1) dX5_put_0 rfl rfl rfl ?_
  refine p_gfi (pc' := 4) (a := 94) (k := 1) (x := nI (l.length)) dX5_put_1 rfl (rfl) (by decide) (by decide) rfl fl_X5_15 (hl.1) ?_
  refine e_bipush (pc' := 6) (v := nI 23) dX5_put_4 rfl (by decide) ?_
  refine e_icmp_geN (pc' := 9) (tgt := 29) dX5_put_6 rfl (by decide) (by omega) (by omega) (fun h1 => ?_) (fun h1 => ?_)
  · exact e_vret dX5_put_29 rfl (MP.retI rfl ⟨by unfold lput; rw [if_neg (by omega)]; exact hl, KP.refl⟩) (by decide) (by decide)
  · refine e_aload_n (pc' := 10) dX5_put_9 rfl rfl rfl ?_
    refine p_gfr (pc' := 13) (a := 94) (k := 0) (t := 95) dX5_put_10 rfl rfl (by decide) (by decide) rfl fl_X5_9 ?_
    refine e_aload_n (pc' := 14) dX5_put_13 rfl rfl rfl ?_
    refine p_gfi (pc' := 17) (a := 94) (k := 1) (x := nI (l.length)) dX5_put_14 rfl (rfl) (by decide) (by decide) rfl fl_X5_15 (hl.1) ?_
    refine e_iload_n (pc' := 18) dX5_put_17 rfl rfl rfl ?_
    refine p_cast (pc' := 19) (a := 95) (k := l.length) dX5_put_18 rfl (rfl) (rfl) (by omega) (by decide) (nar_nI hv) ?_
    refine e_aload_n (pc' := 20) dX5_put_19 rfl rfl rfl ?_
    refine e_dup (pc' := 21) dX5_put_20 rfl rfl ?_
    refine p_gfi (pc' := 24) (a := 94) (k := 1) (x := nI (l.length)) dX5_put_21 rfl (rfl) (by decide) (by decide) rfl fl_X5_15 (by rw [up2_n (by decide)]; exact hl.1) ?_
    refine e_iconst (pc' := 25) (v := nI 1) dX5_put_24 rfl (by decide) ?_
    refine e_iaddN (pc' := 26) dX5_put_25 rfl ?_
    refine p_pfi (pc' := 29) (a := 94) (k := 1) dX5_put_26 rfl (rfl) (by decide) (by decide) rfl fl_X5_15 rfl rfl ?_
    exact e_vret dX5_put_29 rfl (MP.retI rfl ⟨by unfold lput; rw [if_pos h1]; exact hl.add, (KP.refl.up (by decide)).up (by decide)⟩) (by decide) (by decide)
theorem c_putN (hl : SgAt M 94 l) (h23 : l.length ≤ 23) {n : Nat} (hn : n < 100) : RETI G ad (d + 1) mX5_putNumber [.ref (ad 94), .int (nI n)] (M, o) none (fun M' => SgAt M' 94 (lnum l n) ∧ KP (inR 94 95) M M') := by
  refine CM_of rfl (by decide) rfl (Nat.le_of_ble_eq_true rfl) rfl ?_
  refine e_iload_n (pc' := 1) dX5_putNumber_0 rfl rfl rfl ?_
  refine e_bipush (pc' := 3) (v := nI 10) dX5_putNumber_1 rfl (by decide) ?_
  refine e_icmp_ltN (pc' := 6) (tgt := 18) dX5_putNumber_3 rfl (by decide) (by omega) (by omega) (fun h1 => ?_) (fun h1 => ?_)
  · refine e_aload_n (pc' := 19) dX5_putNumber_18 rfl rfl rfl ?_
    refine e_bipush (pc' := 21) (v := nI 48) dX5_putNumber_19 rfl (by decide) ?_
    refine e_iload_n (pc' := 22) dX5_putNumber_21 rfl rfl rfl ?_
    refine e_bipush (pc' := 24) (v := nI 10) dX5_putNumber_22 rfl (by decide) ?_
    refine e_iremN (pc' := 25) dX5_putNumber_24 rfl (by omega) (by decide) (by decide) ?_
    refine e_iaddN (pc' := 26) dX5_putNumber_25 rfl ?_
    refine e_i2c (pc' := 27) dX5_putNumber_26 rfl ?_
    rw [show (((nI (48 + (n % 10))).toUInt32 % 65536).toInt32) = nI (48 + n % 10) from i2c_nI (by omega)]
    refine r_VI (pc' := 30) (m' := mX5_put) (As := [.int (nI (48 + n % 10))]) (st := []) (c_put (d := d) (l := l) hl h23 (v := 48 + n % 10) (by first | omega | decide | (unfold sgn; split <;> decide) | (split <;> decide))) dX5_putNumber_27 rfl rfl (Nat.le_of_ble_eq_true rfl) (fit_of (by omega) (by decide) (by decide) (by decide)) ml_X5_23 okX5_put rfl rfl (by decide) rfl (fun ML1 ⟨hL1, hV1⟩ => ?_)
    show EV _ _ _ _ _ 30 _ ([]) _
    exact e_vret dX5_putNumber_30 rfl (MP.retI rfl ⟨by unfold lnum; rw [if_pos (by omega)]; exact hL1, hV1⟩) (by decide) (by decide)
  · refine e_aload_n (pc' := 7) dX5_putNumber_6 rfl rfl rfl ?_
    refine e_bipush (pc' := 9) (v := nI 48) dX5_putNumber_7 rfl (by decide) ?_
    refine e_iload_n (pc' := 10) dX5_putNumber_9 rfl rfl rfl ?_
    refine e_bipush (pc' := 12) (v := nI 10) dX5_putNumber_10 rfl (by decide) ?_
    refine e_idivN (pc' := 13) dX5_putNumber_12 rfl (by omega) (by decide) (by decide) ?_
    refine e_iaddN (pc' := 14) dX5_putNumber_13 rfl ?_
    refine e_i2c (pc' := 15) dX5_putNumber_14 rfl ?_
    rw [show (((nI (48 + (n / 10))).toUInt32 % 65536).toInt32) = nI (48 + n / 10) from i2c_nI (by omega)]
    refine r_VI (pc' := 18) (m' := mX5_put) (As := [.int (nI (48 + n / 10))]) (st := []) (c_put (d := d) (l := l) hl h23 (v := 48 + n / 10) (by first | omega | decide | (unfold sgn; split <;> decide) | (split <;> decide))) dX5_putNumber_15 rfl rfl (Nat.le_of_ble_eq_true rfl) (fit_of (by omega) (by decide) (by decide) (by decide)) ml_X5_23 okX5_put rfl rfl (by decide) rfl (fun ML1 ⟨hL1, hV1⟩ => ?_)
    show EV _ _ _ _ _ 18 _ ([]) _
    refine e_aload_n (pc' := 19) dX5_putNumber_18 rfl rfl rfl ?_
    refine e_bipush (pc' := 21) (v := nI 48) dX5_putNumber_19 rfl (by decide) ?_
    refine e_iload_n (pc' := 22) dX5_putNumber_21 rfl rfl rfl ?_
    refine e_bipush (pc' := 24) (v := nI 10) dX5_putNumber_22 rfl (by decide) ?_
    refine e_iremN (pc' := 25) dX5_putNumber_24 rfl (by omega) (by decide) (by decide) ?_
    refine e_iaddN (pc' := 26) dX5_putNumber_25 rfl ?_
    refine e_i2c (pc' := 27) dX5_putNumber_26 rfl ?_
    rw [show (((nI (48 + (n % 10))).toUInt32 % 65536).toInt32) = nI (48 + n % 10) from i2c_nI (by omega)]
    refine r_VI (pc' := 30) (m' := mX5_put) (As := [.int (nI (48 + n % 10))]) (st := []) (c_put (d := d) (l := (lput l (48 + n / 10))) hL1 (lput_le h23) (v := 48 + n % 10) (by first | omega | decide | (unfold sgn; split <;> decide) | (split <;> decide))) dX5_putNumber_27 rfl rfl (Nat.le_of_ble_eq_true rfl) (fit_of (by omega) (by decide) (by decide) (by decide)) ml_X5_23 okX5_put rfl rfl (by decide) rfl (fun ML2 ⟨hL2, hV2⟩ => ?_)
    show EV _ _ _ _ _ 30 _ ([]) _
    exact e_vret dX5_putNumber_30 rfl (MP.retI rfl ⟨by unfold lnum; rw [if_neg (by omega)]; exact hL2, hV1.trans hV2⟩) (by decide) (by decide)
theorem l_desc {M0 : Nat → Nat → Int32} (hw : WF c) {m : Nat} (hm : m < cn c) : ∀ i, i ≤ ck c → ∀ (M : Nat → Nat → Int32), ColAt M 1 c → SgAt M 94 (iter (dst c m) i (lnum (lput (lnum (lput (lnum [] m) 64) (cp c m)) (sgn c m)) (cs c m))) → KP (inR 94 95) M0 M → ER G ad (d + 2) mX5_describe (0, 0) (PI none o (fun M' => SgAt M' 94 (dln c m) ∧ KP (inR 94 95) M0 M')) (0, 0) 47 [some (.ref (ad 94)), some (.ref (ad 1)), some (.int (nI m)), some (.int (nI i)), none] [] (M, o) := down (ck c) _ (fun i hi ih M h hl h2 => by
  have hn := hw.n
  have hk := hw.k
  have hw9 := hw.w9
  have h23 := dst_le (c := c) (m := m) (l := (lnum (lput (lnum (lput (lnum [] m) 64) (cp c m)) (sgn c m)) (cs c m))) (lnum_le (lput_le (lnum_le (lput_le (lnum_le (by decide)))))) i
  refine e_iload_n (pc' := 48) dX5_describe_47 rfl rfl rfl ?_
  refine e_aload_n (pc' := 49) dX5_describe_48 rfl rfl rfl ?_
  refine p_gfi (pc' := 52) (a := 1) (k := 5) (x := nI (ck c)) dX5_describe_49 rfl (rfl) (by decide) (by decide) rfl fl_X5_40 (h.k) ?_
  refine e_icmp_geN (pc' := 55) (tgt := 100) dX5_describe_52 rfl (by decide) (by omega) (by omega) (fun hz1 => ?_) (fun hz1 => ?_)
  · exact e_vret dX5_describe_100 rfl (MP.retI rfl ⟨by rw [show i = ck c by omega] at hl; exact hl, h2⟩) (by decide) (by decide)
  · refine e_aload_n (pc' := 56) dX5_describe_55 rfl rfl rfl ?_
    refine e_iload_n (pc' := 57) dX5_describe_56 rfl rfl rfl ?_
    refine e_iload_n (pc' := 58) dX5_describe_57 rfl rfl rfl ?_
    refine r_V (pc' := 61) (m' := mX1_otherEnd) (As := [.int (nI i), .int (nI m)]) (st := []) (c_otherEnd (d := d) h hw (j := i) (k := m) (by omega) (by omega)) dX5_describe_58 rfl rfl (Nat.le_of_ble_eq_true rfl) (fit_of (by omega) (by decide) (by decide) (by decide)) ml_X5_43 okX1_otherEnd rfl rfl (by decide) rfl ?_
    show EV _ _ _ _ _ 61 _ ([.int (oI (oEnd c i m))]) _
    refine e_istore (pc' := 63) (L' := [some (.ref (ad 94)), some (.ref (ad 1)), some (.int (nI m)), some (.int (nI i)), some (.int (oI (oEnd c i m)))]) dX5_describe_61 rfl (by decide) rfl ?_
    refine e_iload (pc' := 65) dX5_describe_63 rfl rfl ?_
    refine e_iconst (pc' := 66) (v := (-1)) dX5_describe_65 rfl (by decide) ?_
    refine e_icmp_eq (pc' := 69) (tgt := 94) dX5_describe_66 rfl (by decide) (fun h1 => ?_) (fun h1 => ?_)
    · refine e_iincN (pc' := 97) (k := 1) (L' := [some (.ref (ad 94)), some (.ref (ad 1)), some (.int (nI m)), some (.int (nI (i + 1))), some (.int (oI (oEnd c i m)))]) dX5_describe_94 rfl rfl rfl (by decide) rfl ?_
      refine e_goto (tgt := 47) dX5_describe_97 (by decide) ?_
      refine e_fg (i := 4) (L' := [some (.ref (ad 94)), some (.ref (ad 1)), some (.int (nI m)), some (.int (nI (i + 1))), none]) rfl ?_
      have e : iter (dst c m) (i + 1) (lnum (lput (lnum (lput (lnum [] m) 64) (cp c m)) (sgn c m)) (cs c m)) = (iter (dst c m) i (lnum (lput (lnum (lput (lnum [] m) 64) (cp c m)) (sgn c m)) (cs c m))) := by show dst c m i _ = _; unfold dst; rw [(oI_ne (fun z e => by have := oEnd_lt hw (by omega) e; omega)).mp h1]
      exact ih (by omega) |> fun q => by rw [e] at q; exact q _ h hl h2
    · obtain ⟨x, hx⟩ : ∃ x, oEnd c i m = some x := by
        cases hq : oEnd c i m with
        | none => rw [hq] at h1; exact absurd rfl h1
        | some x => exact ⟨x, rfl⟩
      rw [hx]
      have hx9 := oEnd_lt hw (by omega) hx
      refine e_aload_n (pc' := 70) dX5_describe_69 rfl rfl rfl ?_
      refine e_aload_n (pc' := 71) dX5_describe_70 rfl rfl rfl ?_
      refine e_iload_n (pc' := 72) dX5_describe_71 rfl rfl rfl ?_
      refine r_V (pc' := 75) (m' := mX1_hasUnlikePoles) (As := [.int (nI i)]) (st := [.ref (ad 94)]) (c_hasUnlikePoles (d := d) h hw (j := i) (by omega)) dX5_describe_72 rfl rfl (Nat.le_of_ble_eq_true rfl) (fit_of (by omega) (by decide) (by decide) (by decide)) ml_X5_47 okX1_hasUnlikePoles rfl rfl (by decide) rfl ?_
      show EV _ _ _ _ _ 75 _ ([.int (bI (!blk c (cw c) i)), .ref (ad 94)]) _
      refine e_if_eqB (pc' := 78) (tgt := 83) dX5_describe_75 rfl (by decide) (fun h3 => ?_) (fun h3 => ?_)
      · refine e_bipush (pc' := 85) (v := nI 35) dX5_describe_83 rfl (by decide) ?_
        refine r_VI (pc' := 88) (m' := mX5_put) (As := [.int (nI 35)]) (st := []) (c_put (d := d) (l := (iter (dst c m) i (lnum (lput (lnum (lput (lnum [] m) 64) (cp c m)) (sgn c m)) (cs c m)))) hl h23 (v := 35) (by first | omega | decide | (unfold sgn; split <;> decide) | (split <;> decide))) dX5_describe_85 rfl rfl (Nat.le_of_ble_eq_true rfl) (fit_of (by omega) (by decide) (by decide) (by decide)) ml_X5_23 okX5_put rfl rfl (by decide) rfl (fun ML1 ⟨hL1, hV1⟩ => ?_)
        show EV _ _ _ _ _ 88 _ ([]) _
        refine e_aload_n (pc' := 89) dX5_describe_88 rfl rfl rfl ?_
        refine e_iload (pc' := 91) dX5_describe_89 rfl rfl ?_
        refine r_VI (pc' := 94) (m' := mX5_putNumber) (As := [.int (nI x)]) (st := []) (c_putN (d := d) (l := (lput (iter (dst c m) i (lnum (lput (lnum (lput (lnum [] m) 64) (cp c m)) (sgn c m)) (cs c m))) (35))) hL1 (lput_le h23) (n := x) (by omega)) dX5_describe_91 rfl rfl (Nat.le_of_ble_eq_true rfl) (fit_of (by omega) (by decide) (by decide) (by decide)) ml_X5_19 okX5_putNumber rfl rfl (by decide) rfl (fun ML2 ⟨hL2, hV2⟩ => ?_)
        show EV _ _ _ _ _ 94 _ ([]) _
        refine e_iincN (pc' := 97) (k := 1) (L' := [some (.ref (ad 94)), some (.ref (ad 1)), some (.int (nI m)), some (.int (nI (i + 1))), some (.int (nI x))]) dX5_describe_94 rfl rfl rfl (by decide) rfl ?_
        refine e_goto (tgt := 47) dX5_describe_97 (by decide) ?_
        refine e_fg (i := 4) (L' := [some (.ref (ad 94)), some (.ref (ad 1)), some (.int (nI m)), some (.int (nI (i + 1))), none]) rfl ?_
        have e : iter (dst c m) (i + 1) (lnum (lput (lnum (lput (lnum [] m) 64) (cp c m)) (sgn c m)) (cs c m)) = (lnum (lput (iter (dst c m) i (lnum (lput (lnum (lput (lnum [] m) 64) (cp c m)) (sgn c m)) (cs c m))) (35)) (x)) := by show dst c m i _ = _; unfold dst; rw [hx]; (first | rw [show blk c (cw c) i = false by simpa using h3] | rw [show blk c (cw c) i = true by simpa using h3]) <;> rfl
        exact ih (by omega) |> fun q => by rw [e] at q; exact q _ ((h.kp hV1 (fun i hi => inR_f (by omega))).kp hV2 (fun i hi => inR_f (by omega))) hL2 ((h2.trans hV1).trans hV2)
      · refine e_bipush (pc' := 80) (v := nI 61) dX5_describe_78 rfl (by decide) ?_
        refine e_goto (tgt := 85) dX5_describe_80 (by decide) ?_
        refine r_VI (pc' := 88) (m' := mX5_put) (As := [.int (nI 61)]) (st := []) (c_put (d := d) (l := (iter (dst c m) i (lnum (lput (lnum (lput (lnum [] m) 64) (cp c m)) (sgn c m)) (cs c m)))) hl h23 (v := 61) (by first | omega | decide | (unfold sgn; split <;> decide) | (split <;> decide))) dX5_describe_85 rfl rfl (Nat.le_of_ble_eq_true rfl) (fit_of (by omega) (by decide) (by decide) (by decide)) ml_X5_23 okX5_put rfl rfl (by decide) rfl (fun ML1 ⟨hL1, hV1⟩ => ?_)
        show EV _ _ _ _ _ 88 _ ([]) _
        refine e_aload_n (pc' := 89) dX5_describe_88 rfl rfl rfl ?_
        refine e_iload (pc' := 91) dX5_describe_89 rfl rfl ?_
        refine r_VI (pc' := 94) (m' := mX5_putNumber) (As := [.int (nI x)]) (st := []) (c_putN (d := d) (l := (lput (iter (dst c m) i (lnum (lput (lnum (lput (lnum [] m) 64) (cp c m)) (sgn c m)) (cs c m))) (61))) hL1 (lput_le h23) (n := x) (by omega)) dX5_describe_91 rfl rfl (Nat.le_of_ble_eq_true rfl) (fit_of (by omega) (by decide) (by decide) (by decide)) ml_X5_19 okX5_putNumber rfl rfl (by decide) rfl (fun ML2 ⟨hL2, hV2⟩ => ?_)
        show EV _ _ _ _ _ 94 _ ([]) _
        refine e_iincN (pc' := 97) (k := 1) (L' := [some (.ref (ad 94)), some (.ref (ad 1)), some (.int (nI m)), some (.int (nI (i + 1))), some (.int (nI x))]) dX5_describe_94 rfl rfl rfl (by decide) rfl ?_
        refine e_goto (tgt := 47) dX5_describe_97 (by decide) ?_
        refine e_fg (i := 4) (L' := [some (.ref (ad 94)), some (.ref (ad 1)), some (.int (nI m)), some (.int (nI (i + 1))), none]) rfl ?_
        have e : iter (dst c m) (i + 1) (lnum (lput (lnum (lput (lnum [] m) 64) (cp c m)) (sgn c m)) (cs c m)) = (lnum (lput (iter (dst c m) i (lnum (lput (lnum (lput (lnum [] m) 64) (cp c m)) (sgn c m)) (cs c m))) (61)) (x)) := by show dst c m i _ = _; unfold dst; rw [hx]; (first | rw [show blk c (cw c) i = false by simpa using h3] | rw [show blk c (cw c) i = true by simpa using h3]) <;> rfl
        exact ih (by omega) |> fun q => by rw [e] at q; exact q _ ((h.kp hV1 (fun i hi => inR_f (by omega))).kp hV2 (fun i hi => inR_f (by omega))) hL2 ((h2.trans hV1).trans hV2))
theorem c_desc (h : ColAt M 1 c) (hw : WF c) {m : Nat} (hm : m < cn c) : RETI G ad (d + 2) mX5_describe [.ref (ad 94), .ref (ad 1), .int (nI m)] (M, o) none (fun M' => SgAt M' 94 (dln c m) ∧ KP (inR 94 95) M M') := by
  refine CM_of rfl (by decide) rfl (Nat.le_of_ble_eq_true rfl) rfl ?_
  have hn := hw.n
  have hk := hw.k
  have hw9 := hw.w9
  refine e_aload_n (pc' := 1) dX5_describe_0 rfl rfl rfl ?_
  refine e_iconst (pc' := 2) (v := nI 0) dX5_describe_1 rfl (by decide) ?_
  refine p_pfi (pc' := 5) (a := 94) (k := 1) dX5_describe_2 rfl (rfl) (by decide) (by decide) rfl fl_X5_15 rfl rfl ?_
  have hl0 : SgAt (up2 M 94 1 (nI 0)) 94 [] := ⟨up2_s, fun i hi => absurd hi (Nat.not_lt_zero i)⟩
  have hk0 : KP (inR 94 95) M (up2 M 94 1 (nI 0)) := KP.refl.up (by decide)
  have hh0 : ColAt (up2 M 94 1 (nI 0)) 1 c := h.up (by decide)
  revert hl0 hk0 hh0
  generalize (up2 M 94 1 (nI 0)) = ML0
  intro hl0 hk0 hh0
  refine e_aload_n (pc' := 6) dX5_describe_5 rfl rfl rfl ?_
  refine e_iload_n (pc' := 7) dX5_describe_6 rfl rfl rfl ?_
  refine r_VI (pc' := 10) (m' := mX5_putNumber) (As := [.int (nI m)]) (st := []) (c_putN (d := d) (l := []) hl0 (by decide) (n := m) (by omega)) dX5_describe_7 rfl rfl (Nat.le_of_ble_eq_true rfl) (fit_of (by omega) (by decide) (by decide) (by decide)) ml_X5_19 okX5_putNumber rfl rfl (by decide) rfl (fun ML1 ⟨hL1, hV1⟩ => ?_)
  show EV _ _ _ _ _ 10 _ ([]) _
  refine e_aload_n (pc' := 11) dX5_describe_10 rfl rfl rfl ?_
  refine e_bipush (pc' := 13) (v := nI 64) dX5_describe_11 rfl (by decide) ?_
  refine r_VI (pc' := 16) (m' := mX5_put) (As := [.int (nI 64)]) (st := []) (c_put (d := d) (l := (lnum [] (m))) hL1 (lnum_le (by decide)) (v := 64) (by first | omega | decide | (unfold sgn; split <;> decide) | (split <;> decide))) dX5_describe_13 rfl rfl (Nat.le_of_ble_eq_true rfl) (fit_of (by omega) (by decide) (by decide) (by decide)) ml_X5_23 okX5_put rfl rfl (by decide) rfl (fun ML2 ⟨hL2, hV2⟩ => ?_)
  show EV _ _ _ _ _ 16 _ ([]) _
  refine e_aload_n (pc' := 17) dX5_describe_16 rfl rfl rfl ?_
  refine e_aload_n (pc' := 18) dX5_describe_17 rfl rfl rfl ?_
  refine p_gfr (pc' := 21) (a := 1) (k := 1) (t := 2) dX5_describe_18 rfl rfl (by decide) (by decide) rfl fl_X5_27 ?_
  refine e_iload_n (pc' := 22) dX5_describe_21 rfl rfl rfl ?_
  have hi1 : m < cn c := by omega
  have hb1 := hw.p hi1
  refine p_iald (pc' := 23) (a := 2) (k := m) (x := nI (cp c m)) dX5_describe_22 rfl (rfl) (rfl) (by omega) (by decide) (((hh0.kp hV1 (fun i hi => inR_f (by omega))).kp hV2 (fun i hi => inR_f (by omega))).p hi1) ?_
  refine r_VI (pc' := 26) (m' := mX5_putNumber) (As := [.int (nI (cp c m))]) (st := []) (c_putN (d := d) (l := (lput (lnum [] (m)) (64))) hL2 (lput_le (lnum_le (by decide))) (n := cp c m) (by omega)) dX5_describe_23 rfl rfl (Nat.le_of_ble_eq_true rfl) (fit_of (by omega) (by decide) (by decide) (by decide)) ml_X5_19 okX5_putNumber rfl rfl (by decide) rfl (fun ML3 ⟨hL3, hV3⟩ => ?_)
  show EV _ _ _ _ _ 26 _ ([]) _
  refine e_aload_n (pc' := 27) dX5_describe_26 rfl rfl rfl ?_
  refine e_aload_n (pc' := 28) dX5_describe_27 rfl rfl rfl ?_
  refine e_iload_n (pc' := 29) dX5_describe_28 rfl rfl rfl ?_
  refine r_V (pc' := 32) (m' := mX1_poleSign) (As := [.int (nI m)]) (st := [.ref (ad 94)]) (c_poleSign (d := d) (((hh0.kp hV1 (fun i hi => inR_f (by omega))).kp hV2 (fun i hi => inR_f (by omega))).kp hV3 (fun i hi => inR_f (by omega))) hw (k := m) (by omega)) dX5_describe_29 rfl rfl (Nat.le_of_ble_eq_true rfl) (fit_of (by omega) (by decide) (by decide) (by decide)) ml_X5_33 okX1_poleSign rfl rfl (by decide) rfl ?_
  show EV _ _ _ _ _ 32 _ ([.int (nI (sgn c m)), .ref (ad 94)]) _
  refine r_VI (pc' := 35) (m' := mX5_put) (As := [.int (nI (sgn c m))]) (st := []) (c_put (d := d) (l := (lnum (lput (lnum [] (m)) (64)) (cp c m))) hL3 (lnum_le (lput_le (lnum_le (by decide)))) (v := sgn c m) (by first | omega | decide | (unfold sgn; split <;> decide) | (split <;> decide))) dX5_describe_32 rfl rfl (Nat.le_of_ble_eq_true rfl) (fit_of (by omega) (by decide) (by decide) (by decide)) ml_X5_23 okX5_put rfl rfl (by decide) rfl (fun ML4 ⟨hL4, hV4⟩ => ?_)
  show EV _ _ _ _ _ 35 _ ([]) _
  refine e_aload_n (pc' := 36) dX5_describe_35 rfl rfl rfl ?_
  refine e_aload_n (pc' := 37) dX5_describe_36 rfl rfl rfl ?_
  refine p_gfr (pc' := 40) (a := 1) (k := 2) (t := 3) dX5_describe_37 rfl rfl (by decide) (by decide) rfl fl_X5_37 ?_
  refine e_iload_n (pc' := 41) dX5_describe_40 rfl rfl rfl ?_
  have hi2 : m < cn c := by omega
  have hb2 := hw.s1 hi2
  have hc2 := hw.s2 hi2
  refine p_iald (pc' := 42) (a := 3) (k := m) (x := nI (cs c m)) dX5_describe_41 rfl (rfl) (rfl) (by omega) (by decide) (((((hh0.kp hV1 (fun i hi => inR_f (by omega))).kp hV2 (fun i hi => inR_f (by omega))).kp hV3 (fun i hi => inR_f (by omega))).kp hV4 (fun i hi => inR_f (by omega))).s hi2) ?_
  refine r_VI (pc' := 45) (m' := mX5_putNumber) (As := [.int (nI (cs c m))]) (st := []) (c_putN (d := d) (l := (lput (lnum (lput (lnum [] (m)) (64)) (cp c m)) (sgn c m))) hL4 (lput_le (lnum_le (lput_le (lnum_le (by decide))))) (n := cs c m) (by omega)) dX5_describe_42 rfl rfl (Nat.le_of_ble_eq_true rfl) (fit_of (by omega) (by decide) (by decide) (by decide)) ml_X5_19 okX5_putNumber rfl rfl (by decide) rfl (fun ML5 ⟨hL5, hV5⟩ => ?_)
  show EV _ _ _ _ _ 45 _ ([]) _
  refine e_iconst (pc' := 46) (v := nI 0) dX5_describe_45 rfl (by decide) ?_
  refine e_istore_n (pc' := 47) (L' := [some (.ref (ad 94)), some (.ref (ad 1)), some (.int (nI m)), some (.int (nI 0)), none]) dX5_describe_46 rfl rfl (by decide) rfl ?_
  exact l_desc hw hm 0 (by omega) _ (((((hh0.kp hV1 (fun i hi => inR_f (by omega))).kp hV2 (fun i hi => inR_f (by omega))).kp hV3 (fun i hi => inR_f (by omega))).kp hV4 (fun i hi => inR_f (by omega))).kp hV5 (fun i hi => inR_f (by omega))) hL5 (((((hk0.trans hV1).trans hV2).trans hV3).trans hV4).trans hV5)
end T23

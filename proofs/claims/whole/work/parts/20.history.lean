set_option maxHeartbeats 400000
/-! HISTORY, AND THE COLONY'S OWN METHODS -/
/-- it throws E, and I holds of the ints then -/
abbrev PXI (E : String) (o : (Nat → Int64) × (Nat → UInt64)) (I : (Nat → Nat → Int32) → Prop) : PM := fun r S2 => r = .inr E ∧ ∃ M', S2 = (M', o) ∧ I M'
def THRI (G : gC) (ad : Nat → Nat) (d : Nat) (m : MD) (args : List Value) (M : Nat → Nat → Int32) (o : (Nat → Int64) × (Nat → UInt64)) (E : String) (I : (Nat → Nat → Int32) → Prop) : Prop := CM G ad d m (1, 6) args (M, o) (PXI E o I)
section EWX
variable {G : gC} {R : Room} {m : MD} {Qf : QF} {u K : Nat × Nat} {pc pc' d : Nat} {L : List (Option Value)} {st : List Value} {ad : Nat → Nat} {I I2 : (Nat → Nat → Int32) → Prop} {M : Nat → Nat → Int32} {o : (Nat → Int64) × (Nat → UInt64)}
theorem MP.thrI {E E' : String} {M' : Nat → Nat → Int32} (hv : E = E') (hI : I M') : MP G ad (PXI E' o I) (.inr E) (wM G ad (M', o)) := ⟨(M', o), rfl, by rw [hv], M', rfl, hI⟩
theorem t_VI {m' : MD} {d' n idx b ci k : Nat} {As stk : List Value} {E : String} {refs : List (Option Nat)} (hM : THRI G ad d' m' (.ref (ad b) :: As) M o E I2) (hd : decode m.2.1 pc = .ok (.invokevirtual idx, 3)) (hs : stk = As.reverse ++ .ref (ad b) :: st) (hw : (st.map fun v => v.category).sum ≤ 8) (hF : Fit R u d' m'.2.2.1 (1, 6)) (hl : Cond.methodLink m.1.cls idx m'.1 ∈ wG) (ok : VOK m' n) (hn : As.length = n)
    (hb : shp[b]? = some (ci, k, refs)) (hci : ci < 10) (hq : (cls ci).1 = m'.1.cls) (hh : m.2.2.2.2 = []) (hi : ∀ M', I2 M' → I M') (h1 : u.1 + 1 ≤ K.1) (h2 : u.2 + 6 ≤ K.2) : EV G R m (mQ G (MP G ad (PXI E o I)) K) u pc L stk (wM G ad (M, o)) :=
  c_V hM hd rfl hs hw hF hl ok hn hb hci hq (fun v2 S2 h => by cases h.1) (fun E2 S2 h => by obtain ⟨h3, M', rfl, h4⟩ := h; cases h3; exact x_out hh (MP.thrI rfl (hi M' h4)) h1 h2)
theorem THR.toI {m' : MD} {args : List Value} {E : String} {M' : Nat → Nat → Int32} (h : THR G ad d m' args (M, o) E (M', o)) (hI : I M') : THRI G ad d m' args M o E I := CM_imp h (fun r S2 h => ⟨h.1, M', h.2, hI⟩)
end EWX
/-- the kept colonies: hs 0 the oldest -/
def HsAt (M : Nat → Nat → Int32) (hs : Nat → Col) (nx sz : Nat) : Prop := M 14 1 = nI nx ∧ M 14 2 = nI sz ∧ nx < 8 ∧ sz ≤ 8 ∧ ∀ k, k < sz → ColAt M (16 + 6 * ((nx + 8 - sz + k) % 8)) (hs k)
theorem HsAt.kp {M M' : Nat → Nat → Int32} {hs : Nat → Col} {nx sz : Nat} {F : Nat → Bool} (h : HsAt M hs nx sz) (hk : KP F M M') (hF : ∀ a, 14 ≤ a → a ≤ 63 → F a = false) : HsAt M' hs nx sz := by
  obtain ⟨h1, h2, h3, h4, h5⟩ := h
  refine ⟨(hk.at (hF 14 (by decide) (by decide)) 1).trans h1, (hk.at (hF 14 (by decide) (by decide)) 2).trans h2, h3, h4, fun k hk2 => (h5 k hk2).kp hk (fun i hi => hF _ (by omega) ?_)⟩
  have := Nat.mod_lt (nx + 8 - sz + k) (show 8 > 0 by decide)
  omega
theorem HsAt.up {M : Nat → Nat → Int32} {hs : Nat → Col} {nx sz b k : Nat} {x : Int32} (h : HsAt M hs nx sz) (hb : b < 14 ∨ 63 < b) : HsAt (up2 M b k x) hs nx sz := h.kp (F := fun a => a == b) (KP.refl.up (by simp)) (fun a h1 h2 => by simp; omega)
def psh (hs : Nat → Col) (sz : Nat) (c : Col) : Nat → Col := fun k => if k = min sz 7 then c else if sz = 8 then hs (k + 1) else hs k
theorem ring_ref : ∀ nx, nx < 8 → [some 16, some 22, some 28, some 34, some 40, some 46, some 52, some 58][nx]? = some (some (16 + 6 * nx)) := by decide
theorem push_hs {M M1 : Nat → Nat → Int32} {hs : Nat → Col} {nx sz : Nat} {c : Col} (hH : HsAt M hs nx sz) (hC : ColAt M1 (16 + 6 * nx) c) (hK : KP (inR (16 + 6 * nx) (16 + 6 * nx + 5)) M M1) : HsAt (up2 (up2 M1 14 1 (nI ((nx + 1) % 8))) 14 2 (nI (min (sz + 1) 8))) (psh hs sz c) ((nx + 1) % 8) (min (sz + 1) 8) := by
  obtain ⟨h1, h2, h3, h4, h5⟩ := hH
  refine ⟨by rw [up2_k (by decide)]; exact up2_s, up2_s, by omega, by omega, fun k hk => ColAt.up (ColAt.up ?_ (by omega)) (by omega)⟩
  unfold psh
  by_cases e : k = min sz 7
  · rw [if_pos e]
    have e2 : ((nx + 1) % 8 + 8 - min (sz + 1) 8 + k) % 8 = nx := by omega
    rw [e2]
    exact hC
  · rw [if_neg e]
    by_cases q : sz = 8
    · rw [if_pos q]
      have e2 : ((nx + 1) % 8 + 8 - min (sz + 1) 8 + k) % 8 = (nx + 8 - sz + (k + 1)) % 8 := by omega
      rw [e2]
      exact (h5 (k + 1) (by omega)).kp hK (fun i hi => inR_f (by omega))
    · rw [if_neg q]
      have e2 : ((nx + 1) % 8 + 8 - min (sz + 1) 8 + k) % 8 = (nx + 8 - sz + k) % 8 := by omega
      rw [e2]
      exact (h5 k (by omega)).kp hK (fun i hi => inR_f (by omega))
theorem pop_hs {M M1 : Nat → Nat → Int32} {hs : Nat → Col} {nx sz : Nat} (hH : HsAt M hs nx sz) (h0 : 0 < sz) : HsAt (up2 (up2 M 14 1 (nI ((nx + 8 - 1) % 8))) 14 2 (nI (sz - 1))) hs ((nx + 8 - 1) % 8) (sz - 1) := by
  obtain ⟨h1, h2, h3, h4, h5⟩ := hH
  refine ⟨by rw [up2_k (by decide)]; exact up2_s, up2_s, by omega, by omega, fun k hk => ColAt.up (ColAt.up ?_ (by omega)) (by omega)⟩
  have e2 : ((nx + 8 - 1) % 8 + 8 - (sz - 1) + k) % 8 = (nx + 8 - sz + k) % 8 := by omega
  rw [e2]
  exact h5 k (by omega)
section T20
variable {G : gC} {ad : Nat → Nat} {d : Nat} {M : Nat → Nat → Int32} {o : (Nat → Int64) × (Nat → UInt64)} {c : Col} {hs : Nat → Col} {nx sz : Nat}
theorem c_push {A : Nat} (hB : isC A) (hAB : A + 5 < 14 ∨ 63 < A) (h : ColAt M A c) (hw : WF c) (hH : HsAt M hs nx sz) : RETI G ad (d + 1) mX4_push [.ref (ad 14), .ref (ad (A))] (M, o) none (fun M' => HsAt M' (psh hs sz c) ((nx + 1) % 8) (min (sz + 1) 8) ∧ KP (inR 14 63) M M') := by
  refine CM_of rfl (by decide) rfl (Nat.le_of_ble_eq_true rfl) rfl ?_
  have hnx := hH.2.2.1
  have hsz := hH.2.2.2.1
  refine e_aload_n (pc' := 1) dX4_push_0 rfl rfl rfl ?_
  refine p_gfr (pc' := 4) (a := 14) (k := 0) (t := 15) dX4_push_1 rfl rfl (by decide) (by decide) rfl fl_X4_11 ?_
  refine e_aload_n (pc' := 5) dX4_push_4 rfl rfl rfl ?_
  refine p_gfi (pc' := 8) (a := 14) (k := 1) (x := nI nx) dX4_push_5 rfl (rfl) (by decide) (by decide) rfl fl_X4_18 (hH.1) ?_
  refine p_aald (pc' := 9) (a := 15) (k := nx) (t := 16 + 6 * nx) dX4_push_8 rfl (Or.inl rfl) rfl (by omega) (by decide) (ring_ref nx hnx) ?_
  refine e_aload_n (pc' := 10) dX4_push_9 rfl rfl rfl ?_
  refine r_VI (pc' := 13) (m' := mX1_copyFrom) (As := [.ref (ad (A))]) (st := []) (c_copyFrom (d := d) (A := 16 + 6 * nx) (B := A) (isCr nx hnx) hB (by omega) h hw) dX4_push_10 rfl rfl (Nat.le_of_ble_eq_true rfl) (fit_of (by omega) (by decide) (by decide) (by decide)) ml_X4_22 okX1_copyFrom rfl (isCr nx hnx).1 (by decide) rfl (fun M1 ⟨hC1, hK1⟩ => ?_)
  show EV _ _ _ _ _ 13 _ ([]) _
  refine e_aload_n (pc' := 14) dX4_push_13 rfl rfl rfl ?_
  refine e_aload_n (pc' := 15) dX4_push_14 rfl rfl rfl ?_
  refine p_gfi (pc' := 18) (a := 14) (k := 1) (x := nI nx) dX4_push_15 rfl (rfl) (by decide) (by decide) rfl fl_X4_18 (((hK1.at (inR_f (by omega)) 1).trans hH.1)) ?_
  refine e_iconst (pc' := 19) (v := nI 1) dX4_push_18 rfl (by decide) ?_
  refine e_iaddN (pc' := 20) dX4_push_19 rfl ?_
  refine e_bipush (pc' := 22) (v := nI 8) dX4_push_20 rfl (by decide) ?_
  refine e_iremN (pc' := 23) dX4_push_22 rfl (by omega) (by decide) (by decide) ?_
  refine p_pfi (pc' := 26) (a := 14) (k := 1) dX4_push_23 rfl (rfl) (by decide) (by decide) rfl fl_X4_18 rfl rfl ?_
  refine e_aload_n (pc' := 27) dX4_push_26 rfl rfl rfl ?_
  refine e_aload_n (pc' := 28) dX4_push_27 rfl rfl rfl ?_
  refine p_gfi (pc' := 31) (a := 14) (k := 2) (x := nI sz) dX4_push_28 rfl (rfl) (by decide) (by decide) rfl fl_X4_26 (by rw [up2_k (by decide)]; exact ((hK1.at (inR_f (by omega)) 2).trans hH.2.1)) ?_
  refine e_iconst (pc' := 32) (v := nI 1) dX4_push_31 rfl (by decide) ?_
  refine e_iaddN (pc' := 33) dX4_push_32 rfl ?_
  refine e_bipush (pc' := 35) (v := nI 8) dX4_push_33 rfl (by decide) ?_
  refine e_min (pc' := 38) dX4_push_35 rfl ml_X4_29 ma_min_s in_Math ma_min_c (by simp [rmK]) (by simp [rmK, Value.category] <;> omega) (Nat.zero_le _) (Nat.zero_le _) ?_
  rw [show (if (nI 8) < (nI (sz + 1)) then (nI 8) else (nI (sz + 1))) = nI (min (sz + 1) 8) from min_nI (by omega) (by decide)]
  refine p_pfi (pc' := 41) (a := 14) (k := 2) dX4_push_38 rfl (rfl) (by decide) (by decide) rfl fl_X4_26 rfl rfl ?_
  exact e_vret dX4_push_41 rfl (MP.retI rfl ⟨push_hs hH hC1 hK1, ((hK1.wide (fun a ha => by unfold inR at *; simp at *; omega)).up (by decide)).up (by decide)⟩) (by decide) (by decide)
theorem c_pop (hH : HsAt M hs nx sz) (h0 : 0 < sz) (hw : WF (hs (sz - 1))) : RETI G ad (d + 1) mX4_popInto [.ref (ad 14), .ref (ad 1)] (M, o) none (fun M' => ColAt M' 1 (hs (sz - 1)) ∧ HsAt M' hs ((nx + 8 - 1) % 8) (sz - 1) ∧ KP (fun a => inR 1 6 a || a == 14) M M') := by
  refine CM_of rfl (by decide) rfl (Nat.le_of_ble_eq_true rfl) rfl ?_
  have hnx := hH.2.2.1
  have hsz := hH.2.2.2.1
  refine e_aload_n (pc' := 1) dX4_popInto_0 rfl rfl rfl ?_
  refine e_aload_n (pc' := 2) dX4_popInto_1 rfl rfl rfl ?_
  refine p_gfi (pc' := 5) (a := 14) (k := 1) (x := nI nx) dX4_popInto_2 rfl (rfl) (by decide) (by decide) rfl fl_X4_18 (hH.1) ?_
  refine e_bipush (pc' := 7) (v := nI 8) dX4_popInto_5 rfl (by decide) ?_
  refine e_iaddN (pc' := 8) dX4_popInto_7 rfl ?_
  refine e_iconst (pc' := 9) (v := nI 1) dX4_popInto_8 rfl (by decide) ?_
  refine e_isubN (pc' := 10) dX4_popInto_9 rfl (by omega) ?_
  refine e_bipush (pc' := 12) (v := nI 8) dX4_popInto_10 rfl (by decide) ?_
  refine e_iremN (pc' := 13) dX4_popInto_12 rfl (by omega) (by decide) (by decide) ?_
  refine p_pfi (pc' := 16) (a := 14) (k := 1) dX4_popInto_13 rfl (rfl) (by decide) (by decide) rfl fl_X4_18 rfl rfl ?_
  refine e_aload_n (pc' := 17) dX4_popInto_16 rfl rfl rfl ?_
  refine e_dup (pc' := 18) dX4_popInto_17 rfl rfl ?_
  refine p_gfi (pc' := 21) (a := 14) (k := 2) (x := nI sz) dX4_popInto_18 rfl (rfl) (by decide) (by decide) rfl fl_X4_26 (by rw [up2_k (by decide)]; exact hH.2.1) ?_
  refine e_iconst (pc' := 22) (v := nI 1) dX4_popInto_21 rfl (by decide) ?_
  refine e_isubN (pc' := 23) dX4_popInto_22 rfl (by omega) ?_
  refine p_pfi (pc' := 26) (a := 14) (k := 2) dX4_popInto_23 rfl (rfl) (by decide) (by decide) rfl fl_X4_26 rfl rfl ?_
  refine e_aload_n (pc' := 27) dX4_popInto_26 rfl rfl rfl ?_
  refine e_aload_n (pc' := 28) dX4_popInto_27 rfl rfl rfl ?_
  refine p_gfr (pc' := 31) (a := 14) (k := 0) (t := 15) dX4_popInto_28 rfl rfl (by decide) (by decide) rfl fl_X4_11 ?_
  refine e_aload_n (pc' := 32) dX4_popInto_31 rfl rfl rfl ?_
  refine p_gfi (pc' := 35) (a := 14) (k := 1) (x := nI (((nx + 8) - 1) % 8)) dX4_popInto_32 rfl (rfl) (by decide) (by decide) rfl fl_X4_18 (by rw [up2_k (by decide)]; exact up2_s) ?_
  refine p_aald (pc' := 36) (a := 15) (k := ((nx + 8) - 1) % 8) (t := 16 + 6 * ((nx + 8 - 1) % 8)) dX4_popInto_35 rfl (Or.inl rfl) rfl (by omega) (by decide) (ring_ref _ (by omega)) ?_
  refine r_VI (pc' := 39) (m' := mX1_copyFrom) (As := [.ref (ad (16 + 6 * ((nx + 8 - 1) % 8)))]) (st := []) (c_copyFrom (d := d) (A := 1) (B := 16 + 6 * ((nx + 8 - 1) % 8)) (c := hs (sz - 1)) isC1 (isCr _ (by omega)) (by omega) (((show (nx + 8 - sz + (sz - 1)) % 8 = (nx + 8 - 1) % 8 by omega) ▸ hH.2.2.2.2 (sz - 1) (by omega)).up (by omega) |> fun q => q.up (by omega)) hw) dX4_popInto_36 rfl rfl (Nat.le_of_ble_eq_true rfl) (fit_of (by omega) (by decide) (by decide) (by decide)) ml_X4_22 okX1_copyFrom rfl rfl (by decide) rfl (fun M1 ⟨hC1, hK1⟩ => ?_)
  show EV _ _ _ _ _ 39 _ ([]) _
  exact e_vret dX4_popInto_39 rfl (MP.retI rfl ⟨hC1, (pop_hs (M1 := M) hH h0).kp hK1 (fun a h1 h2 => inR_f (by omega)), ((KP.refl.up (by decide)).up (by decide)).trans (hK1.wide (fun a ha => by unfold inR at *; simp at *; omega))⟩) (by decide) (by decide)
theorem c_forget (hH : HsAt M hs nx sz) : RET G ad d mX4_forgetAll [.ref (ad 14)] (M, o) none ((up2 M 14 2 (nI 0)), o) := by
  refine CM_of rfl (by decide) rfl (Nat.le_of_ble_eq_true rfl) rfl ?_
  refine e_aload_n (pc' := 1) dX4_forgetAll_0 rfl rfl rfl ?_
  refine e_iconst (pc' := 2) (v := nI 0) dX4_forgetAll_1 rfl (by decide) ?_
  refine p_pfi (pc' := 5) (a := 14) (k := 2) dX4_forgetAll_2 rfl (rfl) (by decide) (by decide) rfl fl_X4_26 rfl rfl ?_
  exact e_vret dX4_forgetAll_5 rfl (MP.ret rfl rfl) (by decide) (by decide)
end T20

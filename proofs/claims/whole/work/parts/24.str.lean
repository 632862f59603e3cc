set_option maxHeartbeats 400000
/-! STRING CONSTANTS -/
def slen (k : Nat) : Nat := (strB.getD k []).length
def chr (k j : Nat) : Nat := ((strB.getD k []).getD j 0).toNatClampNeg
theorem slen_lt : ∀ k, k < 16 → slen k < 13 := by decide
theorem chr_all : ∀ k, k < 16 → ∀ j, j < 13 → (nI (chr k j) = (strB.getD k []).getD j 0 ∧ chr k j < 128) := by decide
section EWS
variable {G : gC} {R : Room} {m : MD} {Qf : QF} {u K : Nat × Nat} {pc pc' d : Nat} {L : List (Option Value)} {st : List Value} {ad : Nat → Nat} {w0 : va_W} {k idx : Nat}
theorem e_sval (hd : decode m.2.1 pc = .ok (.getfield idx, 3)) (hp : pc + 3 = pc') (hk : k < 16) (hl : Cond.fieldLink m.1.cls idx "java/lang/String" "value" "[B" ∈ wG) (kk : EV G R m Qf u pc' L (.ref (gV G k) :: st) w0) : EV G R m Qf u pc L (.ref (gK G k) :: st) w0 := by
  subst hp
  intro p e s mid args below meth c H locs ls F hP hD hS hlv
  have hC := F.2.2.2.2.2.2.2.1.2.2.2.2.2.2.1 k hk
  exact vk_getf F.1 F.2.1 (hC.1 0 (by decide)).2.2.1 hS F.2.2.2.2.1 (F.2.2.2.2.2.1 _ hl) (fun _ h => h) hd (kk p e s mid args below meth c H locs ls F hP hD hS hlv)
theorem e_scod (hd : decode m.2.1 pc = .ok (.getfield idx, 3)) (hp : pc + 3 = pc') (hk : k < 16) (hl : Cond.fieldLink m.1.cls idx "java/lang/String" "coder" "B" ∈ wG) (kk : EV G R m Qf u pc' L (.int (nI 0) :: st) w0) : EV G R m Qf u pc L (.ref (gK G k) :: st) w0 := by
  subst hp
  intro p e s mid args below meth c H locs ls F hP hD hS hlv
  have hC := F.2.2.2.2.2.2.2.1.2.2.2.2.2.2.1 k hk
  exact vk_getf F.1 F.2.1 (hC.1 0 (by decide)).2.1 hS F.2.2.2.2.1 (F.2.2.2.2.2.1 _ hl) (fun _ h => h) hd (kk p e s mid args below meth c H locs ls F hP hD hS hlv)
theorem e_sarl (hd : decode m.2.1 pc = .ok (.arraylength, 1)) (hp : pc + 1 = pc') (hk : k < 16) (kk : EV G R m Qf u pc' L (.int (nI (slen k)) :: st) w0) : EV G R m Qf u pc L (.ref (gV G k) :: st) w0 := by
  subst hp
  intro p e s mid args below meth c H locs ls F hP hD hS hlv
  have hC := F.2.2.2.2.2.2.2.1.2.2.2.2.2.2.1 k hk
  exact va_tlen F.1 F.2.1 (hC.1 0 (by decide)).2.2.2 hS rfl hd (kk p e s mid args below meth c H locs ls F hP hD hS hlv)
theorem e_sbal {i : Int32} {j : Nat} (hd : decode m.2.1 pc = .ok (.baload, 1)) (hp : pc + 1 = pc') (hi : i = nI j) (hk : k < 16) (hj : j < slen k) (kk : EV G R m Qf u pc' L (.int (nI (chr k j)) :: st) w0) : EV G R m Qf u pc L (.int i :: .ref (gV G k) :: st) w0 := by
  subst hp
  subst hi
  intro p e s mid args below meth c H locs ls F hP hD hS hlv
  have hC := F.2.2.2.2.2.2.2.1.2.2.2.2.2.2.1 k hk
  have h13 := slen_lt k hk
  refine va_tb F.1 F.2.1 (hC.1 0 (by decide)).2.2.2 hS (vp_in_nI (N := slen k) hj (by omega)) ?_ hd (kk p e s mid args below meth c H locs ls F hP hD hS hlv)
  rw [nI_clamp (by omega), (chr_all k hk j (by omega)).1]
  rfl
theorem e_gsZ (hd : decode m.2.1 pc = .ok (.getstatic idx, 3)) (hp : pc + 3 = pc') (hl : Cond.fieldLink m.1.cls idx RJ0 "COMPACT_STRINGS" "Z" ∈ wG) (kk : EV G R m Qf u pc' L (.int (nI 1) :: st) w0) : EV G R m Qf u pc L st w0 := by
  subst hp
  intro p e s mid args below meth c H locs ls F hP hD hS hlv
  exact va_gets F.1 F.2.1 F.2.2.2.2.2.2.2.1.2.2.2.2.2.2.2.1 hS F.2.2.2.2.1 (F.2.2.2.2.2.1 _ hl) (fun _ h => h) hd (kk p e s mid args below meth c H locs ls F hP hD hS hlv)
theorem e_gsq (hd : decode m.2.1 pc = .ok (.getstatic idx, 3)) (hp : pc + 3 = pc') (hl : Cond.fieldLink m.1.cls idx RJ3 "SIOOBE_FORMATTER" "Ljava/util/function/BiFunction;" ∈ wG) (kk : ∀ v : Value, v.category = 1 → EV G R m Qf u pc' L (v :: st) w0) : EV G R m Qf u pc L st w0 := by
  subst hp
  intro p e s mid args below meth c H locs ls F hP hD hS hlv
  rcases F.2.2.2.2.2.2.2.1.2.2.2.2.2.2.2.2.1 with hZ | ⟨t, hZ⟩
  · exact va_gets F.1 F.2.1 hZ hS F.2.2.2.2.1 (F.2.2.2.2.2.1 _ hl) (fun _ h => h) hd (kk .null rfl p e s mid args below meth c H locs ls F hP hD hS hlv)
  · exact va_gets F.1 F.2.1 hZ hS F.2.2.2.2.1 (F.2.2.2.2.2.1 _ hl) (fun _ h => h) hd (kk (.ref t) rfl p e s mid args below meth c H locs ls F hP hD hS hlv)
theorem r_Vs {m' : MD} {d' n : Nat} {As stk : List Value} {v : Option Value} {S S' : Mem} (hM : RET G ad d' m' (.ref (gK G k) :: As) S v S') (hd : decode m.2.1 pc = .ok (.invokevirtual idx, 3)) (hp : pc + 3 = pc') (hs : stk = As.reverse ++ .ref (gK G k) :: st) (hw : (st.map fun v => v.category).sum ≤ 8) (hF : Fit R u d' m'.2.2.1 (0, 0)) (hl : Cond.methodLink m.1.cls idx m'.1 ∈ wG) (ok : VOK m' n) (hn : As.length = n) (hk : k < 16) (hq : "java/lang/String" = m'.1.cls)
    (kr : EV G R m Qf u pc' L (v.toList ++ st) (wM G ad S')) : EV G R m Qf u pc L stk (wM G ad S) := by
  subst hp
  subst hs
  intro p e s mid args below meth c H locs ls F hP hD hS hlv
  obtain ⟨o1, o2, o3, o4, o5, o6, o7⟩ := ok
  refine run_use F hS hlv (vx_runV (C := m'.1.cls) (Ts := wG) ⟨F.1, F.2.1, F.2.2.2.1, F.2.2.2.2.1, F.2.2.2.2.2.1⟩ hM ⟨callB F.2.2.2.2.2.1 hF o1 o7 o4 o5 o6 hl, F.2.2.2.2.2.1 _ o2, F.2.2.2.2.2.1 _ o3⟩ ⟨ePre_blind, ?_, fun U hU hW => ⟨rfl, ePre_at F hP hD hS U hU hW⟩⟩ rfl hn hlv.1 rfl (lv_room hw) hd ⟨hF.2.2.1, hF.2.2.2⟩) (fun v2 w' h => by obtain ⟨S2, rfl, h1, rfl⟩ := h; cases h1; exact kr) (fun E w' h => by obtain ⟨S2, rfl, h1, rfl⟩ := h; cases h1)
  rw [← hq]
  exact vk_recv (F.2.2.2.2.2.2.2.1.2.2.2.2.2.2.1 k hk) (i := 0) (by decide) hS
end EWS
section T24
variable {G : gC} {ad : Nat → Nat} {d : Nat} {M : Nat → Nat → Int32} {o : (Nat → Int64) × (Nat → UInt64)} {k j : Nat}
theorem c_coder (hk : k < 16) : RET G ad d mJ0_coder_7d493 [.ref (gK G k)] (M, o) (some (.int (nI 0))) (M, o) := by
  refine CM_of rfl (by decide) rfl (Nat.le_of_ble_eq_true rfl) rfl ?_
  refine e_gsZ (pc' := 3) dJ0_coder_7d493_0 rfl fl_J0_38 ?_
  refine e_if_eqN (pc' := 6) (tgt := 13) dJ0_coder_7d493_3 rfl (by decide) (by decide) (fun h => absurd h (by decide)) (fun _ => ?_)
  refine e_aload_n (pc' := 7) dJ0_coder_7d493_6 rfl rfl rfl ?_
  refine e_scod (pc' := 10) dJ0_coder_7d493_7 rfl hk fl_J0_15 ?_
  refine e_goto (tgt := 14) dJ0_coder_7d493_10 (by decide) ?_
  exact e_zret (ty := .byte) dJ0_coder_7d493_14 rfl (rfl) (MP.ret rfl rfl) (by decide) (by decide)
theorem c_latin (hk : k < 16) : RET G ad d mJ0_isLatin1_aae02 [.ref (gK G k)] (M, o) (some (.int (nI 1))) (M, o) := by
  refine CM_of rfl (by decide) rfl (Nat.le_of_ble_eq_true rfl) rfl ?_
  refine e_gsZ (pc' := 3) dJ0_isLatin1_aae02_0 rfl fl_J0_38 ?_
  refine e_if_eqN (pc' := 6) (tgt := 17) dJ0_isLatin1_aae02_3 rfl (by decide) (by decide) (fun h => absurd h (by decide)) (fun _ => ?_)
  refine e_aload_n (pc' := 7) dJ0_isLatin1_aae02_6 rfl rfl rfl ?_
  refine e_scod (pc' := 10) dJ0_isLatin1_aae02_7 rfl hk fl_J0_15 ?_
  refine e_if_neN (pc' := 13) (tgt := 17) dJ0_isLatin1_aae02_10 rfl (by decide) (by decide) (fun h => absurd h (by decide)) (fun _ => ?_)
  refine e_iconst (pc' := 14) (v := nI 1) dJ0_isLatin1_aae02_13 rfl (by decide) ?_
  refine e_goto (tgt := 18) dJ0_isLatin1_aae02_14 (by decide) ?_
  exact e_zret (ty := .boolean) dJ0_isLatin1_aae02_18 rfl (rfl) (MP.ret rfl rfl) (by decide) (by decide)
theorem c_slen (hk : k < 16) : RET G ad (d + 1) mJ0_length_8abf5 [.ref (gK G k)] (M, o) (some (.int (nI (slen k)))) (M, o) := by
  refine CM_of rfl (by decide) rfl (Nat.le_of_ble_eq_true rfl) rfl ?_
  have h13 := slen_lt k hk
  refine e_aload_n (pc' := 1) dJ0_length_8abf5_0 rfl rfl rfl ?_
  refine e_sval (pc' := 4) dJ0_length_8abf5_1 rfl hk fl_J0_9 ?_
  refine e_sarl (pc' := 5) dJ0_length_8abf5_4 rfl hk ?_
  refine e_aload_n (pc' := 6) dJ0_length_8abf5_5 rfl rfl rfl ?_
  refine r_Vs (pc' := 9) (m' := mJ0_coder_7d493) (As := []) (st := [.int (nI (slen k))]) (c_coder (d := d) hk) dJ0_length_8abf5_6 rfl rfl (Nat.le_of_ble_eq_true rfl) (fit_of (by omega) (by decide) (by decide) (by decide)) ml_J0_335 okJ0_coder_7d493 rfl hk rfl ?_
  show EV _ _ _ _ _ 9 _ ([.int (nI 0), .int (nI (slen k))]) _
  refine e_ishrN (pc' := 10) dJ0_length_8abf5_9 rfl (by omega) (by omega) ?_
  exact e_iret dJ0_length_8abf5_10 rfl (MP.ret (congrArg (fun z => some (Value.int z)) (by rw [Nat.pow_zero, Nat.div_one])) rfl) (by decide) (by decide)
theorem c_ckP {v : Value} (hv : v.category = 1) {n : Nat} (hj : j < n) (hn : n < 2 ^ 31) : RET G ad d mJ3_checkIndex_8e157 [.int (nI j), .int (nI n), v] (M, o) (some (.int (nI j))) (M, o) := by
  refine CM_of rfl (by decide) (by simp only [List.all_cons, List.all_nil, hv]; rfl) (Nat.le_of_ble_eq_true rfl) rfl ?_
  refine e_iload_n (pc' := 1) dJ3_checkIndex_8e157_0 rfl rfl rfl ?_
  refine e_if_ltN (pc' := 4) (tgt := 9) dJ3_checkIndex_8e157_1 rfl (by decide) (by omega) (fun hz1 => absurd hz1 (by omega)) (fun hz1 => ?_)
  refine e_iload_n (pc' := 5) dJ3_checkIndex_8e157_4 rfl rfl rfl ?_
  refine e_iload_n (pc' := 6) dJ3_checkIndex_8e157_5 rfl rfl rfl ?_
  refine e_icmp_ltN (pc' := 9) (tgt := 16) dJ3_checkIndex_8e157_6 rfl (by decide) (by omega) (by omega) (fun hz2 => ?_) (fun hz2 => absurd hz2 (by omega))
  refine e_iload_n (pc' := 17) dJ3_checkIndex_8e157_16 rfl rfl rfl ?_
  exact e_iret dJ3_checkIndex_8e157_17 rfl (MP.ret rfl rfl) (by decide) (by decide)
theorem c_ckI {n : Nat} (hj : j < n) (hn : n < 2 ^ 31) : RET G ad (d + 1) mJ0_checkIndex_df160 [.int (nI j), .int (nI n)] (M, o) none (M, o) := by
  refine CM_of rfl (by decide) rfl (Nat.le_of_ble_eq_true rfl) rfl ?_
  refine e_iload_n (pc' := 1) dJ0_checkIndex_df160_0 rfl rfl rfl ?_
  refine e_iload_n (pc' := 2) dJ0_checkIndex_df160_1 rfl rfl rfl ?_
  refine e_gsq (pc' := 5) dJ0_checkIndex_df160_2 rfl fl_J0_1053 (fun v9 hv9 => ?_)
  refine r_S (pc' := 8) (m' := mJ3_checkIndex_8e157) (As := [.int (nI j), .int (nI n), v9]) (st := []) (c_ckP (d := d) hv9 (j := j) (n := n) hj hn) dJ0_checkIndex_df160_5 rfl rfl (Nat.le_of_ble_eq_true rfl) (fit_of (by omega) (by decide) (by decide) (by decide)) ml_J0_1059 okJ3_checkIndex_8e157 rfl rfl ?_
  show EV _ _ _ _ _ 8 _ ([.int (nI j)]) _
  refine e_pop (pc' := 9) dJ0_checkIndex_df160_8 rfl rfl ?_
  exact e_vret dJ0_checkIndex_df160_9 rfl (MP.ret rfl rfl) (by decide) (by decide)
theorem and255 {x : Nat} (h : x < 128) : x &&& 255 = x := by rw [show (255 : Nat) = 2 ^ 8 - 1 by decide, Nat.and_two_pow_sub_one_eq_mod]; omega
theorem c_chL (hk : k < 16) (hj : j < slen k) : RET G ad (d + 2) mJ1_charAt_3b067 [.ref (gV G k), .int (nI j)] (M, o) (some (.int (nI (chr k j)))) (M, o) := by
  refine CM_of rfl (by decide) rfl (Nat.le_of_ble_eq_true rfl) rfl ?_
  have h13 := slen_lt k hk
  have hch := chr_all k hk j (by omega)
  refine e_iload_n (pc' := 1) dJ1_charAt_3b067_0 rfl rfl rfl ?_
  refine e_aload_n (pc' := 2) dJ1_charAt_3b067_1 rfl rfl rfl ?_
  refine e_sarl (pc' := 3) dJ1_charAt_3b067_2 rfl hk ?_
  refine r_S (pc' := 6) (m' := mJ0_checkIndex_df160) (As := [.int (nI j), .int (nI (slen k))]) (st := []) (c_ckI (d := d) (j := j) (n := slen k) hj (by omega)) dJ1_charAt_3b067_3 rfl rfl (Nat.le_of_ble_eq_true rfl) (fit_of (by omega) (by decide) (by decide) (by decide)) ml_J1_9 okJ0_checkIndex_df160 rfl rfl ?_
  show EV _ _ _ _ _ 6 _ ([]) _
  refine e_aload_n (pc' := 7) dJ1_charAt_3b067_6 rfl rfl rfl ?_
  refine e_iload_n (pc' := 8) dJ1_charAt_3b067_7 rfl rfl rfl ?_
  refine e_sbal (pc' := 9) (j := j) dJ1_charAt_3b067_8 rfl rfl hk hj ?_
  refine e_sipush (pc' := 12) (v := nI 255) dJ1_charAt_3b067_9 rfl (by decide) ?_
  refine e_iandN (pc' := 13) dJ1_charAt_3b067_12 rfl ?_
  rw [show (nI ((chr k j) &&& 255)) = nI (chr k j) from congrArg nI (and255 hch.2)]
  refine e_i2c (pc' := 14) dJ1_charAt_3b067_13 rfl ?_
  rw [show (((nI (chr k j)).toUInt32 % 65536).toInt32) = nI (chr k j) from i2c_nI (by omega)]
  exact e_zret (ty := .char) dJ1_charAt_3b067_14 rfl (congrArg Value.int (i2c_nI (by omega))) (MP.ret rfl rfl) (by decide) (by decide)
theorem c_charAt (hk : k < 16) (hj : j < slen k) : RET G ad (d + 3) mJ0_charAt_5068e [.ref (gK G k), .int (nI j)] (M, o) (some (.int (nI (chr k j)))) (M, o) := by
  refine CM_of rfl (by decide) rfl (Nat.le_of_ble_eq_true rfl) rfl ?_
  have h13 := slen_lt k hk
  have hch := chr_all k hk j (by omega)
  refine e_aload_n (pc' := 1) dJ0_charAt_5068e_0 rfl rfl rfl ?_
  refine r_Vs (pc' := 4) (m' := mJ0_isLatin1_aae02) (As := []) (st := []) (c_latin (d := d) hk) dJ0_charAt_5068e_1 rfl rfl (Nat.le_of_ble_eq_true rfl) (fit_of (by omega) (by decide) (by decide) (by decide)) ml_J0_492 okJ0_isLatin1_aae02 rfl hk rfl ?_
  show EV _ _ _ _ _ 4 _ ([.int (nI 1)]) _
  refine e_if_eqN (pc' := 7) (tgt := 16) dJ0_charAt_5068e_4 rfl (by decide) (by decide) (fun h => absurd h (by decide)) (fun _ => ?_)
  refine e_aload_n (pc' := 8) dJ0_charAt_5068e_7 rfl rfl rfl ?_
  refine e_sval (pc' := 11) dJ0_charAt_5068e_8 rfl hk fl_J0_9 ?_
  refine e_iload_n (pc' := 12) dJ0_charAt_5068e_11 rfl rfl rfl ?_
  refine r_S (pc' := 15) (m' := mJ1_charAt_3b067) (As := [.ref (gV G k), .int (nI j)]) (st := []) (c_chL (d := d) hk hj) dJ0_charAt_5068e_12 rfl rfl (Nat.le_of_ble_eq_true rfl) (fit_of (by omega) (by decide) (by decide) (by decide)) ml_J0_495 okJ1_charAt_3b067 rfl rfl ?_
  show EV _ _ _ _ _ 15 _ ([.int (nI (chr k j))]) _
  exact e_zret (ty := .char) dJ0_charAt_5068e_15 rfl (congrArg Value.int (i2c_nI (by omega))) (MP.ret rfl rfl) (by decide) (by decide)
end T24

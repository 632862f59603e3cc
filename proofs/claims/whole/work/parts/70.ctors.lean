set_option maxHeartbeats 400000
/-! THE CONSTRUCTORS -/
theorem inst_0 : Cond.instantiable (cls 0).1 (cls 0).2.2 ∈ wG := wG_in (in_t1 (List.mem_of_getElem? (i := 139) rfl)) rfl
theorem ini_0 : Cond.initialized (cls 0).1 ∈ wG := wG_in (in_t1 (List.mem_of_getElem? (i := 5) rfl)) rfl
theorem zf_0 : ∀ j, j < (cls 0).2.2 → defaultValue (cls_t 0 j) = vp_V [.null, .null, .null, .int 0] j := fun j hj => match j, hj with
  | 0, _ => rfl
  | 1, _ => rfl
  | 2, _ => rfl
  | 3, _ => rfl
  | k + 4, h => absurd (show k + 4 < 4 from h) (by omega)
theorem inst_1 : Cond.instantiable (cls 1).1 (cls 1).2.2 ∈ wG := wG_in (in_t1 (List.mem_of_getElem? (i := 38) rfl)) rfl
theorem ini_1 : Cond.initialized (cls 1).1 ∈ wG := wG_in (in_t1 (List.mem_of_getElem? (i := 2) rfl)) rfl
theorem zf_1 : ∀ j, j < (cls 1).2.2 → defaultValue (cls_t 1 j) = vp_V [.int 0, .null, .null, .null, .int 0, .int 0, .null, .null, .int 0, .int 0] j := fun j hj => match j, hj with
  | 0, _ => rfl
  | 1, _ => rfl
  | 2, _ => rfl
  | 3, _ => rfl
  | 4, _ => rfl
  | 5, _ => rfl
  | 6, _ => rfl
  | 7, _ => rfl
  | 8, _ => rfl
  | 9, _ => rfl
  | k + 10, h => absurd (show k + 10 < 10 from h) (by omega)
theorem inst_2 : Cond.instantiable (cls 2).1 (cls 2).2.2 ∈ wG := wG_in (in_t1 (List.mem_of_getElem? (i := 186) rfl)) rfl
theorem ini_2 : Cond.initialized (cls 2).1 ∈ wG := wG_in (in_t1 (List.mem_of_getElem? (i := 8) rfl)) rfl
theorem zf_2 : ∀ j, j < (cls 2).2.2 → defaultValue (cls_t 2 j) = vp_V [.int 0, .int 0, .int 0, .int 0] j := fun j hj => match j, hj with
  | 0, _ => rfl
  | 1, _ => rfl
  | 2, _ => rfl
  | 3, _ => rfl
  | k + 4, h => absurd (show k + 4 < 4 from h) (by omega)
theorem inst_3 : Cond.instantiable (cls 3).1 (cls 3).2.2 ∈ wG := wG_in (in_t1 (List.mem_of_getElem? (i := 129) rfl)) rfl
theorem ini_3 : Cond.initialized (cls 3).1 ∈ wG := wG_in (in_t1 (List.mem_of_getElem? (i := 4) rfl)) rfl
theorem zf_3 : ∀ j, j < (cls 3).2.2 → defaultValue (cls_t 3 j) = vp_V [.null] j := fun j hj => match j, hj with
  | 0, _ => rfl
  | k + 1, h => absurd (show k + 1 < 1 from h) (by omega)
theorem inst_4 : Cond.instantiable (cls 4).1 (cls 4).2.2 ∈ wG := wG_in (in_t1 (List.mem_of_getElem? (i := 159) rfl)) rfl
theorem ini_4 : Cond.initialized (cls 4).1 ∈ wG := wG_in (in_t1 (List.mem_of_getElem? (i := 6) rfl)) rfl
theorem zf_4 : ∀ j, j < (cls 4).2.2 → defaultValue (cls_t 4 j) = vp_V [.null, .int 0, .int 0] j := fun j hj => match j, hj with
  | 0, _ => rfl
  | 1, _ => rfl
  | 2, _ => rfl
  | k + 3, h => absurd (show k + 3 < 3 from h) (by omega)
theorem inst_5 : Cond.instantiable (cls 5).1 (cls 5).2.2 ∈ wG := wG_in (in_t1 (List.mem_of_getElem? (i := 230) rfl)) rfl
theorem ini_5 : Cond.initialized (cls 5).1 ∈ wG := wG_in (in_t1 (List.mem_of_getElem? (i := 9) rfl)) rfl
theorem zf_5 : ∀ j, j < (cls 5).2.2 → defaultValue (cls_t 5 j) = vp_V [.null, .int 0] j := fun j hj => match j, hj with
  | 0, _ => rfl
  | 1, _ => rfl
  | k + 2, h => absurd (show k + 2 < 2 from h) (by omega)
theorem inst_6 : Cond.instantiable (cls 6).1 (cls 6).2.2 ∈ wG := wG_in (in_t1 (List.mem_of_getElem? (i := 98) rfl)) rfl
theorem ini_6 : Cond.initialized (cls 6).1 ∈ wG := wG_in (in_t1 (List.mem_of_getElem? (i := 3) rfl)) rfl
theorem zf_6 : ∀ j, j < (cls 6).2.2 → defaultValue (cls_t 6 j) = vp_V [.null, .null, .null, .null, .null, .int 0, .int 0, .int 0] j := fun j hj => match j, hj with
  | 0, _ => rfl
  | 1, _ => rfl
  | 2, _ => rfl
  | 3, _ => rfl
  | 4, _ => rfl
  | 5, _ => rfl
  | 6, _ => rfl
  | 7, _ => rfl
  | k + 8, h => absurd (show k + 8 < 8 from h) (by omega)
theorem inst_7 : Cond.instantiable (cls 7).1 (cls 7).2.2 ∈ wG := wG_in (in_t1 (List.mem_of_getElem? (i := 179) rfl)) rfl
theorem ini_7 : Cond.initialized (cls 7).1 ∈ wG := wG_in (in_t1 (List.mem_of_getElem? (i := 7) rfl)) rfl
theorem zf_7 : ∀ j, j < (cls 7).2.2 → defaultValue (cls_t 7 j) = vp_V [.null, .int 0, .null, .int 0, .int 0] j := fun j hj => match j, hj with
  | 0, _ => rfl
  | 1, _ => rfl
  | 2, _ => rfl
  | 3, _ => rfl
  | 4, _ => rfl
  | k + 5, h => absurd (show k + 5 < 5 from h) (by omega)
theorem inst_8 : Cond.instantiable (cls 8).1 (cls 8).2.2 ∈ wG := wG_in (in_t1 (List.mem_of_getElem? (i := 30) rfl)) rfl
theorem ini_8 : Cond.initialized (cls 8).1 ∈ wG := wG_in (in_t1 (List.mem_of_getElem? (i := 1) rfl)) rfl
theorem zf_8 : ∀ j, j < (cls 8).2.2 → defaultValue (cls_t 8 j) = vp_V [.null, .null, .null, .null, .null, .null, .null, .null, .null, .int 0, .int 0, .int 0, .int 0, .int 0] j := fun j hj => match j, hj with
  | 0, _ => rfl
  | 1, _ => rfl
  | 2, _ => rfl
  | 3, _ => rfl
  | 4, _ => rfl
  | 5, _ => rfl
  | 6, _ => rfl
  | 7, _ => rfl
  | 8, _ => rfl
  | 9, _ => rfl
  | 10, _ => rfl
  | 11, _ => rfl
  | 12, _ => rfl
  | 13, _ => rfl
  | k + 14, h => absurd (show k + 14 < 14 from h) (by omega)
theorem inst_9 : Cond.instantiable (cls 9).1 (cls 9).2.2 ∈ wG := wG_in (in_t6 (List.mem_of_getElem? (i := 5) rfl)) rfl
theorem ini_9 : Cond.initialized (cls 9).1 ∈ wG := wG_in (in_t1 (List.mem_of_getElem? (i := 10) rfl)) rfl
theorem zf_9 : ∀ j, j < (cls 9).2.2 → defaultValue (cls_t 9 j) = vp_V [.null, .null, .null, .null, .int 0, .int 0, .int 0, .int 0, .int 0, .int 0, .int 0, .int 0, .null, .int 0, .int 0, .null, .int 0, .int 0, .null, .int 0] j := fun j hj => match j, hj with
  | 0, _ => rfl
  | 1, _ => rfl
  | 2, _ => rfl
  | 3, _ => rfl
  | 4, _ => rfl
  | 5, _ => rfl
  | 6, _ => rfl
  | 7, _ => rfl
  | 8, _ => rfl
  | 9, _ => rfl
  | 10, _ => rfl
  | 11, _ => rfl
  | 12, _ => rfl
  | 13, _ => rfl
  | 14, _ => rfl
  | 15, _ => rfl
  | 16, _ => rfl
  | 17, _ => rfl
  | 18, _ => rfl
  | 19, _ => rfl
  | k + 20, h => absurd (show k + 20 < 20 from h) (by omega)
theorem ar_int : Cond.arrayClass (newarray.typeOf .int) ∈ wG := wG_in (in_t1 (List.mem_of_getElem? (i := 96) rfl)) rfl
theorem ar_char : Cond.arrayClass (newarray.typeOf .char) ∈ wG := wG_in (in_t1 (List.mem_of_getElem? (i := 208) rfl)) rfl
theorem ar_long : Cond.arrayClass (newarray.typeOf .long) ∈ wG := wG_in (in_t7 (List.mem_of_getElem? (i := 208) rfl)) rfl
theorem ar_double : Cond.arrayClass (newarray.typeOf .double) ∈ wG := wG_in (in_t7 (List.mem_of_getElem? (i := 209) rfl)) rfl
theorem AO_1 {G : gC} : ∀ (s : State) (H : Heap), CX G s H → va_AO RX1 s := fun s H h => h.2.2.2.2.2.2.2.2.2.1
theorem AO_2 {G : gC} : ∀ (s : State) (H : Heap), CX G s H → va_AO RX2 s := fun s H h => h.2.2.2.2.2.2.2.2.2.2.1
section T70
variable {G : gC} {ad : Nat → Nat} {E : Nat → va_E} {d : Nat}
theorem k_col {a n : Nat} {dn : List Nat} (hdl : ∀ k, k ∈ dn → k < a) (ha : a < n) (h96 : n + 4 < 96) (hsa : sh a = (1, 10, [none, some n, some (n + 1), some (n + 2), none, none, some (n + 3), some (n + 4), none, none])) (hs0 : sh n = (100, 9, [])) (hs1 : sh (n + 1) = (100, 9, [])) (hs2 : sh (n + 2) = (100, 9, [])) (hs3 : sh (n + 3) = (100, 16, [])) (hs4 : sh (n + 4) = (100, 16, [])) (ha0 : a ≠ 0) (hS : ST G (n) ad E (a :: dn)) (hE : E (a) = .inr (1, [.int 0, .null, .null, .null, .int 0, .int 0, .null, .null, .int 0, .int 0])) : CTR G d mX1_init (5, 59) [.ref (ad a)] (n) (n + 5) ad E dn := by
  refine EVM_of rfl (by decide) rfl (Nat.le_of_ble_eq_true rfl) ?_
  have hC0 : ∀ k, k < n → ad k = ad k := fun _ _ => rfl
  have hD0 : ∀ k, k ∈ dn → E k = E k := fun _ _ => rfl
  refine e_aload_n (pc' := 1) dX1_init_0 rfl rfl rfl ?_
  refine e_objInit (pc' := 4) dX1_init_1 rfl ml_X1_3 oi_in oi_co (Nat.le_of_ble_eq_true rfl) (by simp [rmK, Value.category] <;> omega) ?_
  refine e_aload_n (pc' := 5) dX1_init_4 rfl rfl rfl ?_
  refine e_bipush (pc' := 7) (v := nI 9) dX1_init_5 rfl (by decide) ?_
  refine a_newN (pc' := 9) (t := 0) (N := 9) (ty := .int) (a0 := (9, .inl (fun _ => 0))) hS (fun z => by rcases List.mem_cons.mp z with h | h; omega; have := hdl _ h; omega) dX1_init_7 rfl ar_int rfl rfl (fun _ _ h => h) (fun _ => rfl) rfl (by decide) (by decide) (fun _ => by rw [hs0]; show _ = Sum.inl (gA G 0, (9, Sum.inl (Z0 (n)))); rw [Z0_n (by omega) (by omega)]) (by rw [hs0]) (show 0 + 1 ≤ 5 from by decide) (show 0 + 9 ≤ 59 from by decide) (fun q1 ad1 E1 S1 hA1 hq1 hB1 => ?_)
  have fa_1 : ad1 (a) = ad a := (hA1 (a) (by omega)).trans (rfl : ad (a) = ad a)
  have hC1 : ∀ k, k < n → ad1 k = ad k := fun k hk => (hA1 k (by omega)).trans (hC0 k hk)
  have oa_1 : E1 (a) = .inr (1, [.int 0, .null, .null, .null, .int 0, .int 0, .null, .null, .int 0, .int 0]) := (hB1 (a) (by omega)).trans hE
  have hD1 : ∀ k, k ∈ dn → E1 k = E k := fun k hk => (by have h9 := hdl k hk; exact (hB1 k (by omega)).trans (hD0 k hk))
  show EV _ _ _ _ (1, 9) 9 _ [.ref q1, .ref (ad a)] (AW (n + 1) ad1 E1)
  refine a_putF (pc' := 12) (a := a) (ci := 1) (kf := 1) S1 dX1_init_9 rfl (by omega) List.mem_cons_self fa_1 oa_1 (by decide) (by decide) fl_X1_9 rfl rfl rfl (cls_ty (by decide) 1 (by decide)) rfl rfl (Nat.le_of_ble_eq_true rfl) (fun E2 S2 hN2 hB2 => ?_)
  have oa_2 : E2 (a) = .inr (1, [.int 0, .ref (q1), .null, .null, .int 0, .int 0, .null, .null, .int 0, .int 0]) := hN2
  have hD2 : ∀ k, k ∈ dn → E2 k = E k := fun k hk => (by have h9 := hdl k hk; exact (hB2 k (by omega)).trans (hD1 k hk))
  refine e_aload_n (pc' := 13) dX1_init_12 rfl rfl rfl ?_
  refine e_bipush (pc' := 15) (v := nI 9) dX1_init_13 rfl (by decide) ?_
  refine a_newN (pc' := 17) (t := 0) (N := 9) (ty := .int) (a0 := (9, .inl (fun _ => 0))) S2 (fun z => by rcases List.mem_cons.mp z with h | h; omega; have := hdl _ h; omega) dX1_init_15 rfl ar_int rfl rfl (fun _ _ h => h) (fun _ => rfl) rfl (by decide) (by decide) (fun _ => by rw [hs1]; show _ = Sum.inl (gA G 0, (9, Sum.inl (Z0 (n + 1)))); rw [Z0_n (by omega) (by omega)]) (by rw [hs1]) (show 1 + 1 ≤ 5 from by decide) (show 9 + 9 ≤ 59 from by decide) (fun q3 ad3 E3 S3 hA3 hq3 hB3 => ?_)
  have fa_3 : ad3 (a) = ad a := (hA3 (a) (by omega)).trans fa_1
  have fn_3 : ad3 (n) = q1 := (hA3 (n) (by omega)).trans hq1
  have hC3 : ∀ k, k < n → ad3 k = ad k := fun k hk => (hA3 k (by omega)).trans (hC1 k hk)
  have oa_3 : E3 (a) = .inr (1, [.int 0, .ref (q1), .null, .null, .int 0, .int 0, .null, .null, .int 0, .int 0]) := (hB3 (a) (by omega)).trans oa_2
  have hD3 : ∀ k, k ∈ dn → E3 k = E k := fun k hk => (by have h9 := hdl k hk; exact (hB3 k (by omega)).trans (hD2 k hk))
  show EV _ _ _ _ (2, 18) 17 _ [.ref q3, .ref (ad a)] (AW (n + 2) ad3 E3)
  refine a_putF (pc' := 20) (a := a) (ci := 1) (kf := 2) S3 dX1_init_17 rfl (by omega) List.mem_cons_self fa_3 oa_3 (by decide) (by decide) fl_X1_15 rfl rfl rfl (cls_ty (by decide) 2 (by decide)) rfl rfl (Nat.le_of_ble_eq_true rfl) (fun E4 S4 hN4 hB4 => ?_)
  have oa_4 : E4 (a) = .inr (1, [.int 0, .ref (q1), .ref (q3), .null, .int 0, .int 0, .null, .null, .int 0, .int 0]) := hN4
  have hD4 : ∀ k, k ∈ dn → E4 k = E k := fun k hk => (by have h9 := hdl k hk; exact (hB4 k (by omega)).trans (hD3 k hk))
  refine e_aload_n (pc' := 21) dX1_init_20 rfl rfl rfl ?_
  refine e_bipush (pc' := 23) (v := nI 9) dX1_init_21 rfl (by decide) ?_
  refine a_newN (pc' := 25) (t := 0) (N := 9) (ty := .int) (a0 := (9, .inl (fun _ => 0))) S4 (fun z => by rcases List.mem_cons.mp z with h | h; omega; have := hdl _ h; omega) dX1_init_23 rfl ar_int rfl rfl (fun _ _ h => h) (fun _ => rfl) rfl (by decide) (by decide) (fun _ => by rw [hs2]; show _ = Sum.inl (gA G 0, (9, Sum.inl (Z0 (n + 2)))); rw [Z0_n (by omega) (by omega)]) (by rw [hs2]) (show 2 + 1 ≤ 5 from by decide) (show 18 + 9 ≤ 59 from by decide) (fun q5 ad5 E5 S5 hA5 hq5 hB5 => ?_)
  have fa_5 : ad5 (a) = ad a := (hA5 (a) (by omega)).trans fa_3
  have fn_5 : ad5 (n) = q1 := (hA5 (n) (by omega)).trans fn_3
  have fnp1_5 : ad5 (n + 1) = q3 := (hA5 (n + 1) (by omega)).trans hq3
  have hC5 : ∀ k, k < n → ad5 k = ad k := fun k hk => (hA5 k (by omega)).trans (hC3 k hk)
  have oa_5 : E5 (a) = .inr (1, [.int 0, .ref (q1), .ref (q3), .null, .int 0, .int 0, .null, .null, .int 0, .int 0]) := (hB5 (a) (by omega)).trans oa_4
  have hD5 : ∀ k, k ∈ dn → E5 k = E k := fun k hk => (by have h9 := hdl k hk; exact (hB5 k (by omega)).trans (hD4 k hk))
  show EV _ _ _ _ (3, 27) 25 _ [.ref q5, .ref (ad a)] (AW (n + 3) ad5 E5)
  refine a_putF (pc' := 28) (a := a) (ci := 1) (kf := 3) S5 dX1_init_25 rfl (by omega) List.mem_cons_self fa_5 oa_5 (by decide) (by decide) fl_X1_18 rfl rfl rfl (cls_ty (by decide) 3 (by decide)) rfl rfl (Nat.le_of_ble_eq_true rfl) (fun E6 S6 hN6 hB6 => ?_)
  have oa_6 : E6 (a) = .inr (1, [.int 0, .ref (q1), .ref (q3), .ref (q5), .int 0, .int 0, .null, .null, .int 0, .int 0]) := hN6
  have hD6 : ∀ k, k ∈ dn → E6 k = E k := fun k hk => (by have h9 := hdl k hk; exact (hB6 k (by omega)).trans (hD5 k hk))
  refine e_aload_n (pc' := 29) dX1_init_28 rfl rfl rfl ?_
  refine e_bipush (pc' := 31) (v := nI 16) dX1_init_29 rfl (by decide) ?_
  refine a_newN (pc' := 33) (t := 0) (N := 16) (ty := .int) (a0 := (16, .inl (fun _ => 0))) S6 (fun z => by rcases List.mem_cons.mp z with h | h; omega; have := hdl _ h; omega) dX1_init_31 rfl ar_int rfl rfl (fun _ _ h => h) (fun _ => rfl) rfl (by decide) (by decide) (fun _ => by rw [hs3]; show _ = Sum.inl (gA G 0, (16, Sum.inl (Z0 (n + 3)))); rw [Z0_n (by omega) (by omega)]) (by rw [hs3]) (show 3 + 1 ≤ 5 from by decide) (show 27 + 16 ≤ 59 from by decide) (fun q7 ad7 E7 S7 hA7 hq7 hB7 => ?_)
  have fa_7 : ad7 (a) = ad a := (hA7 (a) (by omega)).trans fa_5
  have fn_7 : ad7 (n) = q1 := (hA7 (n) (by omega)).trans fn_5
  have fnp1_7 : ad7 (n + 1) = q3 := (hA7 (n + 1) (by omega)).trans fnp1_5
  have fnp2_7 : ad7 (n + 2) = q5 := (hA7 (n + 2) (by omega)).trans hq5
  have hC7 : ∀ k, k < n → ad7 k = ad k := fun k hk => (hA7 k (by omega)).trans (hC5 k hk)
  have oa_7 : E7 (a) = .inr (1, [.int 0, .ref (q1), .ref (q3), .ref (q5), .int 0, .int 0, .null, .null, .int 0, .int 0]) := (hB7 (a) (by omega)).trans oa_6
  have hD7 : ∀ k, k ∈ dn → E7 k = E k := fun k hk => (by have h9 := hdl k hk; exact (hB7 k (by omega)).trans (hD6 k hk))
  show EV _ _ _ _ (4, 43) 33 _ [.ref q7, .ref (ad a)] (AW (n + 4) ad7 E7)
  refine a_putF (pc' := 36) (a := a) (ci := 1) (kf := 6) S7 dX1_init_33 rfl (by omega) List.mem_cons_self fa_7 oa_7 (by decide) (by decide) fl_X1_21 rfl rfl rfl (cls_ty (by decide) 6 (by decide)) rfl rfl (Nat.le_of_ble_eq_true rfl) (fun E8 S8 hN8 hB8 => ?_)
  have oa_8 : E8 (a) = .inr (1, [.int 0, .ref (q1), .ref (q3), .ref (q5), .int 0, .int 0, .ref (q7), .null, .int 0, .int 0]) := hN8
  have hD8 : ∀ k, k ∈ dn → E8 k = E k := fun k hk => (by have h9 := hdl k hk; exact (hB8 k (by omega)).trans (hD7 k hk))
  refine e_aload_n (pc' := 37) dX1_init_36 rfl rfl rfl ?_
  refine e_bipush (pc' := 39) (v := nI 16) dX1_init_37 rfl (by decide) ?_
  refine a_newN (pc' := 41) (t := 0) (N := 16) (ty := .int) (a0 := (16, .inl (fun _ => 0))) S8 (fun z => by rcases List.mem_cons.mp z with h | h; omega; have := hdl _ h; omega) dX1_init_39 rfl ar_int rfl rfl (fun _ _ h => h) (fun _ => rfl) rfl (by decide) (by decide) (fun _ => by rw [hs4]; show _ = Sum.inl (gA G 0, (16, Sum.inl (Z0 (n + 4)))); rw [Z0_n (by omega) (by omega)]) (by rw [hs4]) (show 4 + 1 ≤ 5 from by decide) (show 43 + 16 ≤ 59 from by decide) (fun q9 ad9 E9 S9 hA9 hq9 hB9 => ?_)
  have fa_9 : ad9 (a) = ad a := (hA9 (a) (by omega)).trans fa_7
  have fn_9 : ad9 (n) = q1 := (hA9 (n) (by omega)).trans fn_7
  have fnp1_9 : ad9 (n + 1) = q3 := (hA9 (n + 1) (by omega)).trans fnp1_7
  have fnp2_9 : ad9 (n + 2) = q5 := (hA9 (n + 2) (by omega)).trans fnp2_7
  have fnp3_9 : ad9 (n + 3) = q7 := (hA9 (n + 3) (by omega)).trans hq7
  have hC9 : ∀ k, k < n → ad9 k = ad k := fun k hk => (hA9 k (by omega)).trans (hC7 k hk)
  have oa_9 : E9 (a) = .inr (1, [.int 0, .ref (q1), .ref (q3), .ref (q5), .int 0, .int 0, .ref (q7), .null, .int 0, .int 0]) := (hB9 (a) (by omega)).trans oa_8
  have hD9 : ∀ k, k ∈ dn → E9 k = E k := fun k hk => (by have h9 := hdl k hk; exact (hB9 k (by omega)).trans (hD8 k hk))
  show EV _ _ _ _ (5, 59) 41 _ [.ref q9, .ref (ad a)] (AW (n + 5) ad9 E9)
  refine a_putF (pc' := 44) (a := a) (ci := 1) (kf := 7) S9 dX1_init_41 rfl (by omega) List.mem_cons_self fa_9 oa_9 (by decide) (by decide) fl_X1_24 rfl rfl rfl (cls_ty (by decide) 7 (by decide)) rfl rfl (Nat.le_of_ble_eq_true rfl) (fun E10 S10 hN10 hB10 => ?_)
  have oa_10 : E10 (a) = .inr (1, [.int 0, .ref (q1), .ref (q3), .ref (q5), .int 0, .int 0, .ref (q7), .ref (q9), .int 0, .int 0]) := hN10
  have hD10 : ∀ k, k ∈ dn → E10 k = E k := fun k hk => (by have h9 := hdl k hk; exact (hB10 k (by omega)).trans (hD9 k hk))
  exact e_vret dX1_init_44 rfl ((by have F1 := S10.fin ((oa_10).trans (by rw [hsa, cellM_obj (by decide)]; show Sum.inr (1, [.int 0, .ref (q1), .ref (q3), .ref (q5), .int 0, .int 0, .ref (q7), .ref (q9), .int 0, .int 0]) = Sum.inr (1, objF ad9 (Z0 (a)) [none, some n, some (n + 1), some (n + 2), none, none, some (n + 3), some (n + 4), none, none]); rw [Z0_n (by omega) (by omega)]; rw [← fn_9, ← fnp1_9, ← fnp2_9, ← fnp3_9, ← hq9]; rfl)) (by rw [hsa]; exact rall (by simp)); exact ⟨rfl, _, _, rfl, F1, hC9, hD10⟩)) (by decide) (by decide)
theorem k_cmd {a n : Nat} {dn : List Nat} (hdl : ∀ k, k ∈ dn → k < a) (ha : a < n) (h96 : a < 96) (hsa : sh a = (2, 4, [none, none, none, none])) (ha0 : a ≠ 0) (hS : ST G (n) ad E (a :: dn)) (hE : E (a) = .inr (2, [.int 0, .int 0, .int 0, .int 0])) : CTR G d mX2_init (0, 0) [.ref (ad a)] (n) (n) ad E dn := by
  refine EVM_of rfl (by decide) rfl (Nat.le_of_ble_eq_true rfl) ?_
  have hC0 : ∀ k, k < n → ad k = ad k := fun _ _ => rfl
  have hD0 : ∀ k, k ∈ dn → E k = E k := fun _ _ => rfl
  refine e_aload_n (pc' := 1) dX2_init_0 rfl rfl rfl ?_
  refine e_objInit (pc' := 4) dX2_init_1 rfl ml_X2_1 oi_in oi_co (Nat.le_of_ble_eq_true rfl) (by simp [rmK, Value.category] <;> omega) ?_
  exact e_vret dX2_init_4 rfl ((by have F1 := hS.fin ((hE).trans (by rw [hsa, cellM_obj (by decide)]; show Sum.inr (2, [.int 0, .int 0, .int 0, .int 0]) = Sum.inr (2, objF ad (Z0 (a)) [none, none, none, none]); rw [Z0_n (by omega) (by omega)]; rfl)) (by rw [hsa]; exact rall (by simp)); exact ⟨rfl, _, _, rfl, F1, hC0, hD0⟩)) (by decide) (by decide)
theorem k_sur (hS : ST G (8) ad E (7 :: [0])) (hE : E (7) = .inr (6, [.null, .null, .null, .null, .null, .int 0, .int 0, .int 0])) : CTR G d mX6_init (4, 45) [.ref (ad 7), .ref (ad 1)] (8) (12) ad E [0] := by
  refine EVM_of rfl (by decide) rfl (Nat.le_of_ble_eq_true rfl) ?_
  have hdl : ∀ k, k ∈ [0] → k < 7 := by decide
  have hC0 : ∀ k, k < 8 → ad k = ad k := fun _ _ => rfl
  have hD0 : ∀ k, k ∈ [0] → E k = E k := fun _ _ => rfl
  refine e_aload_n (pc' := 1) dX6_init_0 rfl rfl rfl ?_
  refine e_objInit (pc' := 4) dX6_init_1 rfl ml_X6_3 oi_in oi_co (Nat.le_of_ble_eq_true rfl) (by simp [rmK, Value.category] <;> omega) ?_
  refine e_aload_n (pc' := 5) dX6_init_4 rfl rfl rfl ?_
  refine e_bipush (pc' := 7) (v := nI 18) dX6_init_5 rfl (by decide) ?_
  refine a_newN (pc' := 9) (t := 0) (N := 18) (ty := .int) (a0 := (18, .inl (fun _ => 0))) hS (by decide) dX6_init_7 rfl ar_int rfl rfl (fun _ _ h => h) (fun _ => rfl) rfl (by decide) (by decide) (fun _ => by rw [(show sh 8 = (100, 18, []) from rfl)]; show _ = Sum.inl (gA G 0, (18, Sum.inl (Z0 (8)))); rw [Z0_n (by decide) (by decide)]) (by rw [(show sh 8 = (100, 18, []) from rfl)]) (show 0 + 1 ≤ 4 from by decide) (show 0 + 18 ≤ 45 from by decide) (fun q1 ad1 E1 S1 hA1 hq1 hB1 => ?_)
  have f7_1 : ad1 (7) = ad 7 := (hA1 (7) (by decide)).trans (rfl : ad (7) = ad 7)
  have f1_1 : ad1 (1) = ad 1 := (hA1 (1) (by decide)).trans (rfl : ad (1) = ad 1)
  have hC1 : ∀ k, k < 8 → ad1 k = ad k := fun k hk => (hA1 k (by omega)).trans (hC0 k hk)
  have o7_1 : E1 (7) = .inr (6, [.null, .null, .null, .null, .null, .int 0, .int 0, .int 0]) := (hB1 (7) (by decide)).trans hE
  have hD1 : ∀ k, k ∈ [0] → E1 k = E k := fun k hk => (by have h9 := hdl k hk; exact (hB1 k (by omega)).trans (hD0 k hk))
  show EV _ _ _ _ (1, 18) 9 _ [.ref q1, .ref (ad 7)] (AW (9) ad1 E1)
  refine a_putF (pc' := 12) (a := 7) (ci := 6) (kf := 1) S1 dX6_init_9 rfl (by decide) (by decide) f7_1 o7_1 (by decide) (by decide) fl_X6_9 rfl rfl rfl (cls_ty (by decide) 1 (by decide)) rfl rfl (Nat.le_of_ble_eq_true rfl) (fun E2 S2 hN2 hB2 => ?_)
  have o7_2 : E2 (7) = .inr (6, [.null, .ref (q1), .null, .null, .null, .int 0, .int 0, .int 0]) := hN2
  have hD2 : ∀ k, k ∈ [0] → E2 k = E k := fun k hk => (by have h9 := hdl k hk; exact (hB2 k (by omega)).trans (hD1 k hk))
  refine e_aload_n (pc' := 13) dX6_init_12 rfl rfl rfl ?_
  refine e_bipush (pc' := 15) (v := nI 9) dX6_init_13 rfl (by decide) ?_
  refine a_newN (pc' := 17) (t := 0) (N := 9) (ty := .int) (a0 := (9, .inl (fun _ => 0))) S2 (by decide) dX6_init_15 rfl ar_int rfl rfl (fun _ _ h => h) (fun _ => rfl) rfl (by decide) (by decide) (fun _ => by rw [(show sh 9 = (100, 9, []) from rfl)]; show _ = Sum.inl (gA G 0, (9, Sum.inl (Z0 (9)))); rw [Z0_n (by decide) (by decide)]) (by rw [(show sh 9 = (100, 9, []) from rfl)]) (show 1 + 1 ≤ 4 from by decide) (show 18 + 9 ≤ 45 from by decide) (fun q3 ad3 E3 S3 hA3 hq3 hB3 => ?_)
  have f7_3 : ad3 (7) = ad 7 := (hA3 (7) (by decide)).trans f7_1
  have f1_3 : ad3 (1) = ad 1 := (hA3 (1) (by decide)).trans f1_1
  have f8_3 : ad3 (8) = q1 := (hA3 (8) (by decide)).trans hq1
  have hC3 : ∀ k, k < 8 → ad3 k = ad k := fun k hk => (hA3 k (by omega)).trans (hC1 k hk)
  have o7_3 : E3 (7) = .inr (6, [.null, .ref (q1), .null, .null, .null, .int 0, .int 0, .int 0]) := (hB3 (7) (by decide)).trans o7_2
  have hD3 : ∀ k, k ∈ [0] → E3 k = E k := fun k hk => (by have h9 := hdl k hk; exact (hB3 k (by omega)).trans (hD2 k hk))
  show EV _ _ _ _ (2, 27) 17 _ [.ref q3, .ref (ad 7)] (AW (10) ad3 E3)
  refine a_putF (pc' := 20) (a := 7) (ci := 6) (kf := 2) S3 dX6_init_17 rfl (by decide) (by decide) f7_3 o7_3 (by decide) (by decide) fl_X6_15 rfl rfl rfl (cls_ty (by decide) 2 (by decide)) rfl rfl (Nat.le_of_ble_eq_true rfl) (fun E4 S4 hN4 hB4 => ?_)
  have o7_4 : E4 (7) = .inr (6, [.null, .ref (q1), .ref (q3), .null, .null, .int 0, .int 0, .int 0]) := hN4
  have hD4 : ∀ k, k ∈ [0] → E4 k = E k := fun k hk => (by have h9 := hdl k hk; exact (hB4 k (by omega)).trans (hD3 k hk))
  refine e_aload_n (pc' := 21) dX6_init_20 rfl rfl rfl ?_
  refine e_bipush (pc' := 23) (v := nI 9) dX6_init_21 rfl (by decide) ?_
  refine a_newN (pc' := 25) (t := 0) (N := 9) (ty := .int) (a0 := (9, .inl (fun _ => 0))) S4 (by decide) dX6_init_23 rfl ar_int rfl rfl (fun _ _ h => h) (fun _ => rfl) rfl (by decide) (by decide) (fun _ => by rw [(show sh 10 = (100, 9, []) from rfl)]; show _ = Sum.inl (gA G 0, (9, Sum.inl (Z0 (10)))); rw [Z0_n (by decide) (by decide)]) (by rw [(show sh 10 = (100, 9, []) from rfl)]) (show 2 + 1 ≤ 4 from by decide) (show 27 + 9 ≤ 45 from by decide) (fun q5 ad5 E5 S5 hA5 hq5 hB5 => ?_)
  have f7_5 : ad5 (7) = ad 7 := (hA5 (7) (by decide)).trans f7_3
  have f1_5 : ad5 (1) = ad 1 := (hA5 (1) (by decide)).trans f1_3
  have f8_5 : ad5 (8) = q1 := (hA5 (8) (by decide)).trans f8_3
  have f9_5 : ad5 (9) = q3 := (hA5 (9) (by decide)).trans hq3
  have hC5 : ∀ k, k < 8 → ad5 k = ad k := fun k hk => (hA5 k (by omega)).trans (hC3 k hk)
  have o7_5 : E5 (7) = .inr (6, [.null, .ref (q1), .ref (q3), .null, .null, .int 0, .int 0, .int 0]) := (hB5 (7) (by decide)).trans o7_4
  have hD5 : ∀ k, k ∈ [0] → E5 k = E k := fun k hk => (by have h9 := hdl k hk; exact (hB5 k (by omega)).trans (hD4 k hk))
  show EV _ _ _ _ (3, 36) 25 _ [.ref q5, .ref (ad 7)] (AW (11) ad5 E5)
  refine a_putF (pc' := 28) (a := 7) (ci := 6) (kf := 3) S5 dX6_init_25 rfl (by decide) (by decide) f7_5 o7_5 (by decide) (by decide) fl_X6_18 rfl rfl rfl (cls_ty (by decide) 3 (by decide)) rfl rfl (Nat.le_of_ble_eq_true rfl) (fun E6 S6 hN6 hB6 => ?_)
  have o7_6 : E6 (7) = .inr (6, [.null, .ref (q1), .ref (q3), .ref (q5), .null, .int 0, .int 0, .int 0]) := hN6
  have hD6 : ∀ k, k ∈ [0] → E6 k = E k := fun k hk => (by have h9 := hdl k hk; exact (hB6 k (by omega)).trans (hD5 k hk))
  refine e_aload_n (pc' := 29) dX6_init_28 rfl rfl rfl ?_
  refine e_bipush (pc' := 31) (v := nI 9) dX6_init_29 rfl (by decide) ?_
  refine a_newN (pc' := 33) (t := 0) (N := 9) (ty := .int) (a0 := (9, .inl (fun _ => 0))) S6 (by decide) dX6_init_31 rfl ar_int rfl rfl (fun _ _ h => h) (fun _ => rfl) rfl (by decide) (by decide) (fun _ => by rw [(show sh 11 = (100, 9, []) from rfl)]; show _ = Sum.inl (gA G 0, (9, Sum.inl (Z0 (11)))); rw [Z0_n (by decide) (by decide)]) (by rw [(show sh 11 = (100, 9, []) from rfl)]) (show 3 + 1 ≤ 4 from by decide) (show 36 + 9 ≤ 45 from by decide) (fun q7 ad7 E7 S7 hA7 hq7 hB7 => ?_)
  have f7_7 : ad7 (7) = ad 7 := (hA7 (7) (by decide)).trans f7_5
  have f1_7 : ad7 (1) = ad 1 := (hA7 (1) (by decide)).trans f1_5
  have f8_7 : ad7 (8) = q1 := (hA7 (8) (by decide)).trans f8_5
  have f9_7 : ad7 (9) = q3 := (hA7 (9) (by decide)).trans f9_5
  have f10_7 : ad7 (10) = q5 := (hA7 (10) (by decide)).trans hq5
  have hC7 : ∀ k, k < 8 → ad7 k = ad k := fun k hk => (hA7 k (by omega)).trans (hC5 k hk)
  have o7_7 : E7 (7) = .inr (6, [.null, .ref (q1), .ref (q3), .ref (q5), .null, .int 0, .int 0, .int 0]) := (hB7 (7) (by decide)).trans o7_6
  have hD7 : ∀ k, k ∈ [0] → E7 k = E k := fun k hk => (by have h9 := hdl k hk; exact (hB7 k (by omega)).trans (hD6 k hk))
  show EV _ _ _ _ (4, 45) 33 _ [.ref q7, .ref (ad 7)] (AW (12) ad7 E7)
  refine a_putF (pc' := 36) (a := 7) (ci := 6) (kf := 4) S7 dX6_init_33 rfl (by decide) (by decide) f7_7 o7_7 (by decide) (by decide) fl_X6_21 rfl rfl rfl (cls_ty (by decide) 4 (by decide)) rfl rfl (Nat.le_of_ble_eq_true rfl) (fun E8 S8 hN8 hB8 => ?_)
  have o7_8 : E8 (7) = .inr (6, [.null, .ref (q1), .ref (q3), .ref (q5), .ref (q7), .int 0, .int 0, .int 0]) := hN8
  have hD8 : ∀ k, k ∈ [0] → E8 k = E k := fun k hk => (by have h9 := hdl k hk; exact (hB8 k (by omega)).trans (hD7 k hk))
  refine e_aload_n (pc' := 37) dX6_init_36 rfl rfl rfl ?_
  refine e_aload_n (pc' := 38) dX6_init_37 rfl rfl rfl ?_
  refine a_putF (pc' := 41) (a := 7) (ci := 6) (kf := 0) S8 dX6_init_38 rfl (by decide) (by decide) f7_7 o7_8 (by decide) (by decide) fl_X6_24 rfl rfl rfl (cls_ty (by decide) 0 (by decide)) rfl rfl (Nat.le_of_ble_eq_true rfl) (fun E9 S9 hN9 hB9 => ?_)
  have o7_9 : E9 (7) = .inr (6, [.ref (ad 1), .ref (q1), .ref (q3), .ref (q5), .ref (q7), .int 0, .int 0, .int 0]) := hN9
  have hD9 : ∀ k, k ∈ [0] → E9 k = E k := fun k hk => (by have h9 := hdl k hk; exact (hB9 k (by omega)).trans (hD8 k hk))
  exact e_vret dX6_init_41 rfl ((by have F1 := S9.fin ((o7_9).trans (by rw [(show sh 7 = (6, 8, [some 1, some 8, some 9, some 10, some 11, none, none, none]) from rfl), cellM_obj (by decide)]; show Sum.inr (6, [.ref (ad 1), .ref (q1), .ref (q3), .ref (q5), .ref (q7), .int 0, .int 0, .int 0]) = Sum.inr (6, objF ad7 (Z0 (7)) [some 1, some 8, some 9, some 10, some 11, none, none, none]); rw [← f1_7, ← f8_7, ← f9_7, ← f10_7, ← hq7]; rfl)) (rall (by rw [(show sh 7 = (6, 8, [some 1, some 8, some 9, some 10, some 11, none, none, none]) from rfl)]; decide)); exact ⟨rfl, _, _, rfl, F1, hC7, hD9⟩)) (by decide) (by decide)
theorem k_for (hS : ST G (13) ad E (12 :: [0])) (hE : E (12) = .inr (3, [.null])) : CTR G d mX3_init (0, 0) [.ref (ad 12), .ref (ad 1)] (13) (13) ad E [0] := by
  refine EVM_of rfl (by decide) rfl (Nat.le_of_ble_eq_true rfl) ?_
  have hdl : ∀ k, k ∈ [0] → k < 12 := by decide
  have hC0 : ∀ k, k < 13 → ad k = ad k := fun _ _ => rfl
  have hD0 : ∀ k, k ∈ [0] → E k = E k := fun _ _ => rfl
  refine e_aload_n (pc' := 1) dX3_init_0 rfl rfl rfl ?_
  refine e_objInit (pc' := 4) dX3_init_1 rfl ml_X3_3 oi_in oi_co (Nat.le_of_ble_eq_true rfl) (by simp [rmK, Value.category] <;> omega) ?_
  refine e_aload_n (pc' := 5) dX3_init_4 rfl rfl rfl ?_
  refine e_aload_n (pc' := 6) dX3_init_5 rfl rfl rfl ?_
  refine a_putF (pc' := 9) (a := 12) (ci := 3) (kf := 0) hS dX3_init_6 rfl (by decide) (by decide) (rfl : ad (12) = ad 12) hE (by decide) (by decide) fl_X3_9 rfl rfl rfl (cls_ty (by decide) 0 (by decide)) rfl rfl (Nat.le_of_ble_eq_true rfl) (fun E1 S1 hN1 hB1 => ?_)
  have o12_1 : E1 (12) = .inr (3, [.ref (ad 1)]) := hN1
  have hD1 : ∀ k, k ∈ [0] → E1 k = E k := fun k hk => (by have h9 := hdl k hk; exact (hB1 k (by omega)).trans (hD0 k hk))
  exact e_vret dX3_init_9 rfl ((by have F1 := S1.fin ((o12_1).trans (by rw [(show sh 12 = (3, 1, [some 1]) from rfl), cellM_obj (by decide)]; show Sum.inr (3, [.ref (ad 1)]) = Sum.inr (3, objF ad (Z0 (12)) [some 1]); rw [← (rfl : ad (1) = ad 1)]; rfl)) (rall (by rw [(show sh 12 = (3, 1, [some 1]) from rfl)]; decide)); exact ⟨rfl, _, _, rfl, F1, hC0, hD1⟩)) (by decide) (by decide)
theorem k_chg (hS : ST G (14) ad E (13 :: [0])) (hE : E (13) = .inr (0, [.null, .null, .null, .int 0])) : CTR G d mX0_init (0, 0) [.ref (ad 13), .ref (ad 1), .ref (ad 7), .ref (ad 12)] (14) (14) ad E [0] := by
  refine EVM_of rfl (by decide) rfl (Nat.le_of_ble_eq_true rfl) ?_
  have hdl : ∀ k, k ∈ [0] → k < 13 := by decide
  have hC0 : ∀ k, k < 14 → ad k = ad k := fun _ _ => rfl
  have hD0 : ∀ k, k ∈ [0] → E k = E k := fun _ _ => rfl
  refine e_aload_n (pc' := 1) dX0_init_0 rfl rfl rfl ?_
  refine e_objInit (pc' := 4) dX0_init_1 rfl ml_X0_3 oi_in oi_co (Nat.le_of_ble_eq_true rfl) (by simp [rmK, Value.category] <;> omega) ?_
  refine e_aload_n (pc' := 5) dX0_init_4 rfl rfl rfl ?_
  refine e_aload_n (pc' := 6) dX0_init_5 rfl rfl rfl ?_
  refine a_putF (pc' := 9) (a := 13) (ci := 0) (kf := 0) hS dX0_init_6 rfl (by decide) (by decide) (rfl : ad (13) = ad 13) hE (by decide) (by decide) fl_X0_9 rfl rfl rfl (cls_ty (by decide) 0 (by decide)) rfl rfl (Nat.le_of_ble_eq_true rfl) (fun E1 S1 hN1 hB1 => ?_)
  have o13_1 : E1 (13) = .inr (0, [.ref (ad 1), .null, .null, .int 0]) := hN1
  have hD1 : ∀ k, k ∈ [0] → E1 k = E k := fun k hk => (by have h9 := hdl k hk; exact (hB1 k (by omega)).trans (hD0 k hk))
  refine e_aload_n (pc' := 10) dX0_init_9 rfl rfl rfl ?_
  refine e_aload_n (pc' := 11) dX0_init_10 rfl rfl rfl ?_
  refine a_putF (pc' := 14) (a := 13) (ci := 0) (kf := 1) S1 dX0_init_11 rfl (by decide) (by decide) (rfl : ad (13) = ad 13) o13_1 (by decide) (by decide) fl_X0_15 rfl rfl rfl (cls_ty (by decide) 1 (by decide)) rfl rfl (Nat.le_of_ble_eq_true rfl) (fun E2 S2 hN2 hB2 => ?_)
  have o13_2 : E2 (13) = .inr (0, [.ref (ad 1), .ref (ad 7), .null, .int 0]) := hN2
  have hD2 : ∀ k, k ∈ [0] → E2 k = E k := fun k hk => (by have h9 := hdl k hk; exact (hB2 k (by omega)).trans (hD1 k hk))
  refine e_aload_n (pc' := 15) dX0_init_14 rfl rfl rfl ?_
  refine e_aload_n (pc' := 16) dX0_init_15 rfl rfl rfl ?_
  refine a_putF (pc' := 19) (a := 13) (ci := 0) (kf := 2) S2 dX0_init_16 rfl (by decide) (by decide) (rfl : ad (13) = ad 13) o13_2 (by decide) (by decide) fl_X0_19 rfl rfl rfl (cls_ty (by decide) 2 (by decide)) rfl rfl (Nat.le_of_ble_eq_true rfl) (fun E3 S3 hN3 hB3 => ?_)
  have o13_3 : E3 (13) = .inr (0, [.ref (ad 1), .ref (ad 7), .ref (ad 12), .int 0]) := hN3
  have hD3 : ∀ k, k ∈ [0] → E3 k = E k := fun k hk => (by have h9 := hdl k hk; exact (hB3 k (by omega)).trans (hD2 k hk))
  exact e_vret dX0_init_19 rfl ((by have F1 := S3.fin ((o13_3).trans (by rw [(show sh 13 = (0, 4, [some 1, some 7, some 12, none]) from rfl), cellM_obj (by decide)]; show Sum.inr (0, [.ref (ad 1), .ref (ad 7), .ref (ad 12), .int 0]) = Sum.inr (0, objF ad (Z0 (13)) [some 1, some 7, some 12, none]); rw [← (rfl : ad (1) = ad 1), ← (rfl : ad (7) = ad 7), ← (rfl : ad (12) = ad 12)]; rfl)) (rall (by rw [(show sh 13 = (0, 4, [some 1, some 7, some 12, none]) from rfl)]; decide)); exact ⟨rfl, _, _, rfl, F1, hC0, hD3⟩)) (by decide) (by decide)
theorem k_his (hS : ST G (15) ad E (14 :: [0])) (hE : E (14) = .inr (4, [.null, .int 0, .int 0])) : CTR G (d + 1) mX4_init (49, 560) [.ref (ad 14)] (15) (64) ad E [0] := by
  refine EVM_of rfl (by decide) rfl (Nat.le_of_ble_eq_true rfl) ?_
  have hdl : ∀ k, k ∈ [0] → k < 14 := by decide
  have hC0 : ∀ k, k < 15 → ad k = ad k := fun _ _ => rfl
  have hD0 : ∀ k, k ∈ [0] → E k = E k := fun _ _ => rfl
  refine e_aload_n (pc' := 1) dX4_init_0 rfl rfl rfl ?_
  refine e_objInit (pc' := 4) dX4_init_1 rfl ml_X4_3 oi_in oi_co (Nat.le_of_ble_eq_true rfl) (by simp [rmK, Value.category] <;> omega) ?_
  refine e_aload_n (pc' := 5) dX4_init_4 rfl rfl rfl ?_
  refine e_bipush (pc' := 7) (v := nI 8) dX4_init_5 rfl (by decide) ?_
  refine a_newQ (pc' := 10) (t := 4) (N := 8) hS dX4_init_7 rfl cl_X4_9 AO_1 rfl rfl (by decide) (by decide) (show 0 + 1 ≤ 49 from by decide) (show 0 + 8 ≤ 560 from by decide) (fun q1 ad1 E1 S1 hA1 hq1 hB1 hN1 => ?_)
  have f14_1 : ad1 (14) = ad 14 := (hA1 (14) (by decide)).trans (rfl : ad (14) = ad 14)
  have hC1 : ∀ k, k < 15 → ad1 k = ad k := fun k hk => (hA1 k (by omega)).trans (hC0 k hk)
  have o14_1 : E1 (14) = .inr (4, [.null, .int 0, .int 0]) := (hB1 (14) (by decide)).trans hE
  have hD1 : ∀ k, k ∈ [0] → E1 k = E k := fun k hk => (by have h9 := hdl k hk; exact (hB1 k (by omega)).trans (hD0 k hk))
  show EV _ _ _ _ (1, 8) 10 _ [.ref q1, .ref (ad 14)] (AW (16) ad1 E1)
  refine a_putF (pc' := 13) (a := 14) (ci := 4) (kf := 0) S1 dX4_init_10 rfl (by decide) (by decide) f14_1 o14_1 (by decide) (by decide) fl_X4_11 rfl rfl rfl (cls_ty (by decide) 0 (by decide)) rfl rfl (Nat.le_of_ble_eq_true rfl) (fun E2 S2 hN2 hB2 => ?_)
  have o14_2 : E2 (14) = .inr (4, [.ref (q1), .int 0, .int 0]) := hN2
  have o15_2 : E2 (15) = .inl (gA G 4, 8, .inr (.inr (.inr (.inr (fun _ => none))))) := (hB2 (15) (by decide)).trans hN1
  have hD2 : ∀ k, k ∈ [0] → E2 k = E k := fun k hk => (by have h9 := hdl k hk; exact (hB2 k (by omega)).trans (hD1 k hk))
  refine e_iconst (pc' := 14) (v := nI 0) dX4_init_13 rfl (by decide) ?_
  refine e_istore_n (pc' := 15) (L' := [some (.ref (ad 14)), some (.int (nI 0))]) dX4_init_14 rfl rfl (by decide) rfl ?_
  refine e_iload_n (pc' := 16) dX4_init_15 rfl rfl rfl ?_
  refine e_bipush (pc' := 18) (v := nI 8) dX4_init_16 rfl (by decide) ?_
  refine e_icmp_geN (pc' := 21) (tgt := 40) dX4_init_18 rfl (by decide) (by decide) (by decide) (fun h => absurd h (by decide)) (fun _ => ?_)
  refine e_aload_n (pc' := 22) dX4_init_21 rfl rfl rfl ?_
  refine a_get (pc' := 25) (a := 14) (ci := 4) (kf := 0) dX4_init_22 rfl (by decide) f14_1 o14_2 (by decide) (by decide) fl_X4_11 rfl ?_
  refine e_iload_n (pc' := 26) dX4_init_25 rfl rfl rfl ?_
  refine a_new (pc' := 29) (ci := 1) (fs := [.int 0, .null, .null, .null, .int 0, .int 0, .null, .null, .int 0, .int 0]) S2 dX4_init_26 rfl (by decide) cl_X4_9 inst_1 ini_1 zf_1 (show 1 + 1 ≤ 49 from by decide) (show 8 + 10 ≤ 560 from by decide) (fun q4 ad4 E4 S4 hA4 hq4 hB4 hN4 => ?_)
  have f14_4 : ad4 (14) = ad 14 := (hA4 (14) (by decide)).trans f14_1
  have f15_4 : ad4 (15) = q1 := (hA4 (15) (by decide)).trans hq1
  have hC4 : ∀ k, k < 15 → ad4 k = ad k := fun k hk => (hA4 k (by omega)).trans (hC1 k hk)
  have o14_4 : E4 (14) = .inr (4, [.ref (q1), .int 0, .int 0]) := (hB4 (14) (by decide)).trans o14_2
  have o15_4 : E4 (15) = .inl (gA G 4, 8, .inr (.inr (.inr (.inr (fun _ => none))))) := (hB4 (15) (by decide)).trans o15_2
  have hD4 : ∀ k, k ∈ [0] → E4 k = E k := fun k hk => (by have h9 := hdl k hk; exact (hB4 k (by omega)).trans (hD2 k hk))
  show EV _ _ _ _ (2, 18) 29 _ [.ref q4, .int (nI 0), .ref (q1)] (AW (17) ad4 E4)
  refine e_dup (pc' := 30) dX4_init_29 rfl rfl ?_
  refine a_invN (pc' := 33) (m' := mX1_init) (d := d) (As := []) (n' := 22) (by rw [← hq4]; exact k_col (a := 16) (n := 17) (dn := [15, 14, 0]) (by decide) (by decide) (by decide) rfl rfl rfl rfl rfl rfl (by decide) S4 hN4) dX4_init_30 rfl rfl (Nat.le_of_ble_eq_true rfl) (fit_of (by omega) (by decide) (show 2 + 5 ≤ 49 from by decide) (show 18 + 59 ≤ 560 from by decide)) nl_X4_17 okX1_init rfl (fun ad5 E5 S5 hA5 hB5 => ?_)
  have f14_5 : ad5 (14) = ad 14 := (hA5 (14) (by decide)).trans f14_4
  have f15_5 : ad5 (15) = q1 := (hA5 (15) (by decide)).trans f15_4
  have f16_5 : ad5 (16) = q4 := (hA5 (16) (by decide)).trans hq4
  have hC5 : ∀ k, k < 15 → ad5 k = ad k := fun k hk => (hA5 k (by omega)).trans (hC4 k hk)
  have o14_5 : E5 (14) = .inr (4, [.ref (q1), .int 0, .int 0]) := (hB5 (14) (by decide)).trans o14_4
  have o15_5 : E5 (15) = .inl (gA G 4, 8, .inr (.inr (.inr (.inr (fun _ => none))))) := (hB5 (15) (by decide)).trans o15_4
  have hD5 : ∀ k, k ∈ [0] → E5 k = E k := fun k hk => (by have h9 := hdl k hk; exact (hB5 k (List.mem_cons_of_mem _ (List.mem_cons_of_mem _ hk))).trans (hD4 k hk))
  show EV _ _ _ _ (7, 77) 33 _ [.ref (q4), .int (nI 0), .ref (q1)] (AW (22) ad5 E5)
  refine a_ast (pc' := 34) (a := 15) (t := 4) (N := 8) (j := 0) (qk := 16) (ci := 1) S5 dX4_init_33 rfl (by decide) (by decide) f15_5 o15_5 (by decide) rfl (by decide) f16_5 ((S5 16 (by decide) (by decide)).1.trans (show cellM G ad5 ZM 16 (sh 16) = .inr (1, objF ad5 (Z0 16) [none, some 17, some 18, some 19, none, none, some 20, some 21, none, none]) from rfl)) rfl (by decide) (by decide) (fun E6 S6 hN6 hB6 => ?_)
  have o15_6 : E6 (15) = .inl (gA G 4, 8, .inr (.inr (.inr (.inr (va_up (fun _ => none) 0 (some (q4))))))) := hN6
  have o14_6 : E6 (14) = .inr (4, [.ref (q1), .int 0, .int 0]) := (hB6 (14) (by decide)).trans o14_5
  have hD6 : ∀ k, k ∈ [0] → E6 k = E k := fun k hk => (by have h9 := hdl k hk; exact (hB6 k (by omega)).trans (hD5 k hk))
  refine e_iincN (pc' := 37) (k := 1) (L' := [some (.ref (ad 14)), some (.int (nI 1))]) dX4_init_34 rfl rfl rfl (by decide) rfl ?_
  refine e_goto (tgt := 15) dX4_init_37 (by decide) ?_
  refine e_iload_n (pc' := 16) dX4_init_15 rfl rfl rfl ?_
  refine e_bipush (pc' := 18) (v := nI 8) dX4_init_16 rfl (by decide) ?_
  refine e_icmp_geN (pc' := 21) (tgt := 40) dX4_init_18 rfl (by decide) (by decide) (by decide) (fun h => absurd h (by decide)) (fun _ => ?_)
  refine e_aload_n (pc' := 22) dX4_init_21 rfl rfl rfl ?_
  refine a_get (pc' := 25) (a := 14) (ci := 4) (kf := 0) dX4_init_22 rfl (by decide) f14_5 o14_6 (by decide) (by decide) fl_X4_11 rfl ?_
  refine e_iload_n (pc' := 26) dX4_init_25 rfl rfl rfl ?_
  refine a_new (pc' := 29) (ci := 1) (fs := [.int 0, .null, .null, .null, .int 0, .int 0, .null, .null, .int 0, .int 0]) S6 dX4_init_26 rfl (by decide) cl_X4_9 inst_1 ini_1 zf_1 (show 7 + 1 ≤ 49 from by decide) (show 77 + 10 ≤ 560 from by decide) (fun q8 ad8 E8 S8 hA8 hq8 hB8 hN8 => ?_)
  have f14_8 : ad8 (14) = ad 14 := (hA8 (14) (by decide)).trans f14_5
  have f15_8 : ad8 (15) = q1 := (hA8 (15) (by decide)).trans f15_5
  have f16_8 : ad8 (16) = q4 := (hA8 (16) (by decide)).trans f16_5
  have hC8 : ∀ k, k < 15 → ad8 k = ad k := fun k hk => (hA8 k (by omega)).trans (hC5 k hk)
  have o14_8 : E8 (14) = .inr (4, [.ref (q1), .int 0, .int 0]) := (hB8 (14) (by decide)).trans o14_6
  have o15_8 : E8 (15) = .inl (gA G 4, 8, .inr (.inr (.inr (.inr (va_up (fun _ => none) 0 (some (q4))))))) := (hB8 (15) (by decide)).trans o15_6
  have hD8 : ∀ k, k ∈ [0] → E8 k = E k := fun k hk => (by have h9 := hdl k hk; exact (hB8 k (by omega)).trans (hD6 k hk))
  show EV _ _ _ _ (8, 87) 29 _ [.ref q8, .int (nI 1), .ref (q1)] (AW (23) ad8 E8)
  refine e_dup (pc' := 30) dX4_init_29 rfl rfl ?_
  refine a_invN (pc' := 33) (m' := mX1_init) (d := d) (As := []) (n' := 28) (by rw [← hq8]; exact k_col (a := 22) (n := 23) (dn := [15, 14, 0]) (by decide) (by decide) (by decide) rfl rfl rfl rfl rfl rfl (by decide) S8 hN8) dX4_init_30 rfl rfl (Nat.le_of_ble_eq_true rfl) (fit_of (by omega) (by decide) (show 8 + 5 ≤ 49 from by decide) (show 87 + 59 ≤ 560 from by decide)) nl_X4_17 okX1_init rfl (fun ad9 E9 S9 hA9 hB9 => ?_)
  have f14_9 : ad9 (14) = ad 14 := (hA9 (14) (by decide)).trans f14_8
  have f15_9 : ad9 (15) = q1 := (hA9 (15) (by decide)).trans f15_8
  have f16_9 : ad9 (16) = q4 := (hA9 (16) (by decide)).trans f16_8
  have f22_9 : ad9 (22) = q8 := (hA9 (22) (by decide)).trans hq8
  have hC9 : ∀ k, k < 15 → ad9 k = ad k := fun k hk => (hA9 k (by omega)).trans (hC8 k hk)
  have o14_9 : E9 (14) = .inr (4, [.ref (q1), .int 0, .int 0]) := (hB9 (14) (by decide)).trans o14_8
  have o15_9 : E9 (15) = .inl (gA G 4, 8, .inr (.inr (.inr (.inr (va_up (fun _ => none) 0 (some (q4))))))) := (hB9 (15) (by decide)).trans o15_8
  have hD9 : ∀ k, k ∈ [0] → E9 k = E k := fun k hk => (by have h9 := hdl k hk; exact (hB9 k (List.mem_cons_of_mem _ (List.mem_cons_of_mem _ hk))).trans (hD8 k hk))
  show EV _ _ _ _ (13, 146) 33 _ [.ref (q8), .int (nI 1), .ref (q1)] (AW (28) ad9 E9)
  refine a_ast (pc' := 34) (a := 15) (t := 4) (N := 8) (j := 1) (qk := 22) (ci := 1) S9 dX4_init_33 rfl (by decide) (by decide) f15_9 o15_9 (by decide) rfl (by decide) f22_9 ((S9 22 (by decide) (by decide)).1.trans (show cellM G ad9 ZM 22 (sh 22) = .inr (1, objF ad9 (Z0 22) [none, some 23, some 24, some 25, none, none, some 26, some 27, none, none]) from rfl)) rfl (by decide) (by decide) (fun E10 S10 hN10 hB10 => ?_)
  have o15_10 : E10 (15) = .inl (gA G 4, 8, .inr (.inr (.inr (.inr (va_up (va_up (fun _ => none) 0 (some (q4))) 1 (some (q8))))))) := hN10
  have o14_10 : E10 (14) = .inr (4, [.ref (q1), .int 0, .int 0]) := (hB10 (14) (by decide)).trans o14_9
  have hD10 : ∀ k, k ∈ [0] → E10 k = E k := fun k hk => (by have h9 := hdl k hk; exact (hB10 k (by omega)).trans (hD9 k hk))
  refine e_iincN (pc' := 37) (k := 1) (L' := [some (.ref (ad 14)), some (.int (nI 2))]) dX4_init_34 rfl rfl rfl (by decide) rfl ?_
  refine e_goto (tgt := 15) dX4_init_37 (by decide) ?_
  refine e_iload_n (pc' := 16) dX4_init_15 rfl rfl rfl ?_
  refine e_bipush (pc' := 18) (v := nI 8) dX4_init_16 rfl (by decide) ?_
  refine e_icmp_geN (pc' := 21) (tgt := 40) dX4_init_18 rfl (by decide) (by decide) (by decide) (fun h => absurd h (by decide)) (fun _ => ?_)
  refine e_aload_n (pc' := 22) dX4_init_21 rfl rfl rfl ?_
  refine a_get (pc' := 25) (a := 14) (ci := 4) (kf := 0) dX4_init_22 rfl (by decide) f14_9 o14_10 (by decide) (by decide) fl_X4_11 rfl ?_
  refine e_iload_n (pc' := 26) dX4_init_25 rfl rfl rfl ?_
  refine a_new (pc' := 29) (ci := 1) (fs := [.int 0, .null, .null, .null, .int 0, .int 0, .null, .null, .int 0, .int 0]) S10 dX4_init_26 rfl (by decide) cl_X4_9 inst_1 ini_1 zf_1 (show 13 + 1 ≤ 49 from by decide) (show 146 + 10 ≤ 560 from by decide) (fun q12 ad12 E12 S12 hA12 hq12 hB12 hN12 => ?_)
  have f14_12 : ad12 (14) = ad 14 := (hA12 (14) (by decide)).trans f14_9
  have f15_12 : ad12 (15) = q1 := (hA12 (15) (by decide)).trans f15_9
  have f16_12 : ad12 (16) = q4 := (hA12 (16) (by decide)).trans f16_9
  have f22_12 : ad12 (22) = q8 := (hA12 (22) (by decide)).trans f22_9
  have hC12 : ∀ k, k < 15 → ad12 k = ad k := fun k hk => (hA12 k (by omega)).trans (hC9 k hk)
  have o14_12 : E12 (14) = .inr (4, [.ref (q1), .int 0, .int 0]) := (hB12 (14) (by decide)).trans o14_10
  have o15_12 : E12 (15) = .inl (gA G 4, 8, .inr (.inr (.inr (.inr (va_up (va_up (fun _ => none) 0 (some (q4))) 1 (some (q8))))))) := (hB12 (15) (by decide)).trans o15_10
  have hD12 : ∀ k, k ∈ [0] → E12 k = E k := fun k hk => (by have h9 := hdl k hk; exact (hB12 k (by omega)).trans (hD10 k hk))
  show EV _ _ _ _ (14, 156) 29 _ [.ref q12, .int (nI 2), .ref (q1)] (AW (29) ad12 E12)
  refine e_dup (pc' := 30) dX4_init_29 rfl rfl ?_
  refine a_invN (pc' := 33) (m' := mX1_init) (d := d) (As := []) (n' := 34) (by rw [← hq12]; exact k_col (a := 28) (n := 29) (dn := [15, 14, 0]) (by decide) (by decide) (by decide) rfl rfl rfl rfl rfl rfl (by decide) S12 hN12) dX4_init_30 rfl rfl (Nat.le_of_ble_eq_true rfl) (fit_of (by omega) (by decide) (show 14 + 5 ≤ 49 from by decide) (show 156 + 59 ≤ 560 from by decide)) nl_X4_17 okX1_init rfl (fun ad13 E13 S13 hA13 hB13 => ?_)
  have f14_13 : ad13 (14) = ad 14 := (hA13 (14) (by decide)).trans f14_12
  have f15_13 : ad13 (15) = q1 := (hA13 (15) (by decide)).trans f15_12
  have f16_13 : ad13 (16) = q4 := (hA13 (16) (by decide)).trans f16_12
  have f22_13 : ad13 (22) = q8 := (hA13 (22) (by decide)).trans f22_12
  have f28_13 : ad13 (28) = q12 := (hA13 (28) (by decide)).trans hq12
  have hC13 : ∀ k, k < 15 → ad13 k = ad k := fun k hk => (hA13 k (by omega)).trans (hC12 k hk)
  have o14_13 : E13 (14) = .inr (4, [.ref (q1), .int 0, .int 0]) := (hB13 (14) (by decide)).trans o14_12
  have o15_13 : E13 (15) = .inl (gA G 4, 8, .inr (.inr (.inr (.inr (va_up (va_up (fun _ => none) 0 (some (q4))) 1 (some (q8))))))) := (hB13 (15) (by decide)).trans o15_12
  have hD13 : ∀ k, k ∈ [0] → E13 k = E k := fun k hk => (by have h9 := hdl k hk; exact (hB13 k (List.mem_cons_of_mem _ (List.mem_cons_of_mem _ hk))).trans (hD12 k hk))
  show EV _ _ _ _ (19, 215) 33 _ [.ref (q12), .int (nI 2), .ref (q1)] (AW (34) ad13 E13)
  refine a_ast (pc' := 34) (a := 15) (t := 4) (N := 8) (j := 2) (qk := 28) (ci := 1) S13 dX4_init_33 rfl (by decide) (by decide) f15_13 o15_13 (by decide) rfl (by decide) f28_13 ((S13 28 (by decide) (by decide)).1.trans (show cellM G ad13 ZM 28 (sh 28) = .inr (1, objF ad13 (Z0 28) [none, some 29, some 30, some 31, none, none, some 32, some 33, none, none]) from rfl)) rfl (by decide) (by decide) (fun E14 S14 hN14 hB14 => ?_)
  have o15_14 : E14 (15) = .inl (gA G 4, 8, .inr (.inr (.inr (.inr (va_up (va_up (va_up (fun _ => none) 0 (some (q4))) 1 (some (q8))) 2 (some (q12))))))) := hN14
  have o14_14 : E14 (14) = .inr (4, [.ref (q1), .int 0, .int 0]) := (hB14 (14) (by decide)).trans o14_13
  have hD14 : ∀ k, k ∈ [0] → E14 k = E k := fun k hk => (by have h9 := hdl k hk; exact (hB14 k (by omega)).trans (hD13 k hk))
  refine e_iincN (pc' := 37) (k := 1) (L' := [some (.ref (ad 14)), some (.int (nI 3))]) dX4_init_34 rfl rfl rfl (by decide) rfl ?_
  refine e_goto (tgt := 15) dX4_init_37 (by decide) ?_
  refine e_iload_n (pc' := 16) dX4_init_15 rfl rfl rfl ?_
  refine e_bipush (pc' := 18) (v := nI 8) dX4_init_16 rfl (by decide) ?_
  refine e_icmp_geN (pc' := 21) (tgt := 40) dX4_init_18 rfl (by decide) (by decide) (by decide) (fun h => absurd h (by decide)) (fun _ => ?_)
  refine e_aload_n (pc' := 22) dX4_init_21 rfl rfl rfl ?_
  refine a_get (pc' := 25) (a := 14) (ci := 4) (kf := 0) dX4_init_22 rfl (by decide) f14_13 o14_14 (by decide) (by decide) fl_X4_11 rfl ?_
  refine e_iload_n (pc' := 26) dX4_init_25 rfl rfl rfl ?_
  refine a_new (pc' := 29) (ci := 1) (fs := [.int 0, .null, .null, .null, .int 0, .int 0, .null, .null, .int 0, .int 0]) S14 dX4_init_26 rfl (by decide) cl_X4_9 inst_1 ini_1 zf_1 (show 19 + 1 ≤ 49 from by decide) (show 215 + 10 ≤ 560 from by decide) (fun q16 ad16 E16 S16 hA16 hq16 hB16 hN16 => ?_)
  have f14_16 : ad16 (14) = ad 14 := (hA16 (14) (by decide)).trans f14_13
  have f15_16 : ad16 (15) = q1 := (hA16 (15) (by decide)).trans f15_13
  have f16_16 : ad16 (16) = q4 := (hA16 (16) (by decide)).trans f16_13
  have f22_16 : ad16 (22) = q8 := (hA16 (22) (by decide)).trans f22_13
  have f28_16 : ad16 (28) = q12 := (hA16 (28) (by decide)).trans f28_13
  have hC16 : ∀ k, k < 15 → ad16 k = ad k := fun k hk => (hA16 k (by omega)).trans (hC13 k hk)
  have o14_16 : E16 (14) = .inr (4, [.ref (q1), .int 0, .int 0]) := (hB16 (14) (by decide)).trans o14_14
  have o15_16 : E16 (15) = .inl (gA G 4, 8, .inr (.inr (.inr (.inr (va_up (va_up (va_up (fun _ => none) 0 (some (q4))) 1 (some (q8))) 2 (some (q12))))))) := (hB16 (15) (by decide)).trans o15_14
  have hD16 : ∀ k, k ∈ [0] → E16 k = E k := fun k hk => (by have h9 := hdl k hk; exact (hB16 k (by omega)).trans (hD14 k hk))
  show EV _ _ _ _ (20, 225) 29 _ [.ref q16, .int (nI 3), .ref (q1)] (AW (35) ad16 E16)
  refine e_dup (pc' := 30) dX4_init_29 rfl rfl ?_
  refine a_invN (pc' := 33) (m' := mX1_init) (d := d) (As := []) (n' := 40) (by rw [← hq16]; exact k_col (a := 34) (n := 35) (dn := [15, 14, 0]) (by decide) (by decide) (by decide) rfl rfl rfl rfl rfl rfl (by decide) S16 hN16) dX4_init_30 rfl rfl (Nat.le_of_ble_eq_true rfl) (fit_of (by omega) (by decide) (show 20 + 5 ≤ 49 from by decide) (show 225 + 59 ≤ 560 from by decide)) nl_X4_17 okX1_init rfl (fun ad17 E17 S17 hA17 hB17 => ?_)
  have f14_17 : ad17 (14) = ad 14 := (hA17 (14) (by decide)).trans f14_16
  have f15_17 : ad17 (15) = q1 := (hA17 (15) (by decide)).trans f15_16
  have f16_17 : ad17 (16) = q4 := (hA17 (16) (by decide)).trans f16_16
  have f22_17 : ad17 (22) = q8 := (hA17 (22) (by decide)).trans f22_16
  have f28_17 : ad17 (28) = q12 := (hA17 (28) (by decide)).trans f28_16
  have f34_17 : ad17 (34) = q16 := (hA17 (34) (by decide)).trans hq16
  have hC17 : ∀ k, k < 15 → ad17 k = ad k := fun k hk => (hA17 k (by omega)).trans (hC16 k hk)
  have o14_17 : E17 (14) = .inr (4, [.ref (q1), .int 0, .int 0]) := (hB17 (14) (by decide)).trans o14_16
  have o15_17 : E17 (15) = .inl (gA G 4, 8, .inr (.inr (.inr (.inr (va_up (va_up (va_up (fun _ => none) 0 (some (q4))) 1 (some (q8))) 2 (some (q12))))))) := (hB17 (15) (by decide)).trans o15_16
  have hD17 : ∀ k, k ∈ [0] → E17 k = E k := fun k hk => (by have h9 := hdl k hk; exact (hB17 k (List.mem_cons_of_mem _ (List.mem_cons_of_mem _ hk))).trans (hD16 k hk))
  show EV _ _ _ _ (25, 284) 33 _ [.ref (q16), .int (nI 3), .ref (q1)] (AW (40) ad17 E17)
  refine a_ast (pc' := 34) (a := 15) (t := 4) (N := 8) (j := 3) (qk := 34) (ci := 1) S17 dX4_init_33 rfl (by decide) (by decide) f15_17 o15_17 (by decide) rfl (by decide) f34_17 ((S17 34 (by decide) (by decide)).1.trans (show cellM G ad17 ZM 34 (sh 34) = .inr (1, objF ad17 (Z0 34) [none, some 35, some 36, some 37, none, none, some 38, some 39, none, none]) from rfl)) rfl (by decide) (by decide) (fun E18 S18 hN18 hB18 => ?_)
  have o15_18 : E18 (15) = .inl (gA G 4, 8, .inr (.inr (.inr (.inr (va_up (va_up (va_up (va_up (fun _ => none) 0 (some (q4))) 1 (some (q8))) 2 (some (q12))) 3 (some (q16))))))) := hN18
  have o14_18 : E18 (14) = .inr (4, [.ref (q1), .int 0, .int 0]) := (hB18 (14) (by decide)).trans o14_17
  have hD18 : ∀ k, k ∈ [0] → E18 k = E k := fun k hk => (by have h9 := hdl k hk; exact (hB18 k (by omega)).trans (hD17 k hk))
  refine e_iincN (pc' := 37) (k := 1) (L' := [some (.ref (ad 14)), some (.int (nI 4))]) dX4_init_34 rfl rfl rfl (by decide) rfl ?_
  refine e_goto (tgt := 15) dX4_init_37 (by decide) ?_
  refine e_iload_n (pc' := 16) dX4_init_15 rfl rfl rfl ?_
  refine e_bipush (pc' := 18) (v := nI 8) dX4_init_16 rfl (by decide) ?_
  refine e_icmp_geN (pc' := 21) (tgt := 40) dX4_init_18 rfl (by decide) (by decide) (by decide) (fun h => absurd h (by decide)) (fun _ => ?_)
  refine e_aload_n (pc' := 22) dX4_init_21 rfl rfl rfl ?_
  refine a_get (pc' := 25) (a := 14) (ci := 4) (kf := 0) dX4_init_22 rfl (by decide) f14_17 o14_18 (by decide) (by decide) fl_X4_11 rfl ?_
  refine e_iload_n (pc' := 26) dX4_init_25 rfl rfl rfl ?_
  refine a_new (pc' := 29) (ci := 1) (fs := [.int 0, .null, .null, .null, .int 0, .int 0, .null, .null, .int 0, .int 0]) S18 dX4_init_26 rfl (by decide) cl_X4_9 inst_1 ini_1 zf_1 (show 25 + 1 ≤ 49 from by decide) (show 284 + 10 ≤ 560 from by decide) (fun q20 ad20 E20 S20 hA20 hq20 hB20 hN20 => ?_)
  have f14_20 : ad20 (14) = ad 14 := (hA20 (14) (by decide)).trans f14_17
  have f15_20 : ad20 (15) = q1 := (hA20 (15) (by decide)).trans f15_17
  have f16_20 : ad20 (16) = q4 := (hA20 (16) (by decide)).trans f16_17
  have f22_20 : ad20 (22) = q8 := (hA20 (22) (by decide)).trans f22_17
  have f28_20 : ad20 (28) = q12 := (hA20 (28) (by decide)).trans f28_17
  have f34_20 : ad20 (34) = q16 := (hA20 (34) (by decide)).trans f34_17
  have hC20 : ∀ k, k < 15 → ad20 k = ad k := fun k hk => (hA20 k (by omega)).trans (hC17 k hk)
  have o14_20 : E20 (14) = .inr (4, [.ref (q1), .int 0, .int 0]) := (hB20 (14) (by decide)).trans o14_18
  have o15_20 : E20 (15) = .inl (gA G 4, 8, .inr (.inr (.inr (.inr (va_up (va_up (va_up (va_up (fun _ => none) 0 (some (q4))) 1 (some (q8))) 2 (some (q12))) 3 (some (q16))))))) := (hB20 (15) (by decide)).trans o15_18
  have hD20 : ∀ k, k ∈ [0] → E20 k = E k := fun k hk => (by have h9 := hdl k hk; exact (hB20 k (by omega)).trans (hD18 k hk))
  show EV _ _ _ _ (26, 294) 29 _ [.ref q20, .int (nI 4), .ref (q1)] (AW (41) ad20 E20)
  refine e_dup (pc' := 30) dX4_init_29 rfl rfl ?_
  refine a_invN (pc' := 33) (m' := mX1_init) (d := d) (As := []) (n' := 46) (by rw [← hq20]; exact k_col (a := 40) (n := 41) (dn := [15, 14, 0]) (by decide) (by decide) (by decide) rfl rfl rfl rfl rfl rfl (by decide) S20 hN20) dX4_init_30 rfl rfl (Nat.le_of_ble_eq_true rfl) (fit_of (by omega) (by decide) (show 26 + 5 ≤ 49 from by decide) (show 294 + 59 ≤ 560 from by decide)) nl_X4_17 okX1_init rfl (fun ad21 E21 S21 hA21 hB21 => ?_)
  have f14_21 : ad21 (14) = ad 14 := (hA21 (14) (by decide)).trans f14_20
  have f15_21 : ad21 (15) = q1 := (hA21 (15) (by decide)).trans f15_20
  have f16_21 : ad21 (16) = q4 := (hA21 (16) (by decide)).trans f16_20
  have f22_21 : ad21 (22) = q8 := (hA21 (22) (by decide)).trans f22_20
  have f28_21 : ad21 (28) = q12 := (hA21 (28) (by decide)).trans f28_20
  have f34_21 : ad21 (34) = q16 := (hA21 (34) (by decide)).trans f34_20
  have f40_21 : ad21 (40) = q20 := (hA21 (40) (by decide)).trans hq20
  have hC21 : ∀ k, k < 15 → ad21 k = ad k := fun k hk => (hA21 k (by omega)).trans (hC20 k hk)
  have o14_21 : E21 (14) = .inr (4, [.ref (q1), .int 0, .int 0]) := (hB21 (14) (by decide)).trans o14_20
  have o15_21 : E21 (15) = .inl (gA G 4, 8, .inr (.inr (.inr (.inr (va_up (va_up (va_up (va_up (fun _ => none) 0 (some (q4))) 1 (some (q8))) 2 (some (q12))) 3 (some (q16))))))) := (hB21 (15) (by decide)).trans o15_20
  have hD21 : ∀ k, k ∈ [0] → E21 k = E k := fun k hk => (by have h9 := hdl k hk; exact (hB21 k (List.mem_cons_of_mem _ (List.mem_cons_of_mem _ hk))).trans (hD20 k hk))
  show EV _ _ _ _ (31, 353) 33 _ [.ref (q20), .int (nI 4), .ref (q1)] (AW (46) ad21 E21)
  refine a_ast (pc' := 34) (a := 15) (t := 4) (N := 8) (j := 4) (qk := 40) (ci := 1) S21 dX4_init_33 rfl (by decide) (by decide) f15_21 o15_21 (by decide) rfl (by decide) f40_21 ((S21 40 (by decide) (by decide)).1.trans (show cellM G ad21 ZM 40 (sh 40) = .inr (1, objF ad21 (Z0 40) [none, some 41, some 42, some 43, none, none, some 44, some 45, none, none]) from rfl)) rfl (by decide) (by decide) (fun E22 S22 hN22 hB22 => ?_)
  have o15_22 : E22 (15) = .inl (gA G 4, 8, .inr (.inr (.inr (.inr (va_up (va_up (va_up (va_up (va_up (fun _ => none) 0 (some (q4))) 1 (some (q8))) 2 (some (q12))) 3 (some (q16))) 4 (some (q20))))))) := hN22
  have o14_22 : E22 (14) = .inr (4, [.ref (q1), .int 0, .int 0]) := (hB22 (14) (by decide)).trans o14_21
  have hD22 : ∀ k, k ∈ [0] → E22 k = E k := fun k hk => (by have h9 := hdl k hk; exact (hB22 k (by omega)).trans (hD21 k hk))
  refine e_iincN (pc' := 37) (k := 1) (L' := [some (.ref (ad 14)), some (.int (nI 5))]) dX4_init_34 rfl rfl rfl (by decide) rfl ?_
  refine e_goto (tgt := 15) dX4_init_37 (by decide) ?_
  refine e_iload_n (pc' := 16) dX4_init_15 rfl rfl rfl ?_
  refine e_bipush (pc' := 18) (v := nI 8) dX4_init_16 rfl (by decide) ?_
  refine e_icmp_geN (pc' := 21) (tgt := 40) dX4_init_18 rfl (by decide) (by decide) (by decide) (fun h => absurd h (by decide)) (fun _ => ?_)
  refine e_aload_n (pc' := 22) dX4_init_21 rfl rfl rfl ?_
  refine a_get (pc' := 25) (a := 14) (ci := 4) (kf := 0) dX4_init_22 rfl (by decide) f14_21 o14_22 (by decide) (by decide) fl_X4_11 rfl ?_
  refine e_iload_n (pc' := 26) dX4_init_25 rfl rfl rfl ?_
  refine a_new (pc' := 29) (ci := 1) (fs := [.int 0, .null, .null, .null, .int 0, .int 0, .null, .null, .int 0, .int 0]) S22 dX4_init_26 rfl (by decide) cl_X4_9 inst_1 ini_1 zf_1 (show 31 + 1 ≤ 49 from by decide) (show 353 + 10 ≤ 560 from by decide) (fun q24 ad24 E24 S24 hA24 hq24 hB24 hN24 => ?_)
  have f14_24 : ad24 (14) = ad 14 := (hA24 (14) (by decide)).trans f14_21
  have f15_24 : ad24 (15) = q1 := (hA24 (15) (by decide)).trans f15_21
  have f16_24 : ad24 (16) = q4 := (hA24 (16) (by decide)).trans f16_21
  have f22_24 : ad24 (22) = q8 := (hA24 (22) (by decide)).trans f22_21
  have f28_24 : ad24 (28) = q12 := (hA24 (28) (by decide)).trans f28_21
  have f34_24 : ad24 (34) = q16 := (hA24 (34) (by decide)).trans f34_21
  have f40_24 : ad24 (40) = q20 := (hA24 (40) (by decide)).trans f40_21
  have hC24 : ∀ k, k < 15 → ad24 k = ad k := fun k hk => (hA24 k (by omega)).trans (hC21 k hk)
  have o14_24 : E24 (14) = .inr (4, [.ref (q1), .int 0, .int 0]) := (hB24 (14) (by decide)).trans o14_22
  have o15_24 : E24 (15) = .inl (gA G 4, 8, .inr (.inr (.inr (.inr (va_up (va_up (va_up (va_up (va_up (fun _ => none) 0 (some (q4))) 1 (some (q8))) 2 (some (q12))) 3 (some (q16))) 4 (some (q20))))))) := (hB24 (15) (by decide)).trans o15_22
  have hD24 : ∀ k, k ∈ [0] → E24 k = E k := fun k hk => (by have h9 := hdl k hk; exact (hB24 k (by omega)).trans (hD22 k hk))
  show EV _ _ _ _ (32, 363) 29 _ [.ref q24, .int (nI 5), .ref (q1)] (AW (47) ad24 E24)
  refine e_dup (pc' := 30) dX4_init_29 rfl rfl ?_
  refine a_invN (pc' := 33) (m' := mX1_init) (d := d) (As := []) (n' := 52) (by rw [← hq24]; exact k_col (a := 46) (n := 47) (dn := [15, 14, 0]) (by decide) (by decide) (by decide) rfl rfl rfl rfl rfl rfl (by decide) S24 hN24) dX4_init_30 rfl rfl (Nat.le_of_ble_eq_true rfl) (fit_of (by omega) (by decide) (show 32 + 5 ≤ 49 from by decide) (show 363 + 59 ≤ 560 from by decide)) nl_X4_17 okX1_init rfl (fun ad25 E25 S25 hA25 hB25 => ?_)
  have f14_25 : ad25 (14) = ad 14 := (hA25 (14) (by decide)).trans f14_24
  have f15_25 : ad25 (15) = q1 := (hA25 (15) (by decide)).trans f15_24
  have f16_25 : ad25 (16) = q4 := (hA25 (16) (by decide)).trans f16_24
  have f22_25 : ad25 (22) = q8 := (hA25 (22) (by decide)).trans f22_24
  have f28_25 : ad25 (28) = q12 := (hA25 (28) (by decide)).trans f28_24
  have f34_25 : ad25 (34) = q16 := (hA25 (34) (by decide)).trans f34_24
  have f40_25 : ad25 (40) = q20 := (hA25 (40) (by decide)).trans f40_24
  have f46_25 : ad25 (46) = q24 := (hA25 (46) (by decide)).trans hq24
  have hC25 : ∀ k, k < 15 → ad25 k = ad k := fun k hk => (hA25 k (by omega)).trans (hC24 k hk)
  have o14_25 : E25 (14) = .inr (4, [.ref (q1), .int 0, .int 0]) := (hB25 (14) (by decide)).trans o14_24
  have o15_25 : E25 (15) = .inl (gA G 4, 8, .inr (.inr (.inr (.inr (va_up (va_up (va_up (va_up (va_up (fun _ => none) 0 (some (q4))) 1 (some (q8))) 2 (some (q12))) 3 (some (q16))) 4 (some (q20))))))) := (hB25 (15) (by decide)).trans o15_24
  have hD25 : ∀ k, k ∈ [0] → E25 k = E k := fun k hk => (by have h9 := hdl k hk; exact (hB25 k (List.mem_cons_of_mem _ (List.mem_cons_of_mem _ hk))).trans (hD24 k hk))
  show EV _ _ _ _ (37, 422) 33 _ [.ref (q24), .int (nI 5), .ref (q1)] (AW (52) ad25 E25)
  refine a_ast (pc' := 34) (a := 15) (t := 4) (N := 8) (j := 5) (qk := 46) (ci := 1) S25 dX4_init_33 rfl (by decide) (by decide) f15_25 o15_25 (by decide) rfl (by decide) f46_25 ((S25 46 (by decide) (by decide)).1.trans (show cellM G ad25 ZM 46 (sh 46) = .inr (1, objF ad25 (Z0 46) [none, some 47, some 48, some 49, none, none, some 50, some 51, none, none]) from rfl)) rfl (by decide) (by decide) (fun E26 S26 hN26 hB26 => ?_)
  have o15_26 : E26 (15) = .inl (gA G 4, 8, .inr (.inr (.inr (.inr (va_up (va_up (va_up (va_up (va_up (va_up (fun _ => none) 0 (some (q4))) 1 (some (q8))) 2 (some (q12))) 3 (some (q16))) 4 (some (q20))) 5 (some (q24))))))) := hN26
  have o14_26 : E26 (14) = .inr (4, [.ref (q1), .int 0, .int 0]) := (hB26 (14) (by decide)).trans o14_25
  have hD26 : ∀ k, k ∈ [0] → E26 k = E k := fun k hk => (by have h9 := hdl k hk; exact (hB26 k (by omega)).trans (hD25 k hk))
  refine e_iincN (pc' := 37) (k := 1) (L' := [some (.ref (ad 14)), some (.int (nI 6))]) dX4_init_34 rfl rfl rfl (by decide) rfl ?_
  refine e_goto (tgt := 15) dX4_init_37 (by decide) ?_
  refine e_iload_n (pc' := 16) dX4_init_15 rfl rfl rfl ?_
  refine e_bipush (pc' := 18) (v := nI 8) dX4_init_16 rfl (by decide) ?_
  refine e_icmp_geN (pc' := 21) (tgt := 40) dX4_init_18 rfl (by decide) (by decide) (by decide) (fun h => absurd h (by decide)) (fun _ => ?_)
  refine e_aload_n (pc' := 22) dX4_init_21 rfl rfl rfl ?_
  refine a_get (pc' := 25) (a := 14) (ci := 4) (kf := 0) dX4_init_22 rfl (by decide) f14_25 o14_26 (by decide) (by decide) fl_X4_11 rfl ?_
  refine e_iload_n (pc' := 26) dX4_init_25 rfl rfl rfl ?_
  refine a_new (pc' := 29) (ci := 1) (fs := [.int 0, .null, .null, .null, .int 0, .int 0, .null, .null, .int 0, .int 0]) S26 dX4_init_26 rfl (by decide) cl_X4_9 inst_1 ini_1 zf_1 (show 37 + 1 ≤ 49 from by decide) (show 422 + 10 ≤ 560 from by decide) (fun q28 ad28 E28 S28 hA28 hq28 hB28 hN28 => ?_)
  have f14_28 : ad28 (14) = ad 14 := (hA28 (14) (by decide)).trans f14_25
  have f15_28 : ad28 (15) = q1 := (hA28 (15) (by decide)).trans f15_25
  have f16_28 : ad28 (16) = q4 := (hA28 (16) (by decide)).trans f16_25
  have f22_28 : ad28 (22) = q8 := (hA28 (22) (by decide)).trans f22_25
  have f28_28 : ad28 (28) = q12 := (hA28 (28) (by decide)).trans f28_25
  have f34_28 : ad28 (34) = q16 := (hA28 (34) (by decide)).trans f34_25
  have f40_28 : ad28 (40) = q20 := (hA28 (40) (by decide)).trans f40_25
  have f46_28 : ad28 (46) = q24 := (hA28 (46) (by decide)).trans f46_25
  have hC28 : ∀ k, k < 15 → ad28 k = ad k := fun k hk => (hA28 k (by omega)).trans (hC25 k hk)
  have o14_28 : E28 (14) = .inr (4, [.ref (q1), .int 0, .int 0]) := (hB28 (14) (by decide)).trans o14_26
  have o15_28 : E28 (15) = .inl (gA G 4, 8, .inr (.inr (.inr (.inr (va_up (va_up (va_up (va_up (va_up (va_up (fun _ => none) 0 (some (q4))) 1 (some (q8))) 2 (some (q12))) 3 (some (q16))) 4 (some (q20))) 5 (some (q24))))))) := (hB28 (15) (by decide)).trans o15_26
  have hD28 : ∀ k, k ∈ [0] → E28 k = E k := fun k hk => (by have h9 := hdl k hk; exact (hB28 k (by omega)).trans (hD26 k hk))
  show EV _ _ _ _ (38, 432) 29 _ [.ref q28, .int (nI 6), .ref (q1)] (AW (53) ad28 E28)
  refine e_dup (pc' := 30) dX4_init_29 rfl rfl ?_
  refine a_invN (pc' := 33) (m' := mX1_init) (d := d) (As := []) (n' := 58) (by rw [← hq28]; exact k_col (a := 52) (n := 53) (dn := [15, 14, 0]) (by decide) (by decide) (by decide) rfl rfl rfl rfl rfl rfl (by decide) S28 hN28) dX4_init_30 rfl rfl (Nat.le_of_ble_eq_true rfl) (fit_of (by omega) (by decide) (show 38 + 5 ≤ 49 from by decide) (show 432 + 59 ≤ 560 from by decide)) nl_X4_17 okX1_init rfl (fun ad29 E29 S29 hA29 hB29 => ?_)
  have f14_29 : ad29 (14) = ad 14 := (hA29 (14) (by decide)).trans f14_28
  have f15_29 : ad29 (15) = q1 := (hA29 (15) (by decide)).trans f15_28
  have f16_29 : ad29 (16) = q4 := (hA29 (16) (by decide)).trans f16_28
  have f22_29 : ad29 (22) = q8 := (hA29 (22) (by decide)).trans f22_28
  have f28_29 : ad29 (28) = q12 := (hA29 (28) (by decide)).trans f28_28
  have f34_29 : ad29 (34) = q16 := (hA29 (34) (by decide)).trans f34_28
  have f40_29 : ad29 (40) = q20 := (hA29 (40) (by decide)).trans f40_28
  have f46_29 : ad29 (46) = q24 := (hA29 (46) (by decide)).trans f46_28
  have f52_29 : ad29 (52) = q28 := (hA29 (52) (by decide)).trans hq28
  have hC29 : ∀ k, k < 15 → ad29 k = ad k := fun k hk => (hA29 k (by omega)).trans (hC28 k hk)
  have o14_29 : E29 (14) = .inr (4, [.ref (q1), .int 0, .int 0]) := (hB29 (14) (by decide)).trans o14_28
  have o15_29 : E29 (15) = .inl (gA G 4, 8, .inr (.inr (.inr (.inr (va_up (va_up (va_up (va_up (va_up (va_up (fun _ => none) 0 (some (q4))) 1 (some (q8))) 2 (some (q12))) 3 (some (q16))) 4 (some (q20))) 5 (some (q24))))))) := (hB29 (15) (by decide)).trans o15_28
  have hD29 : ∀ k, k ∈ [0] → E29 k = E k := fun k hk => (by have h9 := hdl k hk; exact (hB29 k (List.mem_cons_of_mem _ (List.mem_cons_of_mem _ hk))).trans (hD28 k hk))
  show EV _ _ _ _ (43, 491) 33 _ [.ref (q28), .int (nI 6), .ref (q1)] (AW (58) ad29 E29)
  refine a_ast (pc' := 34) (a := 15) (t := 4) (N := 8) (j := 6) (qk := 52) (ci := 1) S29 dX4_init_33 rfl (by decide) (by decide) f15_29 o15_29 (by decide) rfl (by decide) f52_29 ((S29 52 (by decide) (by decide)).1.trans (show cellM G ad29 ZM 52 (sh 52) = .inr (1, objF ad29 (Z0 52) [none, some 53, some 54, some 55, none, none, some 56, some 57, none, none]) from rfl)) rfl (by decide) (by decide) (fun E30 S30 hN30 hB30 => ?_)
  have o15_30 : E30 (15) = .inl (gA G 4, 8, .inr (.inr (.inr (.inr (va_up (va_up (va_up (va_up (va_up (va_up (va_up (fun _ => none) 0 (some (q4))) 1 (some (q8))) 2 (some (q12))) 3 (some (q16))) 4 (some (q20))) 5 (some (q24))) 6 (some (q28))))))) := hN30
  have o14_30 : E30 (14) = .inr (4, [.ref (q1), .int 0, .int 0]) := (hB30 (14) (by decide)).trans o14_29
  have hD30 : ∀ k, k ∈ [0] → E30 k = E k := fun k hk => (by have h9 := hdl k hk; exact (hB30 k (by omega)).trans (hD29 k hk))
  refine e_iincN (pc' := 37) (k := 1) (L' := [some (.ref (ad 14)), some (.int (nI 7))]) dX4_init_34 rfl rfl rfl (by decide) rfl ?_
  refine e_goto (tgt := 15) dX4_init_37 (by decide) ?_
  refine e_iload_n (pc' := 16) dX4_init_15 rfl rfl rfl ?_
  refine e_bipush (pc' := 18) (v := nI 8) dX4_init_16 rfl (by decide) ?_
  refine e_icmp_geN (pc' := 21) (tgt := 40) dX4_init_18 rfl (by decide) (by decide) (by decide) (fun h => absurd h (by decide)) (fun _ => ?_)
  refine e_aload_n (pc' := 22) dX4_init_21 rfl rfl rfl ?_
  refine a_get (pc' := 25) (a := 14) (ci := 4) (kf := 0) dX4_init_22 rfl (by decide) f14_29 o14_30 (by decide) (by decide) fl_X4_11 rfl ?_
  refine e_iload_n (pc' := 26) dX4_init_25 rfl rfl rfl ?_
  refine a_new (pc' := 29) (ci := 1) (fs := [.int 0, .null, .null, .null, .int 0, .int 0, .null, .null, .int 0, .int 0]) S30 dX4_init_26 rfl (by decide) cl_X4_9 inst_1 ini_1 zf_1 (show 43 + 1 ≤ 49 from by decide) (show 491 + 10 ≤ 560 from by decide) (fun q32 ad32 E32 S32 hA32 hq32 hB32 hN32 => ?_)
  have f14_32 : ad32 (14) = ad 14 := (hA32 (14) (by decide)).trans f14_29
  have f15_32 : ad32 (15) = q1 := (hA32 (15) (by decide)).trans f15_29
  have f16_32 : ad32 (16) = q4 := (hA32 (16) (by decide)).trans f16_29
  have f22_32 : ad32 (22) = q8 := (hA32 (22) (by decide)).trans f22_29
  have f28_32 : ad32 (28) = q12 := (hA32 (28) (by decide)).trans f28_29
  have f34_32 : ad32 (34) = q16 := (hA32 (34) (by decide)).trans f34_29
  have f40_32 : ad32 (40) = q20 := (hA32 (40) (by decide)).trans f40_29
  have f46_32 : ad32 (46) = q24 := (hA32 (46) (by decide)).trans f46_29
  have f52_32 : ad32 (52) = q28 := (hA32 (52) (by decide)).trans f52_29
  have hC32 : ∀ k, k < 15 → ad32 k = ad k := fun k hk => (hA32 k (by omega)).trans (hC29 k hk)
  have o14_32 : E32 (14) = .inr (4, [.ref (q1), .int 0, .int 0]) := (hB32 (14) (by decide)).trans o14_30
  have o15_32 : E32 (15) = .inl (gA G 4, 8, .inr (.inr (.inr (.inr (va_up (va_up (va_up (va_up (va_up (va_up (va_up (fun _ => none) 0 (some (q4))) 1 (some (q8))) 2 (some (q12))) 3 (some (q16))) 4 (some (q20))) 5 (some (q24))) 6 (some (q28))))))) := (hB32 (15) (by decide)).trans o15_30
  have hD32 : ∀ k, k ∈ [0] → E32 k = E k := fun k hk => (by have h9 := hdl k hk; exact (hB32 k (by omega)).trans (hD30 k hk))
  show EV _ _ _ _ (44, 501) 29 _ [.ref q32, .int (nI 7), .ref (q1)] (AW (59) ad32 E32)
  refine e_dup (pc' := 30) dX4_init_29 rfl rfl ?_
  refine a_invN (pc' := 33) (m' := mX1_init) (d := d) (As := []) (n' := 64) (by rw [← hq32]; exact k_col (a := 58) (n := 59) (dn := [15, 14, 0]) (by decide) (by decide) (by decide) rfl rfl rfl rfl rfl rfl (by decide) S32 hN32) dX4_init_30 rfl rfl (Nat.le_of_ble_eq_true rfl) (fit_of (by omega) (by decide) (show 44 + 5 ≤ 49 from by decide) (show 501 + 59 ≤ 560 from by decide)) nl_X4_17 okX1_init rfl (fun ad33 E33 S33 hA33 hB33 => ?_)
  have f14_33 : ad33 (14) = ad 14 := (hA33 (14) (by decide)).trans f14_32
  have f15_33 : ad33 (15) = q1 := (hA33 (15) (by decide)).trans f15_32
  have f16_33 : ad33 (16) = q4 := (hA33 (16) (by decide)).trans f16_32
  have f22_33 : ad33 (22) = q8 := (hA33 (22) (by decide)).trans f22_32
  have f28_33 : ad33 (28) = q12 := (hA33 (28) (by decide)).trans f28_32
  have f34_33 : ad33 (34) = q16 := (hA33 (34) (by decide)).trans f34_32
  have f40_33 : ad33 (40) = q20 := (hA33 (40) (by decide)).trans f40_32
  have f46_33 : ad33 (46) = q24 := (hA33 (46) (by decide)).trans f46_32
  have f52_33 : ad33 (52) = q28 := (hA33 (52) (by decide)).trans f52_32
  have f58_33 : ad33 (58) = q32 := (hA33 (58) (by decide)).trans hq32
  have hC33 : ∀ k, k < 15 → ad33 k = ad k := fun k hk => (hA33 k (by omega)).trans (hC32 k hk)
  have o14_33 : E33 (14) = .inr (4, [.ref (q1), .int 0, .int 0]) := (hB33 (14) (by decide)).trans o14_32
  have o15_33 : E33 (15) = .inl (gA G 4, 8, .inr (.inr (.inr (.inr (va_up (va_up (va_up (va_up (va_up (va_up (va_up (fun _ => none) 0 (some (q4))) 1 (some (q8))) 2 (some (q12))) 3 (some (q16))) 4 (some (q20))) 5 (some (q24))) 6 (some (q28))))))) := (hB33 (15) (by decide)).trans o15_32
  have hD33 : ∀ k, k ∈ [0] → E33 k = E k := fun k hk => (by have h9 := hdl k hk; exact (hB33 k (List.mem_cons_of_mem _ (List.mem_cons_of_mem _ hk))).trans (hD32 k hk))
  show EV _ _ _ _ (49, 560) 33 _ [.ref (q32), .int (nI 7), .ref (q1)] (AW (64) ad33 E33)
  refine a_ast (pc' := 34) (a := 15) (t := 4) (N := 8) (j := 7) (qk := 58) (ci := 1) S33 dX4_init_33 rfl (by decide) (by decide) f15_33 o15_33 (by decide) rfl (by decide) f58_33 ((S33 58 (by decide) (by decide)).1.trans (show cellM G ad33 ZM 58 (sh 58) = .inr (1, objF ad33 (Z0 58) [none, some 59, some 60, some 61, none, none, some 62, some 63, none, none]) from rfl)) rfl (by decide) (by decide) (fun E34 S34 hN34 hB34 => ?_)
  have o15_34 : E34 (15) = .inl (gA G 4, 8, .inr (.inr (.inr (.inr (va_up (va_up (va_up (va_up (va_up (va_up (va_up (va_up (fun _ => none) 0 (some (q4))) 1 (some (q8))) 2 (some (q12))) 3 (some (q16))) 4 (some (q20))) 5 (some (q24))) 6 (some (q28))) 7 (some (q32))))))) := hN34
  have o14_34 : E34 (14) = .inr (4, [.ref (q1), .int 0, .int 0]) := (hB34 (14) (by decide)).trans o14_33
  have hD34 : ∀ k, k ∈ [0] → E34 k = E k := fun k hk => (by have h9 := hdl k hk; exact (hB34 k (by omega)).trans (hD33 k hk))
  refine e_iincN (pc' := 37) (k := 1) (L' := [some (.ref (ad 14)), some (.int (nI 8))]) dX4_init_34 rfl rfl rfl (by decide) rfl ?_
  refine e_goto (tgt := 15) dX4_init_37 (by decide) ?_
  refine e_iload_n (pc' := 16) dX4_init_15 rfl rfl rfl ?_
  refine e_bipush (pc' := 18) (v := nI 8) dX4_init_16 rfl (by decide) ?_
  refine e_icmp_geN (pc' := 21) (tgt := 40) dX4_init_18 rfl (by decide) (by decide) (by decide) (fun _ => ?_) (fun h => absurd h (by decide))
  exact e_vret dX4_init_40 rfl ((by have F1 := S34.fin ((o15_34).trans (by show Sum.inl (gA G 4, 8, Sum.inr (Sum.inr (Sum.inr (Sum.inr (va_up (va_up (va_up (va_up (va_up (va_up (va_up (va_up (fun _ => none) 0 (some (q4))) 1 (some (q8))) 2 (some (q12))) 3 (some (q16))) 4 (some (q20))) 5 (some (q24))) 6 (some (q28))) 7 (some (q32))))))) = Sum.inl (gA G 4, (8, Sum.inr (Sum.inr (Sum.inr (Sum.inr (refF ad33 [some 16, some 22, some 28, some 34, some 40, some 46, some 52, some 58])))))); rw [show (va_up (va_up (va_up (va_up (va_up (va_up (va_up (va_up (fun _ => none) 0 (some (q4))) 1 (some (q8))) 2 (some (q12))) 3 (some (q16))) 4 (some (q20))) 5 (some (q24))) 6 (some (q28))) 7 (some (q32))) = refF ad33 [some 16, some 22, some 28, some 34, some 40, some 46, some 52, some 58] from funext (fun i => by match i with | 0 => exact congrArg some (f16_33).symm | 1 => exact congrArg some (f22_33).symm | 2 => exact congrArg some (f28_33).symm | 3 => exact congrArg some (f34_33).symm | 4 => exact congrArg some (f40_33).symm | 5 => exact congrArg some (f46_33).symm | 6 => exact congrArg some (f52_33).symm | 7 => exact congrArg some (f58_33).symm | k + 8 => simp [va_up, refF])])) (rall (by rw [show (sh 15).2.2 = [some 16, some 22, some 28, some 34, some 40, some 46, some 52, some 58] from rfl]; decide)); have F2 := F1.fin ((o14_34).trans (by rw [(show sh 14 = (4, 3, [some 15, none, none]) from rfl), cellM_obj (by decide)]; show Sum.inr (4, [.ref (q1), .int 0, .int 0]) = Sum.inr (4, objF ad33 (Z0 (14)) [some 15, none, none]); rw [← f15_33]; rfl)) (rall (by rw [(show sh 14 = (4, 3, [some 15, none, none]) from rfl)]; decide)); exact ⟨rfl, _, _, rfl, F2, hC33, hD34⟩)) (by decide) (by decide)
theorem k_txt (hS : ST G (77) ad E (76 :: [0])) (hE : E (76) = .inr (7, [.null, .int 0, .null, .int 0, .int 0])) : CTR G (d + 1) mX7_init (17, 135) [.ref (ad 76)] (77) (94) ad E [0] := by
  refine EVM_of rfl (by decide) rfl (Nat.le_of_ble_eq_true rfl) ?_
  have hdl : ∀ k, k ∈ [0] → k < 76 := by decide
  have hC0 : ∀ k, k < 77 → ad k = ad k := fun _ _ => rfl
  have hD0 : ∀ k, k ∈ [0] → E k = E k := fun _ _ => rfl
  refine e_aload_n (pc' := 1) dX7_init_0 rfl rfl rfl ?_
  refine e_objInit (pc' := 4) dX7_init_1 rfl ml_X7_3 oi_in oi_co (Nat.le_of_ble_eq_true rfl) (by simp [rmK, Value.category] <;> omega) ?_
  refine e_aload_n (pc' := 5) dX7_init_4 rfl rfl rfl ?_
  refine e_bipush (pc' := 7) (v := nI 60) dX7_init_5 rfl (by decide) ?_
  refine a_newN (pc' := 9) (t := 1) (N := 60) (ty := .char) (a0 := (60, .inl (fun _ => 0))) hS (by decide) dX7_init_7 rfl ar_char rfl rfl (fun _ _ h => h) (fun _ => rfl) rfl (by decide) (by decide) (fun _ => by rw [(show sh 77 = (101, 60, []) from rfl)]; show _ = Sum.inl (gA G 1, (60, Sum.inl (Z0 (77)))); rw [Z0_n (by decide) (by decide)]) (by rw [(show sh 77 = (101, 60, []) from rfl)]) (show 0 + 1 ≤ 17 from by decide) (show 0 + 60 ≤ 135 from by decide) (fun q1 ad1 E1 S1 hA1 hq1 hB1 => ?_)
  have f76_1 : ad1 (76) = ad 76 := (hA1 (76) (by decide)).trans (rfl : ad (76) = ad 76)
  have hC1 : ∀ k, k < 77 → ad1 k = ad k := fun k hk => (hA1 k (by omega)).trans (hC0 k hk)
  have o76_1 : E1 (76) = .inr (7, [.null, .int 0, .null, .int 0, .int 0]) := (hB1 (76) (by decide)).trans hE
  have hD1 : ∀ k, k ∈ [0] → E1 k = E k := fun k hk => (by have h9 := hdl k hk; exact (hB1 k (by omega)).trans (hD0 k hk))
  show EV _ _ _ _ (1, 60) 9 _ [.ref q1, .ref (ad 76)] (AW (78) ad1 E1)
  refine a_putF (pc' := 12) (a := 76) (ci := 7) (kf := 0) S1 dX7_init_9 rfl (by decide) (by decide) f76_1 o76_1 (by decide) (by decide) fl_X7_9 rfl rfl rfl (cls_ty (by decide) 0 (by decide)) rfl rfl (Nat.le_of_ble_eq_true rfl) (fun E2 S2 hN2 hB2 => ?_)
  have o76_2 : E2 (76) = .inr (7, [.ref (q1), .int 0, .null, .int 0, .int 0]) := hN2
  have hD2 : ∀ k, k ∈ [0] → E2 k = E k := fun k hk => (by have h9 := hdl k hk; exact (hB2 k (by omega)).trans (hD1 k hk))
  refine e_aload_n (pc' := 13) dX7_init_12 rfl rfl rfl ?_
  refine e_bipush (pc' := 15) (v := nI 15) dX7_init_13 rfl (by decide) ?_
  refine a_newQ (pc' := 18) (t := 5) (N := 15) S2 dX7_init_15 rfl cl_X7_15 AO_2 rfl rfl (by decide) (by decide) (show 1 + 1 ≤ 17 from by decide) (show 60 + 15 ≤ 135 from by decide) (fun q3 ad3 E3 S3 hA3 hq3 hB3 hN3 => ?_)
  have f76_3 : ad3 (76) = ad 76 := (hA3 (76) (by decide)).trans f76_1
  have f77_3 : ad3 (77) = q1 := (hA3 (77) (by decide)).trans hq1
  have hC3 : ∀ k, k < 77 → ad3 k = ad k := fun k hk => (hA3 k (by omega)).trans (hC1 k hk)
  have o76_3 : E3 (76) = .inr (7, [.ref (q1), .int 0, .null, .int 0, .int 0]) := (hB3 (76) (by decide)).trans o76_2
  have hD3 : ∀ k, k ∈ [0] → E3 k = E k := fun k hk => (by have h9 := hdl k hk; exact (hB3 k (by omega)).trans (hD2 k hk))
  show EV _ _ _ _ (2, 75) 18 _ [.ref q3, .ref (ad 76)] (AW (79) ad3 E3)
  refine a_putF (pc' := 21) (a := 76) (ci := 7) (kf := 2) S3 dX7_init_18 rfl (by decide) (by decide) f76_3 o76_3 (by decide) (by decide) fl_X7_17 rfl rfl rfl (cls_ty (by decide) 2 (by decide)) rfl rfl (Nat.le_of_ble_eq_true rfl) (fun E4 S4 hN4 hB4 => ?_)
  have o76_4 : E4 (76) = .inr (7, [.ref (q1), .int 0, .ref (q3), .int 0, .int 0]) := hN4
  have o78_4 : E4 (78) = .inl (gA G 5, 15, .inr (.inr (.inr (.inr (fun _ => none))))) := (hB4 (78) (by decide)).trans hN3
  have hD4 : ∀ k, k ∈ [0] → E4 k = E k := fun k hk => (by have h9 := hdl k hk; exact (hB4 k (by omega)).trans (hD3 k hk))
  refine e_iconst (pc' := 22) (v := nI 0) dX7_init_21 rfl (by decide) ?_
  refine e_istore_n (pc' := 23) (L' := [some (.ref (ad 76)), some (.int (nI 0))]) dX7_init_22 rfl rfl (by decide) rfl ?_
  refine e_iload_n (pc' := 24) dX7_init_23 rfl rfl rfl ?_
  refine e_bipush (pc' := 26) (v := nI 15) dX7_init_24 rfl (by decide) ?_
  refine e_icmp_geN (pc' := 29) (tgt := 48) dX7_init_26 rfl (by decide) (by decide) (by decide) (fun h => absurd h (by decide)) (fun _ => ?_)
  refine e_aload_n (pc' := 30) dX7_init_29 rfl rfl rfl ?_
  refine a_get (pc' := 33) (a := 76) (ci := 7) (kf := 2) dX7_init_30 rfl (by decide) f76_3 o76_4 (by decide) (by decide) fl_X7_17 rfl ?_
  refine e_iload_n (pc' := 34) dX7_init_33 rfl rfl rfl ?_
  refine a_new (pc' := 37) (ci := 2) (fs := [.int 0, .int 0, .int 0, .int 0]) S4 dX7_init_34 rfl (by decide) cl_X7_15 inst_2 ini_2 zf_2 (show 2 + 1 ≤ 17 from by decide) (show 75 + 4 ≤ 135 from by decide) (fun q6 ad6 E6 S6 hA6 hq6 hB6 hN6 => ?_)
  have f76_6 : ad6 (76) = ad 76 := (hA6 (76) (by decide)).trans f76_3
  have f77_6 : ad6 (77) = q1 := (hA6 (77) (by decide)).trans f77_3
  have f78_6 : ad6 (78) = q3 := (hA6 (78) (by decide)).trans hq3
  have hC6 : ∀ k, k < 77 → ad6 k = ad k := fun k hk => (hA6 k (by omega)).trans (hC3 k hk)
  have o76_6 : E6 (76) = .inr (7, [.ref (q1), .int 0, .ref (q3), .int 0, .int 0]) := (hB6 (76) (by decide)).trans o76_4
  have o78_6 : E6 (78) = .inl (gA G 5, 15, .inr (.inr (.inr (.inr (fun _ => none))))) := (hB6 (78) (by decide)).trans o78_4
  have hD6 : ∀ k, k ∈ [0] → E6 k = E k := fun k hk => (by have h9 := hdl k hk; exact (hB6 k (by omega)).trans (hD4 k hk))
  show EV _ _ _ _ (3, 79) 37 _ [.ref q6, .int (nI 0), .ref (q3)] (AW (80) ad6 E6)
  refine e_dup (pc' := 38) dX7_init_37 rfl rfl ?_
  refine a_invN (pc' := 41) (m' := mX2_init) (d := d) (As := []) (n' := 80) (by rw [← hq6]; exact k_cmd (a := 79) (n := 80) (dn := [78, 76, 0]) (by decide) (by decide) (by decide) rfl (by decide) S6 hN6) dX7_init_38 rfl rfl (Nat.le_of_ble_eq_true rfl) (fit_of (by omega) (by decide) (show 3 + 0 ≤ 17 from by decide) (show 79 + 0 ≤ 135 from by decide)) nl_X7_21 okX2_init rfl (fun ad7 E7 S7 hA7 hB7 => ?_)
  have f76_7 : ad7 (76) = ad 76 := (hA7 (76) (by decide)).trans f76_6
  have f77_7 : ad7 (77) = q1 := (hA7 (77) (by decide)).trans f77_6
  have f78_7 : ad7 (78) = q3 := (hA7 (78) (by decide)).trans f78_6
  have f79_7 : ad7 (79) = q6 := (hA7 (79) (by decide)).trans hq6
  have hC7 : ∀ k, k < 77 → ad7 k = ad k := fun k hk => (hA7 k (by omega)).trans (hC6 k hk)
  have o76_7 : E7 (76) = .inr (7, [.ref (q1), .int 0, .ref (q3), .int 0, .int 0]) := (hB7 (76) (by decide)).trans o76_6
  have o78_7 : E7 (78) = .inl (gA G 5, 15, .inr (.inr (.inr (.inr (fun _ => none))))) := (hB7 (78) (by decide)).trans o78_6
  have hD7 : ∀ k, k ∈ [0] → E7 k = E k := fun k hk => (by have h9 := hdl k hk; exact (hB7 k (List.mem_cons_of_mem _ (List.mem_cons_of_mem _ hk))).trans (hD6 k hk))
  show EV _ _ _ _ (3, 79) 41 _ [.ref (q6), .int (nI 0), .ref (q3)] (AW (80) ad7 E7)
  refine a_ast (pc' := 42) (a := 78) (t := 5) (N := 15) (j := 0) (qk := 79) (ci := 2) S7 dX7_init_41 rfl (by decide) (by decide) f78_7 o78_7 (by decide) rfl (by decide) f79_7 ((S7 79 (by decide) (by decide)).1.trans (show cellM G ad7 ZM 79 (sh 79) = .inr (2, objF ad7 (Z0 79) [none, none, none, none]) from rfl)) rfl (by decide) (by decide) (fun E8 S8 hN8 hB8 => ?_)
  have o78_8 : E8 (78) = .inl (gA G 5, 15, .inr (.inr (.inr (.inr (va_up (fun _ => none) 0 (some (q6))))))) := hN8
  have o76_8 : E8 (76) = .inr (7, [.ref (q1), .int 0, .ref (q3), .int 0, .int 0]) := (hB8 (76) (by decide)).trans o76_7
  have hD8 : ∀ k, k ∈ [0] → E8 k = E k := fun k hk => (by have h9 := hdl k hk; exact (hB8 k (by omega)).trans (hD7 k hk))
  refine e_iincN (pc' := 45) (k := 1) (L' := [some (.ref (ad 76)), some (.int (nI 1))]) dX7_init_42 rfl rfl rfl (by decide) rfl ?_
  refine e_goto (tgt := 23) dX7_init_45 (by decide) ?_
  refine e_iload_n (pc' := 24) dX7_init_23 rfl rfl rfl ?_
  refine e_bipush (pc' := 26) (v := nI 15) dX7_init_24 rfl (by decide) ?_
  refine e_icmp_geN (pc' := 29) (tgt := 48) dX7_init_26 rfl (by decide) (by decide) (by decide) (fun h => absurd h (by decide)) (fun _ => ?_)
  refine e_aload_n (pc' := 30) dX7_init_29 rfl rfl rfl ?_
  refine a_get (pc' := 33) (a := 76) (ci := 7) (kf := 2) dX7_init_30 rfl (by decide) f76_7 o76_8 (by decide) (by decide) fl_X7_17 rfl ?_
  refine e_iload_n (pc' := 34) dX7_init_33 rfl rfl rfl ?_
  refine a_new (pc' := 37) (ci := 2) (fs := [.int 0, .int 0, .int 0, .int 0]) S8 dX7_init_34 rfl (by decide) cl_X7_15 inst_2 ini_2 zf_2 (show 3 + 1 ≤ 17 from by decide) (show 79 + 4 ≤ 135 from by decide) (fun q10 ad10 E10 S10 hA10 hq10 hB10 hN10 => ?_)
  have f76_10 : ad10 (76) = ad 76 := (hA10 (76) (by decide)).trans f76_7
  have f77_10 : ad10 (77) = q1 := (hA10 (77) (by decide)).trans f77_7
  have f78_10 : ad10 (78) = q3 := (hA10 (78) (by decide)).trans f78_7
  have f79_10 : ad10 (79) = q6 := (hA10 (79) (by decide)).trans f79_7
  have hC10 : ∀ k, k < 77 → ad10 k = ad k := fun k hk => (hA10 k (by omega)).trans (hC7 k hk)
  have o76_10 : E10 (76) = .inr (7, [.ref (q1), .int 0, .ref (q3), .int 0, .int 0]) := (hB10 (76) (by decide)).trans o76_8
  have o78_10 : E10 (78) = .inl (gA G 5, 15, .inr (.inr (.inr (.inr (va_up (fun _ => none) 0 (some (q6))))))) := (hB10 (78) (by decide)).trans o78_8
  have hD10 : ∀ k, k ∈ [0] → E10 k = E k := fun k hk => (by have h9 := hdl k hk; exact (hB10 k (by omega)).trans (hD8 k hk))
  show EV _ _ _ _ (4, 83) 37 _ [.ref q10, .int (nI 1), .ref (q3)] (AW (81) ad10 E10)
  refine e_dup (pc' := 38) dX7_init_37 rfl rfl ?_
  refine a_invN (pc' := 41) (m' := mX2_init) (d := d) (As := []) (n' := 81) (by rw [← hq10]; exact k_cmd (a := 80) (n := 81) (dn := [78, 76, 0]) (by decide) (by decide) (by decide) rfl (by decide) S10 hN10) dX7_init_38 rfl rfl (Nat.le_of_ble_eq_true rfl) (fit_of (by omega) (by decide) (show 4 + 0 ≤ 17 from by decide) (show 83 + 0 ≤ 135 from by decide)) nl_X7_21 okX2_init rfl (fun ad11 E11 S11 hA11 hB11 => ?_)
  have f76_11 : ad11 (76) = ad 76 := (hA11 (76) (by decide)).trans f76_10
  have f77_11 : ad11 (77) = q1 := (hA11 (77) (by decide)).trans f77_10
  have f78_11 : ad11 (78) = q3 := (hA11 (78) (by decide)).trans f78_10
  have f79_11 : ad11 (79) = q6 := (hA11 (79) (by decide)).trans f79_10
  have f80_11 : ad11 (80) = q10 := (hA11 (80) (by decide)).trans hq10
  have hC11 : ∀ k, k < 77 → ad11 k = ad k := fun k hk => (hA11 k (by omega)).trans (hC10 k hk)
  have o76_11 : E11 (76) = .inr (7, [.ref (q1), .int 0, .ref (q3), .int 0, .int 0]) := (hB11 (76) (by decide)).trans o76_10
  have o78_11 : E11 (78) = .inl (gA G 5, 15, .inr (.inr (.inr (.inr (va_up (fun _ => none) 0 (some (q6))))))) := (hB11 (78) (by decide)).trans o78_10
  have hD11 : ∀ k, k ∈ [0] → E11 k = E k := fun k hk => (by have h9 := hdl k hk; exact (hB11 k (List.mem_cons_of_mem _ (List.mem_cons_of_mem _ hk))).trans (hD10 k hk))
  show EV _ _ _ _ (4, 83) 41 _ [.ref (q10), .int (nI 1), .ref (q3)] (AW (81) ad11 E11)
  refine a_ast (pc' := 42) (a := 78) (t := 5) (N := 15) (j := 1) (qk := 80) (ci := 2) S11 dX7_init_41 rfl (by decide) (by decide) f78_11 o78_11 (by decide) rfl (by decide) f80_11 ((S11 80 (by decide) (by decide)).1.trans (show cellM G ad11 ZM 80 (sh 80) = .inr (2, objF ad11 (Z0 80) [none, none, none, none]) from rfl)) rfl (by decide) (by decide) (fun E12 S12 hN12 hB12 => ?_)
  have o78_12 : E12 (78) = .inl (gA G 5, 15, .inr (.inr (.inr (.inr (va_up (va_up (fun _ => none) 0 (some (q6))) 1 (some (q10))))))) := hN12
  have o76_12 : E12 (76) = .inr (7, [.ref (q1), .int 0, .ref (q3), .int 0, .int 0]) := (hB12 (76) (by decide)).trans o76_11
  have hD12 : ∀ k, k ∈ [0] → E12 k = E k := fun k hk => (by have h9 := hdl k hk; exact (hB12 k (by omega)).trans (hD11 k hk))
  refine e_iincN (pc' := 45) (k := 1) (L' := [some (.ref (ad 76)), some (.int (nI 2))]) dX7_init_42 rfl rfl rfl (by decide) rfl ?_
  refine e_goto (tgt := 23) dX7_init_45 (by decide) ?_
  refine e_iload_n (pc' := 24) dX7_init_23 rfl rfl rfl ?_
  refine e_bipush (pc' := 26) (v := nI 15) dX7_init_24 rfl (by decide) ?_
  refine e_icmp_geN (pc' := 29) (tgt := 48) dX7_init_26 rfl (by decide) (by decide) (by decide) (fun h => absurd h (by decide)) (fun _ => ?_)
  refine e_aload_n (pc' := 30) dX7_init_29 rfl rfl rfl ?_
  refine a_get (pc' := 33) (a := 76) (ci := 7) (kf := 2) dX7_init_30 rfl (by decide) f76_11 o76_12 (by decide) (by decide) fl_X7_17 rfl ?_
  refine e_iload_n (pc' := 34) dX7_init_33 rfl rfl rfl ?_
  refine a_new (pc' := 37) (ci := 2) (fs := [.int 0, .int 0, .int 0, .int 0]) S12 dX7_init_34 rfl (by decide) cl_X7_15 inst_2 ini_2 zf_2 (show 4 + 1 ≤ 17 from by decide) (show 83 + 4 ≤ 135 from by decide) (fun q14 ad14 E14 S14 hA14 hq14 hB14 hN14 => ?_)
  have f76_14 : ad14 (76) = ad 76 := (hA14 (76) (by decide)).trans f76_11
  have f77_14 : ad14 (77) = q1 := (hA14 (77) (by decide)).trans f77_11
  have f78_14 : ad14 (78) = q3 := (hA14 (78) (by decide)).trans f78_11
  have f79_14 : ad14 (79) = q6 := (hA14 (79) (by decide)).trans f79_11
  have f80_14 : ad14 (80) = q10 := (hA14 (80) (by decide)).trans f80_11
  have hC14 : ∀ k, k < 77 → ad14 k = ad k := fun k hk => (hA14 k (by omega)).trans (hC11 k hk)
  have o76_14 : E14 (76) = .inr (7, [.ref (q1), .int 0, .ref (q3), .int 0, .int 0]) := (hB14 (76) (by decide)).trans o76_12
  have o78_14 : E14 (78) = .inl (gA G 5, 15, .inr (.inr (.inr (.inr (va_up (va_up (fun _ => none) 0 (some (q6))) 1 (some (q10))))))) := (hB14 (78) (by decide)).trans o78_12
  have hD14 : ∀ k, k ∈ [0] → E14 k = E k := fun k hk => (by have h9 := hdl k hk; exact (hB14 k (by omega)).trans (hD12 k hk))
  show EV _ _ _ _ (5, 87) 37 _ [.ref q14, .int (nI 2), .ref (q3)] (AW (82) ad14 E14)
  refine e_dup (pc' := 38) dX7_init_37 rfl rfl ?_
  refine a_invN (pc' := 41) (m' := mX2_init) (d := d) (As := []) (n' := 82) (by rw [← hq14]; exact k_cmd (a := 81) (n := 82) (dn := [78, 76, 0]) (by decide) (by decide) (by decide) rfl (by decide) S14 hN14) dX7_init_38 rfl rfl (Nat.le_of_ble_eq_true rfl) (fit_of (by omega) (by decide) (show 5 + 0 ≤ 17 from by decide) (show 87 + 0 ≤ 135 from by decide)) nl_X7_21 okX2_init rfl (fun ad15 E15 S15 hA15 hB15 => ?_)
  have f76_15 : ad15 (76) = ad 76 := (hA15 (76) (by decide)).trans f76_14
  have f77_15 : ad15 (77) = q1 := (hA15 (77) (by decide)).trans f77_14
  have f78_15 : ad15 (78) = q3 := (hA15 (78) (by decide)).trans f78_14
  have f79_15 : ad15 (79) = q6 := (hA15 (79) (by decide)).trans f79_14
  have f80_15 : ad15 (80) = q10 := (hA15 (80) (by decide)).trans f80_14
  have f81_15 : ad15 (81) = q14 := (hA15 (81) (by decide)).trans hq14
  have hC15 : ∀ k, k < 77 → ad15 k = ad k := fun k hk => (hA15 k (by omega)).trans (hC14 k hk)
  have o76_15 : E15 (76) = .inr (7, [.ref (q1), .int 0, .ref (q3), .int 0, .int 0]) := (hB15 (76) (by decide)).trans o76_14
  have o78_15 : E15 (78) = .inl (gA G 5, 15, .inr (.inr (.inr (.inr (va_up (va_up (fun _ => none) 0 (some (q6))) 1 (some (q10))))))) := (hB15 (78) (by decide)).trans o78_14
  have hD15 : ∀ k, k ∈ [0] → E15 k = E k := fun k hk => (by have h9 := hdl k hk; exact (hB15 k (List.mem_cons_of_mem _ (List.mem_cons_of_mem _ hk))).trans (hD14 k hk))
  show EV _ _ _ _ (5, 87) 41 _ [.ref (q14), .int (nI 2), .ref (q3)] (AW (82) ad15 E15)
  refine a_ast (pc' := 42) (a := 78) (t := 5) (N := 15) (j := 2) (qk := 81) (ci := 2) S15 dX7_init_41 rfl (by decide) (by decide) f78_15 o78_15 (by decide) rfl (by decide) f81_15 ((S15 81 (by decide) (by decide)).1.trans (show cellM G ad15 ZM 81 (sh 81) = .inr (2, objF ad15 (Z0 81) [none, none, none, none]) from rfl)) rfl (by decide) (by decide) (fun E16 S16 hN16 hB16 => ?_)
  have o78_16 : E16 (78) = .inl (gA G 5, 15, .inr (.inr (.inr (.inr (va_up (va_up (va_up (fun _ => none) 0 (some (q6))) 1 (some (q10))) 2 (some (q14))))))) := hN16
  have o76_16 : E16 (76) = .inr (7, [.ref (q1), .int 0, .ref (q3), .int 0, .int 0]) := (hB16 (76) (by decide)).trans o76_15
  have hD16 : ∀ k, k ∈ [0] → E16 k = E k := fun k hk => (by have h9 := hdl k hk; exact (hB16 k (by omega)).trans (hD15 k hk))
  refine e_iincN (pc' := 45) (k := 1) (L' := [some (.ref (ad 76)), some (.int (nI 3))]) dX7_init_42 rfl rfl rfl (by decide) rfl ?_
  refine e_goto (tgt := 23) dX7_init_45 (by decide) ?_
  refine e_iload_n (pc' := 24) dX7_init_23 rfl rfl rfl ?_
  refine e_bipush (pc' := 26) (v := nI 15) dX7_init_24 rfl (by decide) ?_
  refine e_icmp_geN (pc' := 29) (tgt := 48) dX7_init_26 rfl (by decide) (by decide) (by decide) (fun h => absurd h (by decide)) (fun _ => ?_)
  refine e_aload_n (pc' := 30) dX7_init_29 rfl rfl rfl ?_
  refine a_get (pc' := 33) (a := 76) (ci := 7) (kf := 2) dX7_init_30 rfl (by decide) f76_15 o76_16 (by decide) (by decide) fl_X7_17 rfl ?_
  refine e_iload_n (pc' := 34) dX7_init_33 rfl rfl rfl ?_
  refine a_new (pc' := 37) (ci := 2) (fs := [.int 0, .int 0, .int 0, .int 0]) S16 dX7_init_34 rfl (by decide) cl_X7_15 inst_2 ini_2 zf_2 (show 5 + 1 ≤ 17 from by decide) (show 87 + 4 ≤ 135 from by decide) (fun q18 ad18 E18 S18 hA18 hq18 hB18 hN18 => ?_)
  have f76_18 : ad18 (76) = ad 76 := (hA18 (76) (by decide)).trans f76_15
  have f77_18 : ad18 (77) = q1 := (hA18 (77) (by decide)).trans f77_15
  have f78_18 : ad18 (78) = q3 := (hA18 (78) (by decide)).trans f78_15
  have f79_18 : ad18 (79) = q6 := (hA18 (79) (by decide)).trans f79_15
  have f80_18 : ad18 (80) = q10 := (hA18 (80) (by decide)).trans f80_15
  have f81_18 : ad18 (81) = q14 := (hA18 (81) (by decide)).trans f81_15
  have hC18 : ∀ k, k < 77 → ad18 k = ad k := fun k hk => (hA18 k (by omega)).trans (hC15 k hk)
  have o76_18 : E18 (76) = .inr (7, [.ref (q1), .int 0, .ref (q3), .int 0, .int 0]) := (hB18 (76) (by decide)).trans o76_16
  have o78_18 : E18 (78) = .inl (gA G 5, 15, .inr (.inr (.inr (.inr (va_up (va_up (va_up (fun _ => none) 0 (some (q6))) 1 (some (q10))) 2 (some (q14))))))) := (hB18 (78) (by decide)).trans o78_16
  have hD18 : ∀ k, k ∈ [0] → E18 k = E k := fun k hk => (by have h9 := hdl k hk; exact (hB18 k (by omega)).trans (hD16 k hk))
  show EV _ _ _ _ (6, 91) 37 _ [.ref q18, .int (nI 3), .ref (q3)] (AW (83) ad18 E18)
  refine e_dup (pc' := 38) dX7_init_37 rfl rfl ?_
  refine a_invN (pc' := 41) (m' := mX2_init) (d := d) (As := []) (n' := 83) (by rw [← hq18]; exact k_cmd (a := 82) (n := 83) (dn := [78, 76, 0]) (by decide) (by decide) (by decide) rfl (by decide) S18 hN18) dX7_init_38 rfl rfl (Nat.le_of_ble_eq_true rfl) (fit_of (by omega) (by decide) (show 6 + 0 ≤ 17 from by decide) (show 91 + 0 ≤ 135 from by decide)) nl_X7_21 okX2_init rfl (fun ad19 E19 S19 hA19 hB19 => ?_)
  have f76_19 : ad19 (76) = ad 76 := (hA19 (76) (by decide)).trans f76_18
  have f77_19 : ad19 (77) = q1 := (hA19 (77) (by decide)).trans f77_18
  have f78_19 : ad19 (78) = q3 := (hA19 (78) (by decide)).trans f78_18
  have f79_19 : ad19 (79) = q6 := (hA19 (79) (by decide)).trans f79_18
  have f80_19 : ad19 (80) = q10 := (hA19 (80) (by decide)).trans f80_18
  have f81_19 : ad19 (81) = q14 := (hA19 (81) (by decide)).trans f81_18
  have f82_19 : ad19 (82) = q18 := (hA19 (82) (by decide)).trans hq18
  have hC19 : ∀ k, k < 77 → ad19 k = ad k := fun k hk => (hA19 k (by omega)).trans (hC18 k hk)
  have o76_19 : E19 (76) = .inr (7, [.ref (q1), .int 0, .ref (q3), .int 0, .int 0]) := (hB19 (76) (by decide)).trans o76_18
  have o78_19 : E19 (78) = .inl (gA G 5, 15, .inr (.inr (.inr (.inr (va_up (va_up (va_up (fun _ => none) 0 (some (q6))) 1 (some (q10))) 2 (some (q14))))))) := (hB19 (78) (by decide)).trans o78_18
  have hD19 : ∀ k, k ∈ [0] → E19 k = E k := fun k hk => (by have h9 := hdl k hk; exact (hB19 k (List.mem_cons_of_mem _ (List.mem_cons_of_mem _ hk))).trans (hD18 k hk))
  show EV _ _ _ _ (6, 91) 41 _ [.ref (q18), .int (nI 3), .ref (q3)] (AW (83) ad19 E19)
  refine a_ast (pc' := 42) (a := 78) (t := 5) (N := 15) (j := 3) (qk := 82) (ci := 2) S19 dX7_init_41 rfl (by decide) (by decide) f78_19 o78_19 (by decide) rfl (by decide) f82_19 ((S19 82 (by decide) (by decide)).1.trans (show cellM G ad19 ZM 82 (sh 82) = .inr (2, objF ad19 (Z0 82) [none, none, none, none]) from rfl)) rfl (by decide) (by decide) (fun E20 S20 hN20 hB20 => ?_)
  have o78_20 : E20 (78) = .inl (gA G 5, 15, .inr (.inr (.inr (.inr (va_up (va_up (va_up (va_up (fun _ => none) 0 (some (q6))) 1 (some (q10))) 2 (some (q14))) 3 (some (q18))))))) := hN20
  have o76_20 : E20 (76) = .inr (7, [.ref (q1), .int 0, .ref (q3), .int 0, .int 0]) := (hB20 (76) (by decide)).trans o76_19
  have hD20 : ∀ k, k ∈ [0] → E20 k = E k := fun k hk => (by have h9 := hdl k hk; exact (hB20 k (by omega)).trans (hD19 k hk))
  refine e_iincN (pc' := 45) (k := 1) (L' := [some (.ref (ad 76)), some (.int (nI 4))]) dX7_init_42 rfl rfl rfl (by decide) rfl ?_
  refine e_goto (tgt := 23) dX7_init_45 (by decide) ?_
  refine e_iload_n (pc' := 24) dX7_init_23 rfl rfl rfl ?_
  refine e_bipush (pc' := 26) (v := nI 15) dX7_init_24 rfl (by decide) ?_
  refine e_icmp_geN (pc' := 29) (tgt := 48) dX7_init_26 rfl (by decide) (by decide) (by decide) (fun h => absurd h (by decide)) (fun _ => ?_)
  refine e_aload_n (pc' := 30) dX7_init_29 rfl rfl rfl ?_
  refine a_get (pc' := 33) (a := 76) (ci := 7) (kf := 2) dX7_init_30 rfl (by decide) f76_19 o76_20 (by decide) (by decide) fl_X7_17 rfl ?_
  refine e_iload_n (pc' := 34) dX7_init_33 rfl rfl rfl ?_
  refine a_new (pc' := 37) (ci := 2) (fs := [.int 0, .int 0, .int 0, .int 0]) S20 dX7_init_34 rfl (by decide) cl_X7_15 inst_2 ini_2 zf_2 (show 6 + 1 ≤ 17 from by decide) (show 91 + 4 ≤ 135 from by decide) (fun q22 ad22 E22 S22 hA22 hq22 hB22 hN22 => ?_)
  have f76_22 : ad22 (76) = ad 76 := (hA22 (76) (by decide)).trans f76_19
  have f77_22 : ad22 (77) = q1 := (hA22 (77) (by decide)).trans f77_19
  have f78_22 : ad22 (78) = q3 := (hA22 (78) (by decide)).trans f78_19
  have f79_22 : ad22 (79) = q6 := (hA22 (79) (by decide)).trans f79_19
  have f80_22 : ad22 (80) = q10 := (hA22 (80) (by decide)).trans f80_19
  have f81_22 : ad22 (81) = q14 := (hA22 (81) (by decide)).trans f81_19
  have f82_22 : ad22 (82) = q18 := (hA22 (82) (by decide)).trans f82_19
  have hC22 : ∀ k, k < 77 → ad22 k = ad k := fun k hk => (hA22 k (by omega)).trans (hC19 k hk)
  have o76_22 : E22 (76) = .inr (7, [.ref (q1), .int 0, .ref (q3), .int 0, .int 0]) := (hB22 (76) (by decide)).trans o76_20
  have o78_22 : E22 (78) = .inl (gA G 5, 15, .inr (.inr (.inr (.inr (va_up (va_up (va_up (va_up (fun _ => none) 0 (some (q6))) 1 (some (q10))) 2 (some (q14))) 3 (some (q18))))))) := (hB22 (78) (by decide)).trans o78_20
  have hD22 : ∀ k, k ∈ [0] → E22 k = E k := fun k hk => (by have h9 := hdl k hk; exact (hB22 k (by omega)).trans (hD20 k hk))
  show EV _ _ _ _ (7, 95) 37 _ [.ref q22, .int (nI 4), .ref (q3)] (AW (84) ad22 E22)
  refine e_dup (pc' := 38) dX7_init_37 rfl rfl ?_
  refine a_invN (pc' := 41) (m' := mX2_init) (d := d) (As := []) (n' := 84) (by rw [← hq22]; exact k_cmd (a := 83) (n := 84) (dn := [78, 76, 0]) (by decide) (by decide) (by decide) rfl (by decide) S22 hN22) dX7_init_38 rfl rfl (Nat.le_of_ble_eq_true rfl) (fit_of (by omega) (by decide) (show 7 + 0 ≤ 17 from by decide) (show 95 + 0 ≤ 135 from by decide)) nl_X7_21 okX2_init rfl (fun ad23 E23 S23 hA23 hB23 => ?_)
  have f76_23 : ad23 (76) = ad 76 := (hA23 (76) (by decide)).trans f76_22
  have f77_23 : ad23 (77) = q1 := (hA23 (77) (by decide)).trans f77_22
  have f78_23 : ad23 (78) = q3 := (hA23 (78) (by decide)).trans f78_22
  have f79_23 : ad23 (79) = q6 := (hA23 (79) (by decide)).trans f79_22
  have f80_23 : ad23 (80) = q10 := (hA23 (80) (by decide)).trans f80_22
  have f81_23 : ad23 (81) = q14 := (hA23 (81) (by decide)).trans f81_22
  have f82_23 : ad23 (82) = q18 := (hA23 (82) (by decide)).trans f82_22
  have f83_23 : ad23 (83) = q22 := (hA23 (83) (by decide)).trans hq22
  have hC23 : ∀ k, k < 77 → ad23 k = ad k := fun k hk => (hA23 k (by omega)).trans (hC22 k hk)
  have o76_23 : E23 (76) = .inr (7, [.ref (q1), .int 0, .ref (q3), .int 0, .int 0]) := (hB23 (76) (by decide)).trans o76_22
  have o78_23 : E23 (78) = .inl (gA G 5, 15, .inr (.inr (.inr (.inr (va_up (va_up (va_up (va_up (fun _ => none) 0 (some (q6))) 1 (some (q10))) 2 (some (q14))) 3 (some (q18))))))) := (hB23 (78) (by decide)).trans o78_22
  have hD23 : ∀ k, k ∈ [0] → E23 k = E k := fun k hk => (by have h9 := hdl k hk; exact (hB23 k (List.mem_cons_of_mem _ (List.mem_cons_of_mem _ hk))).trans (hD22 k hk))
  show EV _ _ _ _ (7, 95) 41 _ [.ref (q22), .int (nI 4), .ref (q3)] (AW (84) ad23 E23)
  refine a_ast (pc' := 42) (a := 78) (t := 5) (N := 15) (j := 4) (qk := 83) (ci := 2) S23 dX7_init_41 rfl (by decide) (by decide) f78_23 o78_23 (by decide) rfl (by decide) f83_23 ((S23 83 (by decide) (by decide)).1.trans (show cellM G ad23 ZM 83 (sh 83) = .inr (2, objF ad23 (Z0 83) [none, none, none, none]) from rfl)) rfl (by decide) (by decide) (fun E24 S24 hN24 hB24 => ?_)
  have o78_24 : E24 (78) = .inl (gA G 5, 15, .inr (.inr (.inr (.inr (va_up (va_up (va_up (va_up (va_up (fun _ => none) 0 (some (q6))) 1 (some (q10))) 2 (some (q14))) 3 (some (q18))) 4 (some (q22))))))) := hN24
  have o76_24 : E24 (76) = .inr (7, [.ref (q1), .int 0, .ref (q3), .int 0, .int 0]) := (hB24 (76) (by decide)).trans o76_23
  have hD24 : ∀ k, k ∈ [0] → E24 k = E k := fun k hk => (by have h9 := hdl k hk; exact (hB24 k (by omega)).trans (hD23 k hk))
  refine e_iincN (pc' := 45) (k := 1) (L' := [some (.ref (ad 76)), some (.int (nI 5))]) dX7_init_42 rfl rfl rfl (by decide) rfl ?_
  refine e_goto (tgt := 23) dX7_init_45 (by decide) ?_
  refine e_iload_n (pc' := 24) dX7_init_23 rfl rfl rfl ?_
  refine e_bipush (pc' := 26) (v := nI 15) dX7_init_24 rfl (by decide) ?_
  refine e_icmp_geN (pc' := 29) (tgt := 48) dX7_init_26 rfl (by decide) (by decide) (by decide) (fun h => absurd h (by decide)) (fun _ => ?_)
  refine e_aload_n (pc' := 30) dX7_init_29 rfl rfl rfl ?_
  refine a_get (pc' := 33) (a := 76) (ci := 7) (kf := 2) dX7_init_30 rfl (by decide) f76_23 o76_24 (by decide) (by decide) fl_X7_17 rfl ?_
  refine e_iload_n (pc' := 34) dX7_init_33 rfl rfl rfl ?_
  refine a_new (pc' := 37) (ci := 2) (fs := [.int 0, .int 0, .int 0, .int 0]) S24 dX7_init_34 rfl (by decide) cl_X7_15 inst_2 ini_2 zf_2 (show 7 + 1 ≤ 17 from by decide) (show 95 + 4 ≤ 135 from by decide) (fun q26 ad26 E26 S26 hA26 hq26 hB26 hN26 => ?_)
  have f76_26 : ad26 (76) = ad 76 := (hA26 (76) (by decide)).trans f76_23
  have f77_26 : ad26 (77) = q1 := (hA26 (77) (by decide)).trans f77_23
  have f78_26 : ad26 (78) = q3 := (hA26 (78) (by decide)).trans f78_23
  have f79_26 : ad26 (79) = q6 := (hA26 (79) (by decide)).trans f79_23
  have f80_26 : ad26 (80) = q10 := (hA26 (80) (by decide)).trans f80_23
  have f81_26 : ad26 (81) = q14 := (hA26 (81) (by decide)).trans f81_23
  have f82_26 : ad26 (82) = q18 := (hA26 (82) (by decide)).trans f82_23
  have f83_26 : ad26 (83) = q22 := (hA26 (83) (by decide)).trans f83_23
  have hC26 : ∀ k, k < 77 → ad26 k = ad k := fun k hk => (hA26 k (by omega)).trans (hC23 k hk)
  have o76_26 : E26 (76) = .inr (7, [.ref (q1), .int 0, .ref (q3), .int 0, .int 0]) := (hB26 (76) (by decide)).trans o76_24
  have o78_26 : E26 (78) = .inl (gA G 5, 15, .inr (.inr (.inr (.inr (va_up (va_up (va_up (va_up (va_up (fun _ => none) 0 (some (q6))) 1 (some (q10))) 2 (some (q14))) 3 (some (q18))) 4 (some (q22))))))) := (hB26 (78) (by decide)).trans o78_24
  have hD26 : ∀ k, k ∈ [0] → E26 k = E k := fun k hk => (by have h9 := hdl k hk; exact (hB26 k (by omega)).trans (hD24 k hk))
  show EV _ _ _ _ (8, 99) 37 _ [.ref q26, .int (nI 5), .ref (q3)] (AW (85) ad26 E26)
  refine e_dup (pc' := 38) dX7_init_37 rfl rfl ?_
  refine a_invN (pc' := 41) (m' := mX2_init) (d := d) (As := []) (n' := 85) (by rw [← hq26]; exact k_cmd (a := 84) (n := 85) (dn := [78, 76, 0]) (by decide) (by decide) (by decide) rfl (by decide) S26 hN26) dX7_init_38 rfl rfl (Nat.le_of_ble_eq_true rfl) (fit_of (by omega) (by decide) (show 8 + 0 ≤ 17 from by decide) (show 99 + 0 ≤ 135 from by decide)) nl_X7_21 okX2_init rfl (fun ad27 E27 S27 hA27 hB27 => ?_)
  have f76_27 : ad27 (76) = ad 76 := (hA27 (76) (by decide)).trans f76_26
  have f77_27 : ad27 (77) = q1 := (hA27 (77) (by decide)).trans f77_26
  have f78_27 : ad27 (78) = q3 := (hA27 (78) (by decide)).trans f78_26
  have f79_27 : ad27 (79) = q6 := (hA27 (79) (by decide)).trans f79_26
  have f80_27 : ad27 (80) = q10 := (hA27 (80) (by decide)).trans f80_26
  have f81_27 : ad27 (81) = q14 := (hA27 (81) (by decide)).trans f81_26
  have f82_27 : ad27 (82) = q18 := (hA27 (82) (by decide)).trans f82_26
  have f83_27 : ad27 (83) = q22 := (hA27 (83) (by decide)).trans f83_26
  have f84_27 : ad27 (84) = q26 := (hA27 (84) (by decide)).trans hq26
  have hC27 : ∀ k, k < 77 → ad27 k = ad k := fun k hk => (hA27 k (by omega)).trans (hC26 k hk)
  have o76_27 : E27 (76) = .inr (7, [.ref (q1), .int 0, .ref (q3), .int 0, .int 0]) := (hB27 (76) (by decide)).trans o76_26
  have o78_27 : E27 (78) = .inl (gA G 5, 15, .inr (.inr (.inr (.inr (va_up (va_up (va_up (va_up (va_up (fun _ => none) 0 (some (q6))) 1 (some (q10))) 2 (some (q14))) 3 (some (q18))) 4 (some (q22))))))) := (hB27 (78) (by decide)).trans o78_26
  have hD27 : ∀ k, k ∈ [0] → E27 k = E k := fun k hk => (by have h9 := hdl k hk; exact (hB27 k (List.mem_cons_of_mem _ (List.mem_cons_of_mem _ hk))).trans (hD26 k hk))
  show EV _ _ _ _ (8, 99) 41 _ [.ref (q26), .int (nI 5), .ref (q3)] (AW (85) ad27 E27)
  refine a_ast (pc' := 42) (a := 78) (t := 5) (N := 15) (j := 5) (qk := 84) (ci := 2) S27 dX7_init_41 rfl (by decide) (by decide) f78_27 o78_27 (by decide) rfl (by decide) f84_27 ((S27 84 (by decide) (by decide)).1.trans (show cellM G ad27 ZM 84 (sh 84) = .inr (2, objF ad27 (Z0 84) [none, none, none, none]) from rfl)) rfl (by decide) (by decide) (fun E28 S28 hN28 hB28 => ?_)
  have o78_28 : E28 (78) = .inl (gA G 5, 15, .inr (.inr (.inr (.inr (va_up (va_up (va_up (va_up (va_up (va_up (fun _ => none) 0 (some (q6))) 1 (some (q10))) 2 (some (q14))) 3 (some (q18))) 4 (some (q22))) 5 (some (q26))))))) := hN28
  have o76_28 : E28 (76) = .inr (7, [.ref (q1), .int 0, .ref (q3), .int 0, .int 0]) := (hB28 (76) (by decide)).trans o76_27
  have hD28 : ∀ k, k ∈ [0] → E28 k = E k := fun k hk => (by have h9 := hdl k hk; exact (hB28 k (by omega)).trans (hD27 k hk))
  refine e_iincN (pc' := 45) (k := 1) (L' := [some (.ref (ad 76)), some (.int (nI 6))]) dX7_init_42 rfl rfl rfl (by decide) rfl ?_
  refine e_goto (tgt := 23) dX7_init_45 (by decide) ?_
  refine e_iload_n (pc' := 24) dX7_init_23 rfl rfl rfl ?_
  refine e_bipush (pc' := 26) (v := nI 15) dX7_init_24 rfl (by decide) ?_
  refine e_icmp_geN (pc' := 29) (tgt := 48) dX7_init_26 rfl (by decide) (by decide) (by decide) (fun h => absurd h (by decide)) (fun _ => ?_)
  refine e_aload_n (pc' := 30) dX7_init_29 rfl rfl rfl ?_
  refine a_get (pc' := 33) (a := 76) (ci := 7) (kf := 2) dX7_init_30 rfl (by decide) f76_27 o76_28 (by decide) (by decide) fl_X7_17 rfl ?_
  refine e_iload_n (pc' := 34) dX7_init_33 rfl rfl rfl ?_
  refine a_new (pc' := 37) (ci := 2) (fs := [.int 0, .int 0, .int 0, .int 0]) S28 dX7_init_34 rfl (by decide) cl_X7_15 inst_2 ini_2 zf_2 (show 8 + 1 ≤ 17 from by decide) (show 99 + 4 ≤ 135 from by decide) (fun q30 ad30 E30 S30 hA30 hq30 hB30 hN30 => ?_)
  have f76_30 : ad30 (76) = ad 76 := (hA30 (76) (by decide)).trans f76_27
  have f77_30 : ad30 (77) = q1 := (hA30 (77) (by decide)).trans f77_27
  have f78_30 : ad30 (78) = q3 := (hA30 (78) (by decide)).trans f78_27
  have f79_30 : ad30 (79) = q6 := (hA30 (79) (by decide)).trans f79_27
  have f80_30 : ad30 (80) = q10 := (hA30 (80) (by decide)).trans f80_27
  have f81_30 : ad30 (81) = q14 := (hA30 (81) (by decide)).trans f81_27
  have f82_30 : ad30 (82) = q18 := (hA30 (82) (by decide)).trans f82_27
  have f83_30 : ad30 (83) = q22 := (hA30 (83) (by decide)).trans f83_27
  have f84_30 : ad30 (84) = q26 := (hA30 (84) (by decide)).trans f84_27
  have hC30 : ∀ k, k < 77 → ad30 k = ad k := fun k hk => (hA30 k (by omega)).trans (hC27 k hk)
  have o76_30 : E30 (76) = .inr (7, [.ref (q1), .int 0, .ref (q3), .int 0, .int 0]) := (hB30 (76) (by decide)).trans o76_28
  have o78_30 : E30 (78) = .inl (gA G 5, 15, .inr (.inr (.inr (.inr (va_up (va_up (va_up (va_up (va_up (va_up (fun _ => none) 0 (some (q6))) 1 (some (q10))) 2 (some (q14))) 3 (some (q18))) 4 (some (q22))) 5 (some (q26))))))) := (hB30 (78) (by decide)).trans o78_28
  have hD30 : ∀ k, k ∈ [0] → E30 k = E k := fun k hk => (by have h9 := hdl k hk; exact (hB30 k (by omega)).trans (hD28 k hk))
  show EV _ _ _ _ (9, 103) 37 _ [.ref q30, .int (nI 6), .ref (q3)] (AW (86) ad30 E30)
  refine e_dup (pc' := 38) dX7_init_37 rfl rfl ?_
  refine a_invN (pc' := 41) (m' := mX2_init) (d := d) (As := []) (n' := 86) (by rw [← hq30]; exact k_cmd (a := 85) (n := 86) (dn := [78, 76, 0]) (by decide) (by decide) (by decide) rfl (by decide) S30 hN30) dX7_init_38 rfl rfl (Nat.le_of_ble_eq_true rfl) (fit_of (by omega) (by decide) (show 9 + 0 ≤ 17 from by decide) (show 103 + 0 ≤ 135 from by decide)) nl_X7_21 okX2_init rfl (fun ad31 E31 S31 hA31 hB31 => ?_)
  have f76_31 : ad31 (76) = ad 76 := (hA31 (76) (by decide)).trans f76_30
  have f77_31 : ad31 (77) = q1 := (hA31 (77) (by decide)).trans f77_30
  have f78_31 : ad31 (78) = q3 := (hA31 (78) (by decide)).trans f78_30
  have f79_31 : ad31 (79) = q6 := (hA31 (79) (by decide)).trans f79_30
  have f80_31 : ad31 (80) = q10 := (hA31 (80) (by decide)).trans f80_30
  have f81_31 : ad31 (81) = q14 := (hA31 (81) (by decide)).trans f81_30
  have f82_31 : ad31 (82) = q18 := (hA31 (82) (by decide)).trans f82_30
  have f83_31 : ad31 (83) = q22 := (hA31 (83) (by decide)).trans f83_30
  have f84_31 : ad31 (84) = q26 := (hA31 (84) (by decide)).trans f84_30
  have f85_31 : ad31 (85) = q30 := (hA31 (85) (by decide)).trans hq30
  have hC31 : ∀ k, k < 77 → ad31 k = ad k := fun k hk => (hA31 k (by omega)).trans (hC30 k hk)
  have o76_31 : E31 (76) = .inr (7, [.ref (q1), .int 0, .ref (q3), .int 0, .int 0]) := (hB31 (76) (by decide)).trans o76_30
  have o78_31 : E31 (78) = .inl (gA G 5, 15, .inr (.inr (.inr (.inr (va_up (va_up (va_up (va_up (va_up (va_up (fun _ => none) 0 (some (q6))) 1 (some (q10))) 2 (some (q14))) 3 (some (q18))) 4 (some (q22))) 5 (some (q26))))))) := (hB31 (78) (by decide)).trans o78_30
  have hD31 : ∀ k, k ∈ [0] → E31 k = E k := fun k hk => (by have h9 := hdl k hk; exact (hB31 k (List.mem_cons_of_mem _ (List.mem_cons_of_mem _ hk))).trans (hD30 k hk))
  show EV _ _ _ _ (9, 103) 41 _ [.ref (q30), .int (nI 6), .ref (q3)] (AW (86) ad31 E31)
  refine a_ast (pc' := 42) (a := 78) (t := 5) (N := 15) (j := 6) (qk := 85) (ci := 2) S31 dX7_init_41 rfl (by decide) (by decide) f78_31 o78_31 (by decide) rfl (by decide) f85_31 ((S31 85 (by decide) (by decide)).1.trans (show cellM G ad31 ZM 85 (sh 85) = .inr (2, objF ad31 (Z0 85) [none, none, none, none]) from rfl)) rfl (by decide) (by decide) (fun E32 S32 hN32 hB32 => ?_)
  have o78_32 : E32 (78) = .inl (gA G 5, 15, .inr (.inr (.inr (.inr (va_up (va_up (va_up (va_up (va_up (va_up (va_up (fun _ => none) 0 (some (q6))) 1 (some (q10))) 2 (some (q14))) 3 (some (q18))) 4 (some (q22))) 5 (some (q26))) 6 (some (q30))))))) := hN32
  have o76_32 : E32 (76) = .inr (7, [.ref (q1), .int 0, .ref (q3), .int 0, .int 0]) := (hB32 (76) (by decide)).trans o76_31
  have hD32 : ∀ k, k ∈ [0] → E32 k = E k := fun k hk => (by have h9 := hdl k hk; exact (hB32 k (by omega)).trans (hD31 k hk))
  refine e_iincN (pc' := 45) (k := 1) (L' := [some (.ref (ad 76)), some (.int (nI 7))]) dX7_init_42 rfl rfl rfl (by decide) rfl ?_
  refine e_goto (tgt := 23) dX7_init_45 (by decide) ?_
  refine e_iload_n (pc' := 24) dX7_init_23 rfl rfl rfl ?_
  refine e_bipush (pc' := 26) (v := nI 15) dX7_init_24 rfl (by decide) ?_
  refine e_icmp_geN (pc' := 29) (tgt := 48) dX7_init_26 rfl (by decide) (by decide) (by decide) (fun h => absurd h (by decide)) (fun _ => ?_)
  refine e_aload_n (pc' := 30) dX7_init_29 rfl rfl rfl ?_
  refine a_get (pc' := 33) (a := 76) (ci := 7) (kf := 2) dX7_init_30 rfl (by decide) f76_31 o76_32 (by decide) (by decide) fl_X7_17 rfl ?_
  refine e_iload_n (pc' := 34) dX7_init_33 rfl rfl rfl ?_
  refine a_new (pc' := 37) (ci := 2) (fs := [.int 0, .int 0, .int 0, .int 0]) S32 dX7_init_34 rfl (by decide) cl_X7_15 inst_2 ini_2 zf_2 (show 9 + 1 ≤ 17 from by decide) (show 103 + 4 ≤ 135 from by decide) (fun q34 ad34 E34 S34 hA34 hq34 hB34 hN34 => ?_)
  have f76_34 : ad34 (76) = ad 76 := (hA34 (76) (by decide)).trans f76_31
  have f77_34 : ad34 (77) = q1 := (hA34 (77) (by decide)).trans f77_31
  have f78_34 : ad34 (78) = q3 := (hA34 (78) (by decide)).trans f78_31
  have f79_34 : ad34 (79) = q6 := (hA34 (79) (by decide)).trans f79_31
  have f80_34 : ad34 (80) = q10 := (hA34 (80) (by decide)).trans f80_31
  have f81_34 : ad34 (81) = q14 := (hA34 (81) (by decide)).trans f81_31
  have f82_34 : ad34 (82) = q18 := (hA34 (82) (by decide)).trans f82_31
  have f83_34 : ad34 (83) = q22 := (hA34 (83) (by decide)).trans f83_31
  have f84_34 : ad34 (84) = q26 := (hA34 (84) (by decide)).trans f84_31
  have f85_34 : ad34 (85) = q30 := (hA34 (85) (by decide)).trans f85_31
  have hC34 : ∀ k, k < 77 → ad34 k = ad k := fun k hk => (hA34 k (by omega)).trans (hC31 k hk)
  have o76_34 : E34 (76) = .inr (7, [.ref (q1), .int 0, .ref (q3), .int 0, .int 0]) := (hB34 (76) (by decide)).trans o76_32
  have o78_34 : E34 (78) = .inl (gA G 5, 15, .inr (.inr (.inr (.inr (va_up (va_up (va_up (va_up (va_up (va_up (va_up (fun _ => none) 0 (some (q6))) 1 (some (q10))) 2 (some (q14))) 3 (some (q18))) 4 (some (q22))) 5 (some (q26))) 6 (some (q30))))))) := (hB34 (78) (by decide)).trans o78_32
  have hD34 : ∀ k, k ∈ [0] → E34 k = E k := fun k hk => (by have h9 := hdl k hk; exact (hB34 k (by omega)).trans (hD32 k hk))
  show EV _ _ _ _ (10, 107) 37 _ [.ref q34, .int (nI 7), .ref (q3)] (AW (87) ad34 E34)
  refine e_dup (pc' := 38) dX7_init_37 rfl rfl ?_
  refine a_invN (pc' := 41) (m' := mX2_init) (d := d) (As := []) (n' := 87) (by rw [← hq34]; exact k_cmd (a := 86) (n := 87) (dn := [78, 76, 0]) (by decide) (by decide) (by decide) rfl (by decide) S34 hN34) dX7_init_38 rfl rfl (Nat.le_of_ble_eq_true rfl) (fit_of (by omega) (by decide) (show 10 + 0 ≤ 17 from by decide) (show 107 + 0 ≤ 135 from by decide)) nl_X7_21 okX2_init rfl (fun ad35 E35 S35 hA35 hB35 => ?_)
  have f76_35 : ad35 (76) = ad 76 := (hA35 (76) (by decide)).trans f76_34
  have f77_35 : ad35 (77) = q1 := (hA35 (77) (by decide)).trans f77_34
  have f78_35 : ad35 (78) = q3 := (hA35 (78) (by decide)).trans f78_34
  have f79_35 : ad35 (79) = q6 := (hA35 (79) (by decide)).trans f79_34
  have f80_35 : ad35 (80) = q10 := (hA35 (80) (by decide)).trans f80_34
  have f81_35 : ad35 (81) = q14 := (hA35 (81) (by decide)).trans f81_34
  have f82_35 : ad35 (82) = q18 := (hA35 (82) (by decide)).trans f82_34
  have f83_35 : ad35 (83) = q22 := (hA35 (83) (by decide)).trans f83_34
  have f84_35 : ad35 (84) = q26 := (hA35 (84) (by decide)).trans f84_34
  have f85_35 : ad35 (85) = q30 := (hA35 (85) (by decide)).trans f85_34
  have f86_35 : ad35 (86) = q34 := (hA35 (86) (by decide)).trans hq34
  have hC35 : ∀ k, k < 77 → ad35 k = ad k := fun k hk => (hA35 k (by omega)).trans (hC34 k hk)
  have o76_35 : E35 (76) = .inr (7, [.ref (q1), .int 0, .ref (q3), .int 0, .int 0]) := (hB35 (76) (by decide)).trans o76_34
  have o78_35 : E35 (78) = .inl (gA G 5, 15, .inr (.inr (.inr (.inr (va_up (va_up (va_up (va_up (va_up (va_up (va_up (fun _ => none) 0 (some (q6))) 1 (some (q10))) 2 (some (q14))) 3 (some (q18))) 4 (some (q22))) 5 (some (q26))) 6 (some (q30))))))) := (hB35 (78) (by decide)).trans o78_34
  have hD35 : ∀ k, k ∈ [0] → E35 k = E k := fun k hk => (by have h9 := hdl k hk; exact (hB35 k (List.mem_cons_of_mem _ (List.mem_cons_of_mem _ hk))).trans (hD34 k hk))
  show EV _ _ _ _ (10, 107) 41 _ [.ref (q34), .int (nI 7), .ref (q3)] (AW (87) ad35 E35)
  refine a_ast (pc' := 42) (a := 78) (t := 5) (N := 15) (j := 7) (qk := 86) (ci := 2) S35 dX7_init_41 rfl (by decide) (by decide) f78_35 o78_35 (by decide) rfl (by decide) f86_35 ((S35 86 (by decide) (by decide)).1.trans (show cellM G ad35 ZM 86 (sh 86) = .inr (2, objF ad35 (Z0 86) [none, none, none, none]) from rfl)) rfl (by decide) (by decide) (fun E36 S36 hN36 hB36 => ?_)
  have o78_36 : E36 (78) = .inl (gA G 5, 15, .inr (.inr (.inr (.inr (va_up (va_up (va_up (va_up (va_up (va_up (va_up (va_up (fun _ => none) 0 (some (q6))) 1 (some (q10))) 2 (some (q14))) 3 (some (q18))) 4 (some (q22))) 5 (some (q26))) 6 (some (q30))) 7 (some (q34))))))) := hN36
  have o76_36 : E36 (76) = .inr (7, [.ref (q1), .int 0, .ref (q3), .int 0, .int 0]) := (hB36 (76) (by decide)).trans o76_35
  have hD36 : ∀ k, k ∈ [0] → E36 k = E k := fun k hk => (by have h9 := hdl k hk; exact (hB36 k (by omega)).trans (hD35 k hk))
  refine e_iincN (pc' := 45) (k := 1) (L' := [some (.ref (ad 76)), some (.int (nI 8))]) dX7_init_42 rfl rfl rfl (by decide) rfl ?_
  refine e_goto (tgt := 23) dX7_init_45 (by decide) ?_
  refine e_iload_n (pc' := 24) dX7_init_23 rfl rfl rfl ?_
  refine e_bipush (pc' := 26) (v := nI 15) dX7_init_24 rfl (by decide) ?_
  refine e_icmp_geN (pc' := 29) (tgt := 48) dX7_init_26 rfl (by decide) (by decide) (by decide) (fun h => absurd h (by decide)) (fun _ => ?_)
  refine e_aload_n (pc' := 30) dX7_init_29 rfl rfl rfl ?_
  refine a_get (pc' := 33) (a := 76) (ci := 7) (kf := 2) dX7_init_30 rfl (by decide) f76_35 o76_36 (by decide) (by decide) fl_X7_17 rfl ?_
  refine e_iload_n (pc' := 34) dX7_init_33 rfl rfl rfl ?_
  refine a_new (pc' := 37) (ci := 2) (fs := [.int 0, .int 0, .int 0, .int 0]) S36 dX7_init_34 rfl (by decide) cl_X7_15 inst_2 ini_2 zf_2 (show 10 + 1 ≤ 17 from by decide) (show 107 + 4 ≤ 135 from by decide) (fun q38 ad38 E38 S38 hA38 hq38 hB38 hN38 => ?_)
  have f76_38 : ad38 (76) = ad 76 := (hA38 (76) (by decide)).trans f76_35
  have f77_38 : ad38 (77) = q1 := (hA38 (77) (by decide)).trans f77_35
  have f78_38 : ad38 (78) = q3 := (hA38 (78) (by decide)).trans f78_35
  have f79_38 : ad38 (79) = q6 := (hA38 (79) (by decide)).trans f79_35
  have f80_38 : ad38 (80) = q10 := (hA38 (80) (by decide)).trans f80_35
  have f81_38 : ad38 (81) = q14 := (hA38 (81) (by decide)).trans f81_35
  have f82_38 : ad38 (82) = q18 := (hA38 (82) (by decide)).trans f82_35
  have f83_38 : ad38 (83) = q22 := (hA38 (83) (by decide)).trans f83_35
  have f84_38 : ad38 (84) = q26 := (hA38 (84) (by decide)).trans f84_35
  have f85_38 : ad38 (85) = q30 := (hA38 (85) (by decide)).trans f85_35
  have f86_38 : ad38 (86) = q34 := (hA38 (86) (by decide)).trans f86_35
  have hC38 : ∀ k, k < 77 → ad38 k = ad k := fun k hk => (hA38 k (by omega)).trans (hC35 k hk)
  have o76_38 : E38 (76) = .inr (7, [.ref (q1), .int 0, .ref (q3), .int 0, .int 0]) := (hB38 (76) (by decide)).trans o76_36
  have o78_38 : E38 (78) = .inl (gA G 5, 15, .inr (.inr (.inr (.inr (va_up (va_up (va_up (va_up (va_up (va_up (va_up (va_up (fun _ => none) 0 (some (q6))) 1 (some (q10))) 2 (some (q14))) 3 (some (q18))) 4 (some (q22))) 5 (some (q26))) 6 (some (q30))) 7 (some (q34))))))) := (hB38 (78) (by decide)).trans o78_36
  have hD38 : ∀ k, k ∈ [0] → E38 k = E k := fun k hk => (by have h9 := hdl k hk; exact (hB38 k (by omega)).trans (hD36 k hk))
  show EV _ _ _ _ (11, 111) 37 _ [.ref q38, .int (nI 8), .ref (q3)] (AW (88) ad38 E38)
  refine e_dup (pc' := 38) dX7_init_37 rfl rfl ?_
  refine a_invN (pc' := 41) (m' := mX2_init) (d := d) (As := []) (n' := 88) (by rw [← hq38]; exact k_cmd (a := 87) (n := 88) (dn := [78, 76, 0]) (by decide) (by decide) (by decide) rfl (by decide) S38 hN38) dX7_init_38 rfl rfl (Nat.le_of_ble_eq_true rfl) (fit_of (by omega) (by decide) (show 11 + 0 ≤ 17 from by decide) (show 111 + 0 ≤ 135 from by decide)) nl_X7_21 okX2_init rfl (fun ad39 E39 S39 hA39 hB39 => ?_)
  have f76_39 : ad39 (76) = ad 76 := (hA39 (76) (by decide)).trans f76_38
  have f77_39 : ad39 (77) = q1 := (hA39 (77) (by decide)).trans f77_38
  have f78_39 : ad39 (78) = q3 := (hA39 (78) (by decide)).trans f78_38
  have f79_39 : ad39 (79) = q6 := (hA39 (79) (by decide)).trans f79_38
  have f80_39 : ad39 (80) = q10 := (hA39 (80) (by decide)).trans f80_38
  have f81_39 : ad39 (81) = q14 := (hA39 (81) (by decide)).trans f81_38
  have f82_39 : ad39 (82) = q18 := (hA39 (82) (by decide)).trans f82_38
  have f83_39 : ad39 (83) = q22 := (hA39 (83) (by decide)).trans f83_38
  have f84_39 : ad39 (84) = q26 := (hA39 (84) (by decide)).trans f84_38
  have f85_39 : ad39 (85) = q30 := (hA39 (85) (by decide)).trans f85_38
  have f86_39 : ad39 (86) = q34 := (hA39 (86) (by decide)).trans f86_38
  have f87_39 : ad39 (87) = q38 := (hA39 (87) (by decide)).trans hq38
  have hC39 : ∀ k, k < 77 → ad39 k = ad k := fun k hk => (hA39 k (by omega)).trans (hC38 k hk)
  have o76_39 : E39 (76) = .inr (7, [.ref (q1), .int 0, .ref (q3), .int 0, .int 0]) := (hB39 (76) (by decide)).trans o76_38
  have o78_39 : E39 (78) = .inl (gA G 5, 15, .inr (.inr (.inr (.inr (va_up (va_up (va_up (va_up (va_up (va_up (va_up (va_up (fun _ => none) 0 (some (q6))) 1 (some (q10))) 2 (some (q14))) 3 (some (q18))) 4 (some (q22))) 5 (some (q26))) 6 (some (q30))) 7 (some (q34))))))) := (hB39 (78) (by decide)).trans o78_38
  have hD39 : ∀ k, k ∈ [0] → E39 k = E k := fun k hk => (by have h9 := hdl k hk; exact (hB39 k (List.mem_cons_of_mem _ (List.mem_cons_of_mem _ hk))).trans (hD38 k hk))
  show EV _ _ _ _ (11, 111) 41 _ [.ref (q38), .int (nI 8), .ref (q3)] (AW (88) ad39 E39)
  refine a_ast (pc' := 42) (a := 78) (t := 5) (N := 15) (j := 8) (qk := 87) (ci := 2) S39 dX7_init_41 rfl (by decide) (by decide) f78_39 o78_39 (by decide) rfl (by decide) f87_39 ((S39 87 (by decide) (by decide)).1.trans (show cellM G ad39 ZM 87 (sh 87) = .inr (2, objF ad39 (Z0 87) [none, none, none, none]) from rfl)) rfl (by decide) (by decide) (fun E40 S40 hN40 hB40 => ?_)
  have o78_40 : E40 (78) = .inl (gA G 5, 15, .inr (.inr (.inr (.inr (va_up (va_up (va_up (va_up (va_up (va_up (va_up (va_up (va_up (fun _ => none) 0 (some (q6))) 1 (some (q10))) 2 (some (q14))) 3 (some (q18))) 4 (some (q22))) 5 (some (q26))) 6 (some (q30))) 7 (some (q34))) 8 (some (q38))))))) := hN40
  have o76_40 : E40 (76) = .inr (7, [.ref (q1), .int 0, .ref (q3), .int 0, .int 0]) := (hB40 (76) (by decide)).trans o76_39
  have hD40 : ∀ k, k ∈ [0] → E40 k = E k := fun k hk => (by have h9 := hdl k hk; exact (hB40 k (by omega)).trans (hD39 k hk))
  refine e_iincN (pc' := 45) (k := 1) (L' := [some (.ref (ad 76)), some (.int (nI 9))]) dX7_init_42 rfl rfl rfl (by decide) rfl ?_
  refine e_goto (tgt := 23) dX7_init_45 (by decide) ?_
  refine e_iload_n (pc' := 24) dX7_init_23 rfl rfl rfl ?_
  refine e_bipush (pc' := 26) (v := nI 15) dX7_init_24 rfl (by decide) ?_
  refine e_icmp_geN (pc' := 29) (tgt := 48) dX7_init_26 rfl (by decide) (by decide) (by decide) (fun h => absurd h (by decide)) (fun _ => ?_)
  refine e_aload_n (pc' := 30) dX7_init_29 rfl rfl rfl ?_
  refine a_get (pc' := 33) (a := 76) (ci := 7) (kf := 2) dX7_init_30 rfl (by decide) f76_39 o76_40 (by decide) (by decide) fl_X7_17 rfl ?_
  refine e_iload_n (pc' := 34) dX7_init_33 rfl rfl rfl ?_
  refine a_new (pc' := 37) (ci := 2) (fs := [.int 0, .int 0, .int 0, .int 0]) S40 dX7_init_34 rfl (by decide) cl_X7_15 inst_2 ini_2 zf_2 (show 11 + 1 ≤ 17 from by decide) (show 111 + 4 ≤ 135 from by decide) (fun q42 ad42 E42 S42 hA42 hq42 hB42 hN42 => ?_)
  have f76_42 : ad42 (76) = ad 76 := (hA42 (76) (by decide)).trans f76_39
  have f77_42 : ad42 (77) = q1 := (hA42 (77) (by decide)).trans f77_39
  have f78_42 : ad42 (78) = q3 := (hA42 (78) (by decide)).trans f78_39
  have f79_42 : ad42 (79) = q6 := (hA42 (79) (by decide)).trans f79_39
  have f80_42 : ad42 (80) = q10 := (hA42 (80) (by decide)).trans f80_39
  have f81_42 : ad42 (81) = q14 := (hA42 (81) (by decide)).trans f81_39
  have f82_42 : ad42 (82) = q18 := (hA42 (82) (by decide)).trans f82_39
  have f83_42 : ad42 (83) = q22 := (hA42 (83) (by decide)).trans f83_39
  have f84_42 : ad42 (84) = q26 := (hA42 (84) (by decide)).trans f84_39
  have f85_42 : ad42 (85) = q30 := (hA42 (85) (by decide)).trans f85_39
  have f86_42 : ad42 (86) = q34 := (hA42 (86) (by decide)).trans f86_39
  have f87_42 : ad42 (87) = q38 := (hA42 (87) (by decide)).trans f87_39
  have hC42 : ∀ k, k < 77 → ad42 k = ad k := fun k hk => (hA42 k (by omega)).trans (hC39 k hk)
  have o76_42 : E42 (76) = .inr (7, [.ref (q1), .int 0, .ref (q3), .int 0, .int 0]) := (hB42 (76) (by decide)).trans o76_40
  have o78_42 : E42 (78) = .inl (gA G 5, 15, .inr (.inr (.inr (.inr (va_up (va_up (va_up (va_up (va_up (va_up (va_up (va_up (va_up (fun _ => none) 0 (some (q6))) 1 (some (q10))) 2 (some (q14))) 3 (some (q18))) 4 (some (q22))) 5 (some (q26))) 6 (some (q30))) 7 (some (q34))) 8 (some (q38))))))) := (hB42 (78) (by decide)).trans o78_40
  have hD42 : ∀ k, k ∈ [0] → E42 k = E k := fun k hk => (by have h9 := hdl k hk; exact (hB42 k (by omega)).trans (hD40 k hk))
  show EV _ _ _ _ (12, 115) 37 _ [.ref q42, .int (nI 9), .ref (q3)] (AW (89) ad42 E42)
  refine e_dup (pc' := 38) dX7_init_37 rfl rfl ?_
  refine a_invN (pc' := 41) (m' := mX2_init) (d := d) (As := []) (n' := 89) (by rw [← hq42]; exact k_cmd (a := 88) (n := 89) (dn := [78, 76, 0]) (by decide) (by decide) (by decide) rfl (by decide) S42 hN42) dX7_init_38 rfl rfl (Nat.le_of_ble_eq_true rfl) (fit_of (by omega) (by decide) (show 12 + 0 ≤ 17 from by decide) (show 115 + 0 ≤ 135 from by decide)) nl_X7_21 okX2_init rfl (fun ad43 E43 S43 hA43 hB43 => ?_)
  have f76_43 : ad43 (76) = ad 76 := (hA43 (76) (by decide)).trans f76_42
  have f77_43 : ad43 (77) = q1 := (hA43 (77) (by decide)).trans f77_42
  have f78_43 : ad43 (78) = q3 := (hA43 (78) (by decide)).trans f78_42
  have f79_43 : ad43 (79) = q6 := (hA43 (79) (by decide)).trans f79_42
  have f80_43 : ad43 (80) = q10 := (hA43 (80) (by decide)).trans f80_42
  have f81_43 : ad43 (81) = q14 := (hA43 (81) (by decide)).trans f81_42
  have f82_43 : ad43 (82) = q18 := (hA43 (82) (by decide)).trans f82_42
  have f83_43 : ad43 (83) = q22 := (hA43 (83) (by decide)).trans f83_42
  have f84_43 : ad43 (84) = q26 := (hA43 (84) (by decide)).trans f84_42
  have f85_43 : ad43 (85) = q30 := (hA43 (85) (by decide)).trans f85_42
  have f86_43 : ad43 (86) = q34 := (hA43 (86) (by decide)).trans f86_42
  have f87_43 : ad43 (87) = q38 := (hA43 (87) (by decide)).trans f87_42
  have f88_43 : ad43 (88) = q42 := (hA43 (88) (by decide)).trans hq42
  have hC43 : ∀ k, k < 77 → ad43 k = ad k := fun k hk => (hA43 k (by omega)).trans (hC42 k hk)
  have o76_43 : E43 (76) = .inr (7, [.ref (q1), .int 0, .ref (q3), .int 0, .int 0]) := (hB43 (76) (by decide)).trans o76_42
  have o78_43 : E43 (78) = .inl (gA G 5, 15, .inr (.inr (.inr (.inr (va_up (va_up (va_up (va_up (va_up (va_up (va_up (va_up (va_up (fun _ => none) 0 (some (q6))) 1 (some (q10))) 2 (some (q14))) 3 (some (q18))) 4 (some (q22))) 5 (some (q26))) 6 (some (q30))) 7 (some (q34))) 8 (some (q38))))))) := (hB43 (78) (by decide)).trans o78_42
  have hD43 : ∀ k, k ∈ [0] → E43 k = E k := fun k hk => (by have h9 := hdl k hk; exact (hB43 k (List.mem_cons_of_mem _ (List.mem_cons_of_mem _ hk))).trans (hD42 k hk))
  show EV _ _ _ _ (12, 115) 41 _ [.ref (q42), .int (nI 9), .ref (q3)] (AW (89) ad43 E43)
  refine a_ast (pc' := 42) (a := 78) (t := 5) (N := 15) (j := 9) (qk := 88) (ci := 2) S43 dX7_init_41 rfl (by decide) (by decide) f78_43 o78_43 (by decide) rfl (by decide) f88_43 ((S43 88 (by decide) (by decide)).1.trans (show cellM G ad43 ZM 88 (sh 88) = .inr (2, objF ad43 (Z0 88) [none, none, none, none]) from rfl)) rfl (by decide) (by decide) (fun E44 S44 hN44 hB44 => ?_)
  have o78_44 : E44 (78) = .inl (gA G 5, 15, .inr (.inr (.inr (.inr (va_up (va_up (va_up (va_up (va_up (va_up (va_up (va_up (va_up (va_up (fun _ => none) 0 (some (q6))) 1 (some (q10))) 2 (some (q14))) 3 (some (q18))) 4 (some (q22))) 5 (some (q26))) 6 (some (q30))) 7 (some (q34))) 8 (some (q38))) 9 (some (q42))))))) := hN44
  have o76_44 : E44 (76) = .inr (7, [.ref (q1), .int 0, .ref (q3), .int 0, .int 0]) := (hB44 (76) (by decide)).trans o76_43
  have hD44 : ∀ k, k ∈ [0] → E44 k = E k := fun k hk => (by have h9 := hdl k hk; exact (hB44 k (by omega)).trans (hD43 k hk))
  refine e_iincN (pc' := 45) (k := 1) (L' := [some (.ref (ad 76)), some (.int (nI 10))]) dX7_init_42 rfl rfl rfl (by decide) rfl ?_
  refine e_goto (tgt := 23) dX7_init_45 (by decide) ?_
  refine e_iload_n (pc' := 24) dX7_init_23 rfl rfl rfl ?_
  refine e_bipush (pc' := 26) (v := nI 15) dX7_init_24 rfl (by decide) ?_
  refine e_icmp_geN (pc' := 29) (tgt := 48) dX7_init_26 rfl (by decide) (by decide) (by decide) (fun h => absurd h (by decide)) (fun _ => ?_)
  refine e_aload_n (pc' := 30) dX7_init_29 rfl rfl rfl ?_
  refine a_get (pc' := 33) (a := 76) (ci := 7) (kf := 2) dX7_init_30 rfl (by decide) f76_43 o76_44 (by decide) (by decide) fl_X7_17 rfl ?_
  refine e_iload_n (pc' := 34) dX7_init_33 rfl rfl rfl ?_
  refine a_new (pc' := 37) (ci := 2) (fs := [.int 0, .int 0, .int 0, .int 0]) S44 dX7_init_34 rfl (by decide) cl_X7_15 inst_2 ini_2 zf_2 (show 12 + 1 ≤ 17 from by decide) (show 115 + 4 ≤ 135 from by decide) (fun q46 ad46 E46 S46 hA46 hq46 hB46 hN46 => ?_)
  have f76_46 : ad46 (76) = ad 76 := (hA46 (76) (by decide)).trans f76_43
  have f77_46 : ad46 (77) = q1 := (hA46 (77) (by decide)).trans f77_43
  have f78_46 : ad46 (78) = q3 := (hA46 (78) (by decide)).trans f78_43
  have f79_46 : ad46 (79) = q6 := (hA46 (79) (by decide)).trans f79_43
  have f80_46 : ad46 (80) = q10 := (hA46 (80) (by decide)).trans f80_43
  have f81_46 : ad46 (81) = q14 := (hA46 (81) (by decide)).trans f81_43
  have f82_46 : ad46 (82) = q18 := (hA46 (82) (by decide)).trans f82_43
  have f83_46 : ad46 (83) = q22 := (hA46 (83) (by decide)).trans f83_43
  have f84_46 : ad46 (84) = q26 := (hA46 (84) (by decide)).trans f84_43
  have f85_46 : ad46 (85) = q30 := (hA46 (85) (by decide)).trans f85_43
  have f86_46 : ad46 (86) = q34 := (hA46 (86) (by decide)).trans f86_43
  have f87_46 : ad46 (87) = q38 := (hA46 (87) (by decide)).trans f87_43
  have f88_46 : ad46 (88) = q42 := (hA46 (88) (by decide)).trans f88_43
  have hC46 : ∀ k, k < 77 → ad46 k = ad k := fun k hk => (hA46 k (by omega)).trans (hC43 k hk)
  have o76_46 : E46 (76) = .inr (7, [.ref (q1), .int 0, .ref (q3), .int 0, .int 0]) := (hB46 (76) (by decide)).trans o76_44
  have o78_46 : E46 (78) = .inl (gA G 5, 15, .inr (.inr (.inr (.inr (va_up (va_up (va_up (va_up (va_up (va_up (va_up (va_up (va_up (va_up (fun _ => none) 0 (some (q6))) 1 (some (q10))) 2 (some (q14))) 3 (some (q18))) 4 (some (q22))) 5 (some (q26))) 6 (some (q30))) 7 (some (q34))) 8 (some (q38))) 9 (some (q42))))))) := (hB46 (78) (by decide)).trans o78_44
  have hD46 : ∀ k, k ∈ [0] → E46 k = E k := fun k hk => (by have h9 := hdl k hk; exact (hB46 k (by omega)).trans (hD44 k hk))
  show EV _ _ _ _ (13, 119) 37 _ [.ref q46, .int (nI 10), .ref (q3)] (AW (90) ad46 E46)
  refine e_dup (pc' := 38) dX7_init_37 rfl rfl ?_
  refine a_invN (pc' := 41) (m' := mX2_init) (d := d) (As := []) (n' := 90) (by rw [← hq46]; exact k_cmd (a := 89) (n := 90) (dn := [78, 76, 0]) (by decide) (by decide) (by decide) rfl (by decide) S46 hN46) dX7_init_38 rfl rfl (Nat.le_of_ble_eq_true rfl) (fit_of (by omega) (by decide) (show 13 + 0 ≤ 17 from by decide) (show 119 + 0 ≤ 135 from by decide)) nl_X7_21 okX2_init rfl (fun ad47 E47 S47 hA47 hB47 => ?_)
  have f76_47 : ad47 (76) = ad 76 := (hA47 (76) (by decide)).trans f76_46
  have f77_47 : ad47 (77) = q1 := (hA47 (77) (by decide)).trans f77_46
  have f78_47 : ad47 (78) = q3 := (hA47 (78) (by decide)).trans f78_46
  have f79_47 : ad47 (79) = q6 := (hA47 (79) (by decide)).trans f79_46
  have f80_47 : ad47 (80) = q10 := (hA47 (80) (by decide)).trans f80_46
  have f81_47 : ad47 (81) = q14 := (hA47 (81) (by decide)).trans f81_46
  have f82_47 : ad47 (82) = q18 := (hA47 (82) (by decide)).trans f82_46
  have f83_47 : ad47 (83) = q22 := (hA47 (83) (by decide)).trans f83_46
  have f84_47 : ad47 (84) = q26 := (hA47 (84) (by decide)).trans f84_46
  have f85_47 : ad47 (85) = q30 := (hA47 (85) (by decide)).trans f85_46
  have f86_47 : ad47 (86) = q34 := (hA47 (86) (by decide)).trans f86_46
  have f87_47 : ad47 (87) = q38 := (hA47 (87) (by decide)).trans f87_46
  have f88_47 : ad47 (88) = q42 := (hA47 (88) (by decide)).trans f88_46
  have f89_47 : ad47 (89) = q46 := (hA47 (89) (by decide)).trans hq46
  have hC47 : ∀ k, k < 77 → ad47 k = ad k := fun k hk => (hA47 k (by omega)).trans (hC46 k hk)
  have o76_47 : E47 (76) = .inr (7, [.ref (q1), .int 0, .ref (q3), .int 0, .int 0]) := (hB47 (76) (by decide)).trans o76_46
  have o78_47 : E47 (78) = .inl (gA G 5, 15, .inr (.inr (.inr (.inr (va_up (va_up (va_up (va_up (va_up (va_up (va_up (va_up (va_up (va_up (fun _ => none) 0 (some (q6))) 1 (some (q10))) 2 (some (q14))) 3 (some (q18))) 4 (some (q22))) 5 (some (q26))) 6 (some (q30))) 7 (some (q34))) 8 (some (q38))) 9 (some (q42))))))) := (hB47 (78) (by decide)).trans o78_46
  have hD47 : ∀ k, k ∈ [0] → E47 k = E k := fun k hk => (by have h9 := hdl k hk; exact (hB47 k (List.mem_cons_of_mem _ (List.mem_cons_of_mem _ hk))).trans (hD46 k hk))
  show EV _ _ _ _ (13, 119) 41 _ [.ref (q46), .int (nI 10), .ref (q3)] (AW (90) ad47 E47)
  refine a_ast (pc' := 42) (a := 78) (t := 5) (N := 15) (j := 10) (qk := 89) (ci := 2) S47 dX7_init_41 rfl (by decide) (by decide) f78_47 o78_47 (by decide) rfl (by decide) f89_47 ((S47 89 (by decide) (by decide)).1.trans (show cellM G ad47 ZM 89 (sh 89) = .inr (2, objF ad47 (Z0 89) [none, none, none, none]) from rfl)) rfl (by decide) (by decide) (fun E48 S48 hN48 hB48 => ?_)
  have o78_48 : E48 (78) = .inl (gA G 5, 15, .inr (.inr (.inr (.inr (va_up (va_up (va_up (va_up (va_up (va_up (va_up (va_up (va_up (va_up (va_up (fun _ => none) 0 (some (q6))) 1 (some (q10))) 2 (some (q14))) 3 (some (q18))) 4 (some (q22))) 5 (some (q26))) 6 (some (q30))) 7 (some (q34))) 8 (some (q38))) 9 (some (q42))) 10 (some (q46))))))) := hN48
  have o76_48 : E48 (76) = .inr (7, [.ref (q1), .int 0, .ref (q3), .int 0, .int 0]) := (hB48 (76) (by decide)).trans o76_47
  have hD48 : ∀ k, k ∈ [0] → E48 k = E k := fun k hk => (by have h9 := hdl k hk; exact (hB48 k (by omega)).trans (hD47 k hk))
  refine e_iincN (pc' := 45) (k := 1) (L' := [some (.ref (ad 76)), some (.int (nI 11))]) dX7_init_42 rfl rfl rfl (by decide) rfl ?_
  refine e_goto (tgt := 23) dX7_init_45 (by decide) ?_
  refine e_iload_n (pc' := 24) dX7_init_23 rfl rfl rfl ?_
  refine e_bipush (pc' := 26) (v := nI 15) dX7_init_24 rfl (by decide) ?_
  refine e_icmp_geN (pc' := 29) (tgt := 48) dX7_init_26 rfl (by decide) (by decide) (by decide) (fun h => absurd h (by decide)) (fun _ => ?_)
  refine e_aload_n (pc' := 30) dX7_init_29 rfl rfl rfl ?_
  refine a_get (pc' := 33) (a := 76) (ci := 7) (kf := 2) dX7_init_30 rfl (by decide) f76_47 o76_48 (by decide) (by decide) fl_X7_17 rfl ?_
  refine e_iload_n (pc' := 34) dX7_init_33 rfl rfl rfl ?_
  refine a_new (pc' := 37) (ci := 2) (fs := [.int 0, .int 0, .int 0, .int 0]) S48 dX7_init_34 rfl (by decide) cl_X7_15 inst_2 ini_2 zf_2 (show 13 + 1 ≤ 17 from by decide) (show 119 + 4 ≤ 135 from by decide) (fun q50 ad50 E50 S50 hA50 hq50 hB50 hN50 => ?_)
  have f76_50 : ad50 (76) = ad 76 := (hA50 (76) (by decide)).trans f76_47
  have f77_50 : ad50 (77) = q1 := (hA50 (77) (by decide)).trans f77_47
  have f78_50 : ad50 (78) = q3 := (hA50 (78) (by decide)).trans f78_47
  have f79_50 : ad50 (79) = q6 := (hA50 (79) (by decide)).trans f79_47
  have f80_50 : ad50 (80) = q10 := (hA50 (80) (by decide)).trans f80_47
  have f81_50 : ad50 (81) = q14 := (hA50 (81) (by decide)).trans f81_47
  have f82_50 : ad50 (82) = q18 := (hA50 (82) (by decide)).trans f82_47
  have f83_50 : ad50 (83) = q22 := (hA50 (83) (by decide)).trans f83_47
  have f84_50 : ad50 (84) = q26 := (hA50 (84) (by decide)).trans f84_47
  have f85_50 : ad50 (85) = q30 := (hA50 (85) (by decide)).trans f85_47
  have f86_50 : ad50 (86) = q34 := (hA50 (86) (by decide)).trans f86_47
  have f87_50 : ad50 (87) = q38 := (hA50 (87) (by decide)).trans f87_47
  have f88_50 : ad50 (88) = q42 := (hA50 (88) (by decide)).trans f88_47
  have f89_50 : ad50 (89) = q46 := (hA50 (89) (by decide)).trans f89_47
  have hC50 : ∀ k, k < 77 → ad50 k = ad k := fun k hk => (hA50 k (by omega)).trans (hC47 k hk)
  have o76_50 : E50 (76) = .inr (7, [.ref (q1), .int 0, .ref (q3), .int 0, .int 0]) := (hB50 (76) (by decide)).trans o76_48
  have o78_50 : E50 (78) = .inl (gA G 5, 15, .inr (.inr (.inr (.inr (va_up (va_up (va_up (va_up (va_up (va_up (va_up (va_up (va_up (va_up (va_up (fun _ => none) 0 (some (q6))) 1 (some (q10))) 2 (some (q14))) 3 (some (q18))) 4 (some (q22))) 5 (some (q26))) 6 (some (q30))) 7 (some (q34))) 8 (some (q38))) 9 (some (q42))) 10 (some (q46))))))) := (hB50 (78) (by decide)).trans o78_48
  have hD50 : ∀ k, k ∈ [0] → E50 k = E k := fun k hk => (by have h9 := hdl k hk; exact (hB50 k (by omega)).trans (hD48 k hk))
  show EV _ _ _ _ (14, 123) 37 _ [.ref q50, .int (nI 11), .ref (q3)] (AW (91) ad50 E50)
  refine e_dup (pc' := 38) dX7_init_37 rfl rfl ?_
  refine a_invN (pc' := 41) (m' := mX2_init) (d := d) (As := []) (n' := 91) (by rw [← hq50]; exact k_cmd (a := 90) (n := 91) (dn := [78, 76, 0]) (by decide) (by decide) (by decide) rfl (by decide) S50 hN50) dX7_init_38 rfl rfl (Nat.le_of_ble_eq_true rfl) (fit_of (by omega) (by decide) (show 14 + 0 ≤ 17 from by decide) (show 123 + 0 ≤ 135 from by decide)) nl_X7_21 okX2_init rfl (fun ad51 E51 S51 hA51 hB51 => ?_)
  have f76_51 : ad51 (76) = ad 76 := (hA51 (76) (by decide)).trans f76_50
  have f77_51 : ad51 (77) = q1 := (hA51 (77) (by decide)).trans f77_50
  have f78_51 : ad51 (78) = q3 := (hA51 (78) (by decide)).trans f78_50
  have f79_51 : ad51 (79) = q6 := (hA51 (79) (by decide)).trans f79_50
  have f80_51 : ad51 (80) = q10 := (hA51 (80) (by decide)).trans f80_50
  have f81_51 : ad51 (81) = q14 := (hA51 (81) (by decide)).trans f81_50
  have f82_51 : ad51 (82) = q18 := (hA51 (82) (by decide)).trans f82_50
  have f83_51 : ad51 (83) = q22 := (hA51 (83) (by decide)).trans f83_50
  have f84_51 : ad51 (84) = q26 := (hA51 (84) (by decide)).trans f84_50
  have f85_51 : ad51 (85) = q30 := (hA51 (85) (by decide)).trans f85_50
  have f86_51 : ad51 (86) = q34 := (hA51 (86) (by decide)).trans f86_50
  have f87_51 : ad51 (87) = q38 := (hA51 (87) (by decide)).trans f87_50
  have f88_51 : ad51 (88) = q42 := (hA51 (88) (by decide)).trans f88_50
  have f89_51 : ad51 (89) = q46 := (hA51 (89) (by decide)).trans f89_50
  have f90_51 : ad51 (90) = q50 := (hA51 (90) (by decide)).trans hq50
  have hC51 : ∀ k, k < 77 → ad51 k = ad k := fun k hk => (hA51 k (by omega)).trans (hC50 k hk)
  have o76_51 : E51 (76) = .inr (7, [.ref (q1), .int 0, .ref (q3), .int 0, .int 0]) := (hB51 (76) (by decide)).trans o76_50
  have o78_51 : E51 (78) = .inl (gA G 5, 15, .inr (.inr (.inr (.inr (va_up (va_up (va_up (va_up (va_up (va_up (va_up (va_up (va_up (va_up (va_up (fun _ => none) 0 (some (q6))) 1 (some (q10))) 2 (some (q14))) 3 (some (q18))) 4 (some (q22))) 5 (some (q26))) 6 (some (q30))) 7 (some (q34))) 8 (some (q38))) 9 (some (q42))) 10 (some (q46))))))) := (hB51 (78) (by decide)).trans o78_50
  have hD51 : ∀ k, k ∈ [0] → E51 k = E k := fun k hk => (by have h9 := hdl k hk; exact (hB51 k (List.mem_cons_of_mem _ (List.mem_cons_of_mem _ hk))).trans (hD50 k hk))
  show EV _ _ _ _ (14, 123) 41 _ [.ref (q50), .int (nI 11), .ref (q3)] (AW (91) ad51 E51)
  refine a_ast (pc' := 42) (a := 78) (t := 5) (N := 15) (j := 11) (qk := 90) (ci := 2) S51 dX7_init_41 rfl (by decide) (by decide) f78_51 o78_51 (by decide) rfl (by decide) f90_51 ((S51 90 (by decide) (by decide)).1.trans (show cellM G ad51 ZM 90 (sh 90) = .inr (2, objF ad51 (Z0 90) [none, none, none, none]) from rfl)) rfl (by decide) (by decide) (fun E52 S52 hN52 hB52 => ?_)
  have o78_52 : E52 (78) = .inl (gA G 5, 15, .inr (.inr (.inr (.inr (va_up (va_up (va_up (va_up (va_up (va_up (va_up (va_up (va_up (va_up (va_up (va_up (fun _ => none) 0 (some (q6))) 1 (some (q10))) 2 (some (q14))) 3 (some (q18))) 4 (some (q22))) 5 (some (q26))) 6 (some (q30))) 7 (some (q34))) 8 (some (q38))) 9 (some (q42))) 10 (some (q46))) 11 (some (q50))))))) := hN52
  have o76_52 : E52 (76) = .inr (7, [.ref (q1), .int 0, .ref (q3), .int 0, .int 0]) := (hB52 (76) (by decide)).trans o76_51
  have hD52 : ∀ k, k ∈ [0] → E52 k = E k := fun k hk => (by have h9 := hdl k hk; exact (hB52 k (by omega)).trans (hD51 k hk))
  refine e_iincN (pc' := 45) (k := 1) (L' := [some (.ref (ad 76)), some (.int (nI 12))]) dX7_init_42 rfl rfl rfl (by decide) rfl ?_
  refine e_goto (tgt := 23) dX7_init_45 (by decide) ?_
  refine e_iload_n (pc' := 24) dX7_init_23 rfl rfl rfl ?_
  refine e_bipush (pc' := 26) (v := nI 15) dX7_init_24 rfl (by decide) ?_
  refine e_icmp_geN (pc' := 29) (tgt := 48) dX7_init_26 rfl (by decide) (by decide) (by decide) (fun h => absurd h (by decide)) (fun _ => ?_)
  refine e_aload_n (pc' := 30) dX7_init_29 rfl rfl rfl ?_
  refine a_get (pc' := 33) (a := 76) (ci := 7) (kf := 2) dX7_init_30 rfl (by decide) f76_51 o76_52 (by decide) (by decide) fl_X7_17 rfl ?_
  refine e_iload_n (pc' := 34) dX7_init_33 rfl rfl rfl ?_
  refine a_new (pc' := 37) (ci := 2) (fs := [.int 0, .int 0, .int 0, .int 0]) S52 dX7_init_34 rfl (by decide) cl_X7_15 inst_2 ini_2 zf_2 (show 14 + 1 ≤ 17 from by decide) (show 123 + 4 ≤ 135 from by decide) (fun q54 ad54 E54 S54 hA54 hq54 hB54 hN54 => ?_)
  have f76_54 : ad54 (76) = ad 76 := (hA54 (76) (by decide)).trans f76_51
  have f77_54 : ad54 (77) = q1 := (hA54 (77) (by decide)).trans f77_51
  have f78_54 : ad54 (78) = q3 := (hA54 (78) (by decide)).trans f78_51
  have f79_54 : ad54 (79) = q6 := (hA54 (79) (by decide)).trans f79_51
  have f80_54 : ad54 (80) = q10 := (hA54 (80) (by decide)).trans f80_51
  have f81_54 : ad54 (81) = q14 := (hA54 (81) (by decide)).trans f81_51
  have f82_54 : ad54 (82) = q18 := (hA54 (82) (by decide)).trans f82_51
  have f83_54 : ad54 (83) = q22 := (hA54 (83) (by decide)).trans f83_51
  have f84_54 : ad54 (84) = q26 := (hA54 (84) (by decide)).trans f84_51
  have f85_54 : ad54 (85) = q30 := (hA54 (85) (by decide)).trans f85_51
  have f86_54 : ad54 (86) = q34 := (hA54 (86) (by decide)).trans f86_51
  have f87_54 : ad54 (87) = q38 := (hA54 (87) (by decide)).trans f87_51
  have f88_54 : ad54 (88) = q42 := (hA54 (88) (by decide)).trans f88_51
  have f89_54 : ad54 (89) = q46 := (hA54 (89) (by decide)).trans f89_51
  have f90_54 : ad54 (90) = q50 := (hA54 (90) (by decide)).trans f90_51
  have hC54 : ∀ k, k < 77 → ad54 k = ad k := fun k hk => (hA54 k (by omega)).trans (hC51 k hk)
  have o76_54 : E54 (76) = .inr (7, [.ref (q1), .int 0, .ref (q3), .int 0, .int 0]) := (hB54 (76) (by decide)).trans o76_52
  have o78_54 : E54 (78) = .inl (gA G 5, 15, .inr (.inr (.inr (.inr (va_up (va_up (va_up (va_up (va_up (va_up (va_up (va_up (va_up (va_up (va_up (va_up (fun _ => none) 0 (some (q6))) 1 (some (q10))) 2 (some (q14))) 3 (some (q18))) 4 (some (q22))) 5 (some (q26))) 6 (some (q30))) 7 (some (q34))) 8 (some (q38))) 9 (some (q42))) 10 (some (q46))) 11 (some (q50))))))) := (hB54 (78) (by decide)).trans o78_52
  have hD54 : ∀ k, k ∈ [0] → E54 k = E k := fun k hk => (by have h9 := hdl k hk; exact (hB54 k (by omega)).trans (hD52 k hk))
  show EV _ _ _ _ (15, 127) 37 _ [.ref q54, .int (nI 12), .ref (q3)] (AW (92) ad54 E54)
  refine e_dup (pc' := 38) dX7_init_37 rfl rfl ?_
  refine a_invN (pc' := 41) (m' := mX2_init) (d := d) (As := []) (n' := 92) (by rw [← hq54]; exact k_cmd (a := 91) (n := 92) (dn := [78, 76, 0]) (by decide) (by decide) (by decide) rfl (by decide) S54 hN54) dX7_init_38 rfl rfl (Nat.le_of_ble_eq_true rfl) (fit_of (by omega) (by decide) (show 15 + 0 ≤ 17 from by decide) (show 127 + 0 ≤ 135 from by decide)) nl_X7_21 okX2_init rfl (fun ad55 E55 S55 hA55 hB55 => ?_)
  have f76_55 : ad55 (76) = ad 76 := (hA55 (76) (by decide)).trans f76_54
  have f77_55 : ad55 (77) = q1 := (hA55 (77) (by decide)).trans f77_54
  have f78_55 : ad55 (78) = q3 := (hA55 (78) (by decide)).trans f78_54
  have f79_55 : ad55 (79) = q6 := (hA55 (79) (by decide)).trans f79_54
  have f80_55 : ad55 (80) = q10 := (hA55 (80) (by decide)).trans f80_54
  have f81_55 : ad55 (81) = q14 := (hA55 (81) (by decide)).trans f81_54
  have f82_55 : ad55 (82) = q18 := (hA55 (82) (by decide)).trans f82_54
  have f83_55 : ad55 (83) = q22 := (hA55 (83) (by decide)).trans f83_54
  have f84_55 : ad55 (84) = q26 := (hA55 (84) (by decide)).trans f84_54
  have f85_55 : ad55 (85) = q30 := (hA55 (85) (by decide)).trans f85_54
  have f86_55 : ad55 (86) = q34 := (hA55 (86) (by decide)).trans f86_54
  have f87_55 : ad55 (87) = q38 := (hA55 (87) (by decide)).trans f87_54
  have f88_55 : ad55 (88) = q42 := (hA55 (88) (by decide)).trans f88_54
  have f89_55 : ad55 (89) = q46 := (hA55 (89) (by decide)).trans f89_54
  have f90_55 : ad55 (90) = q50 := (hA55 (90) (by decide)).trans f90_54
  have f91_55 : ad55 (91) = q54 := (hA55 (91) (by decide)).trans hq54
  have hC55 : ∀ k, k < 77 → ad55 k = ad k := fun k hk => (hA55 k (by omega)).trans (hC54 k hk)
  have o76_55 : E55 (76) = .inr (7, [.ref (q1), .int 0, .ref (q3), .int 0, .int 0]) := (hB55 (76) (by decide)).trans o76_54
  have o78_55 : E55 (78) = .inl (gA G 5, 15, .inr (.inr (.inr (.inr (va_up (va_up (va_up (va_up (va_up (va_up (va_up (va_up (va_up (va_up (va_up (va_up (fun _ => none) 0 (some (q6))) 1 (some (q10))) 2 (some (q14))) 3 (some (q18))) 4 (some (q22))) 5 (some (q26))) 6 (some (q30))) 7 (some (q34))) 8 (some (q38))) 9 (some (q42))) 10 (some (q46))) 11 (some (q50))))))) := (hB55 (78) (by decide)).trans o78_54
  have hD55 : ∀ k, k ∈ [0] → E55 k = E k := fun k hk => (by have h9 := hdl k hk; exact (hB55 k (List.mem_cons_of_mem _ (List.mem_cons_of_mem _ hk))).trans (hD54 k hk))
  show EV _ _ _ _ (15, 127) 41 _ [.ref (q54), .int (nI 12), .ref (q3)] (AW (92) ad55 E55)
  refine a_ast (pc' := 42) (a := 78) (t := 5) (N := 15) (j := 12) (qk := 91) (ci := 2) S55 dX7_init_41 rfl (by decide) (by decide) f78_55 o78_55 (by decide) rfl (by decide) f91_55 ((S55 91 (by decide) (by decide)).1.trans (show cellM G ad55 ZM 91 (sh 91) = .inr (2, objF ad55 (Z0 91) [none, none, none, none]) from rfl)) rfl (by decide) (by decide) (fun E56 S56 hN56 hB56 => ?_)
  have o78_56 : E56 (78) = .inl (gA G 5, 15, .inr (.inr (.inr (.inr (va_up (va_up (va_up (va_up (va_up (va_up (va_up (va_up (va_up (va_up (va_up (va_up (va_up (fun _ => none) 0 (some (q6))) 1 (some (q10))) 2 (some (q14))) 3 (some (q18))) 4 (some (q22))) 5 (some (q26))) 6 (some (q30))) 7 (some (q34))) 8 (some (q38))) 9 (some (q42))) 10 (some (q46))) 11 (some (q50))) 12 (some (q54))))))) := hN56
  have o76_56 : E56 (76) = .inr (7, [.ref (q1), .int 0, .ref (q3), .int 0, .int 0]) := (hB56 (76) (by decide)).trans o76_55
  have hD56 : ∀ k, k ∈ [0] → E56 k = E k := fun k hk => (by have h9 := hdl k hk; exact (hB56 k (by omega)).trans (hD55 k hk))
  refine e_iincN (pc' := 45) (k := 1) (L' := [some (.ref (ad 76)), some (.int (nI 13))]) dX7_init_42 rfl rfl rfl (by decide) rfl ?_
  refine e_goto (tgt := 23) dX7_init_45 (by decide) ?_
  refine e_iload_n (pc' := 24) dX7_init_23 rfl rfl rfl ?_
  refine e_bipush (pc' := 26) (v := nI 15) dX7_init_24 rfl (by decide) ?_
  refine e_icmp_geN (pc' := 29) (tgt := 48) dX7_init_26 rfl (by decide) (by decide) (by decide) (fun h => absurd h (by decide)) (fun _ => ?_)
  refine e_aload_n (pc' := 30) dX7_init_29 rfl rfl rfl ?_
  refine a_get (pc' := 33) (a := 76) (ci := 7) (kf := 2) dX7_init_30 rfl (by decide) f76_55 o76_56 (by decide) (by decide) fl_X7_17 rfl ?_
  refine e_iload_n (pc' := 34) dX7_init_33 rfl rfl rfl ?_
  refine a_new (pc' := 37) (ci := 2) (fs := [.int 0, .int 0, .int 0, .int 0]) S56 dX7_init_34 rfl (by decide) cl_X7_15 inst_2 ini_2 zf_2 (show 15 + 1 ≤ 17 from by decide) (show 127 + 4 ≤ 135 from by decide) (fun q58 ad58 E58 S58 hA58 hq58 hB58 hN58 => ?_)
  have f76_58 : ad58 (76) = ad 76 := (hA58 (76) (by decide)).trans f76_55
  have f77_58 : ad58 (77) = q1 := (hA58 (77) (by decide)).trans f77_55
  have f78_58 : ad58 (78) = q3 := (hA58 (78) (by decide)).trans f78_55
  have f79_58 : ad58 (79) = q6 := (hA58 (79) (by decide)).trans f79_55
  have f80_58 : ad58 (80) = q10 := (hA58 (80) (by decide)).trans f80_55
  have f81_58 : ad58 (81) = q14 := (hA58 (81) (by decide)).trans f81_55
  have f82_58 : ad58 (82) = q18 := (hA58 (82) (by decide)).trans f82_55
  have f83_58 : ad58 (83) = q22 := (hA58 (83) (by decide)).trans f83_55
  have f84_58 : ad58 (84) = q26 := (hA58 (84) (by decide)).trans f84_55
  have f85_58 : ad58 (85) = q30 := (hA58 (85) (by decide)).trans f85_55
  have f86_58 : ad58 (86) = q34 := (hA58 (86) (by decide)).trans f86_55
  have f87_58 : ad58 (87) = q38 := (hA58 (87) (by decide)).trans f87_55
  have f88_58 : ad58 (88) = q42 := (hA58 (88) (by decide)).trans f88_55
  have f89_58 : ad58 (89) = q46 := (hA58 (89) (by decide)).trans f89_55
  have f90_58 : ad58 (90) = q50 := (hA58 (90) (by decide)).trans f90_55
  have f91_58 : ad58 (91) = q54 := (hA58 (91) (by decide)).trans f91_55
  have hC58 : ∀ k, k < 77 → ad58 k = ad k := fun k hk => (hA58 k (by omega)).trans (hC55 k hk)
  have o76_58 : E58 (76) = .inr (7, [.ref (q1), .int 0, .ref (q3), .int 0, .int 0]) := (hB58 (76) (by decide)).trans o76_56
  have o78_58 : E58 (78) = .inl (gA G 5, 15, .inr (.inr (.inr (.inr (va_up (va_up (va_up (va_up (va_up (va_up (va_up (va_up (va_up (va_up (va_up (va_up (va_up (fun _ => none) 0 (some (q6))) 1 (some (q10))) 2 (some (q14))) 3 (some (q18))) 4 (some (q22))) 5 (some (q26))) 6 (some (q30))) 7 (some (q34))) 8 (some (q38))) 9 (some (q42))) 10 (some (q46))) 11 (some (q50))) 12 (some (q54))))))) := (hB58 (78) (by decide)).trans o78_56
  have hD58 : ∀ k, k ∈ [0] → E58 k = E k := fun k hk => (by have h9 := hdl k hk; exact (hB58 k (by omega)).trans (hD56 k hk))
  show EV _ _ _ _ (16, 131) 37 _ [.ref q58, .int (nI 13), .ref (q3)] (AW (93) ad58 E58)
  refine e_dup (pc' := 38) dX7_init_37 rfl rfl ?_
  refine a_invN (pc' := 41) (m' := mX2_init) (d := d) (As := []) (n' := 93) (by rw [← hq58]; exact k_cmd (a := 92) (n := 93) (dn := [78, 76, 0]) (by decide) (by decide) (by decide) rfl (by decide) S58 hN58) dX7_init_38 rfl rfl (Nat.le_of_ble_eq_true rfl) (fit_of (by omega) (by decide) (show 16 + 0 ≤ 17 from by decide) (show 131 + 0 ≤ 135 from by decide)) nl_X7_21 okX2_init rfl (fun ad59 E59 S59 hA59 hB59 => ?_)
  have f76_59 : ad59 (76) = ad 76 := (hA59 (76) (by decide)).trans f76_58
  have f77_59 : ad59 (77) = q1 := (hA59 (77) (by decide)).trans f77_58
  have f78_59 : ad59 (78) = q3 := (hA59 (78) (by decide)).trans f78_58
  have f79_59 : ad59 (79) = q6 := (hA59 (79) (by decide)).trans f79_58
  have f80_59 : ad59 (80) = q10 := (hA59 (80) (by decide)).trans f80_58
  have f81_59 : ad59 (81) = q14 := (hA59 (81) (by decide)).trans f81_58
  have f82_59 : ad59 (82) = q18 := (hA59 (82) (by decide)).trans f82_58
  have f83_59 : ad59 (83) = q22 := (hA59 (83) (by decide)).trans f83_58
  have f84_59 : ad59 (84) = q26 := (hA59 (84) (by decide)).trans f84_58
  have f85_59 : ad59 (85) = q30 := (hA59 (85) (by decide)).trans f85_58
  have f86_59 : ad59 (86) = q34 := (hA59 (86) (by decide)).trans f86_58
  have f87_59 : ad59 (87) = q38 := (hA59 (87) (by decide)).trans f87_58
  have f88_59 : ad59 (88) = q42 := (hA59 (88) (by decide)).trans f88_58
  have f89_59 : ad59 (89) = q46 := (hA59 (89) (by decide)).trans f89_58
  have f90_59 : ad59 (90) = q50 := (hA59 (90) (by decide)).trans f90_58
  have f91_59 : ad59 (91) = q54 := (hA59 (91) (by decide)).trans f91_58
  have f92_59 : ad59 (92) = q58 := (hA59 (92) (by decide)).trans hq58
  have hC59 : ∀ k, k < 77 → ad59 k = ad k := fun k hk => (hA59 k (by omega)).trans (hC58 k hk)
  have o76_59 : E59 (76) = .inr (7, [.ref (q1), .int 0, .ref (q3), .int 0, .int 0]) := (hB59 (76) (by decide)).trans o76_58
  have o78_59 : E59 (78) = .inl (gA G 5, 15, .inr (.inr (.inr (.inr (va_up (va_up (va_up (va_up (va_up (va_up (va_up (va_up (va_up (va_up (va_up (va_up (va_up (fun _ => none) 0 (some (q6))) 1 (some (q10))) 2 (some (q14))) 3 (some (q18))) 4 (some (q22))) 5 (some (q26))) 6 (some (q30))) 7 (some (q34))) 8 (some (q38))) 9 (some (q42))) 10 (some (q46))) 11 (some (q50))) 12 (some (q54))))))) := (hB59 (78) (by decide)).trans o78_58
  have hD59 : ∀ k, k ∈ [0] → E59 k = E k := fun k hk => (by have h9 := hdl k hk; exact (hB59 k (List.mem_cons_of_mem _ (List.mem_cons_of_mem _ hk))).trans (hD58 k hk))
  show EV _ _ _ _ (16, 131) 41 _ [.ref (q58), .int (nI 13), .ref (q3)] (AW (93) ad59 E59)
  refine a_ast (pc' := 42) (a := 78) (t := 5) (N := 15) (j := 13) (qk := 92) (ci := 2) S59 dX7_init_41 rfl (by decide) (by decide) f78_59 o78_59 (by decide) rfl (by decide) f92_59 ((S59 92 (by decide) (by decide)).1.trans (show cellM G ad59 ZM 92 (sh 92) = .inr (2, objF ad59 (Z0 92) [none, none, none, none]) from rfl)) rfl (by decide) (by decide) (fun E60 S60 hN60 hB60 => ?_)
  have o78_60 : E60 (78) = .inl (gA G 5, 15, .inr (.inr (.inr (.inr (va_up (va_up (va_up (va_up (va_up (va_up (va_up (va_up (va_up (va_up (va_up (va_up (va_up (va_up (fun _ => none) 0 (some (q6))) 1 (some (q10))) 2 (some (q14))) 3 (some (q18))) 4 (some (q22))) 5 (some (q26))) 6 (some (q30))) 7 (some (q34))) 8 (some (q38))) 9 (some (q42))) 10 (some (q46))) 11 (some (q50))) 12 (some (q54))) 13 (some (q58))))))) := hN60
  have o76_60 : E60 (76) = .inr (7, [.ref (q1), .int 0, .ref (q3), .int 0, .int 0]) := (hB60 (76) (by decide)).trans o76_59
  have hD60 : ∀ k, k ∈ [0] → E60 k = E k := fun k hk => (by have h9 := hdl k hk; exact (hB60 k (by omega)).trans (hD59 k hk))
  refine e_iincN (pc' := 45) (k := 1) (L' := [some (.ref (ad 76)), some (.int (nI 14))]) dX7_init_42 rfl rfl rfl (by decide) rfl ?_
  refine e_goto (tgt := 23) dX7_init_45 (by decide) ?_
  refine e_iload_n (pc' := 24) dX7_init_23 rfl rfl rfl ?_
  refine e_bipush (pc' := 26) (v := nI 15) dX7_init_24 rfl (by decide) ?_
  refine e_icmp_geN (pc' := 29) (tgt := 48) dX7_init_26 rfl (by decide) (by decide) (by decide) (fun h => absurd h (by decide)) (fun _ => ?_)
  refine e_aload_n (pc' := 30) dX7_init_29 rfl rfl rfl ?_
  refine a_get (pc' := 33) (a := 76) (ci := 7) (kf := 2) dX7_init_30 rfl (by decide) f76_59 o76_60 (by decide) (by decide) fl_X7_17 rfl ?_
  refine e_iload_n (pc' := 34) dX7_init_33 rfl rfl rfl ?_
  refine a_new (pc' := 37) (ci := 2) (fs := [.int 0, .int 0, .int 0, .int 0]) S60 dX7_init_34 rfl (by decide) cl_X7_15 inst_2 ini_2 zf_2 (show 16 + 1 ≤ 17 from by decide) (show 131 + 4 ≤ 135 from by decide) (fun q62 ad62 E62 S62 hA62 hq62 hB62 hN62 => ?_)
  have f76_62 : ad62 (76) = ad 76 := (hA62 (76) (by decide)).trans f76_59
  have f77_62 : ad62 (77) = q1 := (hA62 (77) (by decide)).trans f77_59
  have f78_62 : ad62 (78) = q3 := (hA62 (78) (by decide)).trans f78_59
  have f79_62 : ad62 (79) = q6 := (hA62 (79) (by decide)).trans f79_59
  have f80_62 : ad62 (80) = q10 := (hA62 (80) (by decide)).trans f80_59
  have f81_62 : ad62 (81) = q14 := (hA62 (81) (by decide)).trans f81_59
  have f82_62 : ad62 (82) = q18 := (hA62 (82) (by decide)).trans f82_59
  have f83_62 : ad62 (83) = q22 := (hA62 (83) (by decide)).trans f83_59
  have f84_62 : ad62 (84) = q26 := (hA62 (84) (by decide)).trans f84_59
  have f85_62 : ad62 (85) = q30 := (hA62 (85) (by decide)).trans f85_59
  have f86_62 : ad62 (86) = q34 := (hA62 (86) (by decide)).trans f86_59
  have f87_62 : ad62 (87) = q38 := (hA62 (87) (by decide)).trans f87_59
  have f88_62 : ad62 (88) = q42 := (hA62 (88) (by decide)).trans f88_59
  have f89_62 : ad62 (89) = q46 := (hA62 (89) (by decide)).trans f89_59
  have f90_62 : ad62 (90) = q50 := (hA62 (90) (by decide)).trans f90_59
  have f91_62 : ad62 (91) = q54 := (hA62 (91) (by decide)).trans f91_59
  have f92_62 : ad62 (92) = q58 := (hA62 (92) (by decide)).trans f92_59
  have hC62 : ∀ k, k < 77 → ad62 k = ad k := fun k hk => (hA62 k (by omega)).trans (hC59 k hk)
  have o76_62 : E62 (76) = .inr (7, [.ref (q1), .int 0, .ref (q3), .int 0, .int 0]) := (hB62 (76) (by decide)).trans o76_60
  have o78_62 : E62 (78) = .inl (gA G 5, 15, .inr (.inr (.inr (.inr (va_up (va_up (va_up (va_up (va_up (va_up (va_up (va_up (va_up (va_up (va_up (va_up (va_up (va_up (fun _ => none) 0 (some (q6))) 1 (some (q10))) 2 (some (q14))) 3 (some (q18))) 4 (some (q22))) 5 (some (q26))) 6 (some (q30))) 7 (some (q34))) 8 (some (q38))) 9 (some (q42))) 10 (some (q46))) 11 (some (q50))) 12 (some (q54))) 13 (some (q58))))))) := (hB62 (78) (by decide)).trans o78_60
  have hD62 : ∀ k, k ∈ [0] → E62 k = E k := fun k hk => (by have h9 := hdl k hk; exact (hB62 k (by omega)).trans (hD60 k hk))
  show EV _ _ _ _ (17, 135) 37 _ [.ref q62, .int (nI 14), .ref (q3)] (AW (94) ad62 E62)
  refine e_dup (pc' := 38) dX7_init_37 rfl rfl ?_
  refine a_invN (pc' := 41) (m' := mX2_init) (d := d) (As := []) (n' := 94) (by rw [← hq62]; exact k_cmd (a := 93) (n := 94) (dn := [78, 76, 0]) (by decide) (by decide) (by decide) rfl (by decide) S62 hN62) dX7_init_38 rfl rfl (Nat.le_of_ble_eq_true rfl) (fit_of (by omega) (by decide) (show 17 + 0 ≤ 17 from by decide) (show 135 + 0 ≤ 135 from by decide)) nl_X7_21 okX2_init rfl (fun ad63 E63 S63 hA63 hB63 => ?_)
  have f76_63 : ad63 (76) = ad 76 := (hA63 (76) (by decide)).trans f76_62
  have f77_63 : ad63 (77) = q1 := (hA63 (77) (by decide)).trans f77_62
  have f78_63 : ad63 (78) = q3 := (hA63 (78) (by decide)).trans f78_62
  have f79_63 : ad63 (79) = q6 := (hA63 (79) (by decide)).trans f79_62
  have f80_63 : ad63 (80) = q10 := (hA63 (80) (by decide)).trans f80_62
  have f81_63 : ad63 (81) = q14 := (hA63 (81) (by decide)).trans f81_62
  have f82_63 : ad63 (82) = q18 := (hA63 (82) (by decide)).trans f82_62
  have f83_63 : ad63 (83) = q22 := (hA63 (83) (by decide)).trans f83_62
  have f84_63 : ad63 (84) = q26 := (hA63 (84) (by decide)).trans f84_62
  have f85_63 : ad63 (85) = q30 := (hA63 (85) (by decide)).trans f85_62
  have f86_63 : ad63 (86) = q34 := (hA63 (86) (by decide)).trans f86_62
  have f87_63 : ad63 (87) = q38 := (hA63 (87) (by decide)).trans f87_62
  have f88_63 : ad63 (88) = q42 := (hA63 (88) (by decide)).trans f88_62
  have f89_63 : ad63 (89) = q46 := (hA63 (89) (by decide)).trans f89_62
  have f90_63 : ad63 (90) = q50 := (hA63 (90) (by decide)).trans f90_62
  have f91_63 : ad63 (91) = q54 := (hA63 (91) (by decide)).trans f91_62
  have f92_63 : ad63 (92) = q58 := (hA63 (92) (by decide)).trans f92_62
  have f93_63 : ad63 (93) = q62 := (hA63 (93) (by decide)).trans hq62
  have hC63 : ∀ k, k < 77 → ad63 k = ad k := fun k hk => (hA63 k (by omega)).trans (hC62 k hk)
  have o76_63 : E63 (76) = .inr (7, [.ref (q1), .int 0, .ref (q3), .int 0, .int 0]) := (hB63 (76) (by decide)).trans o76_62
  have o78_63 : E63 (78) = .inl (gA G 5, 15, .inr (.inr (.inr (.inr (va_up (va_up (va_up (va_up (va_up (va_up (va_up (va_up (va_up (va_up (va_up (va_up (va_up (va_up (fun _ => none) 0 (some (q6))) 1 (some (q10))) 2 (some (q14))) 3 (some (q18))) 4 (some (q22))) 5 (some (q26))) 6 (some (q30))) 7 (some (q34))) 8 (some (q38))) 9 (some (q42))) 10 (some (q46))) 11 (some (q50))) 12 (some (q54))) 13 (some (q58))))))) := (hB63 (78) (by decide)).trans o78_62
  have hD63 : ∀ k, k ∈ [0] → E63 k = E k := fun k hk => (by have h9 := hdl k hk; exact (hB63 k (List.mem_cons_of_mem _ (List.mem_cons_of_mem _ hk))).trans (hD62 k hk))
  show EV _ _ _ _ (17, 135) 41 _ [.ref (q62), .int (nI 14), .ref (q3)] (AW (94) ad63 E63)
  refine a_ast (pc' := 42) (a := 78) (t := 5) (N := 15) (j := 14) (qk := 93) (ci := 2) S63 dX7_init_41 rfl (by decide) (by decide) f78_63 o78_63 (by decide) rfl (by decide) f93_63 ((S63 93 (by decide) (by decide)).1.trans (show cellM G ad63 ZM 93 (sh 93) = .inr (2, objF ad63 (Z0 93) [none, none, none, none]) from rfl)) rfl (by decide) (by decide) (fun E64 S64 hN64 hB64 => ?_)
  have o78_64 : E64 (78) = .inl (gA G 5, 15, .inr (.inr (.inr (.inr (va_up (va_up (va_up (va_up (va_up (va_up (va_up (va_up (va_up (va_up (va_up (va_up (va_up (va_up (va_up (fun _ => none) 0 (some (q6))) 1 (some (q10))) 2 (some (q14))) 3 (some (q18))) 4 (some (q22))) 5 (some (q26))) 6 (some (q30))) 7 (some (q34))) 8 (some (q38))) 9 (some (q42))) 10 (some (q46))) 11 (some (q50))) 12 (some (q54))) 13 (some (q58))) 14 (some (q62))))))) := hN64
  have o76_64 : E64 (76) = .inr (7, [.ref (q1), .int 0, .ref (q3), .int 0, .int 0]) := (hB64 (76) (by decide)).trans o76_63
  have hD64 : ∀ k, k ∈ [0] → E64 k = E k := fun k hk => (by have h9 := hdl k hk; exact (hB64 k (by omega)).trans (hD63 k hk))
  refine e_iincN (pc' := 45) (k := 1) (L' := [some (.ref (ad 76)), some (.int (nI 15))]) dX7_init_42 rfl rfl rfl (by decide) rfl ?_
  refine e_goto (tgt := 23) dX7_init_45 (by decide) ?_
  refine e_iload_n (pc' := 24) dX7_init_23 rfl rfl rfl ?_
  refine e_bipush (pc' := 26) (v := nI 15) dX7_init_24 rfl (by decide) ?_
  refine e_icmp_geN (pc' := 29) (tgt := 48) dX7_init_26 rfl (by decide) (by decide) (by decide) (fun _ => ?_) (fun h => absurd h (by decide))
  exact e_vret dX7_init_48 rfl ((by have F1 := S64.fin ((o78_64).trans (by show Sum.inl (gA G 5, 15, Sum.inr (Sum.inr (Sum.inr (Sum.inr (va_up (va_up (va_up (va_up (va_up (va_up (va_up (va_up (va_up (va_up (va_up (va_up (va_up (va_up (va_up (fun _ => none) 0 (some (q6))) 1 (some (q10))) 2 (some (q14))) 3 (some (q18))) 4 (some (q22))) 5 (some (q26))) 6 (some (q30))) 7 (some (q34))) 8 (some (q38))) 9 (some (q42))) 10 (some (q46))) 11 (some (q50))) 12 (some (q54))) 13 (some (q58))) 14 (some (q62))))))) = Sum.inl (gA G 5, (15, Sum.inr (Sum.inr (Sum.inr (Sum.inr (refF ad63 [some 79, some 80, some 81, some 82, some 83, some 84, some 85, some 86, some 87, some 88, some 89, some 90, some 91, some 92, some 93])))))); rw [show (va_up (va_up (va_up (va_up (va_up (va_up (va_up (va_up (va_up (va_up (va_up (va_up (va_up (va_up (va_up (fun _ => none) 0 (some (q6))) 1 (some (q10))) 2 (some (q14))) 3 (some (q18))) 4 (some (q22))) 5 (some (q26))) 6 (some (q30))) 7 (some (q34))) 8 (some (q38))) 9 (some (q42))) 10 (some (q46))) 11 (some (q50))) 12 (some (q54))) 13 (some (q58))) 14 (some (q62))) = refF ad63 [some 79, some 80, some 81, some 82, some 83, some 84, some 85, some 86, some 87, some 88, some 89, some 90, some 91, some 92, some 93] from funext (fun i => by match i with | 0 => exact congrArg some (f79_63).symm | 1 => exact congrArg some (f80_63).symm | 2 => exact congrArg some (f81_63).symm | 3 => exact congrArg some (f82_63).symm | 4 => exact congrArg some (f83_63).symm | 5 => exact congrArg some (f84_63).symm | 6 => exact congrArg some (f85_63).symm | 7 => exact congrArg some (f86_63).symm | 8 => exact congrArg some (f87_63).symm | 9 => exact congrArg some (f88_63).symm | 10 => exact congrArg some (f89_63).symm | 11 => exact congrArg some (f90_63).symm | 12 => exact congrArg some (f91_63).symm | 13 => exact congrArg some (f92_63).symm | 14 => exact congrArg some (f93_63).symm | k + 15 => simp [va_up, refF])])) (rall (by rw [show (sh 78).2.2 = [some 79, some 80, some 81, some 82, some 83, some 84, some 85, some 86, some 87, some 88, some 89, some 90, some 91, some 92, some 93] from rfl]; decide)); have F2 := F1.fin ((o76_64).trans (by rw [(show sh 76 = (7, 5, [some 77, none, some 78, none, none]) from rfl), cellM_obj (by decide)]; show Sum.inr (7, [.ref (q1), .int 0, .ref (q3), .int 0, .int 0]) = Sum.inr (7, objF ad63 (Z0 (76)) [some 77, none, some 78, none, none]); rw [← f77_63, ← f78_63]; rfl)) (rall (by rw [(show sh 76 = (7, 5, [some 77, none, some 78, none, none]) from rfl)]; decide)); exact ⟨rfl, _, _, rfl, F2, hC63, hD64⟩)) (by decide) (by decide)
theorem k_lin (hS : ST G (95) ad E (94 :: [0])) (hE : E (94) = .inr (5, [.null, .int 0])) : CTR G d mX5_init (1, 23) [.ref (ad 94)] (95) (96) ad E [0] := by
  refine EVM_of rfl (by decide) rfl (Nat.le_of_ble_eq_true rfl) ?_
  have hdl : ∀ k, k ∈ [0] → k < 94 := by decide
  have hC0 : ∀ k, k < 95 → ad k = ad k := fun _ _ => rfl
  have hD0 : ∀ k, k ∈ [0] → E k = E k := fun _ _ => rfl
  refine e_aload_n (pc' := 1) dX5_init_0 rfl rfl rfl ?_
  refine e_objInit (pc' := 4) dX5_init_1 rfl ml_X5_3 oi_in oi_co (Nat.le_of_ble_eq_true rfl) (by simp [rmK, Value.category] <;> omega) ?_
  refine e_aload_n (pc' := 5) dX5_init_4 rfl rfl rfl ?_
  refine e_bipush (pc' := 7) (v := nI 23) dX5_init_5 rfl (by decide) ?_
  refine a_newN (pc' := 9) (t := 1) (N := 23) (ty := .char) (a0 := (23, .inl (fun _ => 0))) hS (by decide) dX5_init_7 rfl ar_char rfl rfl (fun _ _ h => h) (fun _ => rfl) rfl (by decide) (by decide) (fun _ => by rw [(show sh 95 = (101, 23, []) from rfl)]; show _ = Sum.inl (gA G 1, (23, Sum.inl (Z0 (95)))); rw [Z0_n (by decide) (by decide)]) (by rw [(show sh 95 = (101, 23, []) from rfl)]) (show 0 + 1 ≤ 1 from by decide) (show 0 + 23 ≤ 23 from by decide) (fun q1 ad1 E1 S1 hA1 hq1 hB1 => ?_)
  have f94_1 : ad1 (94) = ad 94 := (hA1 (94) (by decide)).trans (rfl : ad (94) = ad 94)
  have hC1 : ∀ k, k < 95 → ad1 k = ad k := fun k hk => (hA1 k (by omega)).trans (hC0 k hk)
  have o94_1 : E1 (94) = .inr (5, [.null, .int 0]) := (hB1 (94) (by decide)).trans hE
  have hD1 : ∀ k, k ∈ [0] → E1 k = E k := fun k hk => (by have h9 := hdl k hk; exact (hB1 k (by omega)).trans (hD0 k hk))
  show EV _ _ _ _ (1, 23) 9 _ [.ref q1, .ref (ad 94)] (AW (96) ad1 E1)
  refine a_putF (pc' := 12) (a := 94) (ci := 5) (kf := 0) S1 dX5_init_9 rfl (by decide) (by decide) f94_1 o94_1 (by decide) (by decide) fl_X5_9 rfl rfl rfl (cls_ty (by decide) 0 (by decide)) rfl rfl (Nat.le_of_ble_eq_true rfl) (fun E2 S2 hN2 hB2 => ?_)
  have o94_2 : E2 (94) = .inr (5, [.ref (q1), .int 0]) := hN2
  have hD2 : ∀ k, k ∈ [0] → E2 k = E k := fun k hk => (by have h9 := hdl k hk; exact (hB2 k (by omega)).trans (hD1 k hk))
  exact e_vret dX5_init_12 rfl ((by have F1 := S2.fin ((o94_2).trans (by rw [(show sh 94 = (5, 2, [some 95, none]) from rfl), cellM_obj (by decide)]; show Sum.inr (5, [.ref (q1), .int 0]) = Sum.inr (5, objF ad1 (Z0 (94)) [some 95, none]); rw [← hq1]; rfl)) (rall (by rw [(show sh 94 = (5, 2, [some 95, none]) from rfl)]; decide)); exact ⟨rfl, _, _, rfl, F1, hC1, hD2⟩)) (by decide) (by decide)
theorem k_mag (hS : ST G (1) ad E (0 :: ([] : List Nat))) (hE : E (0) = .inr (8, [.null, .null, .null, .null, .null, .null, .null, .null, .null, .int 0, .int 0, .int 0, .int 0, .int 0])) : CTR G (d + 2) mX8_init (95, 1200) [.ref (ad 0)] (1) (96) ad E ([] : List Nat) := by
  refine EVM_of rfl (by decide) rfl (Nat.le_of_ble_eq_true rfl) ?_
  have hdl : ∀ k, k ∈ ([] : List Nat) → k < 0 := by decide
  have hC0 : ∀ k, k < 1 → ad k = ad k := fun _ _ => rfl
  have hD0 : ∀ k, k ∈ ([] : List Nat) → E k = E k := fun _ _ => rfl
  refine e_aload_n (pc' := 1) dX8_init_0 rfl rfl rfl ?_
  refine e_objInit (pc' := 4) dX8_init_1 rfl ml_X8_3 oi_in oi_co (Nat.le_of_ble_eq_true rfl) (by simp [rmK, Value.category] <;> omega) ?_
  refine e_aload_n (pc' := 5) dX8_init_4 rfl rfl rfl ?_
  refine a_new (pc' := 8) (ci := 1) (fs := [.int 0, .null, .null, .null, .int 0, .int 0, .null, .null, .int 0, .int 0]) hS dX8_init_5 rfl (by decide) cl_X8_9 inst_1 ini_1 zf_1 (show 0 + 1 ≤ 95 from by decide) (show 0 + 10 ≤ 1200 from by decide) (fun q1 ad1 E1 S1 hA1 hq1 hB1 hN1 => ?_)
  have f0_1 : ad1 (0) = ad 0 := (hA1 (0) (by decide)).trans (rfl : ad (0) = ad 0)
  have hC1 : ∀ k, k < 1 → ad1 k = ad k := fun k hk => (hA1 k (by omega)).trans (hC0 k hk)
  have o0_1 : E1 (0) = .inr (8, [.null, .null, .null, .null, .null, .null, .null, .null, .null, .int 0, .int 0, .int 0, .int 0, .int 0]) := (hB1 (0) (by decide)).trans hE
  have hD1 : ∀ k, k ∈ ([] : List Nat) → E1 k = E k := fun k hk => (by have h9 := hdl k hk; exact (hB1 k (by omega)).trans (hD0 k hk))
  show EV _ _ _ _ (1, 10) 8 _ [.ref q1, .ref (ad 0)] (AW (2) ad1 E1)
  refine e_dup (pc' := 9) dX8_init_8 rfl rfl ?_
  refine a_invN (pc' := 12) (m' := mX1_init) (d := (d + 1)) (As := []) (n' := 7) (by rw [← hq1]; exact k_col (a := 1) (n := 2) (dn := [0]) (by decide) (by decide) (by decide) rfl rfl rfl rfl rfl rfl (by decide) S1 hN1) dX8_init_9 rfl rfl (Nat.le_of_ble_eq_true rfl) (fit_of (by omega) (by decide) (show 1 + 5 ≤ 95 from by decide) (show 10 + 59 ≤ 1200 from by decide)) nl_X8_11 okX1_init rfl (fun ad2 E2 S2 hA2 hB2 => ?_)
  have f0_2 : ad2 (0) = ad 0 := (hA2 (0) (by decide)).trans f0_1
  have f1_2 : ad2 (1) = q1 := (hA2 (1) (by decide)).trans hq1
  have hC2 : ∀ k, k < 1 → ad2 k = ad k := fun k hk => (hA2 k (by omega)).trans (hC1 k hk)
  have o0_2 : E2 (0) = .inr (8, [.null, .null, .null, .null, .null, .null, .null, .null, .null, .int 0, .int 0, .int 0, .int 0, .int 0]) := (hB2 (0) (by decide)).trans o0_1
  have hD2 : ∀ k, k ∈ ([] : List Nat) → E2 k = E k := fun k hk => (by have h9 := hdl k hk; exact (hB2 k (List.mem_cons_of_mem _ hk)).trans (hD1 k hk))
  show EV _ _ _ _ (6, 69) 12 _ [.ref (q1), .ref (ad 0)] (AW (7) ad2 E2)
  refine a_putF (pc' := 15) (a := 0) (ci := 8) (kf := 0) S2 dX8_init_12 rfl (by decide) (by decide) f0_2 o0_2 (by decide) (by decide) fl_X8_12 rfl rfl rfl (cls_ty (by decide) 0 (by decide)) rfl rfl (Nat.le_of_ble_eq_true rfl) (fun E3 S3 hN3 hB3 => ?_)
  have o0_3 : E3 (0) = .inr (8, [.ref (q1), .null, .null, .null, .null, .null, .null, .null, .null, .int 0, .int 0, .int 0, .int 0, .int 0]) := hN3
  have hD3 : ∀ k, k ∈ ([] : List Nat) → E3 k = E k := fun k hk => (by have h9 := hdl k hk; exact (hB3 k (by omega)).trans (hD2 k hk))
  refine e_aload_n (pc' := 16) dX8_init_15 rfl rfl rfl ?_
  refine a_new (pc' := 19) (ci := 6) (fs := [.null, .null, .null, .null, .null, .int 0, .int 0, .int 0]) S3 dX8_init_16 rfl (by decide) cl_X8_16 inst_6 ini_6 zf_6 (show 6 + 1 ≤ 95 from by decide) (show 69 + 8 ≤ 1200 from by decide) (fun q4 ad4 E4 S4 hA4 hq4 hB4 hN4 => ?_)
  have f0_4 : ad4 (0) = ad 0 := (hA4 (0) (by decide)).trans f0_2
  have f1_4 : ad4 (1) = q1 := (hA4 (1) (by decide)).trans f1_2
  have hC4 : ∀ k, k < 1 → ad4 k = ad k := fun k hk => (hA4 k (by omega)).trans (hC2 k hk)
  have o0_4 : E4 (0) = .inr (8, [.ref (q1), .null, .null, .null, .null, .null, .null, .null, .null, .int 0, .int 0, .int 0, .int 0, .int 0]) := (hB4 (0) (by decide)).trans o0_3
  have hD4 : ∀ k, k ∈ ([] : List Nat) → E4 k = E k := fun k hk => (by have h9 := hdl k hk; exact (hB4 k (by omega)).trans (hD3 k hk))
  show EV _ _ _ _ (7, 77) 19 _ [.ref q4, .ref (ad 0)] (AW (8) ad4 E4)
  refine e_dup (pc' := 20) dX8_init_19 rfl rfl ?_
  refine e_aload_n (pc' := 21) dX8_init_20 rfl rfl rfl ?_
  refine a_get (pc' := 24) (a := 0) (ci := 8) (kf := 0) dX8_init_21 rfl (by decide) f0_4 o0_4 (by decide) (by decide) fl_X8_12 rfl ?_
  refine a_inv (pc' := 27) (m' := mX6_init) (d := (d + 1)) (As := [.ref (q1)]) (n' := 12) (by rw [← hq4, ← f1_4]; exact k_sur S4 hN4) dX8_init_24 rfl rfl (Nat.le_of_ble_eq_true rfl) (fit_of (by omega) (by decide) (show 7 + 4 ≤ 95 from by decide) (show 77 + 45 ≤ 1200 from by decide)) ml_X8_18 okX6_init rfl (fun ad6 E6 S6 hA6 hB6 => ?_)
  have f0_6 : ad6 (0) = ad 0 := (hA6 (0) (by decide)).trans f0_4
  have f1_6 : ad6 (1) = q1 := (hA6 (1) (by decide)).trans f1_4
  have f7_6 : ad6 (7) = q4 := (hA6 (7) (by decide)).trans hq4
  have hC6 : ∀ k, k < 1 → ad6 k = ad k := fun k hk => (hA6 k (by omega)).trans (hC4 k hk)
  have o0_6 : E6 (0) = .inr (8, [.ref (q1), .null, .null, .null, .null, .null, .null, .null, .null, .int 0, .int 0, .int 0, .int 0, .int 0]) := (hB6 (0) (by decide)).trans o0_4
  have hD6 : ∀ k, k ∈ ([] : List Nat) → E6 k = E k := fun k hk => (by have h9 := hdl k hk; exact (hB6 k (List.mem_cons_of_mem _ hk)).trans (hD4 k hk))
  show EV _ _ _ _ (11, 122) 27 _ [.ref (q4), .ref (ad 0)] (AW (12) ad6 E6)
  refine a_putF (pc' := 30) (a := 0) (ci := 8) (kf := 1) S6 dX8_init_27 rfl (by decide) (by decide) f0_6 o0_6 (by decide) (by decide) fl_X8_21 rfl rfl rfl (cls_ty (by decide) 1 (by decide)) rfl rfl (Nat.le_of_ble_eq_true rfl) (fun E7 S7 hN7 hB7 => ?_)
  have o0_7 : E7 (0) = .inr (8, [.ref (q1), .ref (q4), .null, .null, .null, .null, .null, .null, .null, .int 0, .int 0, .int 0, .int 0, .int 0]) := hN7
  have hD7 : ∀ k, k ∈ ([] : List Nat) → E7 k = E k := fun k hk => (by have h9 := hdl k hk; exact (hB7 k (by omega)).trans (hD6 k hk))
  refine e_aload_n (pc' := 31) dX8_init_30 rfl rfl rfl ?_
  refine a_new (pc' := 34) (ci := 3) (fs := [.null]) S7 dX8_init_31 rfl (by decide) cl_X8_25 inst_3 ini_3 zf_3 (show 11 + 1 ≤ 95 from by decide) (show 122 + 1 ≤ 1200 from by decide) (fun q8 ad8 E8 S8 hA8 hq8 hB8 hN8 => ?_)
  have f0_8 : ad8 (0) = ad 0 := (hA8 (0) (by decide)).trans f0_6
  have f1_8 : ad8 (1) = q1 := (hA8 (1) (by decide)).trans f1_6
  have f7_8 : ad8 (7) = q4 := (hA8 (7) (by decide)).trans f7_6
  have hC8 : ∀ k, k < 1 → ad8 k = ad k := fun k hk => (hA8 k (by omega)).trans (hC6 k hk)
  have o0_8 : E8 (0) = .inr (8, [.ref (q1), .ref (q4), .null, .null, .null, .null, .null, .null, .null, .int 0, .int 0, .int 0, .int 0, .int 0]) := (hB8 (0) (by decide)).trans o0_7
  have hD8 : ∀ k, k ∈ ([] : List Nat) → E8 k = E k := fun k hk => (by have h9 := hdl k hk; exact (hB8 k (by omega)).trans (hD7 k hk))
  show EV _ _ _ _ (12, 123) 34 _ [.ref q8, .ref (ad 0)] (AW (13) ad8 E8)
  refine e_dup (pc' := 35) dX8_init_34 rfl rfl ?_
  refine e_aload_n (pc' := 36) dX8_init_35 rfl rfl rfl ?_
  refine a_get (pc' := 39) (a := 0) (ci := 8) (kf := 0) dX8_init_36 rfl (by decide) f0_8 o0_8 (by decide) (by decide) fl_X8_12 rfl ?_
  refine a_inv (pc' := 42) (m' := mX3_init) (d := (d + 1)) (As := [.ref (q1)]) (n' := 13) (by rw [← hq8, ← f1_8]; exact k_for S8 hN8) dX8_init_39 rfl rfl (Nat.le_of_ble_eq_true rfl) (fit_of (by omega) (by decide) (show 12 + 0 ≤ 95 from by decide) (show 123 + 0 ≤ 1200 from by decide)) ml_X8_27 okX3_init rfl (fun ad10 E10 S10 hA10 hB10 => ?_)
  have f0_10 : ad10 (0) = ad 0 := (hA10 (0) (by decide)).trans f0_8
  have f1_10 : ad10 (1) = q1 := (hA10 (1) (by decide)).trans f1_8
  have f7_10 : ad10 (7) = q4 := (hA10 (7) (by decide)).trans f7_8
  have f12_10 : ad10 (12) = q8 := (hA10 (12) (by decide)).trans hq8
  have hC10 : ∀ k, k < 1 → ad10 k = ad k := fun k hk => (hA10 k (by omega)).trans (hC8 k hk)
  have o0_10 : E10 (0) = .inr (8, [.ref (q1), .ref (q4), .null, .null, .null, .null, .null, .null, .null, .int 0, .int 0, .int 0, .int 0, .int 0]) := (hB10 (0) (by decide)).trans o0_8
  have hD10 : ∀ k, k ∈ ([] : List Nat) → E10 k = E k := fun k hk => (by have h9 := hdl k hk; exact (hB10 k (List.mem_cons_of_mem _ hk)).trans (hD8 k hk))
  show EV _ _ _ _ (12, 123) 42 _ [.ref (q8), .ref (ad 0)] (AW (13) ad10 E10)
  refine a_putF (pc' := 45) (a := 0) (ci := 8) (kf := 2) S10 dX8_init_42 rfl (by decide) (by decide) f0_10 o0_10 (by decide) (by decide) fl_X8_28 rfl rfl rfl (cls_ty (by decide) 2 (by decide)) rfl rfl (Nat.le_of_ble_eq_true rfl) (fun E11 S11 hN11 hB11 => ?_)
  have o0_11 : E11 (0) = .inr (8, [.ref (q1), .ref (q4), .ref (q8), .null, .null, .null, .null, .null, .null, .int 0, .int 0, .int 0, .int 0, .int 0]) := hN11
  have hD11 : ∀ k, k ∈ ([] : List Nat) → E11 k = E k := fun k hk => (by have h9 := hdl k hk; exact (hB11 k (by omega)).trans (hD10 k hk))
  refine e_aload_n (pc' := 46) dX8_init_45 rfl rfl rfl ?_
  refine a_new (pc' := 49) (ci := 0) (fs := [.null, .null, .null, .int 0]) S11 dX8_init_46 rfl (by decide) cl_X8_32 inst_0 ini_0 zf_0 (show 12 + 1 ≤ 95 from by decide) (show 123 + 4 ≤ 1200 from by decide) (fun q12 ad12 E12 S12 hA12 hq12 hB12 hN12 => ?_)
  have f0_12 : ad12 (0) = ad 0 := (hA12 (0) (by decide)).trans f0_10
  have f1_12 : ad12 (1) = q1 := (hA12 (1) (by decide)).trans f1_10
  have f7_12 : ad12 (7) = q4 := (hA12 (7) (by decide)).trans f7_10
  have f12_12 : ad12 (12) = q8 := (hA12 (12) (by decide)).trans f12_10
  have hC12 : ∀ k, k < 1 → ad12 k = ad k := fun k hk => (hA12 k (by omega)).trans (hC10 k hk)
  have o0_12 : E12 (0) = .inr (8, [.ref (q1), .ref (q4), .ref (q8), .null, .null, .null, .null, .null, .null, .int 0, .int 0, .int 0, .int 0, .int 0]) := (hB12 (0) (by decide)).trans o0_11
  have hD12 : ∀ k, k ∈ ([] : List Nat) → E12 k = E k := fun k hk => (by have h9 := hdl k hk; exact (hB12 k (by omega)).trans (hD11 k hk))
  show EV _ _ _ _ (13, 127) 49 _ [.ref q12, .ref (ad 0)] (AW (14) ad12 E12)
  refine e_dup (pc' := 50) dX8_init_49 rfl rfl ?_
  refine e_aload_n (pc' := 51) dX8_init_50 rfl rfl rfl ?_
  refine a_get (pc' := 54) (a := 0) (ci := 8) (kf := 0) dX8_init_51 rfl (by decide) f0_12 o0_12 (by decide) (by decide) fl_X8_12 rfl ?_
  refine e_aload_n (pc' := 55) dX8_init_54 rfl rfl rfl ?_
  refine a_get (pc' := 58) (a := 0) (ci := 8) (kf := 1) dX8_init_55 rfl (by decide) f0_12 o0_12 (by decide) (by decide) fl_X8_21 rfl ?_
  refine e_aload_n (pc' := 59) dX8_init_58 rfl rfl rfl ?_
  refine a_get (pc' := 62) (a := 0) (ci := 8) (kf := 2) dX8_init_59 rfl (by decide) f0_12 o0_12 (by decide) (by decide) fl_X8_28 rfl ?_
  refine a_inv (pc' := 65) (m' := mX0_init) (d := (d + 1)) (As := [.ref (q1), .ref (q4), .ref (q8)]) (n' := 14) (by rw [← hq12, ← f1_12, ← f7_12, ← f12_12]; exact k_chg S12 hN12) dX8_init_62 rfl rfl (Nat.le_of_ble_eq_true rfl) (fit_of (by omega) (by decide) (show 13 + 0 ≤ 95 from by decide) (show 127 + 0 ≤ 1200 from by decide)) ml_X8_34 okX0_init rfl (fun ad16 E16 S16 hA16 hB16 => ?_)
  have f0_16 : ad16 (0) = ad 0 := (hA16 (0) (by decide)).trans f0_12
  have f1_16 : ad16 (1) = q1 := (hA16 (1) (by decide)).trans f1_12
  have f7_16 : ad16 (7) = q4 := (hA16 (7) (by decide)).trans f7_12
  have f12_16 : ad16 (12) = q8 := (hA16 (12) (by decide)).trans f12_12
  have f13_16 : ad16 (13) = q12 := (hA16 (13) (by decide)).trans hq12
  have hC16 : ∀ k, k < 1 → ad16 k = ad k := fun k hk => (hA16 k (by omega)).trans (hC12 k hk)
  have o0_16 : E16 (0) = .inr (8, [.ref (q1), .ref (q4), .ref (q8), .null, .null, .null, .null, .null, .null, .int 0, .int 0, .int 0, .int 0, .int 0]) := (hB16 (0) (by decide)).trans o0_12
  have hD16 : ∀ k, k ∈ ([] : List Nat) → E16 k = E k := fun k hk => (by have h9 := hdl k hk; exact (hB16 k (List.mem_cons_of_mem _ hk)).trans (hD12 k hk))
  show EV _ _ _ _ (13, 127) 65 _ [.ref (q12), .ref (ad 0)] (AW (14) ad16 E16)
  refine a_putF (pc' := 68) (a := 0) (ci := 8) (kf := 3) S16 dX8_init_65 rfl (by decide) (by decide) f0_16 o0_16 (by decide) (by decide) fl_X8_37 rfl rfl rfl (cls_ty (by decide) 3 (by decide)) rfl rfl (Nat.le_of_ble_eq_true rfl) (fun E17 S17 hN17 hB17 => ?_)
  have o0_17 : E17 (0) = .inr (8, [.ref (q1), .ref (q4), .ref (q8), .ref (q12), .null, .null, .null, .null, .null, .int 0, .int 0, .int 0, .int 0, .int 0]) := hN17
  have hD17 : ∀ k, k ∈ ([] : List Nat) → E17 k = E k := fun k hk => (by have h9 := hdl k hk; exact (hB17 k (by omega)).trans (hD16 k hk))
  refine e_aload_n (pc' := 69) dX8_init_68 rfl rfl rfl ?_
  refine a_new (pc' := 72) (ci := 4) (fs := [.null, .int 0, .int 0]) S17 dX8_init_69 rfl (by decide) cl_X8_41 inst_4 ini_4 zf_4 (show 13 + 1 ≤ 95 from by decide) (show 127 + 3 ≤ 1200 from by decide) (fun q18 ad18 E18 S18 hA18 hq18 hB18 hN18 => ?_)
  have f0_18 : ad18 (0) = ad 0 := (hA18 (0) (by decide)).trans f0_16
  have f1_18 : ad18 (1) = q1 := (hA18 (1) (by decide)).trans f1_16
  have f7_18 : ad18 (7) = q4 := (hA18 (7) (by decide)).trans f7_16
  have f12_18 : ad18 (12) = q8 := (hA18 (12) (by decide)).trans f12_16
  have f13_18 : ad18 (13) = q12 := (hA18 (13) (by decide)).trans f13_16
  have hC18 : ∀ k, k < 1 → ad18 k = ad k := fun k hk => (hA18 k (by omega)).trans (hC16 k hk)
  have o0_18 : E18 (0) = .inr (8, [.ref (q1), .ref (q4), .ref (q8), .ref (q12), .null, .null, .null, .null, .null, .int 0, .int 0, .int 0, .int 0, .int 0]) := (hB18 (0) (by decide)).trans o0_17
  have hD18 : ∀ k, k ∈ ([] : List Nat) → E18 k = E k := fun k hk => (by have h9 := hdl k hk; exact (hB18 k (by omega)).trans (hD17 k hk))
  show EV _ _ _ _ (14, 130) 72 _ [.ref q18, .ref (ad 0)] (AW (15) ad18 E18)
  refine e_dup (pc' := 73) dX8_init_72 rfl rfl ?_
  refine a_inv (pc' := 76) (m' := mX4_init) (d := (d + 1)) (As := []) (n' := 64) (by rw [← hq18]; exact k_his S18 hN18) dX8_init_73 rfl rfl (Nat.le_of_ble_eq_true rfl) (fit_of (by omega) (by decide) (show 14 + 49 ≤ 95 from by decide) (show 130 + 560 ≤ 1200 from by decide)) ml_X8_43 okX4_init rfl (fun ad19 E19 S19 hA19 hB19 => ?_)
  have f0_19 : ad19 (0) = ad 0 := (hA19 (0) (by decide)).trans f0_18
  have f1_19 : ad19 (1) = q1 := (hA19 (1) (by decide)).trans f1_18
  have f7_19 : ad19 (7) = q4 := (hA19 (7) (by decide)).trans f7_18
  have f12_19 : ad19 (12) = q8 := (hA19 (12) (by decide)).trans f12_18
  have f13_19 : ad19 (13) = q12 := (hA19 (13) (by decide)).trans f13_18
  have f14_19 : ad19 (14) = q18 := (hA19 (14) (by decide)).trans hq18
  have hC19 : ∀ k, k < 1 → ad19 k = ad k := fun k hk => (hA19 k (by omega)).trans (hC18 k hk)
  have o0_19 : E19 (0) = .inr (8, [.ref (q1), .ref (q4), .ref (q8), .ref (q12), .null, .null, .null, .null, .null, .int 0, .int 0, .int 0, .int 0, .int 0]) := (hB19 (0) (by decide)).trans o0_18
  have hD19 : ∀ k, k ∈ ([] : List Nat) → E19 k = E k := fun k hk => (by have h9 := hdl k hk; exact (hB19 k (List.mem_cons_of_mem _ hk)).trans (hD18 k hk))
  show EV _ _ _ _ (63, 690) 76 _ [.ref (q18), .ref (ad 0)] (AW (64) ad19 E19)
  refine a_putF (pc' := 79) (a := 0) (ci := 8) (kf := 4) S19 dX8_init_76 rfl (by decide) (by decide) f0_19 o0_19 (by decide) (by decide) fl_X8_44 rfl rfl rfl (cls_ty (by decide) 4 (by decide)) rfl rfl (Nat.le_of_ble_eq_true rfl) (fun E20 S20 hN20 hB20 => ?_)
  have o0_20 : E20 (0) = .inr (8, [.ref (q1), .ref (q4), .ref (q8), .ref (q12), .ref (q18), .null, .null, .null, .null, .int 0, .int 0, .int 0, .int 0, .int 0]) := hN20
  have hD20 : ∀ k, k ∈ ([] : List Nat) → E20 k = E k := fun k hk => (by have h9 := hdl k hk; exact (hB20 k (by omega)).trans (hD19 k hk))
  refine e_aload_n (pc' := 80) dX8_init_79 rfl rfl rfl ?_
  refine a_new (pc' := 83) (ci := 1) (fs := [.int 0, .null, .null, .null, .int 0, .int 0, .null, .null, .int 0, .int 0]) S20 dX8_init_80 rfl (by decide) cl_X8_9 inst_1 ini_1 zf_1 (show 63 + 1 ≤ 95 from by decide) (show 690 + 10 ≤ 1200 from by decide) (fun q21 ad21 E21 S21 hA21 hq21 hB21 hN21 => ?_)
  have f0_21 : ad21 (0) = ad 0 := (hA21 (0) (by decide)).trans f0_19
  have f1_21 : ad21 (1) = q1 := (hA21 (1) (by decide)).trans f1_19
  have f7_21 : ad21 (7) = q4 := (hA21 (7) (by decide)).trans f7_19
  have f12_21 : ad21 (12) = q8 := (hA21 (12) (by decide)).trans f12_19
  have f13_21 : ad21 (13) = q12 := (hA21 (13) (by decide)).trans f13_19
  have f14_21 : ad21 (14) = q18 := (hA21 (14) (by decide)).trans f14_19
  have hC21 : ∀ k, k < 1 → ad21 k = ad k := fun k hk => (hA21 k (by omega)).trans (hC19 k hk)
  have o0_21 : E21 (0) = .inr (8, [.ref (q1), .ref (q4), .ref (q8), .ref (q12), .ref (q18), .null, .null, .null, .null, .int 0, .int 0, .int 0, .int 0, .int 0]) := (hB21 (0) (by decide)).trans o0_20
  have hD21 : ∀ k, k ∈ ([] : List Nat) → E21 k = E k := fun k hk => (by have h9 := hdl k hk; exact (hB21 k (by omega)).trans (hD20 k hk))
  show EV _ _ _ _ (64, 700) 83 _ [.ref q21, .ref (ad 0)] (AW (65) ad21 E21)
  refine e_dup (pc' := 84) dX8_init_83 rfl rfl ?_
  refine a_invN (pc' := 87) (m' := mX1_init) (d := (d + 1)) (As := []) (n' := 70) (by rw [← hq21]; exact k_col (a := 64) (n := 65) (dn := [0]) (by decide) (by decide) (by decide) rfl rfl rfl rfl rfl rfl (by decide) S21 hN21) dX8_init_84 rfl rfl (Nat.le_of_ble_eq_true rfl) (fit_of (by omega) (by decide) (show 64 + 5 ≤ 95 from by decide) (show 700 + 59 ≤ 1200 from by decide)) nl_X8_11 okX1_init rfl (fun ad22 E22 S22 hA22 hB22 => ?_)
  have f0_22 : ad22 (0) = ad 0 := (hA22 (0) (by decide)).trans f0_21
  have f1_22 : ad22 (1) = q1 := (hA22 (1) (by decide)).trans f1_21
  have f7_22 : ad22 (7) = q4 := (hA22 (7) (by decide)).trans f7_21
  have f12_22 : ad22 (12) = q8 := (hA22 (12) (by decide)).trans f12_21
  have f13_22 : ad22 (13) = q12 := (hA22 (13) (by decide)).trans f13_21
  have f14_22 : ad22 (14) = q18 := (hA22 (14) (by decide)).trans f14_21
  have f64_22 : ad22 (64) = q21 := (hA22 (64) (by decide)).trans hq21
  have hC22 : ∀ k, k < 1 → ad22 k = ad k := fun k hk => (hA22 k (by omega)).trans (hC21 k hk)
  have o0_22 : E22 (0) = .inr (8, [.ref (q1), .ref (q4), .ref (q8), .ref (q12), .ref (q18), .null, .null, .null, .null, .int 0, .int 0, .int 0, .int 0, .int 0]) := (hB22 (0) (by decide)).trans o0_21
  have hD22 : ∀ k, k ∈ ([] : List Nat) → E22 k = E k := fun k hk => (by have h9 := hdl k hk; exact (hB22 k (List.mem_cons_of_mem _ hk)).trans (hD21 k hk))
  show EV _ _ _ _ (69, 759) 87 _ [.ref (q21), .ref (ad 0)] (AW (70) ad22 E22)
  refine a_putF (pc' := 90) (a := 0) (ci := 8) (kf := 5) S22 dX8_init_87 rfl (by decide) (by decide) f0_22 o0_22 (by decide) (by decide) fl_X8_48 rfl rfl rfl (cls_ty (by decide) 5 (by decide)) rfl rfl (Nat.le_of_ble_eq_true rfl) (fun E23 S23 hN23 hB23 => ?_)
  have o0_23 : E23 (0) = .inr (8, [.ref (q1), .ref (q4), .ref (q8), .ref (q12), .ref (q18), .ref (q21), .null, .null, .null, .int 0, .int 0, .int 0, .int 0, .int 0]) := hN23
  have hD23 : ∀ k, k ∈ ([] : List Nat) → E23 k = E k := fun k hk => (by have h9 := hdl k hk; exact (hB23 k (by omega)).trans (hD22 k hk))
  refine e_aload_n (pc' := 91) dX8_init_90 rfl rfl rfl ?_
  refine a_new (pc' := 94) (ci := 1) (fs := [.int 0, .null, .null, .null, .int 0, .int 0, .null, .null, .int 0, .int 0]) S23 dX8_init_91 rfl (by decide) cl_X8_9 inst_1 ini_1 zf_1 (show 69 + 1 ≤ 95 from by decide) (show 759 + 10 ≤ 1200 from by decide) (fun q24 ad24 E24 S24 hA24 hq24 hB24 hN24 => ?_)
  have f0_24 : ad24 (0) = ad 0 := (hA24 (0) (by decide)).trans f0_22
  have f1_24 : ad24 (1) = q1 := (hA24 (1) (by decide)).trans f1_22
  have f7_24 : ad24 (7) = q4 := (hA24 (7) (by decide)).trans f7_22
  have f12_24 : ad24 (12) = q8 := (hA24 (12) (by decide)).trans f12_22
  have f13_24 : ad24 (13) = q12 := (hA24 (13) (by decide)).trans f13_22
  have f14_24 : ad24 (14) = q18 := (hA24 (14) (by decide)).trans f14_22
  have f64_24 : ad24 (64) = q21 := (hA24 (64) (by decide)).trans f64_22
  have hC24 : ∀ k, k < 1 → ad24 k = ad k := fun k hk => (hA24 k (by omega)).trans (hC22 k hk)
  have o0_24 : E24 (0) = .inr (8, [.ref (q1), .ref (q4), .ref (q8), .ref (q12), .ref (q18), .ref (q21), .null, .null, .null, .int 0, .int 0, .int 0, .int 0, .int 0]) := (hB24 (0) (by decide)).trans o0_23
  have hD24 : ∀ k, k ∈ ([] : List Nat) → E24 k = E k := fun k hk => (by have h9 := hdl k hk; exact (hB24 k (by omega)).trans (hD23 k hk))
  show EV _ _ _ _ (70, 769) 94 _ [.ref q24, .ref (ad 0)] (AW (71) ad24 E24)
  refine e_dup (pc' := 95) dX8_init_94 rfl rfl ?_
  refine a_invN (pc' := 98) (m' := mX1_init) (d := (d + 1)) (As := []) (n' := 76) (by rw [← hq24]; exact k_col (a := 70) (n := 71) (dn := [0]) (by decide) (by decide) (by decide) rfl rfl rfl rfl rfl rfl (by decide) S24 hN24) dX8_init_95 rfl rfl (Nat.le_of_ble_eq_true rfl) (fit_of (by omega) (by decide) (show 70 + 5 ≤ 95 from by decide) (show 769 + 59 ≤ 1200 from by decide)) nl_X8_11 okX1_init rfl (fun ad25 E25 S25 hA25 hB25 => ?_)
  have f0_25 : ad25 (0) = ad 0 := (hA25 (0) (by decide)).trans f0_24
  have f1_25 : ad25 (1) = q1 := (hA25 (1) (by decide)).trans f1_24
  have f7_25 : ad25 (7) = q4 := (hA25 (7) (by decide)).trans f7_24
  have f12_25 : ad25 (12) = q8 := (hA25 (12) (by decide)).trans f12_24
  have f13_25 : ad25 (13) = q12 := (hA25 (13) (by decide)).trans f13_24
  have f14_25 : ad25 (14) = q18 := (hA25 (14) (by decide)).trans f14_24
  have f64_25 : ad25 (64) = q21 := (hA25 (64) (by decide)).trans f64_24
  have f70_25 : ad25 (70) = q24 := (hA25 (70) (by decide)).trans hq24
  have hC25 : ∀ k, k < 1 → ad25 k = ad k := fun k hk => (hA25 k (by omega)).trans (hC24 k hk)
  have o0_25 : E25 (0) = .inr (8, [.ref (q1), .ref (q4), .ref (q8), .ref (q12), .ref (q18), .ref (q21), .null, .null, .null, .int 0, .int 0, .int 0, .int 0, .int 0]) := (hB25 (0) (by decide)).trans o0_24
  have hD25 : ∀ k, k ∈ ([] : List Nat) → E25 k = E k := fun k hk => (by have h9 := hdl k hk; exact (hB25 k (List.mem_cons_of_mem _ hk)).trans (hD24 k hk))
  show EV _ _ _ _ (75, 828) 98 _ [.ref (q24), .ref (ad 0)] (AW (76) ad25 E25)
  refine a_putF (pc' := 101) (a := 0) (ci := 8) (kf := 6) S25 dX8_init_98 rfl (by decide) (by decide) f0_25 o0_25 (by decide) (by decide) fl_X8_51 rfl rfl rfl (cls_ty (by decide) 6 (by decide)) rfl rfl (Nat.le_of_ble_eq_true rfl) (fun E26 S26 hN26 hB26 => ?_)
  have o0_26 : E26 (0) = .inr (8, [.ref (q1), .ref (q4), .ref (q8), .ref (q12), .ref (q18), .ref (q21), .ref (q24), .null, .null, .int 0, .int 0, .int 0, .int 0, .int 0]) := hN26
  have hD26 : ∀ k, k ∈ ([] : List Nat) → E26 k = E k := fun k hk => (by have h9 := hdl k hk; exact (hB26 k (by omega)).trans (hD25 k hk))
  refine e_aload_n (pc' := 102) dX8_init_101 rfl rfl rfl ?_
  refine a_new (pc' := 105) (ci := 7) (fs := [.null, .int 0, .null, .int 0, .int 0]) S26 dX8_init_102 rfl (by decide) cl_X8_54 inst_7 ini_7 zf_7 (show 75 + 1 ≤ 95 from by decide) (show 828 + 5 ≤ 1200 from by decide) (fun q27 ad27 E27 S27 hA27 hq27 hB27 hN27 => ?_)
  have f0_27 : ad27 (0) = ad 0 := (hA27 (0) (by decide)).trans f0_25
  have f1_27 : ad27 (1) = q1 := (hA27 (1) (by decide)).trans f1_25
  have f7_27 : ad27 (7) = q4 := (hA27 (7) (by decide)).trans f7_25
  have f12_27 : ad27 (12) = q8 := (hA27 (12) (by decide)).trans f12_25
  have f13_27 : ad27 (13) = q12 := (hA27 (13) (by decide)).trans f13_25
  have f14_27 : ad27 (14) = q18 := (hA27 (14) (by decide)).trans f14_25
  have f64_27 : ad27 (64) = q21 := (hA27 (64) (by decide)).trans f64_25
  have f70_27 : ad27 (70) = q24 := (hA27 (70) (by decide)).trans f70_25
  have hC27 : ∀ k, k < 1 → ad27 k = ad k := fun k hk => (hA27 k (by omega)).trans (hC25 k hk)
  have o0_27 : E27 (0) = .inr (8, [.ref (q1), .ref (q4), .ref (q8), .ref (q12), .ref (q18), .ref (q21), .ref (q24), .null, .null, .int 0, .int 0, .int 0, .int 0, .int 0]) := (hB27 (0) (by decide)).trans o0_26
  have hD27 : ∀ k, k ∈ ([] : List Nat) → E27 k = E k := fun k hk => (by have h9 := hdl k hk; exact (hB27 k (by omega)).trans (hD26 k hk))
  show EV _ _ _ _ (76, 833) 105 _ [.ref q27, .ref (ad 0)] (AW (77) ad27 E27)
  refine e_dup (pc' := 106) dX8_init_105 rfl rfl ?_
  refine a_inv (pc' := 109) (m' := mX7_init) (d := (d + 1)) (As := []) (n' := 94) (by rw [← hq27]; exact k_txt S27 hN27) dX8_init_106 rfl rfl (Nat.le_of_ble_eq_true rfl) (fit_of (by omega) (by decide) (show 76 + 17 ≤ 95 from by decide) (show 833 + 135 ≤ 1200 from by decide)) ml_X8_56 okX7_init rfl (fun ad28 E28 S28 hA28 hB28 => ?_)
  have f0_28 : ad28 (0) = ad 0 := (hA28 (0) (by decide)).trans f0_27
  have f1_28 : ad28 (1) = q1 := (hA28 (1) (by decide)).trans f1_27
  have f7_28 : ad28 (7) = q4 := (hA28 (7) (by decide)).trans f7_27
  have f12_28 : ad28 (12) = q8 := (hA28 (12) (by decide)).trans f12_27
  have f13_28 : ad28 (13) = q12 := (hA28 (13) (by decide)).trans f13_27
  have f14_28 : ad28 (14) = q18 := (hA28 (14) (by decide)).trans f14_27
  have f64_28 : ad28 (64) = q21 := (hA28 (64) (by decide)).trans f64_27
  have f70_28 : ad28 (70) = q24 := (hA28 (70) (by decide)).trans f70_27
  have f76_28 : ad28 (76) = q27 := (hA28 (76) (by decide)).trans hq27
  have hC28 : ∀ k, k < 1 → ad28 k = ad k := fun k hk => (hA28 k (by omega)).trans (hC27 k hk)
  have o0_28 : E28 (0) = .inr (8, [.ref (q1), .ref (q4), .ref (q8), .ref (q12), .ref (q18), .ref (q21), .ref (q24), .null, .null, .int 0, .int 0, .int 0, .int 0, .int 0]) := (hB28 (0) (by decide)).trans o0_27
  have hD28 : ∀ k, k ∈ ([] : List Nat) → E28 k = E k := fun k hk => (by have h9 := hdl k hk; exact (hB28 k (List.mem_cons_of_mem _ hk)).trans (hD27 k hk))
  show EV _ _ _ _ (93, 968) 109 _ [.ref (q27), .ref (ad 0)] (AW (94) ad28 E28)
  refine a_putF (pc' := 112) (a := 0) (ci := 8) (kf := 7) S28 dX8_init_109 rfl (by decide) (by decide) f0_28 o0_28 (by decide) (by decide) fl_X8_57 rfl rfl rfl (cls_ty (by decide) 7 (by decide)) rfl rfl (Nat.le_of_ble_eq_true rfl) (fun E29 S29 hN29 hB29 => ?_)
  have o0_29 : E29 (0) = .inr (8, [.ref (q1), .ref (q4), .ref (q8), .ref (q12), .ref (q18), .ref (q21), .ref (q24), .ref (q27), .null, .int 0, .int 0, .int 0, .int 0, .int 0]) := hN29
  have hD29 : ∀ k, k ∈ ([] : List Nat) → E29 k = E k := fun k hk => (by have h9 := hdl k hk; exact (hB29 k (by omega)).trans (hD28 k hk))
  refine e_aload_n (pc' := 113) dX8_init_112 rfl rfl rfl ?_
  refine a_new (pc' := 116) (ci := 5) (fs := [.null, .int 0]) S29 dX8_init_113 rfl (by decide) cl_X8_61 inst_5 ini_5 zf_5 (show 93 + 1 ≤ 95 from by decide) (show 968 + 2 ≤ 1200 from by decide) (fun q30 ad30 E30 S30 hA30 hq30 hB30 hN30 => ?_)
  have f0_30 : ad30 (0) = ad 0 := (hA30 (0) (by decide)).trans f0_28
  have f1_30 : ad30 (1) = q1 := (hA30 (1) (by decide)).trans f1_28
  have f7_30 : ad30 (7) = q4 := (hA30 (7) (by decide)).trans f7_28
  have f12_30 : ad30 (12) = q8 := (hA30 (12) (by decide)).trans f12_28
  have f13_30 : ad30 (13) = q12 := (hA30 (13) (by decide)).trans f13_28
  have f14_30 : ad30 (14) = q18 := (hA30 (14) (by decide)).trans f14_28
  have f64_30 : ad30 (64) = q21 := (hA30 (64) (by decide)).trans f64_28
  have f70_30 : ad30 (70) = q24 := (hA30 (70) (by decide)).trans f70_28
  have f76_30 : ad30 (76) = q27 := (hA30 (76) (by decide)).trans f76_28
  have hC30 : ∀ k, k < 1 → ad30 k = ad k := fun k hk => (hA30 k (by omega)).trans (hC28 k hk)
  have o0_30 : E30 (0) = .inr (8, [.ref (q1), .ref (q4), .ref (q8), .ref (q12), .ref (q18), .ref (q21), .ref (q24), .ref (q27), .null, .int 0, .int 0, .int 0, .int 0, .int 0]) := (hB30 (0) (by decide)).trans o0_29
  have hD30 : ∀ k, k ∈ ([] : List Nat) → E30 k = E k := fun k hk => (by have h9 := hdl k hk; exact (hB30 k (by omega)).trans (hD29 k hk))
  show EV _ _ _ _ (94, 970) 116 _ [.ref q30, .ref (ad 0)] (AW (95) ad30 E30)
  refine e_dup (pc' := 117) dX8_init_116 rfl rfl ?_
  refine a_invN (pc' := 120) (m' := mX5_init) (d := (d + 1)) (As := []) (n' := 96) (by rw [← hq30]; exact k_lin S30 hN30) dX8_init_117 rfl rfl (Nat.le_of_ble_eq_true rfl) (fit_of (by omega) (by decide) (show 94 + 1 ≤ 95 from by decide) (show 970 + 23 ≤ 1200 from by decide)) nl_X8_63 okX5_init rfl (fun ad31 E31 S31 hA31 hB31 => ?_)
  have f0_31 : ad31 (0) = ad 0 := (hA31 (0) (by decide)).trans f0_30
  have f1_31 : ad31 (1) = q1 := (hA31 (1) (by decide)).trans f1_30
  have f7_31 : ad31 (7) = q4 := (hA31 (7) (by decide)).trans f7_30
  have f12_31 : ad31 (12) = q8 := (hA31 (12) (by decide)).trans f12_30
  have f13_31 : ad31 (13) = q12 := (hA31 (13) (by decide)).trans f13_30
  have f14_31 : ad31 (14) = q18 := (hA31 (14) (by decide)).trans f14_30
  have f64_31 : ad31 (64) = q21 := (hA31 (64) (by decide)).trans f64_30
  have f70_31 : ad31 (70) = q24 := (hA31 (70) (by decide)).trans f70_30
  have f76_31 : ad31 (76) = q27 := (hA31 (76) (by decide)).trans f76_30
  have f94_31 : ad31 (94) = q30 := (hA31 (94) (by decide)).trans hq30
  have hC31 : ∀ k, k < 1 → ad31 k = ad k := fun k hk => (hA31 k (by omega)).trans (hC30 k hk)
  have o0_31 : E31 (0) = .inr (8, [.ref (q1), .ref (q4), .ref (q8), .ref (q12), .ref (q18), .ref (q21), .ref (q24), .ref (q27), .null, .int 0, .int 0, .int 0, .int 0, .int 0]) := (hB31 (0) (by decide)).trans o0_30
  have hD31 : ∀ k, k ∈ ([] : List Nat) → E31 k = E k := fun k hk => (by have h9 := hdl k hk; exact (hB31 k (List.mem_cons_of_mem _ hk)).trans (hD30 k hk))
  show EV _ _ _ _ (95, 993) 120 _ [.ref (q30), .ref (ad 0)] (AW (96) ad31 E31)
  refine a_putF (pc' := 123) (a := 0) (ci := 8) (kf := 8) S31 dX8_init_120 rfl (by decide) (by decide) f0_31 o0_31 (by decide) (by decide) fl_X8_64 rfl rfl rfl (cls_ty (by decide) 8 (by decide)) rfl rfl (Nat.le_of_ble_eq_true rfl) (fun E32 S32 hN32 hB32 => ?_)
  have o0_32 : E32 (0) = .inr (8, [.ref (q1), .ref (q4), .ref (q8), .ref (q12), .ref (q18), .ref (q21), .ref (q24), .ref (q27), .ref (q30), .int 0, .int 0, .int 0, .int 0, .int 0]) := hN32
  have hD32 : ∀ k, k ∈ ([] : List Nat) → E32 k = E k := fun k hk => (by have h9 := hdl k hk; exact (hB32 k (by omega)).trans (hD31 k hk))
  refine e_aload_n (pc' := 124) dX8_init_123 rfl rfl rfl ?_
  refine e_iconst (pc' := 125) (v := (-1)) dX8_init_124 rfl (by decide) ?_
  refine a_put (pc' := 128) (a := 0) (ci := 8) (kf := 10) S32 dX8_init_125 rfl (by decide) (by decide) f0_31 o0_32 (by decide) (by decide) fl_X8_68 rfl (cls_ty (by decide) 10 (by decide)) rfl rfl (Nat.le_of_ble_eq_true rfl) (fun E33 S33 hN33 hB33 => ?_)
  have o0_33 : E33 (0) = .inr (8, [.ref (q1), .ref (q4), .ref (q8), .ref (q12), .ref (q18), .ref (q21), .ref (q24), .ref (q27), .ref (q30), .int 0, .int ((-1)), .int 0, .int 0, .int 0]) := hN33
  have hD33 : ∀ k, k ∈ ([] : List Nat) → E33 k = E k := fun k hk => (by have h9 := hdl k hk; exact (hB33 k (by omega)).trans (hD32 k hk))
  exact e_vret dX8_init_128 rfl ((by have F1 := S33.fin ((o0_33).trans (by rw [(show sh 0 = (8, 14, [some 1, some 7, some 12, some 13, some 14, some 64, some 70, some 76, some 94, none, none, none, none, none]) from rfl), cellM_obj (by decide)]; show Sum.inr (8, [.ref (q1), .ref (q4), .ref (q8), .ref (q12), .ref (q18), .ref (q21), .ref (q24), .ref (q27), .ref (q30), .int 0, .int ((-1)), .int 0, .int 0, .int 0]) = Sum.inr (8, objF ad31 (Z0 (0)) [some 1, some 7, some 12, some 13, some 14, some 64, some 70, some 76, some 94, none, none, none, none, none]); rw [← f1_31, ← f7_31, ← f12_31, ← f13_31, ← f14_31, ← f64_31, ← f70_31, ← f76_31, ← f94_31]; rfl)) (rall (by rw [(show sh 0 = (8, 14, [some 1, some 7, some 12, some 13, some 14, some 64, some 70, some 76, some 94, none, none, none, none, none]) from rfl)]; decide)); exact ⟨rfl, _, _, rfl, F1, hC31, hD33⟩)) (by decide) (by decide)
theorem k_mod (hS : ST G (97) ad E (96 :: ([] : List Nat))) (hE : E (96) = .inr (9, [.null, .null, .null, .null, .int 0, .int 0, .int 0, .int 0, .int 0, .int 0, .int 0, .int 0, .null, .int 0, .int 0, .null, .int 0, .int 0, .null, .int 0])) : CTR G d mX9_init (7, 1100) [.ref (ad 96)] (97) (104) ad E ([] : List Nat) := by
  refine EVM_of rfl (by decide) rfl (Nat.le_of_ble_eq_true rfl) ?_
  have hdl : ∀ k, k ∈ ([] : List Nat) → k < 96 := by decide
  have hC0 : ∀ k, k < 97 → ad k = ad k := fun _ _ => rfl
  have hD0 : ∀ k, k ∈ ([] : List Nat) → E k = E k := fun _ _ => rfl
  refine e_aload_n (pc' := 1) dX9_init_0 rfl rfl rfl ?_
  refine e_objInit (pc' := 4) dX9_init_1 rfl ml_X9_1 oi_in oi_co (Nat.le_of_ble_eq_true rfl) (by simp [rmK, Value.category] <;> omega) ?_
  refine e_aload_n (pc' := 5) dX9_init_4 rfl rfl rfl ?_
  refine e_bipush (pc' := 7) (v := nI 72) dX9_init_5 rfl (by decide) ?_
  refine a_newN (pc' := 9) (t := 0) (N := 72) (ty := .int) (a0 := (72, .inl (fun _ => 0))) hS (by decide) dX9_init_7 rfl ar_int rfl rfl (fun _ _ h => h) (fun _ => rfl) rfl (by decide) (by decide) (fun _ => by rw [(show sh 97 = (100, 72, []) from rfl)]; show _ = Sum.inl (gA G 0, (72, Sum.inl (Z0 (97)))); rw [Z0_n (by decide) (by decide)]) (by rw [(show sh 97 = (100, 72, []) from rfl)]) (show 0 + 1 ≤ 7 from by decide) (show 0 + 72 ≤ 1100 from by decide) (fun q1 ad1 E1 S1 hA1 hq1 hB1 => ?_)
  have f96_1 : ad1 (96) = ad 96 := (hA1 (96) (by decide)).trans (rfl : ad (96) = ad 96)
  have hC1 : ∀ k, k < 97 → ad1 k = ad k := fun k hk => (hA1 k (by omega)).trans (hC0 k hk)
  have o96_1 : E1 (96) = .inr (9, [.null, .null, .null, .null, .int 0, .int 0, .int 0, .int 0, .int 0, .int 0, .int 0, .int 0, .null, .int 0, .int 0, .null, .int 0, .int 0, .null, .int 0]) := (hB1 (96) (by decide)).trans hE
  have hD1 : ∀ k, k ∈ ([] : List Nat) → E1 k = E k := fun k hk => (by have h9 := hdl k hk; exact (hB1 k (by omega)).trans (hD0 k hk))
  show EV _ _ _ _ (1, 72) 9 _ [.ref q1, .ref (ad 96)] (AW (98) ad1 E1)
  refine a_putF (pc' := 12) (a := 96) (ci := 9) (kf := 0) S1 dX9_init_9 rfl (by decide) (by decide) f96_1 o96_1 (by decide) (by decide) fl_X9_7 rfl rfl rfl (cls_ty (by decide) 0 (by decide)) rfl rfl (Nat.le_of_ble_eq_true rfl) (fun E2 S2 hN2 hB2 => ?_)
  have o96_2 : E2 (96) = .inr (9, [.ref (q1), .null, .null, .null, .int 0, .int 0, .int 0, .int 0, .int 0, .int 0, .int 0, .int 0, .null, .int 0, .int 0, .null, .int 0, .int 0, .null, .int 0]) := hN2
  have hD2 : ∀ k, k ∈ ([] : List Nat) → E2 k = E k := fun k hk => (by have h9 := hdl k hk; exact (hB2 k (by omega)).trans (hD1 k hk))
  refine e_aload_n (pc' := 13) dX9_init_12 rfl rfl rfl ?_
  refine e_sipush (pc' := 16) (v := nI 576) dX9_init_13 rfl (by decide) ?_
  refine a_newN (pc' := 18) (t := 0) (N := 576) (ty := .int) (a0 := (576, .inl (fun _ => 0))) S2 (by decide) dX9_init_16 rfl ar_int rfl rfl (fun _ _ h => h) (fun _ => rfl) rfl (by decide) (by decide) (fun _ => by rw [(show sh 98 = (100, 576, []) from rfl)]; show _ = Sum.inl (gA G 0, (576, Sum.inl (Z0 (98)))); rw [Z0_n (by decide) (by decide)]) (by rw [(show sh 98 = (100, 576, []) from rfl)]) (show 1 + 1 ≤ 7 from by decide) (show 72 + 576 ≤ 1100 from by decide) (fun q3 ad3 E3 S3 hA3 hq3 hB3 => ?_)
  have f96_3 : ad3 (96) = ad 96 := (hA3 (96) (by decide)).trans f96_1
  have f97_3 : ad3 (97) = q1 := (hA3 (97) (by decide)).trans hq1
  have hC3 : ∀ k, k < 97 → ad3 k = ad k := fun k hk => (hA3 k (by omega)).trans (hC1 k hk)
  have o96_3 : E3 (96) = .inr (9, [.ref (q1), .null, .null, .null, .int 0, .int 0, .int 0, .int 0, .int 0, .int 0, .int 0, .int 0, .null, .int 0, .int 0, .null, .int 0, .int 0, .null, .int 0]) := (hB3 (96) (by decide)).trans o96_2
  have hD3 : ∀ k, k ∈ ([] : List Nat) → E3 k = E k := fun k hk => (by have h9 := hdl k hk; exact (hB3 k (by omega)).trans (hD2 k hk))
  show EV _ _ _ _ (2, 648) 18 _ [.ref q3, .ref (ad 96)] (AW (99) ad3 E3)
  refine a_putF (pc' := 21) (a := 96) (ci := 9) (kf := 1) S3 dX9_init_18 rfl (by decide) (by decide) f96_3 o96_3 (by decide) (by decide) fl_X9_13 rfl rfl rfl (cls_ty (by decide) 1 (by decide)) rfl rfl (Nat.le_of_ble_eq_true rfl) (fun E4 S4 hN4 hB4 => ?_)
  have o96_4 : E4 (96) = .inr (9, [.ref (q1), .ref (q3), .null, .null, .int 0, .int 0, .int 0, .int 0, .int 0, .int 0, .int 0, .int 0, .null, .int 0, .int 0, .null, .int 0, .int 0, .null, .int 0]) := hN4
  have hD4 : ∀ k, k ∈ ([] : List Nat) → E4 k = E k := fun k hk => (by have h9 := hdl k hk; exact (hB4 k (by omega)).trans (hD3 k hk))
  refine e_aload_n (pc' := 22) dX9_init_21 rfl rfl rfl ?_
  refine e_bipush (pc' := 24) (v := nI 72) dX9_init_22 rfl (by decide) ?_
  refine a_newN (pc' := 26) (t := 0) (N := 72) (ty := .int) (a0 := (72, .inl (fun _ => 0))) S4 (by decide) dX9_init_24 rfl ar_int rfl rfl (fun _ _ h => h) (fun _ => rfl) rfl (by decide) (by decide) (fun _ => by rw [(show sh 99 = (100, 72, []) from rfl)]; show _ = Sum.inl (gA G 0, (72, Sum.inl (Z0 (99)))); rw [Z0_n (by decide) (by decide)]) (by rw [(show sh 99 = (100, 72, []) from rfl)]) (show 2 + 1 ≤ 7 from by decide) (show 648 + 72 ≤ 1100 from by decide) (fun q5 ad5 E5 S5 hA5 hq5 hB5 => ?_)
  have f96_5 : ad5 (96) = ad 96 := (hA5 (96) (by decide)).trans f96_3
  have f97_5 : ad5 (97) = q1 := (hA5 (97) (by decide)).trans f97_3
  have f98_5 : ad5 (98) = q3 := (hA5 (98) (by decide)).trans hq3
  have hC5 : ∀ k, k < 97 → ad5 k = ad k := fun k hk => (hA5 k (by omega)).trans (hC3 k hk)
  have o96_5 : E5 (96) = .inr (9, [.ref (q1), .ref (q3), .null, .null, .int 0, .int 0, .int 0, .int 0, .int 0, .int 0, .int 0, .int 0, .null, .int 0, .int 0, .null, .int 0, .int 0, .null, .int 0]) := (hB5 (96) (by decide)).trans o96_4
  have hD5 : ∀ k, k ∈ ([] : List Nat) → E5 k = E k := fun k hk => (by have h9 := hdl k hk; exact (hB5 k (by omega)).trans (hD4 k hk))
  show EV _ _ _ _ (3, 720) 26 _ [.ref q5, .ref (ad 96)] (AW (100) ad5 E5)
  refine a_putF (pc' := 29) (a := 96) (ci := 9) (kf := 2) S5 dX9_init_26 rfl (by decide) (by decide) f96_5 o96_5 (by decide) (by decide) fl_X9_16 rfl rfl rfl (cls_ty (by decide) 2 (by decide)) rfl rfl (Nat.le_of_ble_eq_true rfl) (fun E6 S6 hN6 hB6 => ?_)
  have o96_6 : E6 (96) = .inr (9, [.ref (q1), .ref (q3), .ref (q5), .null, .int 0, .int 0, .int 0, .int 0, .int 0, .int 0, .int 0, .int 0, .null, .int 0, .int 0, .null, .int 0, .int 0, .null, .int 0]) := hN6
  have hD6 : ∀ k, k ∈ ([] : List Nat) → E6 k = E k := fun k hk => (by have h9 := hdl k hk; exact (hB6 k (by omega)).trans (hD5 k hk))
  refine e_aload_n (pc' := 30) dX9_init_29 rfl rfl rfl ?_
  refine e_bipush (pc' := 32) (v := nI 72) dX9_init_30 rfl (by decide) ?_
  refine a_newN (pc' := 34) (t := 0) (N := 72) (ty := .int) (a0 := (72, .inl (fun _ => 0))) S6 (by decide) dX9_init_32 rfl ar_int rfl rfl (fun _ _ h => h) (fun _ => rfl) rfl (by decide) (by decide) (fun _ => by rw [(show sh 100 = (100, 72, []) from rfl)]; show _ = Sum.inl (gA G 0, (72, Sum.inl (Z0 (100)))); rw [Z0_n (by decide) (by decide)]) (by rw [(show sh 100 = (100, 72, []) from rfl)]) (show 3 + 1 ≤ 7 from by decide) (show 720 + 72 ≤ 1100 from by decide) (fun q7 ad7 E7 S7 hA7 hq7 hB7 => ?_)
  have f96_7 : ad7 (96) = ad 96 := (hA7 (96) (by decide)).trans f96_5
  have f97_7 : ad7 (97) = q1 := (hA7 (97) (by decide)).trans f97_5
  have f98_7 : ad7 (98) = q3 := (hA7 (98) (by decide)).trans f98_5
  have f99_7 : ad7 (99) = q5 := (hA7 (99) (by decide)).trans hq5
  have hC7 : ∀ k, k < 97 → ad7 k = ad k := fun k hk => (hA7 k (by omega)).trans (hC5 k hk)
  have o96_7 : E7 (96) = .inr (9, [.ref (q1), .ref (q3), .ref (q5), .null, .int 0, .int 0, .int 0, .int 0, .int 0, .int 0, .int 0, .int 0, .null, .int 0, .int 0, .null, .int 0, .int 0, .null, .int 0]) := (hB7 (96) (by decide)).trans o96_6
  have hD7 : ∀ k, k ∈ ([] : List Nat) → E7 k = E k := fun k hk => (by have h9 := hdl k hk; exact (hB7 k (by omega)).trans (hD6 k hk))
  show EV _ _ _ _ (4, 792) 34 _ [.ref q7, .ref (ad 96)] (AW (101) ad7 E7)
  refine a_putF (pc' := 37) (a := 96) (ci := 9) (kf := 3) S7 dX9_init_34 rfl (by decide) (by decide) f96_7 o96_7 (by decide) (by decide) fl_X9_19 rfl rfl rfl (cls_ty (by decide) 3 (by decide)) rfl rfl (Nat.le_of_ble_eq_true rfl) (fun E8 S8 hN8 hB8 => ?_)
  have o96_8 : E8 (96) = .inr (9, [.ref (q1), .ref (q3), .ref (q5), .ref (q7), .int 0, .int 0, .int 0, .int 0, .int 0, .int 0, .int 0, .int 0, .null, .int 0, .int 0, .null, .int 0, .int 0, .null, .int 0]) := hN8
  have hD8 : ∀ k, k ∈ ([] : List Nat) → E8 k = E k := fun k hk => (by have h9 := hdl k hk; exact (hB8 k (by omega)).trans (hD7 k hk))
  refine e_aload_n (pc' := 38) dX9_init_37 rfl rfl rfl ?_
  refine e_bipush (pc' := 40) (v := nI 60) dX9_init_38 rfl (by decide) ?_
  refine a_newN (pc' := 42) (t := 0) (N := 60) (ty := .int) (a0 := (60, .inl (fun _ => 0))) S8 (by decide) dX9_init_40 rfl ar_int rfl rfl (fun _ _ h => h) (fun _ => rfl) rfl (by decide) (by decide) (fun _ => by rw [(show sh 101 = (100, 60, []) from rfl)]; show _ = Sum.inl (gA G 0, (60, Sum.inl (Z0 (101)))); rw [Z0_n (by decide) (by decide)]) (by rw [(show sh 101 = (100, 60, []) from rfl)]) (show 4 + 1 ≤ 7 from by decide) (show 792 + 60 ≤ 1100 from by decide) (fun q9 ad9 E9 S9 hA9 hq9 hB9 => ?_)
  have f96_9 : ad9 (96) = ad 96 := (hA9 (96) (by decide)).trans f96_7
  have f97_9 : ad9 (97) = q1 := (hA9 (97) (by decide)).trans f97_7
  have f98_9 : ad9 (98) = q3 := (hA9 (98) (by decide)).trans f98_7
  have f99_9 : ad9 (99) = q5 := (hA9 (99) (by decide)).trans f99_7
  have f100_9 : ad9 (100) = q7 := (hA9 (100) (by decide)).trans hq7
  have hC9 : ∀ k, k < 97 → ad9 k = ad k := fun k hk => (hA9 k (by omega)).trans (hC7 k hk)
  have o96_9 : E9 (96) = .inr (9, [.ref (q1), .ref (q3), .ref (q5), .ref (q7), .int 0, .int 0, .int 0, .int 0, .int 0, .int 0, .int 0, .int 0, .null, .int 0, .int 0, .null, .int 0, .int 0, .null, .int 0]) := (hB9 (96) (by decide)).trans o96_8
  have hD9 : ∀ k, k ∈ ([] : List Nat) → E9 k = E k := fun k hk => (by have h9 := hdl k hk; exact (hB9 k (by omega)).trans (hD8 k hk))
  show EV _ _ _ _ (5, 852) 42 _ [.ref q9, .ref (ad 96)] (AW (102) ad9 E9)
  refine a_putF (pc' := 45) (a := 96) (ci := 9) (kf := 12) S9 dX9_init_42 rfl (by decide) (by decide) f96_9 o96_9 (by decide) (by decide) fl_X9_22 rfl rfl rfl (cls_ty (by decide) 12 (by decide)) rfl rfl (Nat.le_of_ble_eq_true rfl) (fun E10 S10 hN10 hB10 => ?_)
  have o96_10 : E10 (96) = .inr (9, [.ref (q1), .ref (q3), .ref (q5), .ref (q7), .int 0, .int 0, .int 0, .int 0, .int 0, .int 0, .int 0, .int 0, .ref (q9), .int 0, .int 0, .null, .int 0, .int 0, .null, .int 0]) := hN10
  have hD10 : ∀ k, k ∈ ([] : List Nat) → E10 k = E k := fun k hk => (by have h9 := hdl k hk; exact (hB10 k (by omega)).trans (hD9 k hk))
  refine e_aload_n (pc' := 46) dX9_init_45 rfl rfl rfl ?_
  refine e_iconst (pc' := 47) (v := (-1)) dX9_init_46 rfl (by decide) ?_
  refine a_put (pc' := 50) (a := 96) (ci := 9) (kf := 14) S10 dX9_init_47 rfl (by decide) (by decide) f96_9 o96_10 (by decide) (by decide) fl_X9_25 rfl (cls_ty (by decide) 14 (by decide)) rfl rfl (Nat.le_of_ble_eq_true rfl) (fun E11 S11 hN11 hB11 => ?_)
  have o96_11 : E11 (96) = .inr (9, [.ref (q1), .ref (q3), .ref (q5), .ref (q7), .int 0, .int 0, .int 0, .int 0, .int 0, .int 0, .int 0, .int 0, .ref (q9), .int 0, .int ((-1)), .null, .int 0, .int 0, .null, .int 0]) := hN11
  have hD11 : ∀ k, k ∈ ([] : List Nat) → E11 k = E k := fun k hk => (by have h9 := hdl k hk; exact (hB11 k (by omega)).trans (hD10 k hk))
  refine e_aload_n (pc' := 51) dX9_init_50 rfl rfl rfl ?_
  refine e_bipush (pc' := 53) (v := nI 60) dX9_init_51 rfl (by decide) ?_
  refine a_newN (pc' := 55) (t := 1) (N := 60) (ty := .char) (a0 := (60, .inl (fun _ => 0))) S11 (by decide) dX9_init_53 rfl ar_char rfl rfl (fun _ _ h => h) (fun _ => rfl) rfl (by decide) (by decide) (fun _ => by rw [(show sh 102 = (101, 60, []) from rfl)]; show _ = Sum.inl (gA G 1, (60, Sum.inl (Z0 (102)))); rw [Z0_n (by decide) (by decide)]) (by rw [(show sh 102 = (101, 60, []) from rfl)]) (show 5 + 1 ≤ 7 from by decide) (show 852 + 60 ≤ 1100 from by decide) (fun q12 ad12 E12 S12 hA12 hq12 hB12 => ?_)
  have f96_12 : ad12 (96) = ad 96 := (hA12 (96) (by decide)).trans f96_9
  have f97_12 : ad12 (97) = q1 := (hA12 (97) (by decide)).trans f97_9
  have f98_12 : ad12 (98) = q3 := (hA12 (98) (by decide)).trans f98_9
  have f99_12 : ad12 (99) = q5 := (hA12 (99) (by decide)).trans f99_9
  have f100_12 : ad12 (100) = q7 := (hA12 (100) (by decide)).trans f100_9
  have f101_12 : ad12 (101) = q9 := (hA12 (101) (by decide)).trans hq9
  have hC12 : ∀ k, k < 97 → ad12 k = ad k := fun k hk => (hA12 k (by omega)).trans (hC9 k hk)
  have o96_12 : E12 (96) = .inr (9, [.ref (q1), .ref (q3), .ref (q5), .ref (q7), .int 0, .int 0, .int 0, .int 0, .int 0, .int 0, .int 0, .int 0, .ref (q9), .int 0, .int ((-1)), .null, .int 0, .int 0, .null, .int 0]) := (hB12 (96) (by decide)).trans o96_11
  have hD12 : ∀ k, k ∈ ([] : List Nat) → E12 k = E k := fun k hk => (by have h9 := hdl k hk; exact (hB12 k (by omega)).trans (hD11 k hk))
  show EV _ _ _ _ (6, 912) 55 _ [.ref q12, .ref (ad 96)] (AW (103) ad12 E12)
  refine a_putF (pc' := 58) (a := 96) (ci := 9) (kf := 15) S12 dX9_init_55 rfl (by decide) (by decide) f96_12 o96_12 (by decide) (by decide) fl_X9_29 rfl rfl rfl (cls_ty (by decide) 15 (by decide)) rfl rfl (Nat.le_of_ble_eq_true rfl) (fun E13 S13 hN13 hB13 => ?_)
  have o96_13 : E13 (96) = .inr (9, [.ref (q1), .ref (q3), .ref (q5), .ref (q7), .int 0, .int 0, .int 0, .int 0, .int 0, .int 0, .int 0, .int 0, .ref (q9), .int 0, .int ((-1)), .ref (q12), .int 0, .int 0, .null, .int 0]) := hN13
  have hD13 : ∀ k, k ∈ ([] : List Nat) → E13 k = E k := fun k hk => (by have h9 := hdl k hk; exact (hB13 k (by omega)).trans (hD12 k hk))
  refine e_aload_n (pc' := 59) dX9_init_58 rfl rfl rfl ?_
  refine e_bipush (pc' := 61) (v := nI 124) dX9_init_59 rfl (by decide) ?_
  refine a_newN (pc' := 63) (t := 0) (N := 124) (ty := .int) (a0 := (124, .inl (fun _ => 0))) S13 (by decide) dX9_init_61 rfl ar_int rfl rfl (fun _ _ h => h) (fun _ => rfl) rfl (by decide) (by decide) (fun _ => by rw [(show sh 103 = (100, 124, []) from rfl)]; show _ = Sum.inl (gA G 0, (124, Sum.inl (Z0 (103)))); rw [Z0_n (by decide) (by decide)]) (by rw [(show sh 103 = (100, 124, []) from rfl)]) (show 6 + 1 ≤ 7 from by decide) (show 912 + 124 ≤ 1100 from by decide) (fun q14 ad14 E14 S14 hA14 hq14 hB14 => ?_)
  have f96_14 : ad14 (96) = ad 96 := (hA14 (96) (by decide)).trans f96_12
  have f97_14 : ad14 (97) = q1 := (hA14 (97) (by decide)).trans f97_12
  have f98_14 : ad14 (98) = q3 := (hA14 (98) (by decide)).trans f98_12
  have f99_14 : ad14 (99) = q5 := (hA14 (99) (by decide)).trans f99_12
  have f100_14 : ad14 (100) = q7 := (hA14 (100) (by decide)).trans f100_12
  have f101_14 : ad14 (101) = q9 := (hA14 (101) (by decide)).trans f101_12
  have f102_14 : ad14 (102) = q12 := (hA14 (102) (by decide)).trans hq12
  have hC14 : ∀ k, k < 97 → ad14 k = ad k := fun k hk => (hA14 k (by omega)).trans (hC12 k hk)
  have o96_14 : E14 (96) = .inr (9, [.ref (q1), .ref (q3), .ref (q5), .ref (q7), .int 0, .int 0, .int 0, .int 0, .int 0, .int 0, .int 0, .int 0, .ref (q9), .int 0, .int ((-1)), .ref (q12), .int 0, .int 0, .null, .int 0]) := (hB14 (96) (by decide)).trans o96_13
  have hD14 : ∀ k, k ∈ ([] : List Nat) → E14 k = E k := fun k hk => (by have h9 := hdl k hk; exact (hB14 k (by omega)).trans (hD13 k hk))
  show EV _ _ _ _ (7, 1036) 63 _ [.ref q14, .ref (ad 96)] (AW (104) ad14 E14)
  refine a_putF (pc' := 66) (a := 96) (ci := 9) (kf := 18) S14 dX9_init_63 rfl (by decide) (by decide) f96_14 o96_14 (by decide) (by decide) fl_X9_33 rfl rfl rfl (cls_ty (by decide) 18 (by decide)) rfl rfl (Nat.le_of_ble_eq_true rfl) (fun E15 S15 hN15 hB15 => ?_)
  have o96_15 : E15 (96) = .inr (9, [.ref (q1), .ref (q3), .ref (q5), .ref (q7), .int 0, .int 0, .int 0, .int 0, .int 0, .int 0, .int 0, .int 0, .ref (q9), .int 0, .int ((-1)), .ref (q12), .int 0, .int 0, .ref (q14), .int 0]) := hN15
  have hD15 : ∀ k, k ∈ ([] : List Nat) → E15 k = E k := fun k hk => (by have h9 := hdl k hk; exact (hB15 k (by omega)).trans (hD14 k hk))
  exact e_vret dX9_init_66 rfl ((by have F1 := S15.fin ((o96_15).trans (by rw [(show sh 96 = (9, 20, [some 97, some 98, some 99, some 100, none, none, none, none, none, none, none, none, some 101, none, none, some 102, none, none, some 103, none]) from rfl), cellM_obj (by decide)]; show Sum.inr (9, [.ref (q1), .ref (q3), .ref (q5), .ref (q7), .int 0, .int 0, .int 0, .int 0, .int 0, .int 0, .int 0, .int 0, .ref (q9), .int 0, .int ((-1)), .ref (q12), .int 0, .int 0, .ref (q14), .int 0]) = Sum.inr (9, objF ad14 (Z0 (96)) [some 97, some 98, some 99, some 100, none, none, none, none, none, none, none, none, some 101, none, none, some 102, none, none, some 103, none]); rw [← f97_14, ← f98_14, ← f99_14, ← f100_14, ← f101_14, ← f102_14, ← hq14]; rfl)) (rall (by rw [(show sh 96 = (9, 20, [some 97, some 98, some 99, some 100, none, none, none, none, none, none, none, none, some 101, none, none, some 102, none, none, some 103, none]) from rfl)]; decide)); exact ⟨rfl, _, _, rfl, F1, hC14, hD15⟩)) (by decide) (by decide)
end T70

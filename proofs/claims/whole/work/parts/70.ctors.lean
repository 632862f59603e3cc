set_option maxHeartbeats 400000
/-! THE CONSTRUCTORS -/
theorem inst_0 : Cond.instantiable (cls 0).1 (cls 0).2.2 ∈ wG := wG_in (in_t1 (List.mem_of_getElem? (i := 139) rfl)) rfl
theorem ini_0 : Cond.initialized (cls 0).1 ∈ wG := wG_in (in_t1 (List.mem_of_getElem? (i := 5) rfl)) rfl
theorem zf_0 : ∀ j, j < (cls 0).2.2 → defaultValue (cls_t 0 j) = vp_V [.null, .null, .null, .int 0] j := fun j hj => match j, hj with
  | 0, _ => rfl
  | 1, _ => rfl
  | 2, _ => rfl
  | 3, _ => rfl
  | k + 4, h => absurd (show k + 4 < 4 from h) (by omega)
theorem inst_1 : Cond.instantiable (cls 1).1 (cls 1).2.2 ∈ wG := wG_in (in_t1 (List.mem_of_getElem? (i := 38) rfl)) rfl
theorem ini_1 : Cond.initialized (cls 1).1 ∈ wG := wG_in (in_t1 (List.mem_of_getElem? (i := 2) rfl)) rfl
theorem zf_1 : ∀ j, j < (cls 1).2.2 → defaultValue (cls_t 1 j) = vp_V [.int 0, .null, .null, .null, .int 0, .int 0, .null, .null, .int 0, .int 0] j := fun j hj => match j, hj with
  | 0, _ => rfl
  | 1, _ => rfl
  | 2, _ => rfl
  | 3, _ => rfl
  | 4, _ => rfl
  | 5, _ => rfl
  | 6, _ => rfl
  | 7, _ => rfl
  | 8, _ => rfl
  | 9, _ => rfl
  | k + 10, h => absurd (show k + 10 < 10 from h) (by omega)
theorem inst_2 : Cond.instantiable (cls 2).1 (cls 2).2.2 ∈ wG := wG_in (in_t1 (List.mem_of_getElem? (i := 186) rfl)) rfl
theorem ini_2 : Cond.initialized (cls 2).1 ∈ wG := wG_in (in_t1 (List.mem_of_getElem? (i := 8) rfl)) rfl
theorem zf_2 : ∀ j, j < (cls 2).2.2 → defaultValue (cls_t 2 j) = vp_V [.int 0, .int 0, .int 0, .int 0] j := fun j hj => match j, hj with
  | 0, _ => rfl
  | 1, _ => rfl
  | 2, _ => rfl
  | 3, _ => rfl
  | k + 4, h => absurd (show k + 4 < 4 from h) (by omega)
theorem inst_3 : Cond.instantiable (cls 3).1 (cls 3).2.2 ∈ wG := wG_in (in_t1 (List.mem_of_getElem? (i := 129) rfl)) rfl
theorem ini_3 : Cond.initialized (cls 3).1 ∈ wG := wG_in (in_t1 (List.mem_of_getElem? (i := 4) rfl)) rfl
theorem zf_3 : ∀ j, j < (cls 3).2.2 → defaultValue (cls_t 3 j) = vp_V [.null] j := fun j hj => match j, hj with
  | 0, _ => rfl
  | k + 1, h => absurd (show k + 1 < 1 from h) (by omega)
theorem inst_4 : Cond.instantiable (cls 4).1 (cls 4).2.2 ∈ wG := wG_in (in_t1 (List.mem_of_getElem? (i := 159) rfl)) rfl
theorem ini_4 : Cond.initialized (cls 4).1 ∈ wG := wG_in (in_t1 (List.mem_of_getElem? (i := 6) rfl)) rfl
theorem zf_4 : ∀ j, j < (cls 4).2.2 → defaultValue (cls_t 4 j) = vp_V [.null, .int 0, .int 0] j := fun j hj => match j, hj with
  | 0, _ => rfl
  | 1, _ => rfl
  | 2, _ => rfl
  | k + 3, h => absurd (show k + 3 < 3 from h) (by omega)
theorem inst_5 : Cond.instantiable (cls 5).1 (cls 5).2.2 ∈ wG := wG_in (in_t1 (List.mem_of_getElem? (i := 230) rfl)) rfl
theorem ini_5 : Cond.initialized (cls 5).1 ∈ wG := wG_in (in_t1 (List.mem_of_getElem? (i := 9) rfl)) rfl
theorem zf_5 : ∀ j, j < (cls 5).2.2 → defaultValue (cls_t 5 j) = vp_V [.null, .int 0] j := fun j hj => match j, hj with
  | 0, _ => rfl
  | 1, _ => rfl
  | k + 2, h => absurd (show k + 2 < 2 from h) (by omega)
theorem inst_6 : Cond.instantiable (cls 6).1 (cls 6).2.2 ∈ wG := wG_in (in_t1 (List.mem_of_getElem? (i := 98) rfl)) rfl
theorem ini_6 : Cond.initialized (cls 6).1 ∈ wG := wG_in (in_t1 (List.mem_of_getElem? (i := 3) rfl)) rfl
theorem zf_6 : ∀ j, j < (cls 6).2.2 → defaultValue (cls_t 6 j) = vp_V [.null, .null, .null, .null, .null, .int 0, .int 0, .int 0] j := fun j hj => match j, hj with
  | 0, _ => rfl
  | 1, _ => rfl
  | 2, _ => rfl
  | 3, _ => rfl
  | 4, _ => rfl
  | 5, _ => rfl
  | 6, _ => rfl
  | 7, _ => rfl
  | k + 8, h => absurd (show k + 8 < 8 from h) (by omega)
theorem inst_7 : Cond.instantiable (cls 7).1 (cls 7).2.2 ∈ wG := wG_in (in_t1 (List.mem_of_getElem? (i := 179) rfl)) rfl
theorem ini_7 : Cond.initialized (cls 7).1 ∈ wG := wG_in (in_t1 (List.mem_of_getElem? (i := 7) rfl)) rfl
theorem zf_7 : ∀ j, j < (cls 7).2.2 → defaultValue (cls_t 7 j) = vp_V [.null, .int 0, .null, .int 0, .int 0] j := fun j hj => match j, hj with
  | 0, _ => rfl
  | 1, _ => rfl
  | 2, _ => rfl
  | 3, _ => rfl
  | 4, _ => rfl
  | k + 5, h => absurd (show k + 5 < 5 from h) (by omega)
theorem inst_8 : Cond.instantiable (cls 8).1 (cls 8).2.2 ∈ wG := wG_in (in_t1 (List.mem_of_getElem? (i := 30) rfl)) rfl
theorem ini_8 : Cond.initialized (cls 8).1 ∈ wG := wG_in (in_t1 (List.mem_of_getElem? (i := 1) rfl)) rfl
theorem zf_8 : ∀ j, j < (cls 8).2.2 → defaultValue (cls_t 8 j) = vp_V [.null, .null, .null, .null, .null, .null, .null, .null, .null, .int 0, .int 0, .int 0, .int 0, .int 0] j := fun j hj => match j, hj with
  | 0, _ => rfl
  | 1, _ => rfl
  | 2, _ => rfl
  | 3, _ => rfl
  | 4, _ => rfl
  | 5, _ => rfl
  | 6, _ => rfl
  | 7, _ => rfl
  | 8, _ => rfl
  | 9, _ => rfl
  | 10, _ => rfl
  | 11, _ => rfl
  | 12, _ => rfl
  | 13, _ => rfl
  | k + 14, h => absurd (show k + 14 < 14 from h) (by omega)
theorem inst_9 : Cond.instantiable (cls 9).1 (cls 9).2.2 ∈ wG := wG_in (in_t6 (List.mem_of_getElem? (i := 5) rfl)) rfl
theorem ini_9 : Cond.initialized (cls 9).1 ∈ wG := wG_in (in_t1 (List.mem_of_getElem? (i := 10) rfl)) rfl
theorem zf_9 : ∀ j, j < (cls 9).2.2 → defaultValue (cls_t 9 j) = vp_V [.null, .null, .null, .null, .int 0, .int 0, .int 0, .int 0, .int 0, .int 0, .int 0, .int 0, .null, .int 0, .int 0, .null, .int 0, .int 0, .null, .int 0] j := fun j hj => match j, hj with
  | 0, _ => rfl
  | 1, _ => rfl
  | 2, _ => rfl
  | 3, _ => rfl
  | 4, _ => rfl
  | 5, _ => rfl
  | 6, _ => rfl
  | 7, _ => rfl
  | 8, _ => rfl
  | 9, _ => rfl
  | 10, _ => rfl
  | 11, _ => rfl
  | 12, _ => rfl
  | 13, _ => rfl
  | 14, _ => rfl
  | 15, _ => rfl
  | 16, _ => rfl
  | 17, _ => rfl
  | 18, _ => rfl
  | 19, _ => rfl
  | k + 20, h => absurd (show k + 20 < 20 from h) (by omega)
theorem ar_int : Cond.arrayClass (newarray.typeOf .int) ∈ wG := wG_in (in_t1 (List.mem_of_getElem? (i := 96) rfl)) rfl
theorem ar_char : Cond.arrayClass (newarray.typeOf .char) ∈ wG := wG_in (in_t1 (List.mem_of_getElem? (i := 208) rfl)) rfl
theorem ar_long : Cond.arrayClass (newarray.typeOf .long) ∈ wG := wG_in (in_t7 (List.mem_of_getElem? (i := 208) rfl)) rfl
theorem ar_double : Cond.arrayClass (newarray.typeOf .double) ∈ wG := wG_in (in_t7 (List.mem_of_getElem? (i := 209) rfl)) rfl
theorem AO_1 {G : gC} : ∀ (s : State) (H : Heap), CX G s H → va_AO RX1 s := fun s H h => h.2.2.2.2.2.2.2.2.2.1
theorem AO_2 {G : gC} : ∀ (s : State) (H : Heap), CX G s H → va_AO RX2 s := fun s H h => h.2.2.2.2.2.2.2.2.2.2.1
section T70
variable {G : gC} {ad : Nat → Nat} {E : Nat → va_E} {d : Nat}
theorem k_col {a n : Nat} {dn : List Nat} (hdl : ∀ k, k ∈ dn → k < a) (ha : a < n) (h96 : n + 4 < 96) (hsa : sh a = (1, 10, [none, some n, some (n + 1), some (n + 2), none, none, some (n + 3), some (n + 4), none, none])) (hs0 : sh n = (100, 9, [])) (hs1 : sh (n + 1) = (100, 9, [])) (hs2 : sh (n + 2) = (100, 9, [])) (hs3 : sh (n + 3) = (100, 16, [])) (hs4 : sh (n + 4) = (100, 16, [])) (ha0 : a ≠ 0) (hS : ST G (n) ad E (a :: dn)) (hE : E (a) = .inr (1, [.int 0, .null, .null, .null, .int 0, .int 0, .null, .null, .int 0, .int 0])) : CTR G d mX1_init (5, 59) [.ref (ad a)] (n) (n + 5) ad E dn := by
  refine EVM_of rfl (by decide) rfl (Nat.le_of_ble_eq_true rfl) ?_
  have hC0 : ∀ k, k < n → ad k = ad k := fun _ _ => rfl
  have hD0 : ∀ k, k ∈ dn → E k = E k := fun _ _ => rfl
  refine e_aload_n (pc' := 1) dX1_init_0 rfl rfl rfl ?_
  refine e_objInit (pc' := 4) dX1_init_1 rfl ml_X1_3 oi_in oi_co (Nat.le_of_ble_eq_true rfl) (by simp [rmK, Value.category] <;> omega) ?_
  refine e_aload_n (pc' := 5) dX1_init_4 rfl rfl rfl ?_
  refine e_bipush (pc' := 7) (v := nI 9) dX1_init_5 rfl (by decide) ?_
  refine a_newN (pc' := 9) (t := 0) (N := 9) (ty := .int) (a0 := (9, .inl (fun _ => 0))) hS (fun z => by rcases List.mem_cons.mp z with h | h; omega; have := hdl _ h; omega) dX1_init_7 rfl ar_int rfl rfl (fun _ _ h => h) (fun _ => rfl) rfl (by decide) (by decide) (fun _ => by rw [hs0]; show _ = Sum.inl (gA G 0, (9, Sum.inl (Z0 (n)))); rw [Z0_n (by omega) (by omega)]) (by rw [hs0]) (show 0 + 1 ≤ 5 from by decide) (show 0 + 9 ≤ 59 from by decide) (fun q1 ad1 E1 S1 hA1 hq1 hB1 => ?_)
  have fa_1 : ad1 (a) = ad a := (hA1 (a) (by omega)).trans (rfl : ad (a) = ad a)
  have hC1 : ∀ k, k < n → ad1 k = ad k := fun k hk => (hA1 k (by omega)).trans (hC0 k hk)
  have oa_1 : E1 (a) = .inr (1, [.int 0, .null, .null, .null, .int 0, .int 0, .null, .null, .int 0, .int 0]) := (hB1 (a) (by omega)).trans hE
  have hD1 : ∀ k, k ∈ dn → E1 k = E k := fun k hk => (by have h9 := hdl k hk; exact (hB1 k (by omega)).trans (hD0 k hk))
  show EV _ _ _ _ (1, 9) 9 _ [.ref q1, .ref (ad a)] (AW (n + 1) ad1 E1)
  refine a_putF (pc' := 12) (a := a) (ci := 1) (kf := 1) S1 dX1_init_9 rfl (by omega) List.mem_cons_self fa_1 oa_1 (by decide) (by decide) fl_X1_9 rfl rfl rfl (cls_ty (by decide) 1 (by decide)) rfl rfl (by decide) (fun E2 S2 hN2 hB2 => ?_)
  have oa_2 : E2 (a) = .inr (1, [.int 0, .ref (q1), .null, .null, .int 0, .int 0, .null, .null, .int 0, .int 0]) := hN2
  have hD2 : ∀ k, k ∈ dn → E2 k = E k := fun k hk => (by have h9 := hdl k hk; exact (hB2 k (by omega)).trans (hD1 k hk))
  refine e_aload_n (pc' := 13) dX1_init_12 rfl rfl rfl ?_
  refine e_bipush (pc' := 15) (v := nI 9) dX1_init_13 rfl (by decide) ?_
  refine a_newN (pc' := 17) (t := 0) (N := 9) (ty := .int) (a0 := (9, .inl (fun _ => 0))) S2 (fun z => by rcases List.mem_cons.mp z with h | h; omega; have := hdl _ h; omega) dX1_init_15 rfl ar_int rfl rfl (fun _ _ h => h) (fun _ => rfl) rfl (by decide) (by decide) (fun _ => by rw [hs1]; show _ = Sum.inl (gA G 0, (9, Sum.inl (Z0 (n + 1)))); rw [Z0_n (by omega) (by omega)]) (by rw [hs1]) (show 1 + 1 ≤ 5 from by decide) (show 9 + 9 ≤ 59 from by decide) (fun q3 ad3 E3 S3 hA3 hq3 hB3 => ?_)
  have fa_3 : ad3 (a) = ad a := (hA3 (a) (by omega)).trans fa_1
  have fn_3 : ad3 (n) = q1 := (hA3 (n) (by omega)).trans hq1
  have hC3 : ∀ k, k < n → ad3 k = ad k := fun k hk => (hA3 k (by omega)).trans (hC1 k hk)
  have oa_3 : E3 (a) = .inr (1, [.int 0, .ref (q1), .null, .null, .int 0, .int 0, .null, .null, .int 0, .int 0]) := (hB3 (a) (by omega)).trans oa_2
  have hD3 : ∀ k, k ∈ dn → E3 k = E k := fun k hk => (by have h9 := hdl k hk; exact (hB3 k (by omega)).trans (hD2 k hk))
  show EV _ _ _ _ (2, 18) 17 _ [.ref q3, .ref (ad a)] (AW (n + 2) ad3 E3)
  refine a_putF (pc' := 20) (a := a) (ci := 1) (kf := 2) S3 dX1_init_17 rfl (by omega) List.mem_cons_self fa_3 oa_3 (by decide) (by decide) fl_X1_15 rfl rfl rfl (cls_ty (by decide) 2 (by decide)) rfl rfl (by decide) (fun E4 S4 hN4 hB4 => ?_)
  have oa_4 : E4 (a) = .inr (1, [.int 0, .ref (q1), .ref (q3), .null, .int 0, .int 0, .null, .null, .int 0, .int 0]) := hN4
  have hD4 : ∀ k, k ∈ dn → E4 k = E k := fun k hk => (by have h9 := hdl k hk; exact (hB4 k (by omega)).trans (hD3 k hk))
  refine e_aload_n (pc' := 21) dX1_init_20 rfl rfl rfl ?_
  refine e_bipush (pc' := 23) (v := nI 9) dX1_init_21 rfl (by decide) ?_
  refine a_newN (pc' := 25) (t := 0) (N := 9) (ty := .int) (a0 := (9, .inl (fun _ => 0))) S4 (fun z => by rcases List.mem_cons.mp z with h | h; omega; have := hdl _ h; omega) dX1_init_23 rfl ar_int rfl rfl (fun _ _ h => h) (fun _ => rfl) rfl (by decide) (by decide) (fun _ => by rw [hs2]; show _ = Sum.inl (gA G 0, (9, Sum.inl (Z0 (n + 2)))); rw [Z0_n (by omega) (by omega)]) (by rw [hs2]) (show 2 + 1 ≤ 5 from by decide) (show 18 + 9 ≤ 59 from by decide) (fun q5 ad5 E5 S5 hA5 hq5 hB5 => ?_)
  have fa_5 : ad5 (a) = ad a := (hA5 (a) (by omega)).trans fa_3
  have fn_5 : ad5 (n) = q1 := (hA5 (n) (by omega)).trans fn_3
  have fnp1_5 : ad5 (n + 1) = q3 := (hA5 (n + 1) (by omega)).trans hq3
  have hC5 : ∀ k, k < n → ad5 k = ad k := fun k hk => (hA5 k (by omega)).trans (hC3 k hk)
  have oa_5 : E5 (a) = .inr (1, [.int 0, .ref (q1), .ref (q3), .null, .int 0, .int 0, .null, .null, .int 0, .int 0]) := (hB5 (a) (by omega)).trans oa_4
  have hD5 : ∀ k, k ∈ dn → E5 k = E k := fun k hk => (by have h9 := hdl k hk; exact (hB5 k (by omega)).trans (hD4 k hk))
  show EV _ _ _ _ (3, 27) 25 _ [.ref q5, .ref (ad a)] (AW (n + 3) ad5 E5)
  refine a_putF (pc' := 28) (a := a) (ci := 1) (kf := 3) S5 dX1_init_25 rfl (by omega) List.mem_cons_self fa_5 oa_5 (by decide) (by decide) fl_X1_18 rfl rfl rfl (cls_ty (by decide) 3 (by decide)) rfl rfl (by decide) (fun E6 S6 hN6 hB6 => ?_)
  have oa_6 : E6 (a) = .inr (1, [.int 0, .ref (q1), .ref (q3), .ref (q5), .int 0, .int 0, .null, .null, .int 0, .int 0]) := hN6
  have hD6 : ∀ k, k ∈ dn → E6 k = E k := fun k hk => (by have h9 := hdl k hk; exact (hB6 k (by omega)).trans (hD5 k hk))
  refine e_aload_n (pc' := 29) dX1_init_28 rfl rfl rfl ?_
  refine e_bipush (pc' := 31) (v := nI 16) dX1_init_29 rfl (by decide) ?_
  refine a_newN (pc' := 33) (t := 0) (N := 16) (ty := .int) (a0 := (16, .inl (fun _ => 0))) S6 (fun z => by rcases List.mem_cons.mp z with h | h; omega; have := hdl _ h; omega) dX1_init_31 rfl ar_int rfl rfl (fun _ _ h => h) (fun _ => rfl) rfl (by decide) (by decide) (fun _ => by rw [hs3]; show _ = Sum.inl (gA G 0, (16, Sum.inl (Z0 (n + 3)))); rw [Z0_n (by omega) (by omega)]) (by rw [hs3]) (show 3 + 1 ≤ 5 from by decide) (show 27 + 16 ≤ 59 from by decide) (fun q7 ad7 E7 S7 hA7 hq7 hB7 => ?_)
  have fa_7 : ad7 (a) = ad a := (hA7 (a) (by omega)).trans fa_5
  have fn_7 : ad7 (n) = q1 := (hA7 (n) (by omega)).trans fn_5
  have fnp1_7 : ad7 (n + 1) = q3 := (hA7 (n + 1) (by omega)).trans fnp1_5
  have fnp2_7 : ad7 (n + 2) = q5 := (hA7 (n + 2) (by omega)).trans hq5
  have hC7 : ∀ k, k < n → ad7 k = ad k := fun k hk => (hA7 k (by omega)).trans (hC5 k hk)
  have oa_7 : E7 (a) = .inr (1, [.int 0, .ref (q1), .ref (q3), .ref (q5), .int 0, .int 0, .null, .null, .int 0, .int 0]) := (hB7 (a) (by omega)).trans oa_6
  have hD7 : ∀ k, k ∈ dn → E7 k = E k := fun k hk => (by have h9 := hdl k hk; exact (hB7 k (by omega)).trans (hD6 k hk))
  show EV _ _ _ _ (4, 43) 33 _ [.ref q7, .ref (ad a)] (AW (n + 4) ad7 E7)
  refine a_putF (pc' := 36) (a := a) (ci := 1) (kf := 6) S7 dX1_init_33 rfl (by omega) List.mem_cons_self fa_7 oa_7 (by decide) (by decide) fl_X1_21 rfl rfl rfl (cls_ty (by decide) 6 (by decide)) rfl rfl (by decide) (fun E8 S8 hN8 hB8 => ?_)
  have oa_8 : E8 (a) = .inr (1, [.int 0, .ref (q1), .ref (q3), .ref (q5), .int 0, .int 0, .ref (q7), .null, .int 0, .int 0]) := hN8
  have hD8 : ∀ k, k ∈ dn → E8 k = E k := fun k hk => (by have h9 := hdl k hk; exact (hB8 k (by omega)).trans (hD7 k hk))
  refine e_aload_n (pc' := 37) dX1_init_36 rfl rfl rfl ?_
  refine e_bipush (pc' := 39) (v := nI 16) dX1_init_37 rfl (by decide) ?_
  refine a_newN (pc' := 41) (t := 0) (N := 16) (ty := .int) (a0 := (16, .inl (fun _ => 0))) S8 (fun z => by rcases List.mem_cons.mp z with h | h; omega; have := hdl _ h; omega) dX1_init_39 rfl ar_int rfl rfl (fun _ _ h => h) (fun _ => rfl) rfl (by decide) (by decide) (fun _ => by rw [hs4]; show _ = Sum.inl (gA G 0, (16, Sum.inl (Z0 (n + 4)))); rw [Z0_n (by omega) (by omega)]) (by rw [hs4]) (show 4 + 1 ≤ 5 from by decide) (show 43 + 16 ≤ 59 from by decide) (fun q9 ad9 E9 S9 hA9 hq9 hB9 => ?_)
  have fa_9 : ad9 (a) = ad a := (hA9 (a) (by omega)).trans fa_7
  have fn_9 : ad9 (n) = q1 := (hA9 (n) (by omega)).trans fn_7
  have fnp1_9 : ad9 (n + 1) = q3 := (hA9 (n + 1) (by omega)).trans fnp1_7
  have fnp2_9 : ad9 (n + 2) = q5 := (hA9 (n + 2) (by omega)).trans fnp2_7
  have fnp3_9 : ad9 (n + 3) = q7 := (hA9 (n + 3) (by omega)).trans hq7
  have hC9 : ∀ k, k < n → ad9 k = ad k := fun k hk => (hA9 k (by omega)).trans (hC7 k hk)
  have oa_9 : E9 (a) = .inr (1, [.int 0, .ref (q1), .ref (q3), .ref (q5), .int 0, .int 0, .ref (q7), .null, .int 0, .int 0]) := (hB9 (a) (by omega)).trans oa_8
  have hD9 : ∀ k, k ∈ dn → E9 k = E k := fun k hk => (by have h9 := hdl k hk; exact (hB9 k (by omega)).trans (hD8 k hk))
  show EV _ _ _ _ (5, 59) 41 _ [.ref q9, .ref (ad a)] (AW (n + 5) ad9 E9)
  refine a_putF (pc' := 44) (a := a) (ci := 1) (kf := 7) S9 dX1_init_41 rfl (by omega) List.mem_cons_self fa_9 oa_9 (by decide) (by decide) fl_X1_24 rfl rfl rfl (cls_ty (by decide) 7 (by decide)) rfl rfl (by decide) (fun E10 S10 hN10 hB10 => ?_)
  have oa_10 : E10 (a) = .inr (1, [.int 0, .ref (q1), .ref (q3), .ref (q5), .int 0, .int 0, .ref (q7), .ref (q9), .int 0, .int 0]) := hN10
  have hD10 : ∀ k, k ∈ dn → E10 k = E k := fun k hk => (by have h9 := hdl k hk; exact (hB10 k (by omega)).trans (hD9 k hk))
  exact e_vret dX1_init_44 rfl ((by have F1 := S10.fin ((oa_10).trans (by rw [hsa, cellM_obj (by decide)]; show Sum.inr (1, [.int 0, .ref (q1), .ref (q3), .ref (q5), .int 0, .int 0, .ref (q7), .ref (q9), .int 0, .int 0]) = Sum.inr (1, objF ad9 (Z0 (a)) [none, some n, some (n + 1), some (n + 2), none, none, some (n + 3), some (n + 4), none, none]); rw [Z0_n (by omega) (by omega)]; rw [← fn_9, ← fnp1_9, ← fnp2_9, ← fnp3_9, ← hq9]; rfl)) (by rw [hsa]; exact rall (by simp)); exact ⟨rfl, _, _, rfl, F1, hC9, hD10⟩)) (by decide) (by decide)
end T70

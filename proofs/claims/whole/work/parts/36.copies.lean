set_option maxHeartbeats 400000
/-! THE REFERENCE: laying, copying -/
section T36
variable {G : gC} {ad : Nat → Nat} {d : Nat} {M : Nat → Nat → Int32} {o : (Nat → Int64) × (Nat → UInt64)} {c : Col}
theorem g_lays0 {m : Nat} (hm : m < 9) (x : Int32) : RET G ad d mX9_lays [.ref (ad 96), .int (nI m), .int (nI 0), .int (x)] (M, o) none ((up2 M 97 (4 + (4 * m) + 0) x), o) := by
  refine CM_of rfl (by decide) rfl (Nat.le_of_ble_eq_true rfl) rfl ?_
  refine e_aload_n (pc' := 1) dX9_lays_0 rfl rfl rfl ?_
  refine p_gfr (pc' := 4) (a := 96) (k := 0) (t := 97) dX9_lays_1 rfl rfl (by decide) (by decide) rfl fl_X9_7 ?_
  refine e_iconst (pc' := 5) (v := nI 4) dX9_lays_4 rfl (by decide) ?_
  refine e_iconst (pc' := 6) (v := nI 4) dX9_lays_5 rfl (by decide) ?_
  refine e_iload_n (pc' := 7) dX9_lays_6 rfl rfl rfl ?_
  refine e_imulN (pc' := 8) dX9_lays_7 rfl ?_
  refine e_iaddN (pc' := 9) dX9_lays_8 rfl ?_
  refine e_iload_n (pc' := 10) dX9_lays_9 rfl rfl rfl ?_
  refine e_iaddN (pc' := 11) dX9_lays_10 rfl ?_
  refine e_iload_n (pc' := 12) dX9_lays_11 rfl rfl rfl ?_
  refine p_iast (pc' := 13) (a := 97) (k := (4 + (4 * m)) + 0) dX9_lays_12 rfl (rfl) (rfl) (by omega) (by decide) ?_
  exact e_vret dX9_lays_13 rfl (MP.ret rfl rfl) (by decide) (by decide)
theorem g_lays1 {m : Nat} (hm : m < 9) (x : Int32) : RET G ad d mX9_lays [.ref (ad 96), .int (nI m), .int (nI 1), .int (x)] (M, o) none ((up2 M 97 (4 + (4 * m) + 1) x), o) := by
  refine CM_of rfl (by decide) rfl (Nat.le_of_ble_eq_true rfl) rfl ?_
  refine e_aload_n (pc' := 1) dX9_lays_0 rfl rfl rfl ?_
  refine p_gfr (pc' := 4) (a := 96) (k := 0) (t := 97) dX9_lays_1 rfl rfl (by decide) (by decide) rfl fl_X9_7 ?_
  refine e_iconst (pc' := 5) (v := nI 4) dX9_lays_4 rfl (by decide) ?_
  refine e_iconst (pc' := 6) (v := nI 4) dX9_lays_5 rfl (by decide) ?_
  refine e_iload_n (pc' := 7) dX9_lays_6 rfl rfl rfl ?_
  refine e_imulN (pc' := 8) dX9_lays_7 rfl ?_
  refine e_iaddN (pc' := 9) dX9_lays_8 rfl ?_
  refine e_iload_n (pc' := 10) dX9_lays_9 rfl rfl rfl ?_
  refine e_iaddN (pc' := 11) dX9_lays_10 rfl ?_
  refine e_iload_n (pc' := 12) dX9_lays_11 rfl rfl rfl ?_
  refine p_iast (pc' := 13) (a := 97) (k := (4 + (4 * m)) + 1) dX9_lays_12 rfl (rfl) (rfl) (by omega) (by decide) ?_
  exact e_vret dX9_lays_13 rfl (MP.ret rfl rfl) (by decide) (by decide)
theorem g_lays2 {m : Nat} (hm : m < 9) (x : Int32) : RET G ad d mX9_lays [.ref (ad 96), .int (nI m), .int (nI 2), .int (x)] (M, o) none ((up2 M 97 (4 + (4 * m) + 2) x), o) := by
  refine CM_of rfl (by decide) rfl (Nat.le_of_ble_eq_true rfl) rfl ?_
  refine e_aload_n (pc' := 1) dX9_lays_0 rfl rfl rfl ?_
  refine p_gfr (pc' := 4) (a := 96) (k := 0) (t := 97) dX9_lays_1 rfl rfl (by decide) (by decide) rfl fl_X9_7 ?_
  refine e_iconst (pc' := 5) (v := nI 4) dX9_lays_4 rfl (by decide) ?_
  refine e_iconst (pc' := 6) (v := nI 4) dX9_lays_5 rfl (by decide) ?_
  refine e_iload_n (pc' := 7) dX9_lays_6 rfl rfl rfl ?_
  refine e_imulN (pc' := 8) dX9_lays_7 rfl ?_
  refine e_iaddN (pc' := 9) dX9_lays_8 rfl ?_
  refine e_iload_n (pc' := 10) dX9_lays_9 rfl rfl rfl ?_
  refine e_iaddN (pc' := 11) dX9_lays_10 rfl ?_
  refine e_iload_n (pc' := 12) dX9_lays_11 rfl rfl rfl ?_
  refine p_iast (pc' := 13) (a := 97) (k := (4 + (4 * m)) + 2) dX9_lays_12 rfl (rfl) (rfl) (by omega) (by decide) ?_
  exact e_vret dX9_lays_13 rfl (MP.ret rfl rfl) (by decide) (by decide)
theorem g_lays3 {m : Nat} (hm : m < 9) (x : Int32) : RET G ad d mX9_lays [.ref (ad 96), .int (nI m), .int (nI 3), .int (x)] (M, o) none ((up2 M 97 (4 + (4 * m) + 3) x), o) := by
  refine CM_of rfl (by decide) rfl (Nat.le_of_ble_eq_true rfl) rfl ?_
  refine e_aload_n (pc' := 1) dX9_lays_0 rfl rfl rfl ?_
  refine p_gfr (pc' := 4) (a := 96) (k := 0) (t := 97) dX9_lays_1 rfl rfl (by decide) (by decide) rfl fl_X9_7 ?_
  refine e_iconst (pc' := 5) (v := nI 4) dX9_lays_4 rfl (by decide) ?_
  refine e_iconst (pc' := 6) (v := nI 4) dX9_lays_5 rfl (by decide) ?_
  refine e_iload_n (pc' := 7) dX9_lays_6 rfl rfl rfl ?_
  refine e_imulN (pc' := 8) dX9_lays_7 rfl ?_
  refine e_iaddN (pc' := 9) dX9_lays_8 rfl ?_
  refine e_iload_n (pc' := 10) dX9_lays_9 rfl rfl rfl ?_
  refine e_iaddN (pc' := 11) dX9_lays_10 rfl ?_
  refine e_iload_n (pc' := 12) dX9_lays_11 rfl rfl rfl ?_
  refine p_iast (pc' := 13) (a := 97) (k := (4 + (4 * m)) + 3) dX9_lays_12 rfl (rfl) (rfl) (by omega) (by decide) ?_
  exact e_vret dX9_lays_13 rfl (MP.ret rfl rfl) (by decide) (by decide)
theorem gl_copies {M0 : Nat → Nat → Int32} {R Q n0 n1 p q : Nat} (hR : shp[R]? = some (100, n0, [])) (hQ : shp[Q]? = some (100, n1, [])) (hRQ : R ≠ Q) (hp : p + 72 ≤ n0) (hq : q + 72 ≤ n1) (h0 : n0 < 1000) (h1 : n1 < 1000) : ∀ i, i ≤ 72 → ∀ (M : Nat → Nat → Int32), (∀ k, k < i → M Q (q + k) = M0 R (p + k)) → (∀ k, (k < q ∨ q + i ≤ k) → M Q k = M0 Q k) → KP (fun a => a == Q) M0 M → ER G ad d mX9_copies (0, 0) (PI none o (fun M' => (∀ k, k < 72 → M' Q (q + k) = M0 R (p + k)) ∧ (∀ k, (k < q ∨ q + 72 ≤ k) → M' Q k = M0 Q k) ∧ KP (fun a => a == Q) M0 M')) (0, 0) 3 [some (.ref (ad (R))), some (.int (nI p)), some (.ref (ad (Q))), some (.int (nI q)), some (.int (nI i))] [] (M, o) := down (72) _ (fun i hi ih M g1 g2 g3 => by
  refine e_iload (pc' := 5) dX9_copies_3 rfl rfl ?_
  refine e_bipush (pc' := 7) (v := nI 72) dX9_copies_5 rfl (by decide) ?_
  refine e_icmp_geN (pc' := 10) (tgt := 28) dX9_copies_7 rfl (by decide) (by omega) (by omega) (fun hz1 => ?_) (fun hz1 => ?_)
  · exact e_vret dX9_copies_28 rfl (MP.retI rfl ⟨fun k hk => g1 k (by omega), fun k hk => g2 k (by omega), g3⟩) (by decide) (by decide)
  · refine e_aload_n (pc' := 11) dX9_copies_10 rfl rfl rfl ?_
    refine e_iload_n (pc' := 12) dX9_copies_11 rfl rfl rfl ?_
    refine e_iload (pc' := 14) dX9_copies_12 rfl rfl ?_
    refine e_iaddN (pc' := 15) dX9_copies_14 rfl ?_
    refine e_aload_n (pc' := 16) dX9_copies_15 rfl rfl rfl ?_
    refine e_iload_n (pc' := 17) dX9_copies_16 rfl rfl rfl ?_
    refine e_iload (pc' := 19) dX9_copies_17 rfl rfl ?_
    refine e_iaddN (pc' := 20) dX9_copies_19 rfl ?_
    refine p_iald (pc' := 21) (a := R) (k := p + i) (x := M0 R (p + i)) dX9_copies_20 rfl (hR) (rfl) (by omega) (by omega) (g3.at (by simp; exact hRQ) (p + i)) ?_
    refine p_iast (pc' := 22) (a := Q) (k := q + i) dX9_copies_21 rfl (hQ) (rfl) (by omega) (by omega) ?_
    refine e_iincN (pc' := 25) (k := 1) (L' := [some (.ref (ad (R))), some (.int (nI p)), some (.ref (ad (Q))), some (.int (nI q)), some (.int (nI (i + 1)))]) dX9_copies_22 rfl rfl rfl (by decide) rfl ?_
    refine e_goto (tgt := 3) dX9_copies_25 (by decide) ?_
    exact ih (by omega) _ (fun k hk => by by_cases e : k = i; rw [e]; exact up2_s; rw [up2_k (by omega)]; exact g1 k (by omega)) (fun k hk => by rw [up2_k (by omega)]; exact g2 k (by omega)) (g3.up (by simp)))
theorem g_copies {R Q n0 n1 p q : Nat} (hR : shp[R]? = some (100, n0, [])) (hQ : shp[Q]? = some (100, n1, [])) (hRQ : R ≠ Q) (hp : p + 72 ≤ n0) (hq : q + 72 ≤ n1) (h0 : n0 < 1000) (h1 : n1 < 1000) : RETI G ad d mX9_copies [.ref (ad (R)), .int (nI p), .ref (ad (Q)), .int (nI q)] (M, o) none (fun M' => (∀ k, k < 72 → M' Q (q + k) = M R (p + k)) ∧ (∀ k, (k < q ∨ q + 72 ≤ k) → M' Q k = M Q k) ∧ KP (fun a => a == Q) M M') := by
  refine CM_of rfl (by decide) rfl (Nat.le_of_ble_eq_true rfl) rfl ?_
  refine e_iconst (pc' := 1) (v := nI 0) dX9_copies_0 rfl (by decide) ?_
  refine e_istore (pc' := 3) (L' := [some (.ref (ad (R))), some (.int (nI p)), some (.ref (ad (Q))), some (.int (nI q)), some (.int (nI 0))]) dX9_copies_1 rfl (by decide) rfl ?_
  exact gl_copies hR hQ hRQ hp hq h0 h1 0 (by omega) M (fun k hk => absurd hk (Nat.not_lt_zero k)) (fun k _ => rfl) KP.refl
end T36

set_option maxHeartbeats 400000
/-! THE LAW: its start -/
theorem AW_wM {G : gC} {ad : Nat → Nat} {E : Nat → va_E} (h : ST G 106 ad E []) : AW 106 ad E = wM G ad ZM := by
  unfold AW wM
  rw [show shp.length = 106 from rfl]
  refine List.map_congr_left (fun k hk => ?_)
  rw [(h k (List.mem_range.mp hk) (List.not_mem_nil)).1]
  rfl
def c00 : Col := (0, 0, 0, fun _ => 0, fun _ => 0, fun _ => 0, fun _ => 0, fun _ => 0, 0, 0)
theorem WF_00 : WF c00 := by
  refine ⟨by decide, by decide, by decide, fun i h => absurd h (Nat.not_lt_zero i), fun i j h => absurd h (Nat.not_lt_zero i), fun j h => absurd h (Nat.not_lt_zero j), fun i j h => absurd h (Nat.not_lt_zero i)⟩
theorem LV_0 : LV Z0 := by
  refine ⟨c00, fun _ => c00, 0, 0, none, [], [], -1, 0, 0, 0, ?_, ?_, ?_⟩
  · refine ⟨⟨rfl, rfl, rfl, fun i h => absurd h (Nat.not_lt_zero i), fun i h => absurd h (Nat.not_lt_zero i), fun i h => absurd h (Nat.not_lt_zero i), fun i h => absurd h (Nat.not_lt_zero i), fun i h => absurd h (Nat.not_lt_zero i), rfl, rfl⟩, ⟨rfl, rfl, by decide, by decide, fun k h => absurd h (Nat.not_lt_zero k)⟩, rfl, fun s h => (by cases h), ⟨rfl, fun i h => absurd h (Nat.not_lt_zero i)⟩, ⟨rfl, fun i h => absurd h (Nat.not_lt_zero i)⟩, rfl, rfl, rfl, rfl⟩
  · refine ⟨⟨rfl, rfl, rfl, rfl, fun i h => absurd h (Nat.not_lt_zero i), fun i h => absurd h (Nat.not_lt_zero i)⟩, ⟨rfl, by decide, fun k h => absurd h (Nat.not_lt_zero k)⟩, rfl, rfl, fun s h => (by cases h), ⟨rfl, fun i h => absurd h (Nat.not_lt_zero i)⟩, ⟨rfl, fun i h => absurd h (Nat.not_lt_zero i)⟩, rfl, rfl, rfl, rfl⟩
  · exact ⟨WF_00, fun k h => absurd h (Nat.not_lt_zero k), fun s h => (by cases h), by decide, fun i => by simp, by decide, fun i => by simp, Or.inl rfl⟩
section T71
variable {G : gC} {Qf : QF}
theorem law_start (h48 : gL G ≤ 2048) (hend : ∀ (ad : Nat → Nat) (u : Nat × Nat) (L : List (Option Value)) (M : Nat → Nat → Int32) (o : (Nat → Int64) × (Nat → UInt64)), u.1 ≤ 603072 → u.2 ≤ 7207018 → EV G room_1 mL_law Qf u 2365 L [.int (nI 1)] (wM G ad (M, o))) : EV G room_1 mL_law Qf (0, 0) 0 [some (.ref (gb G)), none, none, none, none, none, none, none, none] [] [] := by
  have hS0 : ST G 0 (fun _ => 0) (fun _ => .inr (0, [])) [] := fun k hk => absurd hk (Nat.not_lt_zero k)
  show EV G room_1 mL_law Qf (0, 0) 0 _ [] (AW 0 (fun _ => 0) (fun _ => .inr (0, [])))
  refine a_new (pc' := 3) (ci := 8) (fs := [.null, .null, .null, .null, .null, .null, .null, .null, .null, .int 0, .int 0, .int 0, .int 0, .int 0]) hS0 dL_law_0 rfl (by decide) cl_L_8 inst_8 ini_8 zf_8 (show 0 + 1 ≤ 603072 from by decide) (show 0 + 14 ≤ 7207018 from by decide) (fun q1 ad1 E1 S1 hA1 hq1 hB1 hN1 => ?_)
  show EV _ _ _ _ (1, 14) 3 _ [.ref q1] (AW (1) ad1 E1)
  refine e_dup (pc' := 4) dL_law_3 rfl rfl ?_
  refine a_inv (pc' := 7) (m' := mX8_init) (d := 20) (As := []) (n' := 96) (by rw [← hq1]; exact k_mag S1 hN1) dL_law_4 rfl rfl (Nat.le_of_ble_eq_true rfl) ⟨by decide, by decide, (show 1 + 95 ≤ 603072 from by decide), (show 14 + 1200 ≤ 7207018 from by decide)⟩ ml_L_134 okX8_init rfl (fun ad2 E2 S2 hA2 hB2 => ?_)
  have f0_2 : ad2 (0) = q1 := (hA2 (0) (by decide)).trans hq1
  show EV _ _ _ _ (96, 1214) 7 _ [.ref (q1)] (AW (96) ad2 E2)
  refine e_astore_n (pc' := 8) (L' := [some (.ref (gb G)), some (.ref (q1)), none, none, none, none, none, none, none]) dL_law_7 rfl rfl (by decide) rfl ?_
  refine a_new (pc' := 11) (ci := 9) (fs := [.null, .null, .null, .null, .int 0, .int 0, .int 0, .int 0, .int 0, .int 0, .int 0, .int 0, .null, .int 0, .int 0, .null, .int 0, .int 0, .null, .int 0]) S2 dL_law_8 rfl (by decide) cl_L_135 inst_9 ini_9 zf_9 (show 96 + 1 ≤ 603072 from by decide) (show 1214 + 20 ≤ 7207018 from by decide) (fun q3 ad3 E3 S3 hA3 hq3 hB3 hN3 => ?_)
  have f0_3 : ad3 (0) = q1 := (hA3 (0) (by decide)).trans f0_2
  show EV _ _ _ _ (97, 1234) 11 _ [.ref q3] (AW (97) ad3 E3)
  refine e_dup (pc' := 12) dL_law_11 rfl rfl ?_
  refine a_inv (pc' := 15) (m' := mX9_init) (d := 20) (As := []) (n' := 104) (by rw [← hq3]; exact k_mod S3 hN3) dL_law_12 rfl rfl (Nat.le_of_ble_eq_true rfl) ⟨by decide, by decide, (show 97 + 7 ≤ 603072 from by decide), (show 1234 + 1100 ≤ 7207018 from by decide)⟩ ml_L_137 okX9_init rfl (fun ad4 E4 S4 hA4 hB4 => ?_)
  have f0_4 : ad4 (0) = q1 := (hA4 (0) (by decide)).trans f0_3
  have f96_4 : ad4 (96) = q3 := (hA4 (96) (by decide)).trans hq3
  show EV _ _ _ _ (104, 2334) 15 _ [.ref (q3)] (AW (104) ad4 E4)
  refine e_astore_n (pc' := 16) (L' := [some (.ref (gb G)), some (.ref (q1)), some (.ref (q3)), none, none, none, none, none, none]) dL_law_15 rfl rfl (by decide) rfl ?_
  refine e_iconst (pc' := 17) (v := nI 1) dL_law_16 rfl (by decide) ?_
  refine a_newN (pc' := 19) (t := 2) (N := 1) (ty := .long) (a0 := (1, .inr (.inl (fun _ => 0)))) S4 (by decide) dL_law_17 rfl ar_long rfl rfl (fun _ _ h => h) (fun _ => rfl) rfl (by decide) (by decide) (fun _ => rfl) (by rw [(show sh 104 = (102, 1, []) from rfl)]) (show 104 + 1 ≤ 603072 from by decide) (show 2334 + 1 ≤ 7207018 from by decide) (fun q5 ad5 E5 S5 hA5 hq5 hB5 => ?_)
  have f0_5 : ad5 (0) = q1 := (hA5 (0) (by decide)).trans f0_4
  have f96_5 : ad5 (96) = q3 := (hA5 (96) (by decide)).trans f96_4
  show EV _ _ _ _ (105, 2335) 19 _ [.ref q5] (AW (105) ad5 E5)
  refine e_astore_n (pc' := 20) (L' := [some (.ref (gb G)), some (.ref (q1)), some (.ref (q3)), some (.ref (q5)), none, none, none, none, none]) dL_law_19 rfl rfl (by decide) rfl ?_
  refine e_iconst (pc' := 21) (v := nI 1) dL_law_20 rfl (by decide) ?_
  refine a_newN (pc' := 23) (t := 3) (N := 1) (ty := .double) (a0 := (1, .inr (.inr (.inr (.inl (fun _ => 0)))))) S5 (by decide) dL_law_21 rfl ar_double rfl rfl (fun _ _ h => h) (fun _ => rfl) rfl (by decide) (by decide) (fun _ => rfl) (by rw [(show sh 105 = (103, 1, []) from rfl)]) (show 105 + 1 ≤ 603072 from by decide) (show 2335 + 1 ≤ 7207018 from by decide) (fun q6 ad6 E6 S6 hA6 hq6 hB6 => ?_)
  have f0_6 : ad6 (0) = q1 := (hA6 (0) (by decide)).trans f0_5
  have f96_6 : ad6 (96) = q3 := (hA6 (96) (by decide)).trans f96_5
  have f104_6 : ad6 (104) = q5 := (hA6 (104) (by decide)).trans hq5
  show EV _ _ _ _ (106, 2336) 23 _ [.ref q6] (AW (106) ad6 E6)
  refine e_astore (pc' := 25) (L' := [some (.ref (gb G)), some (.ref (q1)), some (.ref (q3)), some (.ref (q5)), some (.ref (q6)), none, none, none, none]) dL_law_23 rfl (by decide) rfl ?_
  refine e_iconst (pc' := 26) (v := nI 0) dL_law_25 rfl (by decide) ?_
  refine e_istore (pc' := 28) (L' := [some (.ref (gb G)), some (.ref (q1)), some (.ref (q3)), some (.ref (q5)), some (.ref (q6)), some (.int (nI 0)), none, none, none]) dL_law_26 rfl (by decide) rfl ?_
  rw [AW_wM S6, ← f0_6, ← f96_6, ← f104_6, ← hq6]
  exact law_loop (C := 106) (S := 2336) h48 (by decide) (by decide) (hend ad6) 0 (Nat.zero_le _) Z0 _ LV_0
end T71

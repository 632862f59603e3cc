/-! first methods -/
section T08
variable {G : gC} {ad : Nat → Nat} {d : Nat} {M : Nat → Nat → Int32} {o : (Nat → Int64) × (Nat → UInt64)}
theorem dec1 {P : Prop} [Decidable P] (h : P) : (nI 1 : Int32) = bI (decide P) := by rw [decide_eq_true h]; rfl
theorem dec0 {P : Prop} [Decidable P] (h : ¬ P) : (nI 0 : Int32) = bI (decide P) := by rw [decide_eq_false h]; rfl
theorem c_isPosition (x : Int32) : RET G ad d mX8_isPosition [.int x] (M, o) (some (.int (bI (decide (0 ≤ x ∧ x < nI 100))))) (M, o) := by
  refine CM_of rfl (by decide) rfl (by decide) rfl ?_
  refine e_iload_n (pc' := 1) dX8_isPosition_0 rfl rfl rfl ?_
  refine e_if_lt (pc' := 4) (tgt := 14) dX8_isPosition_1 rfl (by decide) (fun h1 => ?_) (fun h1 => ?_)
  · refine e_iconst (pc' := 15) (v := nI 0) dX8_isPosition_14 rfl (by decide) ?_
    exact e_zret (ty := .boolean) dX8_isPosition_15 rfl (rfl) (MP.ret (congrArg (fun z => some (Value.int z)) (by first | exact dec1 (by grind) | exact dec0 (by grind))) rfl) (by decide) (by decide)
  · refine e_iload_n (pc' := 5) dX8_isPosition_4 rfl rfl rfl ?_
    refine e_bipush (pc' := 7) (v := nI 100) dX8_isPosition_5 rfl (by decide) ?_
    refine e_icmp_ge (pc' := 10) (tgt := 14) dX8_isPosition_7 rfl (by decide) (fun h2 => ?_) (fun h2 => ?_)
    · refine e_iconst (pc' := 15) (v := nI 0) dX8_isPosition_14 rfl (by decide) ?_
      exact e_zret (ty := .boolean) dX8_isPosition_15 rfl (rfl) (MP.ret (congrArg (fun z => some (Value.int z)) (by first | exact dec1 (by grind) | exact dec0 (by grind))) rfl) (by decide) (by decide)
    · refine e_iconst (pc' := 11) (v := nI 1) dX8_isPosition_10 rfl (by decide) ?_
      refine e_goto (tgt := 15) dX8_isPosition_11 (by decide) ?_
      exact e_zret (ty := .boolean) dX8_isPosition_15 rfl (rfl) (MP.ret (congrArg (fun z => some (Value.int z)) (by first | exact dec1 (by grind) | exact dec0 (by grind))) rfl) (by decide) (by decide)
theorem c_isStrength (x : Int32) : RET G ad d mX8_isStrength [.int x] (M, o) (some (.int (bI (decide (nI 1 ≤ x ∧ x ≤ nI 30))))) (M, o) := by
  refine CM_of rfl (by decide) rfl (by decide) rfl ?_
  refine e_iload_n (pc' := 1) dX8_isStrength_0 rfl rfl rfl ?_
  refine e_iconst (pc' := 2) (v := nI 1) dX8_isStrength_1 rfl (by decide) ?_
  refine e_icmp_lt (pc' := 5) (tgt := 15) dX8_isStrength_2 rfl (by decide) (fun h1 => ?_) (fun h1 => ?_)
  · refine e_iconst (pc' := 16) (v := nI 0) dX8_isStrength_15 rfl (by decide) ?_
    exact e_zret (ty := .boolean) dX8_isStrength_16 rfl (rfl) (MP.ret (congrArg (fun z => some (Value.int z)) (by first | exact dec1 (by grind) | exact dec0 (by grind))) rfl) (by decide) (by decide)
  · refine e_iload_n (pc' := 6) dX8_isStrength_5 rfl rfl rfl ?_
    refine e_bipush (pc' := 8) (v := nI 30) dX8_isStrength_6 rfl (by decide) ?_
    refine e_icmp_gt (pc' := 11) (tgt := 15) dX8_isStrength_8 rfl (by decide) (fun h2 => ?_) (fun h2 => ?_)
    · refine e_iconst (pc' := 16) (v := nI 0) dX8_isStrength_15 rfl (by decide) ?_
      exact e_zret (ty := .boolean) dX8_isStrength_16 rfl (rfl) (MP.ret (congrArg (fun z => some (Value.int z)) (by first | exact dec1 (by grind) | exact dec0 (by grind))) rfl) (by decide) (by decide)
    · refine e_iconst (pc' := 12) (v := nI 1) dX8_isStrength_11 rfl (by decide) ?_
      refine e_goto (tgt := 16) dX8_isStrength_12 (by decide) ?_
      exact e_zret (ty := .boolean) dX8_isStrength_16 rfl (rfl) (MP.ret (congrArg (fun z => some (Value.int z)) (by first | exact dec1 (by grind) | exact dec0 (by grind))) rfl) (by decide) (by decide)
theorem c_hasMagnet (x : Int32) : RET G ad d mX1_hasMagnet [.ref (ad 1), .int x] (M, o) (some (.int (bI (decide (0 ≤ x ∧ x < M 1 0))))) (M, o) := by
  refine CM_of rfl (by decide) rfl (by decide) rfl ?_
  refine e_iload_n (pc' := 1) dX1_hasMagnet_0 rfl rfl rfl ?_
  refine e_if_lt (pc' := 4) (tgt := 16) dX1_hasMagnet_1 rfl (by decide) (fun h1 => ?_) (fun h1 => ?_)
  · refine e_iconst (pc' := 17) (v := nI 0) dX1_hasMagnet_16 rfl (by decide) ?_
    exact e_zret (ty := .boolean) dX1_hasMagnet_17 rfl (rfl) (MP.ret (congrArg (fun z => some (Value.int z)) (by first | exact dec1 (by grind) | exact dec0 (by grind))) rfl) (by decide) (by decide)
  · refine e_iload_n (pc' := 5) dX1_hasMagnet_4 rfl rfl rfl ?_
    refine e_aload_n (pc' := 6) dX1_hasMagnet_5 rfl rfl rfl ?_
    refine e_gfi (pc' := 9) (a := 1) (k := 0) (x := M 1 0) dX1_hasMagnet_6 rfl (rfl) (by decide) (by decide) rfl fl_X1_27 (rfl) ?_
    refine e_icmp_ge (pc' := 12) (tgt := 16) dX1_hasMagnet_9 rfl (by decide) (fun h2 => ?_) (fun h2 => ?_)
    · refine e_iconst (pc' := 17) (v := nI 0) dX1_hasMagnet_16 rfl (by decide) ?_
      exact e_zret (ty := .boolean) dX1_hasMagnet_17 rfl (rfl) (MP.ret (congrArg (fun z => some (Value.int z)) (by first | exact dec1 (by grind) | exact dec0 (by grind))) rfl) (by decide) (by decide)
    · refine e_iconst (pc' := 13) (v := nI 1) dX1_hasMagnet_12 rfl (by decide) ?_
      refine e_goto (tgt := 17) dX1_hasMagnet_13 (by decide) ?_
      exact e_zret (ty := .boolean) dX1_hasMagnet_17 rfl (rfl) (MP.ret (congrArg (fun z => some (Value.int z)) (by first | exact dec1 (by grind) | exact dec0 (by grind))) rfl) (by decide) (by decide)
theorem c_hasTunnel (x : Int32) : RET G ad d mX1_hasTunnel [.ref (ad 1), .int x] (M, o) (some (.int (bI (decide (0 ≤ x ∧ x < M 1 5))))) (M, o) := by
  refine CM_of rfl (by decide) rfl (by decide) rfl ?_
  refine e_iload_n (pc' := 1) dX1_hasTunnel_0 rfl rfl rfl ?_
  refine e_if_lt (pc' := 4) (tgt := 16) dX1_hasTunnel_1 rfl (by decide) (fun h1 => ?_) (fun h1 => ?_)
  · refine e_iconst (pc' := 17) (v := nI 0) dX1_hasTunnel_16 rfl (by decide) ?_
    exact e_zret (ty := .boolean) dX1_hasTunnel_17 rfl (rfl) (MP.ret (congrArg (fun z => some (Value.int z)) (by first | exact dec1 (by grind) | exact dec0 (by grind))) rfl) (by decide) (by decide)
  · refine e_iload_n (pc' := 5) dX1_hasTunnel_4 rfl rfl rfl ?_
    refine e_aload_n (pc' := 6) dX1_hasTunnel_5 rfl rfl rfl ?_
    refine e_gfi (pc' := 9) (a := 1) (k := 5) (x := M 1 5) dX1_hasTunnel_6 rfl (rfl) (by decide) (by decide) rfl fl_X1_40 (rfl) ?_
    refine e_icmp_ge (pc' := 12) (tgt := 16) dX1_hasTunnel_9 rfl (by decide) (fun h2 => ?_) (fun h2 => ?_)
    · refine e_iconst (pc' := 17) (v := nI 0) dX1_hasTunnel_16 rfl (by decide) ?_
      exact e_zret (ty := .boolean) dX1_hasTunnel_17 rfl (rfl) (MP.ret (congrArg (fun z => some (Value.int z)) (by first | exact dec1 (by grind) | exact dec0 (by grind))) rfl) (by decide) (by decide)
    · refine e_iconst (pc' := 13) (v := nI 1) dX1_hasTunnel_12 rfl (by decide) ?_
      refine e_goto (tgt := 17) dX1_hasTunnel_13 (by decide) ?_
      exact e_zret (ty := .boolean) dX1_hasTunnel_17 rfl (rfl) (MP.ret (congrArg (fun z => some (Value.int z)) (by first | exact dec1 (by grind) | exact dec0 (by grind))) rfl) (by decide) (by decide)
end T08

set_option maxHeartbeats 400000
/-! COLONY: spec functions and the methods of the class Colony -/
def mOn (c : Col) (q : Int32) : Option Nat := fnd (fun i => decide (nI (cp c i) = q)) (cn c)
def rkP (c : Col) (i o : Nat) : Bool := decide (cs c i < cs c o) || (decide (cs c o = cs c i) && decide (cp c o < cp c i))
def rk (c : Col) (i : Nat) : Nat := cnt (rkP c i) (cn c)
def mRank (c : Col) (r : Int32) : Option Nat := fnd (fun i => decide (nI (rk c i) = r)) (cn c)
def sgn (c : Col) (i : Nat) : Nat := if (cw c).testBit i then 110 else 115
def summ (f : Nat → Nat) : Nat → Nat
  | 0 => 0
  | n + 1 => summ f n + f n
theorem summ_le {f : Nat → Nat} {b : Nat} : ∀ {n : Nat}, (∀ i, i < n → f i ≤ b) → summ f n ≤ b * n
  | 0, _ => Nat.le_refl _
  | n + 1, h => by
    have h1 := summ_le (n := n) (fun i hi => h i (by omega))
    have h2 := h n (by omega)
    show summ f n + f n ≤ b * (n + 1)
    rw [Nat.mul_add]
    omega
def sumS (c : Col) : Nat := summ (cs c) (cn c)
def oEnd (c : Col) (j m : Nat) : Option Nat := if cf c j = m then some (cg c j) else if cg c j = m then some (cf c j) else none
def tBet (c : Col) (a b : Nat) : Option Nat := fnd (fun j => decide (oEnd c j a = some b)) (ck c)
def pop (w : Nat) : Nat := cnt (w.testBit) 9
theorem pop_le (w : Nat) : pop w ≤ 9 := cnt_le _ 9
theorem oI_eq {a : Option Nat} {b : Nat} (ha : ∀ i, a = some i → i < 2 ^ 31) (hb : b < 2 ^ 31) : oI a = nI b ↔ a = some b := by
  cases a with
  | none => exact ⟨fun h => by have h2 := nI_pos hb; rw [← h] at h2; exact absurd (by decide) h2, fun h => by cases h⟩
  | some i => exact ⟨fun h => by rw [(nI_eq (ha i rfl) hb).mp h], fun h => by cases h; rfl⟩
theorem oI_ne {a : Option Nat} (ha : ∀ i, a = some i → i < 2 ^ 31) : oI a = -1 ↔ a = none := by
  cases a with
  | none => exact ⟨fun _ => rfl, fun _ => rfl⟩
  | some i => exact ⟨fun h => by have h2 := nI_pos (ha i rfl); rw [show nI i = -1 from h] at h2; exact absurd (by decide) h2, fun h => by cases h⟩
theorem ColAt.up {M : Nat → Nat → Int32} {A b k : Nat} {x : Int32} {c : Col} (h : ColAt M A c) (hb : b < A ∨ A + 5 < b) : ColAt (up2 M b k x) A c := by
  obtain ⟨h1, h2, h3, h4, h5, h6, h7, h8, h9, h10⟩ := h
  have e : ∀ i, i ≤ 5 → up2 M b k x (A + i) = M (A + i) := fun i hi => up2_n (by omega)
  have e0 : up2 M b k x A = M A := e 0 (by omega)
  unfold ColAt
  rw [e0, e 1 (by omega), e 2 (by omega), e 3 (by omega), e 4 (by omega), e 5 (by omega)]
  exact ⟨h1, h2, h3, h4, h5, h6, h7, h8, h9, h10⟩
theorem ColAt.kp {M M' : Nat → Nat → Int32} {A : Nat} {c : Col} {F : Nat → Bool} (h : ColAt M A c) (hk : KP F M M') (hF : ∀ i, i ≤ 5 → F (A + i) = false) : ColAt M' A c := by
  obtain ⟨h1, h2, h3, h4, h5, h6, h7, h8, h9, h10⟩ := h
  have e : ∀ i, i ≤ 5 → M' (A + i) = M (A + i) := fun i hi => hk _ (hF i hi)
  have e0 : M' A = M A := e 0 (by omega)
  unfold ColAt
  rw [e0, e 1 (by omega), e 2 (by omega), e 3 (by omega), e 4 (by omega), e 5 (by omega)]
  exact ⟨h1, h2, h3, h4, h5, h6, h7, h8, h9, h10⟩
/-- Integer.bitCount -/
theorem bc_val : ∀ w, w < 512 → (fun x : Int32 => ((let i1 := x - (((x.toUInt32 >>> ((nI 1).toUInt32 &&& Int32.toUInt32 31)).toInt32) &&& (1431655765 : Int32)); let i2 := (i1 &&& (858993459 : Int32)) + (((i1.toUInt32 >>> ((nI 2).toUInt32 &&& Int32.toUInt32 31)).toInt32) &&& (858993459 : Int32)); let i3 := (i2 + ((i2.toUInt32 >>> ((nI 4).toUInt32 &&& Int32.toUInt32 31)).toInt32)) &&& (252645135 : Int32); let i4 := i3 + ((i3.toUInt32 >>> ((nI 8).toUInt32 &&& Int32.toUInt32 31)).toInt32); let i5 := i4 + ((i4.toUInt32 >>> ((nI 16).toUInt32 &&& Int32.toUInt32 31)).toInt32); i5 &&& nI 63))) (nI w) = nI (pop w) := by decide +kernel
section T11
variable {G : gC} {ad : Nat → Nat} {d : Nat} {M : Nat → Nat → Int32} {o : (Nat → Int64) × (Nat → UInt64)} {c : Col}
theorem c_isPosition (x : Int32) : RET G ad d mX8_isPosition [.int (x)] (M, o) (some (.int (bI (decide (0 ≤ x ∧ x < nI 100))))) (M, o) := by
  refine CM_of rfl (by decide) rfl (Nat.le_of_ble_eq_true rfl) rfl ?_
  refine e_iload_n (pc' := 1) dX8_isPosition_0 rfl rfl rfl ?_
  refine e_if_lt (pc' := 4) (tgt := 14) dX8_isPosition_1 rfl (by decide) (fun hz1 => ?_) (fun hz1 => ?_)
  · refine e_iconst (pc' := 15) (v := nI 0) dX8_isPosition_14 rfl (by decide) ?_
    exact e_zret (ty := .boolean) dX8_isPosition_15 rfl (rfl) (MP.ret (congrArg (fun z => some (Value.int z)) (by first | exact dec1 (by grind) | exact dec0 (by grind))) rfl) (by decide) (by decide)
  · refine e_iload_n (pc' := 5) dX8_isPosition_4 rfl rfl rfl ?_
    refine e_bipush (pc' := 7) (v := nI 100) dX8_isPosition_5 rfl (by decide) ?_
    refine e_icmp_ge (pc' := 10) (tgt := 14) dX8_isPosition_7 rfl (by decide) (fun hz2 => ?_) (fun hz2 => ?_)
    · refine e_iconst (pc' := 15) (v := nI 0) dX8_isPosition_14 rfl (by decide) ?_
      exact e_zret (ty := .boolean) dX8_isPosition_15 rfl (rfl) (MP.ret (congrArg (fun z => some (Value.int z)) (by first | exact dec1 (by grind) | exact dec0 (by grind))) rfl) (by decide) (by decide)
    · refine e_iconst (pc' := 11) (v := nI 1) dX8_isPosition_10 rfl (by decide) ?_
      refine e_goto (tgt := 15) dX8_isPosition_11 (by decide) ?_
      exact e_zret (ty := .boolean) dX8_isPosition_15 rfl (rfl) (MP.ret (congrArg (fun z => some (Value.int z)) (by first | exact dec1 (by grind) | exact dec0 (by grind))) rfl) (by decide) (by decide)
theorem c_isStrength (x : Int32) : RET G ad d mX8_isStrength [.int (x)] (M, o) (some (.int (bI (decide (nI 1 ≤ x ∧ x ≤ nI 30))))) (M, o) := by
  refine CM_of rfl (by decide) rfl (Nat.le_of_ble_eq_true rfl) rfl ?_
  refine e_iload_n (pc' := 1) dX8_isStrength_0 rfl rfl rfl ?_
  refine e_iconst (pc' := 2) (v := nI 1) dX8_isStrength_1 rfl (by decide) ?_
  refine e_icmp_lt (pc' := 5) (tgt := 15) dX8_isStrength_2 rfl (by decide) (fun hz1 => ?_) (fun hz1 => ?_)
  · refine e_iconst (pc' := 16) (v := nI 0) dX8_isStrength_15 rfl (by decide) ?_
    exact e_zret (ty := .boolean) dX8_isStrength_16 rfl (rfl) (MP.ret (congrArg (fun z => some (Value.int z)) (by first | exact dec1 (by grind) | exact dec0 (by grind))) rfl) (by decide) (by decide)
  · refine e_iload_n (pc' := 6) dX8_isStrength_5 rfl rfl rfl ?_
    refine e_bipush (pc' := 8) (v := nI 30) dX8_isStrength_6 rfl (by decide) ?_
    refine e_icmp_gt (pc' := 11) (tgt := 15) dX8_isStrength_8 rfl (by decide) (fun hz2 => ?_) (fun hz2 => ?_)
    · refine e_iconst (pc' := 16) (v := nI 0) dX8_isStrength_15 rfl (by decide) ?_
      exact e_zret (ty := .boolean) dX8_isStrength_16 rfl (rfl) (MP.ret (congrArg (fun z => some (Value.int z)) (by first | exact dec1 (by grind) | exact dec0 (by grind))) rfl) (by decide) (by decide)
    · refine e_iconst (pc' := 12) (v := nI 1) dX8_isStrength_11 rfl (by decide) ?_
      refine e_goto (tgt := 16) dX8_isStrength_12 (by decide) ?_
      exact e_zret (ty := .boolean) dX8_isStrength_16 rfl (rfl) (MP.ret (congrArg (fun z => some (Value.int z)) (by first | exact dec1 (by grind) | exact dec0 (by grind))) rfl) (by decide) (by decide)
theorem c_hasMagnet (h : ColAt M 1 c) (hw : WF c) (x : Int32) : RET G ad d mX1_hasMagnet [.ref (ad 1), .int (x)] (M, o) (some (.int (bI (decide (0 ≤ x ∧ x < nI (cn c)))))) (M, o) := by
  refine CM_of rfl (by decide) rfl (Nat.le_of_ble_eq_true rfl) rfl ?_
  have hn := hw.n
  have hk := hw.k
  have hw9 := hw.w9
  refine e_iload_n (pc' := 1) dX1_hasMagnet_0 rfl rfl rfl ?_
  refine e_if_lt (pc' := 4) (tgt := 16) dX1_hasMagnet_1 rfl (by decide) (fun hz1 => ?_) (fun hz1 => ?_)
  · refine e_iconst (pc' := 17) (v := nI 0) dX1_hasMagnet_16 rfl (by decide) ?_
    exact e_zret (ty := .boolean) dX1_hasMagnet_17 rfl (rfl) (MP.ret (congrArg (fun z => some (Value.int z)) (by first | exact dec1 (by grind) | exact dec0 (by grind))) rfl) (by decide) (by decide)
  · refine e_iload_n (pc' := 5) dX1_hasMagnet_4 rfl rfl rfl ?_
    refine e_aload_n (pc' := 6) dX1_hasMagnet_5 rfl rfl rfl ?_
    refine p_gfi (pc' := 9) (a := 1) (k := 0) (x := nI (cn c)) dX1_hasMagnet_6 rfl (rfl) (by decide) (by decide) rfl fl_X1_27 (h.n) ?_
    refine e_icmp_ge (pc' := 12) (tgt := 16) dX1_hasMagnet_9 rfl (by decide) (fun hz2 => ?_) (fun hz2 => ?_)
    · refine e_iconst (pc' := 17) (v := nI 0) dX1_hasMagnet_16 rfl (by decide) ?_
      exact e_zret (ty := .boolean) dX1_hasMagnet_17 rfl (rfl) (MP.ret (congrArg (fun z => some (Value.int z)) (by first | exact dec1 (by grind) | exact dec0 (by grind))) rfl) (by decide) (by decide)
    · refine e_iconst (pc' := 13) (v := nI 1) dX1_hasMagnet_12 rfl (by decide) ?_
      refine e_goto (tgt := 17) dX1_hasMagnet_13 (by decide) ?_
      exact e_zret (ty := .boolean) dX1_hasMagnet_17 rfl (rfl) (MP.ret (congrArg (fun z => some (Value.int z)) (by first | exact dec1 (by grind) | exact dec0 (by grind))) rfl) (by decide) (by decide)
theorem c_hasTunnel (h : ColAt M 1 c) (hw : WF c) (x : Int32) : RET G ad d mX1_hasTunnel [.ref (ad 1), .int (x)] (M, o) (some (.int (bI (decide (0 ≤ x ∧ x < nI (ck c)))))) (M, o) := by
  refine CM_of rfl (by decide) rfl (Nat.le_of_ble_eq_true rfl) rfl ?_
  have hn := hw.n
  have hk := hw.k
  have hw9 := hw.w9
  refine e_iload_n (pc' := 1) dX1_hasTunnel_0 rfl rfl rfl ?_
  refine e_if_lt (pc' := 4) (tgt := 16) dX1_hasTunnel_1 rfl (by decide) (fun hz1 => ?_) (fun hz1 => ?_)
  · refine e_iconst (pc' := 17) (v := nI 0) dX1_hasTunnel_16 rfl (by decide) ?_
    exact e_zret (ty := .boolean) dX1_hasTunnel_17 rfl (rfl) (MP.ret (congrArg (fun z => some (Value.int z)) (by first | exact dec1 (by grind) | exact dec0 (by grind))) rfl) (by decide) (by decide)
  · refine e_iload_n (pc' := 5) dX1_hasTunnel_4 rfl rfl rfl ?_
    refine e_aload_n (pc' := 6) dX1_hasTunnel_5 rfl rfl rfl ?_
    refine p_gfi (pc' := 9) (a := 1) (k := 5) (x := nI (ck c)) dX1_hasTunnel_6 rfl (rfl) (by decide) (by decide) rfl fl_X1_40 (h.k) ?_
    refine e_icmp_ge (pc' := 12) (tgt := 16) dX1_hasTunnel_9 rfl (by decide) (fun hz2 => ?_) (fun hz2 => ?_)
    · refine e_iconst (pc' := 17) (v := nI 0) dX1_hasTunnel_16 rfl (by decide) ?_
      exact e_zret (ty := .boolean) dX1_hasTunnel_17 rfl (rfl) (MP.ret (congrArg (fun z => some (Value.int z)) (by first | exact dec1 (by grind) | exact dec0 (by grind))) rfl) (by decide) (by decide)
    · refine e_iconst (pc' := 13) (v := nI 1) dX1_hasTunnel_12 rfl (by decide) ?_
      refine e_goto (tgt := 17) dX1_hasTunnel_13 (by decide) ?_
      exact e_zret (ty := .boolean) dX1_hasTunnel_17 rfl (rfl) (MP.ret (congrArg (fun z => some (Value.int z)) (by first | exact dec1 (by grind) | exact dec0 (by grind))) rfl) (by decide) (by decide)
theorem c_isIn {w i : Nat} (h1 : w < 2 ^ 31) (h2 : i < 32) : RET G ad d mX8_isIn [.int (nI w), .int (nI i)] (M, o) (some (.int (bI (w.testBit i)))) (M, o) := by
  refine CM_of rfl (by decide) rfl (Nat.le_of_ble_eq_true rfl) rfl ?_
  refine e_iload_n (pc' := 1) dX8_isIn_0 rfl rfl rfl ?_
  refine e_iload_n (pc' := 2) dX8_isIn_1 rfl rfl rfl ?_
  refine e_ishrN (pc' := 3) dX8_isIn_2 rfl (by first | omega | (rw [Nat.and_one_is_mod]; omega)) (by first | omega | (rw [Nat.and_one_is_mod]; omega)) ?_
  refine e_iconst (pc' := 4) (v := nI 1) dX8_isIn_3 rfl (by decide) ?_
  refine e_iandN (pc' := 5) dX8_isIn_4 rfl ?_
  refine e_iconst (pc' := 6) (v := nI 1) dX8_isIn_5 rfl (by decide) ?_
  refine e_icmp_neN (pc' := 9) (tgt := 13) dX8_isIn_6 rfl (by decide) (by first | omega | (rw [Nat.and_one_is_mod]; omega)) (by first | omega | (rw [Nat.and_one_is_mod]; omega)) (fun hz1 => ?_) (fun hz1 => ?_)
  · refine e_iconst (pc' := 14) (v := nI 0) dX8_isIn_13 rfl (by decide) ?_
    exact e_zret (ty := .boolean) dX8_isIn_14 rfl (rfl) (MP.ret (congrArg (fun z => some (Value.int z)) (by rw [tb_eq]; first | exact dec1 (by rw [Nat.and_one_is_mod] at *; assumption) | exact dec0 (by rw [Nat.and_one_is_mod] at *; assumption))) rfl) (by decide) (by decide)
  · refine e_iconst (pc' := 10) (v := nI 1) dX8_isIn_9 rfl (by decide) ?_
    refine e_goto (tgt := 14) dX8_isIn_10 (by decide) ?_
    exact e_zret (ty := .boolean) dX8_isIn_14 rfl (rfl) (MP.ret (congrArg (fun z => some (Value.int z)) (by rw [tb_eq]; first | exact dec1 (by rw [Nat.and_one_is_mod] at *; assumption) | exact dec0 (by rw [Nat.and_one_is_mod] at *; assumption))) rfl) (by decide) (by decide)
theorem l_magnetOn (h : ColAt M 1 c) (hw : WF c) (q : Int32) : ∀ i, i ≤ cn c → (∀ j, j < i → ¬ nI (cp c j) = q) → ER G ad d mX1_magnetOn (0, 0) (PR (some (.int (oI (mOn c q)))) (M, o)) (0, 0) 2 [some (.ref (ad 1)), some (.int (q)), some (.int (nI i))] [] (M, o) := down (cn c) _ (fun i hi ih hj => by
  have hn := hw.n
  have hk := hw.k
  have hw9 := hw.w9
  refine e_iload_n (pc' := 3) dX1_magnetOn_2 rfl rfl rfl ?_
  refine e_aload_n (pc' := 4) dX1_magnetOn_3 rfl rfl rfl ?_
  refine p_gfi (pc' := 7) (a := 1) (k := 0) (x := nI (cn c)) dX1_magnetOn_4 rfl (rfl) (by decide) (by decide) rfl fl_X1_27 (h.n) ?_
  refine e_icmp_geN (pc' := 10) (tgt := 28) dX1_magnetOn_7 rfl (by decide) (by omega) (by omega) (fun hz1 => ?_) (fun hz1 => ?_)
  · refine e_iconst (pc' := 29) (v := (-1)) dX1_magnetOn_28 rfl (by decide) ?_
    exact e_iret dX1_magnetOn_29 rfl (MP.ret (congrArg (fun z => some (Value.int z)) (congrArg oI (fnd_none (fun j hj2 => decide_eq_false (hj j (by omega)))).symm)) rfl) (by decide) (by decide)
  · refine e_aload_n (pc' := 11) dX1_magnetOn_10 rfl rfl rfl ?_
    refine p_gfr (pc' := 14) (a := 1) (k := 1) (t := 2) dX1_magnetOn_11 rfl rfl (by decide) (by decide) rfl fl_X1_9 ?_
    refine e_iload_n (pc' := 15) dX1_magnetOn_14 rfl rfl rfl ?_
    have hi1 : i < cn c := by omega
    have hb1 := hw.p hi1
    refine p_iald (pc' := 16) (a := 2) (k := i) (x := nI (cp c i)) dX1_magnetOn_15 rfl (rfl) (rfl) (by omega) (by decide) (h.p hi1) ?_
    refine e_iload_n (pc' := 17) dX1_magnetOn_16 rfl rfl rfl ?_
    refine e_icmp_ne (pc' := 20) (tgt := 22) dX1_magnetOn_17 rfl (by decide) (fun h1 => ?_) (fun h1 => ?_)
    · refine e_iincN (pc' := 25) (k := 1) (L' := [some (.ref (ad 1)), some (.int (q)), some (.int (nI (i + 1)))]) dX1_magnetOn_22 rfl rfl rfl (by decide) rfl ?_
      refine e_goto (tgt := 2) dX1_magnetOn_25 (by decide) ?_
      exact ih (by omega) (fun j hj2 => by by_cases e : j = i; rw [e]; exact h1; exact hj j (by omega))
    · refine e_iload_n (pc' := 21) dX1_magnetOn_20 rfl rfl rfl ?_
      exact e_iret dX1_magnetOn_21 rfl (MP.ret (congrArg (fun z => some (Value.int z)) (congrArg oI (fnd_some (by omega) (fun j hj2 => decide_eq_false (hj j hj2)) (decide_eq_true (by assumption))).symm)) rfl) (by decide) (by decide))
theorem c_magnetOn (h : ColAt M 1 c) (hw : WF c) (q : Int32) : RET G ad d mX1_magnetOn [.ref (ad 1), .int (q)] (M, o) (some (.int (oI (mOn c q)))) (M, o) := by
  refine CM_of rfl (by decide) rfl (Nat.le_of_ble_eq_true rfl) rfl ?_
  have hn := hw.n
  have hk := hw.k
  have hw9 := hw.w9
  refine e_iconst (pc' := 1) (v := nI 0) dX1_magnetOn_0 rfl (by decide) ?_
  refine e_istore_n (pc' := 2) (L' := [some (.ref (ad 1)), some (.int (q)), some (.int (nI 0))]) dX1_magnetOn_1 rfl rfl (by decide) rfl ?_
  exact l_magnetOn h hw q 0 (by omega) (fun j hj => by omega)
theorem l_rankOf (h : ColAt M 1 c) (hw : WF c) {k : Nat} (hkn : k < cn c) : ∀ i, i ≤ cn c → ER G ad d mX1_rankOf (0, 0) (PR (some (.int (nI (rk c k)))) (M, o)) (0, 0) 4 [some (.ref (ad 1)), some (.int (nI k)), some (.int (nI (cnt (rkP c k) i))), some (.int (nI i)), none, none] [] (M, o) := down (cn c) _ (fun i hi ih  => by
  have hn := hw.n
  have hk := hw.k
  have hw9 := hw.w9
  refine e_iload_n (pc' := 5) dX1_rankOf_4 rfl rfl rfl ?_
  refine e_aload_n (pc' := 6) dX1_rankOf_5 rfl rfl rfl ?_
  refine p_gfi (pc' := 9) (a := 1) (k := 0) (x := nI (cn c)) dX1_rankOf_6 rfl (rfl) (by decide) (by decide) rfl fl_X1_27 (h.n) ?_
  refine e_icmp_geN (pc' := 12) (tgt := 90) dX1_rankOf_9 rfl (by decide) (by first | omega | (have := cnt_le (rkP c k) i; omega)) (by first | omega | (have := cnt_le (rkP c k) i; omega)) (fun hz1 => ?_) (fun hz1 => ?_)
  · refine e_iload_n (pc' := 91) dX1_rankOf_90 rfl rfl rfl ?_
    exact e_iret dX1_rankOf_91 rfl (MP.ret (congrArg (fun z => some (Value.int z)) (by rw [show i = cn c by omega]; rfl)) rfl) (by decide) (by decide)
  · refine e_aload_n (pc' := 13) dX1_rankOf_12 rfl rfl rfl ?_
    refine p_gfr (pc' := 16) (a := 1) (k := 2) (t := 3) dX1_rankOf_13 rfl rfl (by decide) (by decide) rfl fl_X1_15 ?_
    refine e_iload_n (pc' := 17) dX1_rankOf_16 rfl rfl rfl ?_
    have hi1 : i < cn c := by first | omega | (have := cnt_le (rkP c k) i; omega)
    have hb1 := hw.s1 hi1
    have hc1 := hw.s2 hi1
    refine p_iald (pc' := 18) (a := 3) (k := i) (x := nI (cs c i)) dX1_rankOf_17 rfl (rfl) (rfl) (by first | omega | (have := cnt_le (rkP c k) i; omega)) (by decide) (h.s hi1) ?_
    refine e_aload_n (pc' := 19) dX1_rankOf_18 rfl rfl rfl ?_
    refine p_gfr (pc' := 22) (a := 1) (k := 2) (t := 3) dX1_rankOf_19 rfl rfl (by decide) (by decide) rfl fl_X1_15 ?_
    refine e_iload_n (pc' := 23) dX1_rankOf_22 rfl rfl rfl ?_
    have hi2 : k < cn c := by first | omega | (have := cnt_le (rkP c k) i; omega)
    have hb2 := hw.s1 hi2
    have hc2 := hw.s2 hi2
    refine p_iald (pc' := 24) (a := 3) (k := k) (x := nI (cs c k)) dX1_rankOf_23 rfl (rfl) (rfl) (by first | omega | (have := cnt_le (rkP c k) i; omega)) (by decide) (h.s hi2) ?_
    refine e_icmp_leN (pc' := 27) (tgt := 31) dX1_rankOf_24 rfl (by decide) (by first | omega | (have := cnt_le (rkP c k) i; omega)) (by first | omega | (have := cnt_le (rkP c k) i; omega)) (fun hz2 => ?_) (fun hz2 => ?_)
    · refine e_iconst (pc' := 32) (v := nI 0) dX1_rankOf_31 rfl (by decide) ?_
      refine e_istore (pc' := 34) (L' := [some (.ref (ad 1)), some (.int (nI k)), some (.int (nI (cnt (rkP c k) i))), some (.int (nI i)), some (.int (nI 0)), none]) dX1_rankOf_32 rfl (by decide) rfl ?_
      refine e_aload_n (pc' := 35) dX1_rankOf_34 rfl rfl rfl ?_
      refine p_gfr (pc' := 38) (a := 1) (k := 2) (t := 3) dX1_rankOf_35 rfl rfl (by decide) (by decide) rfl fl_X1_15 ?_
      refine e_iload_n (pc' := 39) dX1_rankOf_38 rfl rfl rfl ?_
      have hi3 : i < cn c := by first | omega | (have := cnt_le (rkP c k) i; omega)
      have hb3 := hw.s1 hi3
      have hc3 := hw.s2 hi3
      refine p_iald (pc' := 40) (a := 3) (k := i) (x := nI (cs c i)) dX1_rankOf_39 rfl (rfl) (rfl) (by first | omega | (have := cnt_le (rkP c k) i; omega)) (by decide) (h.s hi3) ?_
      refine e_aload_n (pc' := 41) dX1_rankOf_40 rfl rfl rfl ?_
      refine p_gfr (pc' := 44) (a := 1) (k := 2) (t := 3) dX1_rankOf_41 rfl rfl (by decide) (by decide) rfl fl_X1_15 ?_
      refine e_iload_n (pc' := 45) dX1_rankOf_44 rfl rfl rfl ?_
      have hi4 : k < cn c := by first | omega | (have := cnt_le (rkP c k) i; omega)
      have hb4 := hw.s1 hi4
      have hc4 := hw.s2 hi4
      refine p_iald (pc' := 46) (a := 3) (k := k) (x := nI (cs c k)) dX1_rankOf_45 rfl (rfl) (rfl) (by first | omega | (have := cnt_le (rkP c k) i; omega)) (by decide) (h.s hi4) ?_
      refine e_icmp_neN (pc' := 49) (tgt := 53) dX1_rankOf_46 rfl (by decide) (by first | omega | (have := cnt_le (rkP c k) i; omega)) (by first | omega | (have := cnt_le (rkP c k) i; omega)) (fun hz3 => ?_) (fun hz3 => ?_)
      · refine e_iconst (pc' := 54) (v := nI 0) dX1_rankOf_53 rfl (by decide) ?_
        refine e_istore (pc' := 56) (L' := [some (.ref (ad 1)), some (.int (nI k)), some (.int (nI (cnt (rkP c k) i))), some (.int (nI i)), some (.int (nI 0)), some (.int (nI 0))]) dX1_rankOf_54 rfl (by decide) rfl ?_
        refine e_iload (pc' := 58) dX1_rankOf_56 rfl rfl ?_
        refine e_if_neN (pc' := 61) (tgt := 81) dX1_rankOf_58 rfl (by decide) (by decide) (fun h => absurd h (by decide)) (fun _ => ?_)
        refine e_iload (pc' := 63) dX1_rankOf_61 rfl rfl ?_
        refine e_if_eqN (pc' := 66) (tgt := 84) dX1_rankOf_63 rfl (by decide) (by decide) (fun _ => ?_) (fun h => absurd h (by decide))
        refine e_iincN (pc' := 87) (k := 1) (L' := [some (.ref (ad 1)), some (.int (nI k)), some (.int (nI (cnt (rkP c k) i))), some (.int (nI (i + 1))), some (.int (nI 0)), some (.int (nI 0))]) dX1_rankOf_84 rfl rfl rfl (by decide) rfl ?_
        refine e_goto (tgt := 4) dX1_rankOf_87 (by decide) ?_
        refine e_fg (i := 4) (L' := [some (.ref (ad 1)), some (.int (nI k)), some (.int (nI (cnt (rkP c k) i))), some (.int (nI (i + 1))), none, some (.int (nI 0))]) rfl ?_
        refine e_fg (i := 5) (L' := [some (.ref (ad 1)), some (.int (nI k)), some (.int (nI (cnt (rkP c k) i))), some (.int (nI (i + 1))), none, none]) rfl ?_
        have e : cnt (rkP c k) (i + 1) = cnt (rkP c k) i := by show cnt (rkP c k) i + (if rkP c k i = true then 1 else 0) = _; unfold rkP; grind
        rw [← e]
        exact ih (by omega)
      · refine e_iconst (pc' := 50) (v := nI 1) dX1_rankOf_49 rfl (by decide) ?_
        refine e_goto (tgt := 54) dX1_rankOf_50 (by decide) ?_
        refine e_istore (pc' := 56) (L' := [some (.ref (ad 1)), some (.int (nI k)), some (.int (nI (cnt (rkP c k) i))), some (.int (nI i)), some (.int (nI 0)), some (.int (nI 1))]) dX1_rankOf_54 rfl (by decide) rfl ?_
        refine e_iload (pc' := 58) dX1_rankOf_56 rfl rfl ?_
        refine e_if_neN (pc' := 61) (tgt := 81) dX1_rankOf_58 rfl (by decide) (by decide) (fun h => absurd h (by decide)) (fun _ => ?_)
        refine e_iload (pc' := 63) dX1_rankOf_61 rfl rfl ?_
        refine e_if_eqN (pc' := 66) (tgt := 84) dX1_rankOf_63 rfl (by decide) (by decide) (fun h => absurd h (by decide)) (fun _ => ?_)
        refine e_aload_n (pc' := 67) dX1_rankOf_66 rfl rfl rfl ?_
        refine p_gfr (pc' := 70) (a := 1) (k := 1) (t := 2) dX1_rankOf_67 rfl rfl (by decide) (by decide) rfl fl_X1_9 ?_
        refine e_iload_n (pc' := 71) dX1_rankOf_70 rfl rfl rfl ?_
        have hi5 : i < cn c := by first | omega | (have := cnt_le (rkP c k) i; omega)
        have hb5 := hw.p hi5
        refine p_iald (pc' := 72) (a := 2) (k := i) (x := nI (cp c i)) dX1_rankOf_71 rfl (rfl) (rfl) (by first | omega | (have := cnt_le (rkP c k) i; omega)) (by decide) (h.p hi5) ?_
        refine e_aload_n (pc' := 73) dX1_rankOf_72 rfl rfl rfl ?_
        refine p_gfr (pc' := 76) (a := 1) (k := 1) (t := 2) dX1_rankOf_73 rfl rfl (by decide) (by decide) rfl fl_X1_9 ?_
        refine e_iload_n (pc' := 77) dX1_rankOf_76 rfl rfl rfl ?_
        have hi6 : k < cn c := by first | omega | (have := cnt_le (rkP c k) i; omega)
        have hb6 := hw.p hi6
        refine p_iald (pc' := 78) (a := 2) (k := k) (x := nI (cp c k)) dX1_rankOf_77 rfl (rfl) (rfl) (by first | omega | (have := cnt_le (rkP c k) i; omega)) (by decide) (h.p hi6) ?_
        refine e_icmp_geN (pc' := 81) (tgt := 84) dX1_rankOf_78 rfl (by decide) (by first | omega | (have := cnt_le (rkP c k) i; omega)) (by first | omega | (have := cnt_le (rkP c k) i; omega)) (fun hz8 => ?_) (fun hz8 => ?_)
        · refine e_iincN (pc' := 87) (k := 1) (L' := [some (.ref (ad 1)), some (.int (nI k)), some (.int (nI (cnt (rkP c k) i))), some (.int (nI (i + 1))), some (.int (nI 0)), some (.int (nI 1))]) dX1_rankOf_84 rfl rfl rfl (by decide) rfl ?_
          refine e_goto (tgt := 4) dX1_rankOf_87 (by decide) ?_
          refine e_fg (i := 4) (L' := [some (.ref (ad 1)), some (.int (nI k)), some (.int (nI (cnt (rkP c k) i))), some (.int (nI (i + 1))), none, some (.int (nI 1))]) rfl ?_
          refine e_fg (i := 5) (L' := [some (.ref (ad 1)), some (.int (nI k)), some (.int (nI (cnt (rkP c k) i))), some (.int (nI (i + 1))), none, none]) rfl ?_
          have e : cnt (rkP c k) (i + 1) = cnt (rkP c k) i := by show cnt (rkP c k) i + (if rkP c k i = true then 1 else 0) = _; unfold rkP; grind
          rw [← e]
          exact ih (by omega)
        · refine e_iincN (pc' := 84) (k := 1) (L' := [some (.ref (ad 1)), some (.int (nI k)), some (.int (nI (cnt (rkP c k) i + 1))), some (.int (nI i)), some (.int (nI 0)), some (.int (nI 1))]) dX1_rankOf_81 rfl rfl rfl (by decide) rfl ?_
          refine e_iincN (pc' := 87) (k := 1) (L' := [some (.ref (ad 1)), some (.int (nI k)), some (.int (nI (cnt (rkP c k) i + 1))), some (.int (nI (i + 1))), some (.int (nI 0)), some (.int (nI 1))]) dX1_rankOf_84 rfl rfl rfl (by decide) rfl ?_
          refine e_goto (tgt := 4) dX1_rankOf_87 (by decide) ?_
          refine e_fg (i := 4) (L' := [some (.ref (ad 1)), some (.int (nI k)), some (.int (nI (cnt (rkP c k) i + 1))), some (.int (nI (i + 1))), none, some (.int (nI 1))]) rfl ?_
          refine e_fg (i := 5) (L' := [some (.ref (ad 1)), some (.int (nI k)), some (.int (nI (cnt (rkP c k) i + 1))), some (.int (nI (i + 1))), none, none]) rfl ?_
          have e : cnt (rkP c k) (i + 1) = cnt (rkP c k) i + 1 := by show cnt (rkP c k) i + (if rkP c k i = true then 1 else 0) = _; unfold rkP; grind
          rw [← e]
          exact ih (by omega)
    · refine e_iconst (pc' := 28) (v := nI 1) dX1_rankOf_27 rfl (by decide) ?_
      refine e_goto (tgt := 32) dX1_rankOf_28 (by decide) ?_
      refine e_istore (pc' := 34) (L' := [some (.ref (ad 1)), some (.int (nI k)), some (.int (nI (cnt (rkP c k) i))), some (.int (nI i)), some (.int (nI 1)), none]) dX1_rankOf_32 rfl (by decide) rfl ?_
      refine e_aload_n (pc' := 35) dX1_rankOf_34 rfl rfl rfl ?_
      refine p_gfr (pc' := 38) (a := 1) (k := 2) (t := 3) dX1_rankOf_35 rfl rfl (by decide) (by decide) rfl fl_X1_15 ?_
      refine e_iload_n (pc' := 39) dX1_rankOf_38 rfl rfl rfl ?_
      have hi7 : i < cn c := by first | omega | (have := cnt_le (rkP c k) i; omega)
      have hb7 := hw.s1 hi7
      have hc7 := hw.s2 hi7
      refine p_iald (pc' := 40) (a := 3) (k := i) (x := nI (cs c i)) dX1_rankOf_39 rfl (rfl) (rfl) (by first | omega | (have := cnt_le (rkP c k) i; omega)) (by decide) (h.s hi7) ?_
      refine e_aload_n (pc' := 41) dX1_rankOf_40 rfl rfl rfl ?_
      refine p_gfr (pc' := 44) (a := 1) (k := 2) (t := 3) dX1_rankOf_41 rfl rfl (by decide) (by decide) rfl fl_X1_15 ?_
      refine e_iload_n (pc' := 45) dX1_rankOf_44 rfl rfl rfl ?_
      have hi8 : k < cn c := by first | omega | (have := cnt_le (rkP c k) i; omega)
      have hb8 := hw.s1 hi8
      have hc8 := hw.s2 hi8
      refine p_iald (pc' := 46) (a := 3) (k := k) (x := nI (cs c k)) dX1_rankOf_45 rfl (rfl) (rfl) (by first | omega | (have := cnt_le (rkP c k) i; omega)) (by decide) (h.s hi8) ?_
      refine e_icmp_neN (pc' := 49) (tgt := 53) dX1_rankOf_46 rfl (by decide) (by first | omega | (have := cnt_le (rkP c k) i; omega)) (by first | omega | (have := cnt_le (rkP c k) i; omega)) (fun hz9 => ?_) (fun hz9 => ?_)
      · refine e_iconst (pc' := 54) (v := nI 0) dX1_rankOf_53 rfl (by decide) ?_
        refine e_istore (pc' := 56) (L' := [some (.ref (ad 1)), some (.int (nI k)), some (.int (nI (cnt (rkP c k) i))), some (.int (nI i)), some (.int (nI 1)), some (.int (nI 0))]) dX1_rankOf_54 rfl (by decide) rfl ?_
        refine e_iload (pc' := 58) dX1_rankOf_56 rfl rfl ?_
        refine e_if_neN (pc' := 61) (tgt := 81) dX1_rankOf_58 rfl (by decide) (by decide) (fun _ => ?_) (fun h => absurd h (by decide))
        refine e_iincN (pc' := 84) (k := 1) (L' := [some (.ref (ad 1)), some (.int (nI k)), some (.int (nI (cnt (rkP c k) i + 1))), some (.int (nI i)), some (.int (nI 1)), some (.int (nI 0))]) dX1_rankOf_81 rfl rfl rfl (by decide) rfl ?_
        refine e_iincN (pc' := 87) (k := 1) (L' := [some (.ref (ad 1)), some (.int (nI k)), some (.int (nI (cnt (rkP c k) i + 1))), some (.int (nI (i + 1))), some (.int (nI 1)), some (.int (nI 0))]) dX1_rankOf_84 rfl rfl rfl (by decide) rfl ?_
        refine e_goto (tgt := 4) dX1_rankOf_87 (by decide) ?_
        refine e_fg (i := 4) (L' := [some (.ref (ad 1)), some (.int (nI k)), some (.int (nI (cnt (rkP c k) i + 1))), some (.int (nI (i + 1))), none, some (.int (nI 0))]) rfl ?_
        refine e_fg (i := 5) (L' := [some (.ref (ad 1)), some (.int (nI k)), some (.int (nI (cnt (rkP c k) i + 1))), some (.int (nI (i + 1))), none, none]) rfl ?_
        have e : cnt (rkP c k) (i + 1) = cnt (rkP c k) i + 1 := by show cnt (rkP c k) i + (if rkP c k i = true then 1 else 0) = _; unfold rkP; grind
        rw [← e]
        exact ih (by omega)
      · refine e_iconst (pc' := 50) (v := nI 1) dX1_rankOf_49 rfl (by decide) ?_
        refine e_goto (tgt := 54) dX1_rankOf_50 (by decide) ?_
        refine e_istore (pc' := 56) (L' := [some (.ref (ad 1)), some (.int (nI k)), some (.int (nI (cnt (rkP c k) i))), some (.int (nI i)), some (.int (nI 1)), some (.int (nI 1))]) dX1_rankOf_54 rfl (by decide) rfl ?_
        refine e_iload (pc' := 58) dX1_rankOf_56 rfl rfl ?_
        refine e_if_neN (pc' := 61) (tgt := 81) dX1_rankOf_58 rfl (by decide) (by decide) (fun _ => ?_) (fun h => absurd h (by decide))
        refine e_iincN (pc' := 84) (k := 1) (L' := [some (.ref (ad 1)), some (.int (nI k)), some (.int (nI (cnt (rkP c k) i + 1))), some (.int (nI i)), some (.int (nI 1)), some (.int (nI 1))]) dX1_rankOf_81 rfl rfl rfl (by decide) rfl ?_
        refine e_iincN (pc' := 87) (k := 1) (L' := [some (.ref (ad 1)), some (.int (nI k)), some (.int (nI (cnt (rkP c k) i + 1))), some (.int (nI (i + 1))), some (.int (nI 1)), some (.int (nI 1))]) dX1_rankOf_84 rfl rfl rfl (by decide) rfl ?_
        refine e_goto (tgt := 4) dX1_rankOf_87 (by decide) ?_
        refine e_fg (i := 4) (L' := [some (.ref (ad 1)), some (.int (nI k)), some (.int (nI (cnt (rkP c k) i + 1))), some (.int (nI (i + 1))), none, some (.int (nI 1))]) rfl ?_
        refine e_fg (i := 5) (L' := [some (.ref (ad 1)), some (.int (nI k)), some (.int (nI (cnt (rkP c k) i + 1))), some (.int (nI (i + 1))), none, none]) rfl ?_
        have e : cnt (rkP c k) (i + 1) = cnt (rkP c k) i + 1 := by show cnt (rkP c k) i + (if rkP c k i = true then 1 else 0) = _; unfold rkP; grind
        rw [← e]
        exact ih (by omega))
theorem c_rankOf (h : ColAt M 1 c) (hw : WF c) {k : Nat} (hkn : k < cn c) : RET G ad d mX1_rankOf [.ref (ad 1), .int (nI k)] (M, o) (some (.int (nI (rk c k)))) (M, o) := by
  refine CM_of rfl (by decide) rfl (Nat.le_of_ble_eq_true rfl) rfl ?_
  have hn := hw.n
  have hk := hw.k
  have hw9 := hw.w9
  refine e_iconst (pc' := 1) (v := nI 0) dX1_rankOf_0 rfl (by decide) ?_
  refine e_istore_n (pc' := 2) (L' := [some (.ref (ad 1)), some (.int (nI k)), some (.int (nI 0)), none, none, none]) dX1_rankOf_1 rfl rfl (by decide) rfl ?_
  refine e_iconst (pc' := 3) (v := nI 0) dX1_rankOf_2 rfl (by decide) ?_
  refine e_istore_n (pc' := 4) (L' := [some (.ref (ad 1)), some (.int (nI k)), some (.int (nI 0)), some (.int (nI 0)), none, none]) dX1_rankOf_3 rfl rfl (by decide) rfl ?_
  exact l_rankOf h hw hkn 0 (by omega)
theorem l_magnetOfRank (h : ColAt M 1 c) (hw : WF c) (q : Int32) : ∀ i, i ≤ cn c → (∀ j, j < i → ¬ nI (rk c j) = q) → ER G ad (d + 1) mX1_magnetOfRank (0, 0) (PR (some (.int (oI (mRank c q)))) (M, o)) (0, 0) 2 [some (.ref (ad 1)), some (.int (q)), some (.int (nI i))] [] (M, o) := down (cn c) _ (fun i hi ih hj => by
  have hn := hw.n
  have hk := hw.k
  have hw9 := hw.w9
  refine e_iload_n (pc' := 3) dX1_magnetOfRank_2 rfl rfl rfl ?_
  refine e_aload_n (pc' := 4) dX1_magnetOfRank_3 rfl rfl rfl ?_
  refine p_gfi (pc' := 7) (a := 1) (k := 0) (x := nI (cn c)) dX1_magnetOfRank_4 rfl (rfl) (by decide) (by decide) rfl fl_X1_27 (h.n) ?_
  refine e_icmp_geN (pc' := 10) (tgt := 27) dX1_magnetOfRank_7 rfl (by decide) (by omega) (by omega) (fun hz1 => ?_) (fun hz1 => ?_)
  · refine e_iconst (pc' := 28) (v := (-1)) dX1_magnetOfRank_27 rfl (by decide) ?_
    exact e_iret dX1_magnetOfRank_28 rfl (MP.ret (congrArg (fun z => some (Value.int z)) (congrArg oI (fnd_none (fun j hj2 => decide_eq_false (hj j (by omega)))).symm)) rfl) (by decide) (by decide)
  · refine e_aload_n (pc' := 11) dX1_magnetOfRank_10 rfl rfl rfl ?_
    refine e_iload_n (pc' := 12) dX1_magnetOfRank_11 rfl rfl rfl ?_
    refine r_V (pc' := 15) (m' := mX1_rankOf) (As := [.int (nI i)]) (st := []) (c_rankOf (d := d) h hw (k := i) (by omega)) dX1_magnetOfRank_12 rfl rfl (Nat.le_of_ble_eq_true rfl) (fit_of (by omega) (by decide) (by decide) (by decide)) ml_X1_49 okX1_rankOf rfl rfl (by decide) rfl ?_
    show EV _ _ _ _ _ 15 _ ([.int (nI (rk c i))]) _
    refine e_iload_n (pc' := 16) dX1_magnetOfRank_15 rfl rfl rfl ?_
    refine e_icmp_ne (pc' := 19) (tgt := 21) dX1_magnetOfRank_16 rfl (by decide) (fun h1 => ?_) (fun h1 => ?_)
    · refine e_iincN (pc' := 24) (k := 1) (L' := [some (.ref (ad 1)), some (.int (q)), some (.int (nI (i + 1)))]) dX1_magnetOfRank_21 rfl rfl rfl (by decide) rfl ?_
      refine e_goto (tgt := 2) dX1_magnetOfRank_24 (by decide) ?_
      exact ih (by omega) (fun j hj2 => by by_cases e : j = i; rw [e]; exact h1; exact hj j (by omega))
    · refine e_iload_n (pc' := 20) dX1_magnetOfRank_19 rfl rfl rfl ?_
      exact e_iret dX1_magnetOfRank_20 rfl (MP.ret (congrArg (fun z => some (Value.int z)) (congrArg oI (fnd_some (by omega) (fun j hj2 => decide_eq_false (hj j hj2)) (decide_eq_true (by assumption))).symm)) rfl) (by decide) (by decide))
theorem c_magnetOfRank (h : ColAt M 1 c) (hw : WF c) (q : Int32) : RET G ad (d + 1) mX1_magnetOfRank [.ref (ad 1), .int (q)] (M, o) (some (.int (oI (mRank c q)))) (M, o) := by
  refine CM_of rfl (by decide) rfl (Nat.le_of_ble_eq_true rfl) rfl ?_
  have hn := hw.n
  have hk := hw.k
  have hw9 := hw.w9
  refine e_iconst (pc' := 1) (v := nI 0) dX1_magnetOfRank_0 rfl (by decide) ?_
  refine e_istore_n (pc' := 2) (L' := [some (.ref (ad 1)), some (.int (q)), some (.int (nI 0))]) dX1_magnetOfRank_1 rfl rfl (by decide) rfl ?_
  exact l_magnetOfRank h hw q 0 (by omega) (fun j hj => by omega)
theorem c_poleSign (h : ColAt M 1 c) (hw : WF c) {k : Nat} (hkn : k < cn c) : RET G ad (d + 1) mX1_poleSign [.ref (ad 1), .int (nI k)] (M, o) (some (.int (nI (sgn c k)))) (M, o) := by
  refine CM_of rfl (by decide) rfl (Nat.le_of_ble_eq_true rfl) rfl ?_
  have hn := hw.n
  have hk := hw.k
  have hw9 := hw.w9
  refine e_aload_n (pc' := 1) dX1_poleSign_0 rfl rfl rfl ?_
  refine p_gfi (pc' := 4) (a := 1) (k := 4) (x := nI (cw c)) dX1_poleSign_1 rfl (rfl) (by decide) (by decide) rfl fl_X1_37 (h.w) ?_
  refine e_iload_n (pc' := 5) dX1_poleSign_4 rfl rfl rfl ?_
  refine r_SN (pc' := 8) (m' := mX8_isIn) (As := [.int (nI (cw c)), .int (nI k)]) (st := []) (c_isIn (d := d) (w := cw c) (i := k) (by omega) (by omega)) dX1_poleSign_5 rfl rfl (Nat.le_of_ble_eq_true rfl) (fit_of (by omega) (by decide) (by decide) (by decide)) nl_X1_53 okX8_isIn rfl rfl ?_
  show EV _ _ _ _ _ 8 _ ([.int (bI (Nat.testBit (cw c) (k)))]) _
  refine e_if_eqB (pc' := 11) (tgt := 16) dX1_poleSign_8 rfl (by decide) (fun hz1 => ?_) (fun hz1 => ?_)
  · refine e_bipush (pc' := 18) (v := nI 115) dX1_poleSign_16 rfl (by decide) ?_
    exact e_zret (ty := .char) dX1_poleSign_18 rfl (rfl) (MP.ret (congrArg (fun z => some (Value.int z)) (by unfold sgn; first | rw [if_pos (by assumption)] | rw [if_neg (by simp_all)])) rfl) (by decide) (by decide)
  · refine e_bipush (pc' := 13) (v := nI 110) dX1_poleSign_11 rfl (by decide) ?_
    refine e_goto (tgt := 18) dX1_poleSign_13 (by decide) ?_
    exact e_zret (ty := .char) dX1_poleSign_18 rfl (rfl) (MP.ret (congrArg (fun z => some (Value.int z)) (by unfold sgn; first | rw [if_pos (by assumption)] | rw [if_neg (by simp_all)])) rfl) (by decide) (by decide)
theorem l_sumOfStrengths (h : ColAt M 1 c) (hw : WF c) : ∀ i, i ≤ cn c → ER G ad d mX1_sumOfStrengths (0, 0) (PR (some (.int (nI (sumS c)))) (M, o)) (0, 0) 4 [some (.ref (ad 1)), some (.int (nI (summ (cs c) i))), some (.int (nI i))] [] (M, o) := down (cn c) _ (fun i hi ih  => by
  have hn := hw.n
  have hk := hw.k
  have hw9 := hw.w9
  refine e_iload_n (pc' := 5) dX1_sumOfStrengths_4 rfl rfl rfl ?_
  refine e_aload_n (pc' := 6) dX1_sumOfStrengths_5 rfl rfl rfl ?_
  refine p_gfi (pc' := 9) (a := 1) (k := 0) (x := nI (cn c)) dX1_sumOfStrengths_6 rfl (rfl) (by decide) (by decide) rfl fl_X1_27 (h.n) ?_
  refine e_icmp_geN (pc' := 12) (tgt := 27) dX1_sumOfStrengths_9 rfl (by decide) (by omega) (by omega) (fun hz1 => ?_) (fun hz1 => ?_)
  · refine e_iload_n (pc' := 28) dX1_sumOfStrengths_27 rfl rfl rfl ?_
    exact e_iret dX1_sumOfStrengths_28 rfl (MP.ret (congrArg (fun z => some (Value.int z)) (by rw [show i = cn c by omega]; rfl)) rfl) (by decide) (by decide)
  · refine e_iload_n (pc' := 13) dX1_sumOfStrengths_12 rfl rfl rfl ?_
    refine e_aload_n (pc' := 14) dX1_sumOfStrengths_13 rfl rfl rfl ?_
    refine p_gfr (pc' := 17) (a := 1) (k := 2) (t := 3) dX1_sumOfStrengths_14 rfl rfl (by decide) (by decide) rfl fl_X1_15 ?_
    refine e_iload_n (pc' := 18) dX1_sumOfStrengths_17 rfl rfl rfl ?_
    have hi1 : i < cn c := by omega
    have hb1 := hw.s1 hi1
    have hc1 := hw.s2 hi1
    refine p_iald (pc' := 19) (a := 3) (k := i) (x := nI (cs c i)) dX1_sumOfStrengths_18 rfl (rfl) (rfl) (by omega) (by decide) (h.s hi1) ?_
    refine e_iaddN (pc' := 20) dX1_sumOfStrengths_19 rfl ?_
    refine e_istore_n (pc' := 21) (L' := [some (.ref (ad 1)), some (.int (nI ((summ (cs c) i) + (cs c i)))), some (.int (nI i))]) dX1_sumOfStrengths_20 rfl rfl (by decide) rfl ?_
    refine e_iincN (pc' := 24) (k := 1) (L' := [some (.ref (ad 1)), some (.int (nI ((summ (cs c) i) + (cs c i)))), some (.int (nI (i + 1)))]) dX1_sumOfStrengths_21 rfl rfl rfl (by decide) rfl ?_
    refine e_goto (tgt := 4) dX1_sumOfStrengths_24 (by decide) ?_
    exact ih (by omega))
theorem c_sumOfStrengths (h : ColAt M 1 c) (hw : WF c) : RET G ad d mX1_sumOfStrengths [.ref (ad 1)] (M, o) (some (.int (nI (sumS c)))) (M, o) := by
  refine CM_of rfl (by decide) rfl (Nat.le_of_ble_eq_true rfl) rfl ?_
  have hn := hw.n
  have hk := hw.k
  have hw9 := hw.w9
  refine e_iconst (pc' := 1) (v := nI 0) dX1_sumOfStrengths_0 rfl (by decide) ?_
  refine e_istore_n (pc' := 2) (L' := [some (.ref (ad 1)), some (.int (nI 0)), none]) dX1_sumOfStrengths_1 rfl rfl (by decide) rfl ?_
  refine e_iconst (pc' := 3) (v := nI 0) dX1_sumOfStrengths_2 rfl (by decide) ?_
  refine e_istore_n (pc' := 4) (L' := [some (.ref (ad 1)), some (.int (nI 0)), some (.int (nI 0))]) dX1_sumOfStrengths_3 rfl rfl (by decide) rfl ?_
  exact l_sumOfStrengths h hw 0 (by omega)
theorem c_otherEnd (h : ColAt M 1 c) (hw : WF c) {j k : Nat} (hj : j < ck c) (hkn : k < 2 ^ 31) : RET G ad d mX1_otherEnd [.ref (ad 1), .int (nI j), .int (nI k)] (M, o) (some (.int (oI (oEnd c j k)))) (M, o) := by
  refine CM_of rfl (by decide) rfl (Nat.le_of_ble_eq_true rfl) rfl ?_
  have hn := hw.n
  have hk := hw.k
  have hw9 := hw.w9
  refine e_aload_n (pc' := 1) dX1_otherEnd_0 rfl rfl rfl ?_
  refine p_gfr (pc' := 4) (a := 1) (k := 6) (t := 5) dX1_otherEnd_1 rfl rfl (by decide) (by decide) rfl fl_X1_21 ?_
  refine e_iload_n (pc' := 5) dX1_otherEnd_4 rfl rfl rfl ?_
  have hi1 : j < ck c := by omega
  have hb1 := hw.f hi1
  refine p_iald (pc' := 6) (a := 5) (k := j) (x := nI (cf c j)) dX1_otherEnd_5 rfl (rfl) (rfl) (by omega) (by decide) (h.f hi1) ?_
  refine e_iload_n (pc' := 7) dX1_otherEnd_6 rfl rfl rfl ?_
  refine e_icmp_neN (pc' := 10) (tgt := 17) dX1_otherEnd_7 rfl (by decide) (by omega) (by omega) (fun hz1 => ?_) (fun hz1 => ?_)
  · refine e_aload_n (pc' := 18) dX1_otherEnd_17 rfl rfl rfl ?_
    refine p_gfr (pc' := 21) (a := 1) (k := 7) (t := 6) dX1_otherEnd_18 rfl rfl (by decide) (by decide) rfl fl_X1_24 ?_
    refine e_iload_n (pc' := 22) dX1_otherEnd_21 rfl rfl rfl ?_
    have hi2 : j < ck c := by omega
    have hb2 := hw.g hi2
    refine p_iald (pc' := 23) (a := 6) (k := j) (x := nI (cg c j)) dX1_otherEnd_22 rfl (rfl) (rfl) (by omega) (by decide) (h.g hi2) ?_
    refine e_iload_n (pc' := 24) dX1_otherEnd_23 rfl rfl rfl ?_
    refine e_icmp_neN (pc' := 27) (tgt := 36) dX1_otherEnd_24 rfl (by decide) (by omega) (by omega) (fun hz2 => ?_) (fun hz2 => ?_)
    · refine e_iconst (pc' := 37) (v := (-1)) dX1_otherEnd_36 rfl (by decide) ?_
      exact e_iret dX1_otherEnd_37 rfl (MP.ret (congrArg (fun z => some (Value.int z)) (by unfold oEnd; grind [oI])) rfl) (by decide) (by decide)
    · refine e_aload_n (pc' := 28) dX1_otherEnd_27 rfl rfl rfl ?_
      refine p_gfr (pc' := 31) (a := 1) (k := 6) (t := 5) dX1_otherEnd_28 rfl rfl (by decide) (by decide) rfl fl_X1_21 ?_
      refine e_iload_n (pc' := 32) dX1_otherEnd_31 rfl rfl rfl ?_
      have hi3 : j < ck c := by omega
      have hb3 := hw.f hi3
      refine p_iald (pc' := 33) (a := 5) (k := j) (x := nI (cf c j)) dX1_otherEnd_32 rfl (rfl) (rfl) (by omega) (by decide) (h.f hi3) ?_
      refine e_goto (tgt := 37) dX1_otherEnd_33 (by decide) ?_
      exact e_iret dX1_otherEnd_37 rfl (MP.ret (congrArg (fun z => some (Value.int z)) (by unfold oEnd; grind [oI])) rfl) (by decide) (by decide)
  · refine e_aload_n (pc' := 11) dX1_otherEnd_10 rfl rfl rfl ?_
    refine p_gfr (pc' := 14) (a := 1) (k := 7) (t := 6) dX1_otherEnd_11 rfl rfl (by decide) (by decide) rfl fl_X1_24 ?_
    refine e_iload_n (pc' := 15) dX1_otherEnd_14 rfl rfl rfl ?_
    have hi4 : j < ck c := by omega
    have hb4 := hw.g hi4
    refine p_iald (pc' := 16) (a := 6) (k := j) (x := nI (cg c j)) dX1_otherEnd_15 rfl (rfl) (rfl) (by omega) (by decide) (h.g hi4) ?_
    exact e_iret dX1_otherEnd_16 rfl (MP.ret (congrArg (fun z => some (Value.int z)) (by unfold oEnd; grind [oI])) rfl) (by decide) (by decide)
theorem oEnd_lt (hw : WF c) {j m i : Nat} (hj : j < ck c) (e : oEnd c j m = some i) : i < cn c := by have h1 := hw.f hj; have h2 := hw.g hj; unfold oEnd at e; grind
theorem l_tunnelBetween (h : ColAt M 1 c) (hw : WF c) {a b : Nat} (ha : a < cn c) (hb : b < cn c) : ∀ i, i ≤ ck c → (∀ j, j < i → ¬ oEnd c j a = some b) → ER G ad (d + 1) mX1_tunnelBetween (0, 0) (PR (some (.int (oI (tBet c a b)))) (M, o)) (0, 0) 2 [some (.ref (ad 1)), some (.int (nI a)), some (.int (nI b)), some (.int (nI i))] [] (M, o) := down (ck c) _ (fun i hi ih hj => by
  have hn := hw.n
  have hk := hw.k
  have hw9 := hw.w9
  refine e_iload_n (pc' := 3) dX1_tunnelBetween_2 rfl rfl rfl ?_
  refine e_aload_n (pc' := 4) dX1_tunnelBetween_3 rfl rfl rfl ?_
  refine p_gfi (pc' := 7) (a := 1) (k := 5) (x := nI (ck c)) dX1_tunnelBetween_4 rfl (rfl) (by decide) (by decide) rfl fl_X1_40 (h.k) ?_
  refine e_icmp_geN (pc' := 10) (tgt := 28) dX1_tunnelBetween_7 rfl (by decide) (by omega) (by omega) (fun hz1 => ?_) (fun hz1 => ?_)
  · refine e_iconst (pc' := 29) (v := (-1)) dX1_tunnelBetween_28 rfl (by decide) ?_
    exact e_iret dX1_tunnelBetween_29 rfl (MP.ret (congrArg (fun z => some (Value.int z)) (congrArg oI (fnd_none (fun j hj2 => decide_eq_false (hj j (by omega)))).symm)) rfl) (by decide) (by decide)
  · refine e_aload_n (pc' := 11) dX1_tunnelBetween_10 rfl rfl rfl ?_
    refine e_iload_n (pc' := 12) dX1_tunnelBetween_11 rfl rfl rfl ?_
    refine e_iload_n (pc' := 13) dX1_tunnelBetween_12 rfl rfl rfl ?_
    refine r_V (pc' := 16) (m' := mX1_otherEnd) (As := [.int (nI i), .int (nI a)]) (st := []) (c_otherEnd (d := d) h hw (j := i) (k := a) (by omega) (by omega)) dX1_tunnelBetween_13 rfl rfl (Nat.le_of_ble_eq_true rfl) (fit_of (by omega) (by decide) (by decide) (by decide)) ml_X1_65 okX1_otherEnd rfl rfl (by decide) rfl ?_
    show EV _ _ _ _ _ 16 _ ([.int (oI (oEnd c i a))]) _
    refine e_iload_n (pc' := 17) dX1_tunnelBetween_16 rfl rfl rfl ?_
    refine e_icmp_ne (pc' := 20) (tgt := 22) dX1_tunnelBetween_17 rfl (by decide) (fun h1 => ?_) (fun h1 => ?_)
    · refine e_iincN (pc' := 25) (k := 1) (L' := [some (.ref (ad 1)), some (.int (nI a)), some (.int (nI b)), some (.int (nI (i + 1)))]) dX1_tunnelBetween_22 rfl rfl rfl (by decide) rfl ?_
      refine e_goto (tgt := 2) dX1_tunnelBetween_25 (by decide) ?_
      exact ih (by omega) (fun j hj2 => by by_cases e : j = i; rw [e]; exact fun q => h1 (by rw [q]; rfl); exact hj j (by omega))
    · refine e_iload_n (pc' := 21) dX1_tunnelBetween_20 rfl rfl rfl ?_
      exact e_iret dX1_tunnelBetween_21 rfl (MP.ret (congrArg (fun z => some (Value.int z)) (congrArg oI (fnd_some (by omega) (fun j hj2 => decide_eq_false (hj j hj2)) (decide_eq_true ((oI_eq (fun i2 e => by have := oEnd_lt hw (by omega) e; omega) (by omega)).mp (by assumption)))).symm)) rfl) (by decide) (by decide))
theorem c_tunnelBetween (h : ColAt M 1 c) (hw : WF c) {a b : Nat} (ha : a < cn c) (hb : b < cn c) : RET G ad (d + 1) mX1_tunnelBetween [.ref (ad 1), .int (nI a), .int (nI b)] (M, o) (some (.int (oI (tBet c a b)))) (M, o) := by
  refine CM_of rfl (by decide) rfl (Nat.le_of_ble_eq_true rfl) rfl ?_
  have hn := hw.n
  have hk := hw.k
  have hw9 := hw.w9
  refine e_iconst (pc' := 1) (v := nI 0) dX1_tunnelBetween_0 rfl (by decide) ?_
  refine e_istore_n (pc' := 2) (L' := [some (.ref (ad 1)), some (.int (nI a)), some (.int (nI b)), some (.int (nI 0))]) dX1_tunnelBetween_1 rfl rfl (by decide) rfl ?_
  exact l_tunnelBetween h hw ha hb 0 (by omega) (fun j hj => by omega)
theorem blk_eq {w : Nat} (j : Nat) : blk c w j = decide ((w / 2 ^ cf c j ^^^ w / 2 ^ cg c j) &&& 1 = 0) := by
  rw [Nat.and_one_is_mod]
  have e : (w / 2 ^ cf c j ^^^ w / 2 ^ cg c j) % 2 = 1 ↔ ¬ (blk c w j = true) := by
    have h1 := Nat.testBit_zero (w / 2 ^ cf c j ^^^ w / 2 ^ cg c j)
    rw [Nat.testBit_xor, ← Nat.shiftRight_eq_div_pow, ← Nat.shiftRight_eq_div_pow, Nat.testBit_shiftRight, Nat.testBit_shiftRight, Nat.add_zero, Nat.add_zero] at h1
    rw [← Nat.shiftRight_eq_div_pow, ← Nat.shiftRight_eq_div_pow]
    unfold blk
    have h2 := (decide_eq_true_iff (p := (w >>> cf c j ^^^ w >>> cg c j) % 2 = 1))
    rw [← h2, ← h1]
    cases w.testBit (cf c j) <;> cases w.testBit (cg c j) <;> simp
  have h9 : (w / 2 ^ cf c j ^^^ w / 2 ^ cg c j) % 2 < 2 := Nat.mod_lt _ (by decide)
  by_cases h : blk c w j = true
  · rw [h]; exact (decide_eq_true (by have := mt e.mp (fun q => q h); omega)).symm
  · rw [e.mpr h]; simpa using h
theorem c_isBlockedWith (h : ColAt M 1 c) (hw : WF c) {w j : Nat} (hw2 : w < 512) (hj : j < ck c) : RET G ad d mX1_isBlockedWith [.ref (ad 1), .int (nI w), .int (nI j)] (M, o) (some (.int (bI (blk c w j)))) (M, o) := by
  refine CM_of rfl (by decide) rfl (Nat.le_of_ble_eq_true rfl) rfl ?_
  have hn := hw.n
  have hk := hw.k
  have hw9 := hw.w9
  refine e_iload_n (pc' := 1) dX1_isBlockedWith_0 rfl rfl rfl ?_
  refine e_aload_n (pc' := 2) dX1_isBlockedWith_1 rfl rfl rfl ?_
  refine p_gfr (pc' := 5) (a := 1) (k := 6) (t := 5) dX1_isBlockedWith_2 rfl rfl (by decide) (by decide) rfl fl_X1_21 ?_
  refine e_iload_n (pc' := 6) dX1_isBlockedWith_5 rfl rfl rfl ?_
  have hi1 : j < ck c := by first | omega | exact (Nat.lt_of_le_of_lt Nat.and_le_right (by decide))
  have hb1 := hw.f hi1
  refine p_iald (pc' := 7) (a := 5) (k := j) (x := nI (cf c j)) dX1_isBlockedWith_6 rfl (rfl) (rfl) (by first | omega | exact (Nat.lt_of_le_of_lt Nat.and_le_right (by decide))) (by decide) (h.f hi1) ?_
  refine e_ishrN (pc' := 8) dX1_isBlockedWith_7 rfl (by first | omega | exact (Nat.lt_of_le_of_lt Nat.and_le_right (by decide))) (by first | omega | exact (Nat.lt_of_le_of_lt Nat.and_le_right (by decide))) ?_
  refine e_iload_n (pc' := 9) dX1_isBlockedWith_8 rfl rfl rfl ?_
  refine e_aload_n (pc' := 10) dX1_isBlockedWith_9 rfl rfl rfl ?_
  refine p_gfr (pc' := 13) (a := 1) (k := 7) (t := 6) dX1_isBlockedWith_10 rfl rfl (by decide) (by decide) rfl fl_X1_24 ?_
  refine e_iload_n (pc' := 14) dX1_isBlockedWith_13 rfl rfl rfl ?_
  have hi2 : j < ck c := by first | omega | exact (Nat.lt_of_le_of_lt Nat.and_le_right (by decide))
  have hb2 := hw.g hi2
  refine p_iald (pc' := 15) (a := 6) (k := j) (x := nI (cg c j)) dX1_isBlockedWith_14 rfl (rfl) (rfl) (by first | omega | exact (Nat.lt_of_le_of_lt Nat.and_le_right (by decide))) (by decide) (h.g hi2) ?_
  refine e_ishrN (pc' := 16) dX1_isBlockedWith_15 rfl (by first | omega | exact (Nat.lt_of_le_of_lt Nat.and_le_right (by decide))) (by first | omega | exact (Nat.lt_of_le_of_lt Nat.and_le_right (by decide))) ?_
  refine e_ixorN (pc' := 17) dX1_isBlockedWith_16 rfl ?_
  refine e_iconst (pc' := 18) (v := nI 1) dX1_isBlockedWith_17 rfl (by decide) ?_
  refine e_iandN (pc' := 19) dX1_isBlockedWith_18 rfl ?_
  refine e_if_neN (pc' := 22) (tgt := 26) dX1_isBlockedWith_19 rfl (by decide) (by first | omega | exact (Nat.lt_of_le_of_lt Nat.and_le_right (by decide))) (fun hz1 => ?_) (fun hz1 => ?_)
  · refine e_iconst (pc' := 27) (v := nI 0) dX1_isBlockedWith_26 rfl (by decide) ?_
    exact e_zret (ty := .boolean) dX1_isBlockedWith_27 rfl (rfl) (MP.ret (congrArg (fun z => some (Value.int z)) (by rw [blk_eq]; first | exact dec1 (by assumption) | exact dec0 (by assumption))) rfl) (by decide) (by decide)
  · refine e_iconst (pc' := 23) (v := nI 1) dX1_isBlockedWith_22 rfl (by decide) ?_
    refine e_goto (tgt := 27) dX1_isBlockedWith_23 (by decide) ?_
    exact e_zret (ty := .boolean) dX1_isBlockedWith_27 rfl (rfl) (MP.ret (congrArg (fun z => some (Value.int z)) (by rw [blk_eq]; first | exact dec1 (by assumption) | exact dec0 (by assumption))) rfl) (by decide) (by decide)
theorem c_hasUnlikePoles (h : ColAt M 1 c) (hw : WF c) {j : Nat} (hj : j < ck c) : RET G ad (d + 1) mX1_hasUnlikePoles [.ref (ad 1), .int (nI j)] (M, o) (some (.int (bI (!blk c (cw c) j)))) (M, o) := by
  refine CM_of rfl (by decide) rfl (Nat.le_of_ble_eq_true rfl) rfl ?_
  have hn := hw.n
  have hk := hw.k
  have hw9 := hw.w9
  refine e_aload_n (pc' := 1) dX1_hasUnlikePoles_0 rfl rfl rfl ?_
  refine e_aload_n (pc' := 2) dX1_hasUnlikePoles_1 rfl rfl rfl ?_
  refine p_gfi (pc' := 5) (a := 1) (k := 4) (x := nI (cw c)) dX1_hasUnlikePoles_2 rfl (rfl) (by decide) (by decide) rfl fl_X1_37 (h.w) ?_
  refine e_iload_n (pc' := 6) dX1_hasUnlikePoles_5 rfl rfl rfl ?_
  refine r_V (pc' := 9) (m' := mX1_isBlockedWith) (As := [.int (nI (cw c)), .int (nI j)]) (st := []) (c_isBlockedWith (d := d) h hw (w := cw c) (j := j) (by omega) (by omega)) dX1_hasUnlikePoles_6 rfl rfl (Nat.le_of_ble_eq_true rfl) (fit_of (by omega) (by decide) (by decide) (by decide)) ml_X1_69 okX1_isBlockedWith rfl rfl (by decide) rfl ?_
  show EV _ _ _ _ _ 9 _ ([.int (bI (blk c (cw c) (j)))]) _
  refine e_if_neB (pc' := 12) (tgt := 16) dX1_hasUnlikePoles_9 rfl (by decide) (fun hz1 => ?_) (fun hz1 => ?_)
  · refine e_iconst (pc' := 17) (v := nI 0) dX1_hasUnlikePoles_16 rfl (by decide) ?_
    exact e_zret (ty := .boolean) dX1_hasUnlikePoles_17 rfl (rfl) (MP.ret (congrArg (fun z => some (Value.int z)) (by first | exact bI1 (by simp_all) | exact bI0 (by simp_all))) rfl) (by decide) (by decide)
  · refine e_iconst (pc' := 13) (v := nI 1) dX1_hasUnlikePoles_12 rfl (by decide) ?_
    refine e_goto (tgt := 17) dX1_hasUnlikePoles_13 (by decide) ?_
    exact e_zret (ty := .boolean) dX1_hasUnlikePoles_17 rfl (rfl) (MP.ret (congrArg (fun z => some (Value.int z)) (by first | exact bI1 (by simp_all) | exact bI0 (by simp_all))) rfl) (by decide) (by decide)
theorem l_countBlockedWith (h : ColAt M 1 c) (hw : WF c) {w : Nat} (hw2 : w < 512) : ∀ i, i ≤ ck c → ER G ad (d + 1) mX1_countBlockedWith (0, 0) (PR (some (.int (nI (blkN c w)))) (M, o)) (0, 0) 4 [some (.ref (ad 1)), some (.int (nI w)), some (.int (nI (cnt (blk c w) i))), some (.int (nI i))] [] (M, o) := down (ck c) _ (fun i hi ih  => by
  have hn := hw.n
  have hk := hw.k
  have hw9 := hw.w9
  refine e_iload_n (pc' := 5) dX1_countBlockedWith_4 rfl rfl rfl ?_
  refine e_aload_n (pc' := 6) dX1_countBlockedWith_5 rfl rfl rfl ?_
  refine p_gfi (pc' := 9) (a := 1) (k := 5) (x := nI (ck c)) dX1_countBlockedWith_6 rfl (rfl) (by decide) (by decide) rfl fl_X1_40 (h.k) ?_
  refine e_icmp_geN (pc' := 12) (tgt := 35) dX1_countBlockedWith_9 rfl (by decide) (by omega) (by omega) (fun hz1 => ?_) (fun hz1 => ?_)
  · refine e_iload_n (pc' := 36) dX1_countBlockedWith_35 rfl rfl rfl ?_
    exact e_iret dX1_countBlockedWith_36 rfl (MP.ret (congrArg (fun z => some (Value.int z)) (by rw [show i = ck c by omega]; rfl)) rfl) (by decide) (by decide)
  · refine e_iload_n (pc' := 13) dX1_countBlockedWith_12 rfl rfl rfl ?_
    refine e_aload_n (pc' := 14) dX1_countBlockedWith_13 rfl rfl rfl ?_
    refine e_iload_n (pc' := 15) dX1_countBlockedWith_14 rfl rfl rfl ?_
    refine e_iload_n (pc' := 16) dX1_countBlockedWith_15 rfl rfl rfl ?_
    refine r_V (pc' := 19) (m' := mX1_isBlockedWith) (As := [.int (nI w), .int (nI i)]) (st := [.int (nI (cnt (blk c w) i))]) (c_isBlockedWith (d := d) h hw (w := w) (j := i) (by omega) (by omega)) dX1_countBlockedWith_16 rfl rfl (Nat.le_of_ble_eq_true rfl) (fit_of (by omega) (by decide) (by decide) (by decide)) ml_X1_69 okX1_isBlockedWith rfl rfl (by decide) rfl ?_
    show EV _ _ _ _ _ 19 _ ([.int (bI (blk c (w) (i))), .int (nI (cnt (blk c w) i))]) _
    refine e_if_eqB (pc' := 22) (tgt := 26) dX1_countBlockedWith_19 rfl (by decide) (fun hz2 => ?_) (fun hz2 => ?_)
    · refine e_iconst (pc' := 27) (v := nI 0) dX1_countBlockedWith_26 rfl (by decide) ?_
      refine e_iaddN (pc' := 28) dX1_countBlockedWith_27 rfl ?_
      refine e_istore_n (pc' := 29) (L' := [some (.ref (ad 1)), some (.int (nI w)), some (.int (nI ((cnt (blk c w) i) + 0))), some (.int (nI i))]) dX1_countBlockedWith_28 rfl rfl (by decide) rfl ?_
      refine e_iincN (pc' := 32) (k := 1) (L' := [some (.ref (ad 1)), some (.int (nI w)), some (.int (nI ((cnt (blk c w) i) + 0))), some (.int (nI (i + 1)))]) dX1_countBlockedWith_29 rfl rfl rfl (by decide) rfl ?_
      refine e_goto (tgt := 4) dX1_countBlockedWith_32 (by decide) ?_
      have e : cnt (blk c w) (i + 1) = (cnt (blk c w) i) + 0 := by show cnt (blk c w) i + (if blk c w i = true then 1 else 0) = _; simp_all
      rw [← e]
      exact ih (by omega)
    · refine e_iconst (pc' := 23) (v := nI 1) dX1_countBlockedWith_22 rfl (by decide) ?_
      refine e_goto (tgt := 27) dX1_countBlockedWith_23 (by decide) ?_
      refine e_iaddN (pc' := 28) dX1_countBlockedWith_27 rfl ?_
      refine e_istore_n (pc' := 29) (L' := [some (.ref (ad 1)), some (.int (nI w)), some (.int (nI ((cnt (blk c w) i) + 1))), some (.int (nI i))]) dX1_countBlockedWith_28 rfl rfl (by decide) rfl ?_
      refine e_iincN (pc' := 32) (k := 1) (L' := [some (.ref (ad 1)), some (.int (nI w)), some (.int (nI ((cnt (blk c w) i) + 1))), some (.int (nI (i + 1)))]) dX1_countBlockedWith_29 rfl rfl rfl (by decide) rfl ?_
      refine e_goto (tgt := 4) dX1_countBlockedWith_32 (by decide) ?_
      have e : cnt (blk c w) (i + 1) = (cnt (blk c w) i) + 1 := by show cnt (blk c w) i + (if blk c w i = true then 1 else 0) = _; simp_all
      rw [← e]
      exact ih (by omega))
theorem c_countBlockedWith (h : ColAt M 1 c) (hw : WF c) {w : Nat} (hw2 : w < 512) : RET G ad (d + 1) mX1_countBlockedWith [.ref (ad 1), .int (nI w)] (M, o) (some (.int (nI (blkN c w)))) (M, o) := by
  refine CM_of rfl (by decide) rfl (Nat.le_of_ble_eq_true rfl) rfl ?_
  have hn := hw.n
  have hk := hw.k
  have hw9 := hw.w9
  refine e_iconst (pc' := 1) (v := nI 0) dX1_countBlockedWith_0 rfl (by decide) ?_
  refine e_istore_n (pc' := 2) (L' := [some (.ref (ad 1)), some (.int (nI w)), some (.int (nI 0)), none]) dX1_countBlockedWith_1 rfl rfl (by decide) rfl ?_
  refine e_iconst (pc' := 3) (v := nI 0) dX1_countBlockedWith_2 rfl (by decide) ?_
  refine e_istore_n (pc' := 4) (L' := [some (.ref (ad 1)), some (.int (nI w)), some (.int (nI 0)), some (.int (nI 0))]) dX1_countBlockedWith_3 rfl rfl (by decide) rfl ?_
  exact l_countBlockedWith h hw hw2 0 (by omega)
theorem c_countBlocked (h : ColAt M 1 c) (hw : WF c) : RET G ad (d + 2) mX1_countBlocked [.ref (ad 1)] (M, o) (some (.int (nI (blkN c (cw c))))) (M, o) := by
  refine CM_of rfl (by decide) rfl (Nat.le_of_ble_eq_true rfl) rfl ?_
  have hn := hw.n
  have hk := hw.k
  have hw9 := hw.w9
  refine e_aload_n (pc' := 1) dX1_countBlocked_0 rfl rfl rfl ?_
  refine e_aload_n (pc' := 2) dX1_countBlocked_1 rfl rfl rfl ?_
  refine p_gfi (pc' := 5) (a := 1) (k := 4) (x := nI (cw c)) dX1_countBlocked_2 rfl (rfl) (by decide) (by decide) rfl fl_X1_37 (h.w) ?_
  refine r_V (pc' := 8) (m' := mX1_countBlockedWith) (As := [.int (nI (cw c))]) (st := []) (c_countBlockedWith (d := d) h hw (w := cw c) (by omega)) dX1_countBlocked_5 rfl rfl (Nat.le_of_ble_eq_true rfl) (fit_of (by omega) (by decide) (by decide) (by decide)) ml_X1_72 okX1_countBlockedWith rfl rfl (by decide) rfl ?_
  show EV _ _ _ _ _ 8 _ ([.int (nI (blkN c (cw c)))]) _
  exact e_iret dX1_countBlocked_8 rfl (MP.ret rfl rfl) (by decide) (by decide)
end T11

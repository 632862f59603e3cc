set_option maxHeartbeats 400000
/-! THE REFERENCE: settling, moving, digging, filling -/
section T49
variable {G : gC} {ad : Nat → Nat} {d : Nat} {M : Nat → Nat → Int32} {o : (Nat → Int64) × (Nat → UInt64)} {c : Col} {hs : Nat → Col} {sz : Nat} {w : Bool}
theorem mod_t {b i : Nat} (h : b.testBit i = true) : b % 2 ^ (i + 1) = b % 2 ^ i ||| 2 ^ i := by
  refine Nat.eq_of_testBit_eq (fun j => ?_)
  rw [Nat.testBit_or, Nat.testBit_mod_two_pow, Nat.testBit_mod_two_pow, Nat.testBit_two_pow]
  by_cases e : i = j
  · subst e; simp [h]
  · have e2 : j < i + 1 ↔ j < i := by omega
    simp [e, e2]
theorem mod_f {b i : Nat} (h : b.testBit i = false) : b % 2 ^ (i + 1) = b % 2 ^ i := by
  refine Nat.eq_of_testBit_eq (fun j => ?_)
  rw [Nat.testBit_mod_two_pow, Nat.testBit_mod_two_pow]
  by_cases e : i = j
  · subst e; simp [h]
  · have e2 : j < i + 1 ↔ j < i := by omega
    simp [e2]
theorem bit1 {b i : Nat} : b / 2 ^ i &&& 1 = 1 ↔ b.testBit i = true := by
  rw [Nat.and_one_is_mod, ← Nat.toNat_testBit]
  cases b.testBit i <;> decide
theorem set_wf {v : Nat} (hw : WF c) {b i : Nat} (hb : b < 2 ^ cn c) (e : v = b % 2 ^ i) : WF (trnC c v) := trn_wf hw (by rw [e]; exact Nat.lt_of_le_of_lt (Nat.mod_le _ _) hb)
theorem gl_settle {M1 : Nat → Nat → Int32} (hw : WF c) {b : Nat} (hb : b < 2 ^ cn c) {P : PM} (hfin : ∀ M, RowAt M 97 0 (trnC c b) → KP (fun a => a == 97) M1 M → P (.inl (some (.int (nI (pop b))))) (M, o)) : ∀ i, i ≤ cn c → ∀ (M : Nat → Nat → Int32), RowAt M 97 0 (trnC c (b % 2 ^ i)) → KP (fun a => a == 97) M1 M → ER G ad (d + 3) mX9_settle (0, 0) (P) (0, 0) 50 [some (.ref (ad 96)), none, some (.int (nI b)), some (.int (nI i))] [] (M, o) := down (cn c) _ (fun i hi ih M g1 g2 => by
  have hn := hw.n
  have hk := hw.k
  have hw9 := hw.w9
  have hcn : cn (trnC c (b % 2 ^ i)) = cn c := rfl
  have hwi := set_wf (i := i) hw hb rfl
  have h512 := p2_le (n := 9) hw.n
  refine e_iload_n (pc' := 51) dX9_settle_50 rfl rfl rfl ?_
  refine e_aload_n (pc' := 52) dX9_settle_51 rfl rfl rfl ?_
  refine p_gfr (pc' := 55) (a := 96) (k := 0) (t := 97) dX9_settle_52 rfl rfl (by decide) (by decide) rfl fl_X9_7 ?_
  refine e_iconst (pc' := 56) (v := nI 0) dX9_settle_55 rfl (by decide) ?_
  refine p_iald (pc' := 57) (a := 97) (k := 0) (x := nI (cn (trnC c (b % 2 ^ i)))) dX9_settle_56 rfl (rfl) (rfl) (by first | omega | exact Nat.lt_of_le_of_lt Nat.and_le_right (by decide)) (by decide) (g1.n) ?_
  refine e_icmp_geN (pc' := 60) (tgt := 80) dX9_settle_57 rfl (by decide) (by first | omega | exact Nat.lt_of_le_of_lt Nat.and_le_right (by decide)) (by first | omega | exact Nat.lt_of_le_of_lt Nat.and_le_right (by decide)) (fun hz1 => ?_) (fun hz1 => ?_)
  · refine e_iload_n (pc' := 81) dX9_settle_80 rfl rfl rfl ?_
    refine r_S (pc' := 84) (m' := mX9_bits) (As := [.int (nI b)]) (st := []) (g_bits (d := d) (w := b) (by first | omega | exact Nat.lt_of_le_of_lt Nat.and_le_right (by decide))) dX9_settle_81 rfl rfl (Nat.le_of_ble_eq_true rfl) (fit_of (by omega) (by decide) (by decide) (by decide)) ml_X9_127 okX9_bits rfl rfl ?_
    show EV _ _ _ _ _ 84 _ ([.int (nI (pop (b)))]) _
    exact e_iret dX9_settle_84 rfl (by
      obtain rfl : i = cn c := by omega
      rw [Nat.mod_eq_of_lt hb] at g1
      exact ⟨(M, o), rfl, hfin M g1 g2⟩) (by decide) (by decide)
  · refine e_iload_n (pc' := 61) dX9_settle_60 rfl rfl rfl ?_
    refine e_iload_n (pc' := 62) dX9_settle_61 rfl rfl rfl ?_
    refine e_ishrN (pc' := 63) dX9_settle_62 rfl (by first | omega | exact Nat.lt_of_le_of_lt Nat.and_le_right (by decide)) (by first | omega | exact Nat.lt_of_le_of_lt Nat.and_le_right (by decide)) ?_
    refine e_iconst (pc' := 64) (v := nI 1) dX9_settle_63 rfl (by decide) ?_
    refine e_iandN (pc' := 65) dX9_settle_64 rfl ?_
    refine e_iconst (pc' := 66) (v := nI 1) dX9_settle_65 rfl (by decide) ?_
    refine e_icmp_neN (pc' := 69) (tgt := 74) dX9_settle_66 rfl (by decide) (by first | omega | exact Nat.lt_of_le_of_lt Nat.and_le_right (by decide)) (by first | omega | exact Nat.lt_of_le_of_lt Nat.and_le_right (by decide)) (fun h1 => ?_) (fun h1 => ?_)
    · refine e_iincN (pc' := 77) (k := 1) (L' := [some (.ref (ad 96)), none, some (.int (nI b)), some (.int (nI (i + 1)))]) dX9_settle_74 rfl rfl rfl (by decide) rfl ?_
      refine e_goto (tgt := 50) dX9_settle_77 (by decide) ?_
      have e := mod_f (b := b) (i := i) (by cases q : b.testBit i; rfl; exact absurd (bit1.mpr q) h1)
      exact ih (by omega) M (by rw [e]; exact g1) g2
    · refine e_aload_n (pc' := 70) dX9_settle_69 rfl rfl rfl ?_
      refine e_iload_n (pc' := 71) dX9_settle_70 rfl rfl rfl ?_
      refine r_VI (pc' := 74) (m' := mX9_turnsOne) (As := [.int (nI i)]) (st := []) (g_turnsOne (d := d) g1 hwi (m := i) (by omega)) dX9_settle_71 rfl rfl (Nat.le_of_ble_eq_true rfl) (fit_of (by omega) (by decide) (by decide) (by decide)) ml_X9_96 okX9_turnsOne rfl rfl (by decide) rfl (fun M2 ⟨hR2, hK2⟩ => ?_)
      show EV _ _ _ _ _ 74 _ ([]) _
      refine e_iincN (pc' := 77) (k := 1) (L' := [some (.ref (ad 96)), none, some (.int (nI b)), some (.int (nI (i + 1)))]) dX9_settle_74 rfl rfl rfl (by decide) rfl ?_
      refine e_goto (tgt := 50) dX9_settle_77 (by decide) ?_
      have e := mod_t (b := b) (i := i) (bit1.mp h1)
      rw [trn_step (by omega) (Nat.mod_lt _ (Nat.two_pow_pos i)), ← e] at hR2
      exact ih (by omega) M2 hR2 (g2.trans hK2))
theorem g_settle (r : RowAt M 97 0 c) (hw : WF c) (hK : KtR M hs sz) (hW : KWF hs sz) (h6 : M 96 6 = bI w) (h0 : ¬ blkN c (cw c) = 0) {b : Nat} (hb : mbF c (2 ^ cn c) = some b) : RETI G ad (d + 4) mX9_settle [.ref (ad 96)] (M, o) (some (.int (nI (pop b)))) (CHI w hs sz c (trnC c b) M) := by
  refine CM_of rfl (by decide) rfl (Nat.le_of_ble_eq_true rfl) rfl ?_
  have hn := hw.n
  have hk := hw.k
  have hw9 := hw.w9
  refine e_aload_n (pc' := 1) dX9_settle_0 rfl rfl rfl ?_
  refine e_iconst (pc' := 2) (v := nI 0) dX9_settle_1 rfl (by decide) ?_
  refine r_V (pc' := 5) (m' := mX9_shut) (As := [.int (nI 0)]) (st := []) (g_shut (d := d) r hw (w := 0) (by first | omega | exact Nat.lt_of_le_of_lt (blkN_le _) (by omega))) dX9_settle_2 rfl rfl (Nat.le_of_ble_eq_true rfl) (fit_of (by omega) (by decide) (by decide) (by decide)) ml_X9_100 okX9_shut rfl rfl (by decide) rfl ?_
  show EV _ _ _ _ _ 5 _ ([.int (nI (blkN c (cw c ^^^ 0)))]) _
  refine e_istore_n (pc' := 6) (L' := [some (.ref (ad 96)), some (.int (nI (blkN c (cw c ^^^ 0)))), none, none]) dX9_settle_5 rfl rfl (by decide) rfl ?_
  refine e_iload_n (pc' := 7) dX9_settle_6 rfl rfl rfl ?_
  refine e_if_neN (pc' := 10) (tgt := 23) dX9_settle_7 rfl (by decide) (by first | omega | exact Nat.lt_of_le_of_lt (blkN_le _) (by omega)) (fun hz1 => ?_) (fun hz1 => absurd hz1 (by rw [Nat.xor_zero]; exact h0))
  refine e_aload_n (pc' := 24) dX9_settle_23 rfl rfl rfl ?_
  refine r_V (pc' := 27) (m' := mX9_best) (As := []) (st := []) (g_best (d := d) r hw) dX9_settle_24 rfl rfl (Nat.le_of_ble_eq_true rfl) (fit_of (by omega) (by decide) (by decide) (by decide)) ml_X9_130 okX9_best rfl rfl (by decide) rfl ?_
  show EV _ _ _ _ _ 27 _ ([.int (oI (mbF c (2 ^ cn c)))]) _
  refine e_istore_n (pc' := 28) (L' := [some (.ref (ad 96)), some (.int (nI (blkN c (cw c ^^^ 0)))), some (.int (oI (mbF c (2 ^ cn c)))), none]) dX9_settle_27 rfl rfl (by decide) rfl ?_
  refine e_iload_n (pc' := 29) dX9_settle_28 rfl rfl rfl ?_
  refine e_if_ge (pc' := 32) (tgt := 40) dX9_settle_29 rfl (by decide) (fun hz2 => ?_) (fun hz2 => absurd hz2 (not_not_intro (mb_ge hw (by rw [hb]; intro q; cases q))))
  rw [hb]
  refine e_fg (i := 1) (L' := [some (.ref (ad 96)), none, some (.int (nI b)), none]) rfl ?_
  refine e_aload_n (pc' := 41) dX9_settle_40 rfl rfl rfl ?_
  refine e_aload_n (pc' := 42) dX9_settle_41 rfl rfl rfl ?_
  refine p_gfr (pc' := 45) (a := 96) (k := 0) (t := 97) dX9_settle_42 rfl rfl (by decide) (by decide) rfl fl_X9_7 ?_
  refine r_VI (pc' := 48) (m' := mX9_keeps) (As := [.ref (ad 97)]) (st := []) (g_keeps (d := d) (w := w) r hw hK hW h6) dX9_settle_45 rfl rfl (Nat.le_of_ble_eq_true rfl) (fit_of (by omega) (by decide) (by decide) (by decide)) ml_X9_85 okX9_keeps rfl rfl (by decide) rfl (fun M1 hI => ?_)
  show EV _ _ _ _ _ 48 _ ([]) _
  refine e_iconst (pc' := 49) (v := nI 0) dX9_settle_48 rfl (by decide) ?_
  refine e_istore_n (pc' := 50) (L' := [some (.ref (ad 96)), none, some (.int (nI b)), some (.int (nI 0))]) dX9_settle_49 rfl rfl (by decide) rfl ?_
  exact gl_settle (P := PI (some (.int (nI (pop b)))) o (CHI w hs sz c (trnC c b) M)) hw (Nat.lt_of_lt_of_le (mbF_lt hb) (Nat.le_refl _)) (fun M' hr hk => ⟨rfl, M', rfl, CHI.mk hI (fun _ _ _ => rfl) KP.refl hr hk⟩) 0 (by omega) M1 (by rw [Nat.pow_zero, Nat.mod_one, trn_zero]; exact (r.kp hI.2.2.2 (by decide))) KP.refl
theorem g_settle_5 (r : RowAt M 97 0 c) (hw : WF c) (h0 : blkN c (cw c) = 0) : RETI G ad (d + 4) mX9_settle [.ref (ad 96)] (M, o) (some (.int (nI 0))) (FDI 1 5 (nI (ck c)) M) := by
  refine CM_of rfl (by decide) rfl (Nat.le_of_ble_eq_true rfl) rfl ?_
  have hn := hw.n
  have hk := hw.k
  have hw9 := hw.w9
  refine e_aload_n (pc' := 1) dX9_settle_0 rfl rfl rfl ?_
  refine e_iconst (pc' := 2) (v := nI 0) dX9_settle_1 rfl (by decide) ?_
  refine r_V (pc' := 5) (m' := mX9_shut) (As := [.int (nI 0)]) (st := []) (g_shut (d := d) r hw (w := 0) (by first | omega | exact Nat.lt_of_le_of_lt (blkN_le _) (by omega))) dX9_settle_2 rfl rfl (Nat.le_of_ble_eq_true rfl) (fit_of (by omega) (by decide) (by decide) (by decide)) ml_X9_100 okX9_shut rfl rfl (by decide) rfl ?_
  show EV _ _ _ _ _ 5 _ ([.int (nI (blkN c (cw c ^^^ 0)))]) _
  refine e_istore_n (pc' := 6) (L' := [some (.ref (ad 96)), some (.int (nI (blkN c (cw c ^^^ 0)))), none, none]) dX9_settle_5 rfl rfl (by decide) rfl ?_
  refine e_iload_n (pc' := 7) dX9_settle_6 rfl rfl rfl ?_
  refine e_if_neN (pc' := 10) (tgt := 23) dX9_settle_7 rfl (by decide) (by first | omega | exact Nat.lt_of_le_of_lt (blkN_le _) (by omega)) (fun hz1 => absurd hz1 (not_not_intro (by rw [Nat.xor_zero]; exact h0))) (fun hz1 => ?_)
  refine e_aload_n (pc' := 11) dX9_settle_10 rfl rfl rfl ?_
  refine e_iconst (pc' := 12) (v := nI 1) dX9_settle_11 rfl (by decide) ?_
  refine e_iconst (pc' := 13) (v := nI 5) dX9_settle_12 rfl (by decide) ?_
  refine e_aload_n (pc' := 14) dX9_settle_13 rfl rfl rfl ?_
  refine p_gfr (pc' := 17) (a := 96) (k := 0) (t := 97) dX9_settle_14 rfl rfl (by decide) (by decide) rfl fl_X9_7 ?_
  refine e_iconst (pc' := 18) (v := nI 1) dX9_settle_17 rfl (by decide) ?_
  refine p_iald (pc' := 19) (a := 97) (k := 1) (x := nI (ck c)) dX9_settle_18 rfl (rfl) (rfl) (by first | omega | exact Nat.lt_of_le_of_lt (blkN_le _) (by omega)) (by decide) (r.k) ?_
  refine r_V (pc' := 22) (m' := mX9_denies) (As := [.int (nI 1), .int (nI 5), .int (nI (ck c))]) (st := []) (g_denies (d := d) (1) (5) (nI (ck c))) dX9_settle_19 rfl rfl (Nat.le_of_ble_eq_true rfl) (fit_of (by omega) (by decide) (by decide) (by decide)) ml_X9_77 okX9_denies rfl rfl (by decide) rfl ?_
  show EV _ _ _ _ _ 22 _ ([.int (nI 0)]) _
  exact e_iret dX9_settle_22 rfl (MP.retI rfl (FDI.of (fun _ _ _ => rfl) KP.refl)) (by decide) (by decide)
theorem fdi_x {p r : Nat} {x y : Int32} {M M' : Nat → Nat → Int32} (h : FDI p r x M M') (e : x = y) : FDI p r y M M' := e ▸ h
theorem g_settle_4 (r : RowAt M 97 0 c) (hw : WF c) (h0 : ¬ blkN c (cw c) = 0) (hb : mbF c (2 ^ cn c) = none) : RETI G ad (d + 4) mX9_settle [.ref (ad 96)] (M, o) (some (.int (nI 0))) (FDI 1 4 (nI (blkN c (cw c))) M) := by
  refine CM_of rfl (by decide) rfl (Nat.le_of_ble_eq_true rfl) rfl ?_
  have hn := hw.n
  have hk := hw.k
  have hw9 := hw.w9
  refine e_aload_n (pc' := 1) dX9_settle_0 rfl rfl rfl ?_
  refine e_iconst (pc' := 2) (v := nI 0) dX9_settle_1 rfl (by decide) ?_
  refine r_V (pc' := 5) (m' := mX9_shut) (As := [.int (nI 0)]) (st := []) (g_shut (d := d) r hw (w := 0) (by first | omega | exact Nat.lt_of_le_of_lt (blkN_le _) (by omega))) dX9_settle_2 rfl rfl (Nat.le_of_ble_eq_true rfl) (fit_of (by omega) (by decide) (by decide) (by decide)) ml_X9_100 okX9_shut rfl rfl (by decide) rfl ?_
  show EV _ _ _ _ _ 5 _ ([.int (nI (blkN c (cw c ^^^ 0)))]) _
  refine e_istore_n (pc' := 6) (L' := [some (.ref (ad 96)), some (.int (nI (blkN c (cw c ^^^ 0)))), none, none]) dX9_settle_5 rfl rfl (by decide) rfl ?_
  refine e_iload_n (pc' := 7) dX9_settle_6 rfl rfl rfl ?_
  refine e_if_neN (pc' := 10) (tgt := 23) dX9_settle_7 rfl (by decide) (by first | omega | exact Nat.lt_of_le_of_lt (blkN_le _) (by omega)) (fun hz1 => ?_) (fun hz1 => absurd hz1 (by rw [Nat.xor_zero]; exact h0))
  refine e_aload_n (pc' := 24) dX9_settle_23 rfl rfl rfl ?_
  refine r_V (pc' := 27) (m' := mX9_best) (As := []) (st := []) (g_best (d := d) r hw) dX9_settle_24 rfl rfl (Nat.le_of_ble_eq_true rfl) (fit_of (by omega) (by decide) (by decide) (by decide)) ml_X9_130 okX9_best rfl rfl (by decide) rfl ?_
  show EV _ _ _ _ _ 27 _ ([.int (oI (mbF c (2 ^ cn c)))]) _
  refine e_istore_n (pc' := 28) (L' := [some (.ref (ad 96)), some (.int (nI (blkN c (cw c ^^^ 0)))), some (.int (oI (mbF c (2 ^ cn c)))), none]) dX9_settle_27 rfl rfl (by decide) rfl ?_
  refine e_iload_n (pc' := 29) dX9_settle_28 rfl rfl rfl ?_
  refine e_if_ge (pc' := 32) (tgt := 40) dX9_settle_29 rfl (by decide) (fun hz2 => absurd hz2 (none_ge hb)) (fun hz2 => ?_)
  refine e_aload_n (pc' := 33) dX9_settle_32 rfl rfl rfl ?_
  refine e_iconst (pc' := 34) (v := nI 1) dX9_settle_33 rfl (by decide) ?_
  refine e_iconst (pc' := 35) (v := nI 4) dX9_settle_34 rfl (by decide) ?_
  refine e_iload_n (pc' := 36) dX9_settle_35 rfl rfl rfl ?_
  refine r_V (pc' := 39) (m' := mX9_denies) (As := [.int (nI 1), .int (nI 4), .int (nI (blkN c (cw c ^^^ 0)))]) (st := []) (g_denies (d := d) (1) (4) (nI (blkN c (cw c ^^^ 0)))) dX9_settle_36 rfl rfl (Nat.le_of_ble_eq_true rfl) (fit_of (by omega) (by decide) (by decide) (by decide)) ml_X9_77 okX9_denies rfl rfl (by decide) rfl ?_
  show EV _ _ _ _ _ 39 _ ([.int (nI 0)]) _
  exact e_iret dX9_settle_39 rfl (MP.retI rfl (fdi_x (FDI.of (fun _ _ _ => rfl) KP.refl) (by rw [Nat.xor_zero]))) (by decide) (by decide)
/-- where a magnet would move -/
def mvT (c : Col) (m : Nat) : Int32 := nI (cp c m) + (if cgt (frc c m) = true then nI 1 else if clt (frc c m) = true then (-1) else nI 0)
theorem nI_prd {k : Nat} (h : 1 ≤ k) : nI k + (-1) = nI (k - 1) := by
  rw [← pk_sub h, Int32.sub_eq_add_neg]; rfl
theorem isP_iff {k : Nat} (hk : k < 2 ^ 31) : isP (nI k) = true ↔ k < 100 := isp_iff hk
theorem mOn_self {m : Nat} (hm : m < cn c) : ¬ mOn c (nI (cp c m)) = none := fun e => by
  rcases fnd_spec (fun i => decide (nI (cp c i) = nI (cp c m))) (cn c) with ⟨_, h2⟩ | ⟨k, h1, _⟩
  · exact absurd rfl (of_decide_eq_false (h2 m hm))
  · have e2 : fnd (fun i => decide (nI (cp c i) = nI (cp c m))) (cn c) = none := e
    rw [h1] at e2; cases e2
theorem mvT_t {m : Nat} (hw : WF c) (hm : m < cn c) (hp : isP (mvT c m) = true) (ho : mOn c (mvT c m) = none) : mvT c m = nI (tgtN c m) ∧ ¬ tgtN c m = cp c m ∧ tgtN c m < 100 := by
  have hb := hw.p hm
  unfold mvT at hp ho ⊢
  unfold tgtN
  by_cases h1 : cgt (frc c m) = true
  · rw [if_pos h1] at hp ho ⊢
    rw [if_pos h1]
    rw [nI_add] at hp ho ⊢
    have h2 := (isP_iff (by omega)).mp hp
    rw [if_pos ⟨h2, by rw [ho]; rfl⟩]
    exact ⟨rfl, by omega, h2⟩
  · rw [if_neg h1] at hp ho ⊢
    rw [if_neg h1]
    by_cases h3 : clt (frc c m) = true
    · rw [if_pos h3] at hp ho ⊢
      rw [if_pos h3]
      by_cases h4 : 1 ≤ cp c m
      · rw [nI_prd h4] at hp ho ⊢
        rw [if_pos ⟨h4, by rw [ho]; rfl⟩]
        exact ⟨rfl, by omega, by omega⟩
      · have e : cp c m = 0 := by omega
        rw [e] at hp
        exact absurd hp (by decide)
    · rw [if_neg h3] at ho
      rw [nI_add, Nat.add_zero] at ho
      exact absurd ho (mOn_self hm)
theorem mvT_f {m : Nat} (hw : WF c) (hm : m < cn c) (h : isP (mvT c m) = false ∨ ¬ mOn c (mvT c m) = none) : tgtN c m = cp c m := by
  have hb := hw.p hm
  unfold mvT at h
  unfold tgtN
  by_cases h1 : cgt (frc c m) = true
  · rw [if_pos h1] at h ⊢
    rw [nI_add] at h
    refine if_neg (fun q => ?_)
    rcases h with h | h
    · rw [(isP_iff (by omega)).mpr q.1] at h; cases h
    · exact h (none_of q.2)
  · rw [if_neg h1] at h ⊢
    by_cases h3 : clt (frc c m) = true
    · rw [if_pos h3] at h ⊢
      refine if_neg (fun q => ?_)
      rw [nI_prd q.1] at h
      rcases h with h | h
      · rw [(isP_iff (by omega)).mpr (by omega)] at h; cases h
      · exact h (none_of q.2)
    · rw [if_neg h3]
theorem lt_none {x : Int32} (hw : WF c) (h : oI (mOn c x) < 0) : mOn c x = none := by
  have hn := hw.n
  cases q : mOn c x with
  | none => rfl
  | some i => rw [q] at h; exact absurd h (nI_pos (by have := (mOn_lt q).1; omega))
theorem gl_move {M1 : Nat → Nat → Int32} (hw : WF c) {P : PM} (hfin : ∀ M, RowAt M 97 0 (movC c) → KP (fun a => a == 97) M1 M → P (.inl (some (.int (nI (mvs c (cn c)).2)))) (M, o)) : ∀ i, i ≤ cn c → ∀ (M : Nat → Nat → Int32), RowAt M 97 0 ((mvs c i).1) → KP (fun a => a == 97) M1 M → ER G ad (d + 3) mX9_move (0, 0) (P) (0, 0) 12 [some (.ref (ad 96)), some (.int (nI ((mvs c i).2))), some (.int (nI i)), none, none] [] (M, o) := down (cn c) _ (fun i hi ih M g1 g2 => by
  have hn := hw.n
  have hk := hw.k
  have hw9 := hw.w9
  have hwi := mvs_wf hw i hi
  have hni := mvs_n (c := c) i
  have hki := mvs_k (c := c) i
  refine e_iload_n (pc' := 13) dX9_move_12 rfl rfl rfl ?_
  refine e_aload_n (pc' := 14) dX9_move_13 rfl rfl rfl ?_
  refine p_gfr (pc' := 17) (a := 96) (k := 0) (t := 97) dX9_move_14 rfl rfl (by decide) (by decide) rfl fl_X9_7 ?_
  refine e_iconst (pc' := 18) (v := nI 0) dX9_move_17 rfl (by decide) ?_
  refine p_iald (pc' := 19) (a := 97) (k := 0) (x := nI (cn ((mvs c i).1))) dX9_move_18 rfl (rfl) (rfl) (by omega) (by decide) (g1.n) ?_
  refine e_icmp_geN (pc' := 22) (tgt := 98) dX9_move_19 rfl (by decide) (by omega) (by omega) (fun hz1 => ?_) (fun hz1 => ?_)
  · refine e_aload_n (pc' := 99) dX9_move_98 rfl rfl rfl ?_
    refine p_gfr (pc' := 102) (a := 96) (k := 0) (t := 97) dX9_move_99 rfl rfl (by decide) (by decide) rfl fl_X9_7 ?_
    refine e_iconst (pc' := 103) (v := nI 3) dX9_move_102 rfl (by decide) ?_
    refine e_dup2 (pc' := 104) dX9_move_103 rfl rfl rfl ?_
    refine p_iald (pc' := 105) (a := 97) (k := 3) (x := cmm ((mvs c i).1)) dX9_move_104 rfl (rfl) (rfl) (by omega) (by decide) (g1.mm) ?_
    refine e_iload_n (pc' := 106) dX9_move_105 rfl rfl rfl ?_
    refine e_iadd (pc' := 107) dX9_move_106 rfl ?_
    refine p_iast (pc' := 108) (a := 97) (k := 3) dX9_move_107 rfl (rfl) (rfl) (by omega) (by decide) ?_
    refine e_iload_n (pc' := 109) dX9_move_108 rfl rfl rfl ?_
    exact e_iret dX9_move_109 rfl (by
      obtain rfl : i = cn c := by omega
      exact ⟨_, rfl, hfin _ g1.sMM (g2.up (by decide))⟩) (by decide) (by decide)
  · refine e_aload_n (pc' := 23) dX9_move_22 rfl rfl rfl ?_
    refine e_iload_n (pc' := 24) dX9_move_23 rfl rfl rfl ?_
    refine r_V (pc' := 27) (m' := mX9_pull) (As := [.int (nI i)]) (st := []) (g_pull (d := d) g1 hwi (m := i) (by omega)) dX9_move_24 rfl rfl (Nat.le_of_ble_eq_true rfl) (fit_of (by omega) (by decide) (by decide) (by decide)) ml_X9_103 okX9_pull rfl rfl (by decide) rfl ?_
    show EV _ _ _ _ _ 27 _ ([.float (frc ((mvs c i).1) (i))]) _
    refine e_fstore_n (pc' := 28) (L' := [some (.ref (ad 96)), some (.int (nI ((mvs c i).2))), some (.int (nI i)), some (.float (frc ((mvs c i).1) (i))), none]) dX9_move_27 rfl rfl (by decide) rfl ?_
    refine e_aload_n (pc' := 29) dX9_move_28 rfl rfl rfl ?_
    refine e_iload_n (pc' := 30) dX9_move_29 rfl rfl rfl ?_
    refine e_iconst (pc' := 31) (v := nI 0) dX9_move_30 rfl (by decide) ?_
    have hb1 := hwi.p (i := i) (by omega)
    refine r_V (pc' := 34) (m' := mX9_of) (As := [.int (nI i), .int (nI 0)]) (st := []) (g_of0 (d := d) g1 hwi (m := i) (by omega)) dX9_move_31 rfl rfl (Nat.le_of_ble_eq_true rfl) (fit_of (by omega) (by decide) (by decide) (by decide)) ml_X9_73 okX9_of rfl rfl (by decide) rfl ?_
    show EV _ _ _ _ _ 34 _ ([.int (nI (cp ((mvs c i).1) (i)))]) _
    refine e_fload_n (pc' := 35) dX9_move_34 rfl rfl rfl ?_
    refine e_fconst0 (pc' := 36) dX9_move_35 rfl ?_
    refine e_fcmp (pc' := 37) dX9_move_36 rfl ?_
    refine e_if_le (pc' := 40) (tgt := 44) dX9_move_37 rfl (by decide) (fun h1 => ?_) (fun h1 => ?_)
    · refine e_fload_n (pc' := 45) dX9_move_44 rfl rfl rfl ?_
      refine e_fconst0 (pc' := 46) dX9_move_45 rfl ?_
      refine e_fcmp (pc' := 47) dX9_move_46 rfl ?_
      refine e_if_ge (pc' := 50) (tgt := 54) dX9_move_47 rfl (by decide) (fun h2 => ?_) (fun h2 => ?_)
      · refine e_iconst (pc' := 55) (v := nI 0) dX9_move_54 rfl (by decide) ?_
        refine e_iaddN (pc' := 56) dX9_move_55 rfl ?_
        refine e_istore (pc' := 58) (L' := [some (.ref (ad 96)), some (.int (nI ((mvs c i).2))), some (.int (nI i)), some (.float (frc ((mvs c i).1) (i))), some (.int (nI ((cp ((mvs c i).1) (i)) + 0)))]) dX9_move_56 rfl (by decide) rfl ?_
        rw [show (nI ((cp ((mvs c i).1) (i)) + 0)) = mvT (mvs c i).1 i from by unfold mvT; rw [if_neg (by unfold cgt; simpa using h1), if_neg (by unfold clt; simpa using h2), nI_add]]
        refine e_fg (i := 3) (L' := [some (.ref (ad 96)), some (.int (nI ((mvs c i).2))), some (.int (nI i)), none, some (.int (mvT (mvs c i).1 i))]) rfl ?_
        refine e_iload (pc' := 60) dX9_move_58 rfl rfl ?_
        refine e_iconst (pc' := 61) (v := nI 0) dX9_move_60 rfl (by decide) ?_
        refine e_bipush (pc' := 63) (v := nI 99) dX9_move_61 rfl (by decide) ?_
        refine r_S (pc' := 66) (m' := mX9_in) (As := [.int (mvT (mvs c i).1 i), .int (nI 0), .int (nI 99)]) (st := []) (g_in (d := d) (mvT (mvs c i).1 i) (nI 0) (nI 99)) dX9_move_63 rfl rfl (Nat.le_of_ble_eq_true rfl) (fit_of (by omega) (by decide) (by decide) (by decide)) ml_X9_62 okX9_in rfl rfl ?_
        show EV _ _ _ _ _ 66 _ ([.int (bI (decide ((nI 0) ≤ (mvT (mvs c i).1 i) ∧ (mvT (mvs c i).1 i) ≤ (nI 99))))]) _
        refine e_if_eqB (pc' := 69) (tgt := 92) dX9_move_66 rfl (by decide) (fun h4 => ?_) (fun h4 => ?_)
        · refine e_iincN (pc' := 95) (k := 1) (L' := [some (.ref (ad 96)), some (.int (nI ((mvs c i).2))), some (.int (nI (i + 1))), none, some (.int (mvT (mvs c i).1 i))]) dX9_move_92 rfl rfl rfl (by decide) rfl ?_
          refine e_goto (tgt := 12) dX9_move_95 (by decide) ?_
          refine e_fg (i := 4) (L' := [some (.ref (ad 96)), some (.int (nI ((mvs c i).2))), some (.int (nI (i + 1))), none, none]) rfl ?_
          have e : mvs c (i + 1) = mvs c i := if_pos (mvT_f hwi (by rw [mvs_n]; omega) (by first | exact Or.inl (by rw [in99] at h4; exact h4) | exact Or.inr (fun q => h5 (none_lt q))))
          rw [← e]
          exact ih (by omega) M (by rw [e]; exact g1) g2
        · refine e_aload_n (pc' := 70) dX9_move_69 rfl rfl rfl ?_
          refine e_iload (pc' := 72) dX9_move_70 rfl rfl ?_
          refine r_V (pc' := 75) (m' := mX9_found) (As := [.int (mvT (mvs c i).1 i)]) (st := []) (g_found (d := d) g1 hwi (mvT (mvs c i).1 i)) dX9_move_72 rfl rfl (Nat.le_of_ble_eq_true rfl) (fit_of (by omega) (by decide) (by decide) (by decide)) ml_X9_81 okX9_found rfl rfl (by decide) rfl ?_
          show EV _ _ _ _ _ 75 _ ([.int (oI (mOn ((mvs c i).1) (mvT (mvs c i).1 i)))]) _
          refine e_if_lt (pc' := 78) (tgt := 81) dX9_move_75 rfl (by decide) (fun h5 => ?_) (fun h5 => ?_)
          · refine e_aload_n (pc' := 82) dX9_move_81 rfl rfl rfl ?_
            refine e_iload_n (pc' := 83) dX9_move_82 rfl rfl rfl ?_
            refine e_iconst (pc' := 84) (v := nI 0) dX9_move_83 rfl (by decide) ?_
            refine e_iload (pc' := 86) dX9_move_84 rfl rfl ?_
            refine r_V (pc' := 89) (m' := mX9_lays) (As := [.int (nI i), .int (nI 0), .int (mvT (mvs c i).1 i)]) (st := []) (g_lays0 (d := d) (m := i) (by omega) (mvT (mvs c i).1 i)) dX9_move_86 rfl rfl (Nat.le_of_ble_eq_true rfl) (fit_of (by omega) (by decide) (by decide) (by decide)) ml_X9_89 okX9_lays rfl rfl (by decide) rfl ?_
            show EV _ _ _ _ _ 89 _ ([]) _
            refine e_iincN (pc' := 92) (k := 1) (L' := [some (.ref (ad 96)), some (.int (nI ((mvs c i).2 + 1))), some (.int (nI i)), none, some (.int (mvT (mvs c i).1 i))]) dX9_move_89 rfl rfl rfl (by decide) rfl ?_
            refine e_iincN (pc' := 95) (k := 1) (L' := [some (.ref (ad 96)), some (.int (nI ((mvs c i).2 + 1))), some (.int (nI (i + 1))), none, some (.int (mvT (mvs c i).1 i))]) dX9_move_92 rfl rfl rfl (by decide) rfl ?_
            refine e_goto (tgt := 12) dX9_move_95 (by decide) ?_
            refine e_fg (i := 4) (L' := [some (.ref (ad 96)), some (.int (nI ((mvs c i).2 + 1))), some (.int (nI (i + 1))), none, none]) rfl ?_
            have e3 := mvT_t hwi (by rw [mvs_n]; omega) (by rw [in99] at h4; exact h4) (lt_none hwi h5)
            have e : mvs c (i + 1) = (setP (mvs c i).1 i (tgtN (mvs c i).1 i), (mvs c i).2 + 1) := if_neg e3.2.1
            have e4 : (mvs c (i + 1)).2 = (mvs c i).2 + 1 := by rw [e]
            rw [← e4]
            exact ih (by omega) _ (by rw [e, e3.1]; exact g1.sP (by rw [mvs_n]; exact hn) (by omega)) (g2.up (by decide))
          · refine e_goto (tgt := 92) dX9_move_78 (by decide) ?_
            refine e_iincN (pc' := 95) (k := 1) (L' := [some (.ref (ad 96)), some (.int (nI ((mvs c i).2))), some (.int (nI (i + 1))), none, some (.int (mvT (mvs c i).1 i))]) dX9_move_92 rfl rfl rfl (by decide) rfl ?_
            refine e_goto (tgt := 12) dX9_move_95 (by decide) ?_
            refine e_fg (i := 4) (L' := [some (.ref (ad 96)), some (.int (nI ((mvs c i).2))), some (.int (nI (i + 1))), none, none]) rfl ?_
            have e : mvs c (i + 1) = mvs c i := if_pos (mvT_f hwi (by rw [mvs_n]; omega) (by first | exact Or.inl (by rw [in99] at h4; exact h4) | exact Or.inr (fun q => h5 (none_lt q))))
            rw [← e]
            exact ih (by omega) M (by rw [e]; exact g1) g2
      · refine e_iconst (pc' := 51) (v := (-1)) dX9_move_50 rfl (by decide) ?_
        refine e_goto (tgt := 55) dX9_move_51 (by decide) ?_
        refine e_iadd (pc' := 56) dX9_move_55 rfl ?_
        refine e_istore (pc' := 58) (L' := [some (.ref (ad 96)), some (.int (nI ((mvs c i).2))), some (.int (nI i)), some (.float (frc ((mvs c i).1) (i))), some (.int ((nI (cp ((mvs c i).1) (i))) + ((-1))))]) dX9_move_56 rfl (by decide) rfl ?_
        rw [show ((nI (cp ((mvs c i).1) (i))) + ((-1))) = mvT (mvs c i).1 i from by unfold mvT; rw [if_neg (by unfold cgt; simpa using h1), if_pos (by unfold clt; simpa using h2)]]
        refine e_fg (i := 3) (L' := [some (.ref (ad 96)), some (.int (nI ((mvs c i).2))), some (.int (nI i)), none, some (.int (mvT (mvs c i).1 i))]) rfl ?_
        refine e_iload (pc' := 60) dX9_move_58 rfl rfl ?_
        refine e_iconst (pc' := 61) (v := nI 0) dX9_move_60 rfl (by decide) ?_
        refine e_bipush (pc' := 63) (v := nI 99) dX9_move_61 rfl (by decide) ?_
        refine r_S (pc' := 66) (m' := mX9_in) (As := [.int (mvT (mvs c i).1 i), .int (nI 0), .int (nI 99)]) (st := []) (g_in (d := d) (mvT (mvs c i).1 i) (nI 0) (nI 99)) dX9_move_63 rfl rfl (Nat.le_of_ble_eq_true rfl) (fit_of (by omega) (by decide) (by decide) (by decide)) ml_X9_62 okX9_in rfl rfl ?_
        show EV _ _ _ _ _ 66 _ ([.int (bI (decide ((nI 0) ≤ (mvT (mvs c i).1 i) ∧ (mvT (mvs c i).1 i) ≤ (nI 99))))]) _
        refine e_if_eqB (pc' := 69) (tgt := 92) dX9_move_66 rfl (by decide) (fun h4 => ?_) (fun h4 => ?_)
        · refine e_iincN (pc' := 95) (k := 1) (L' := [some (.ref (ad 96)), some (.int (nI ((mvs c i).2))), some (.int (nI (i + 1))), none, some (.int (mvT (mvs c i).1 i))]) dX9_move_92 rfl rfl rfl (by decide) rfl ?_
          refine e_goto (tgt := 12) dX9_move_95 (by decide) ?_
          refine e_fg (i := 4) (L' := [some (.ref (ad 96)), some (.int (nI ((mvs c i).2))), some (.int (nI (i + 1))), none, none]) rfl ?_
          have e : mvs c (i + 1) = mvs c i := if_pos (mvT_f hwi (by rw [mvs_n]; omega) (by first | exact Or.inl (by rw [in99] at h4; exact h4) | exact Or.inr (fun q => h5 (none_lt q))))
          rw [← e]
          exact ih (by omega) M (by rw [e]; exact g1) g2
        · refine e_aload_n (pc' := 70) dX9_move_69 rfl rfl rfl ?_
          refine e_iload (pc' := 72) dX9_move_70 rfl rfl ?_
          refine r_V (pc' := 75) (m' := mX9_found) (As := [.int (mvT (mvs c i).1 i)]) (st := []) (g_found (d := d) g1 hwi (mvT (mvs c i).1 i)) dX9_move_72 rfl rfl (Nat.le_of_ble_eq_true rfl) (fit_of (by omega) (by decide) (by decide) (by decide)) ml_X9_81 okX9_found rfl rfl (by decide) rfl ?_
          show EV _ _ _ _ _ 75 _ ([.int (oI (mOn ((mvs c i).1) (mvT (mvs c i).1 i)))]) _
          refine e_if_lt (pc' := 78) (tgt := 81) dX9_move_75 rfl (by decide) (fun h5 => ?_) (fun h5 => ?_)
          · refine e_aload_n (pc' := 82) dX9_move_81 rfl rfl rfl ?_
            refine e_iload_n (pc' := 83) dX9_move_82 rfl rfl rfl ?_
            refine e_iconst (pc' := 84) (v := nI 0) dX9_move_83 rfl (by decide) ?_
            refine e_iload (pc' := 86) dX9_move_84 rfl rfl ?_
            refine r_V (pc' := 89) (m' := mX9_lays) (As := [.int (nI i), .int (nI 0), .int (mvT (mvs c i).1 i)]) (st := []) (g_lays0 (d := d) (m := i) (by omega) (mvT (mvs c i).1 i)) dX9_move_86 rfl rfl (Nat.le_of_ble_eq_true rfl) (fit_of (by omega) (by decide) (by decide) (by decide)) ml_X9_89 okX9_lays rfl rfl (by decide) rfl ?_
            show EV _ _ _ _ _ 89 _ ([]) _
            refine e_iincN (pc' := 92) (k := 1) (L' := [some (.ref (ad 96)), some (.int (nI ((mvs c i).2 + 1))), some (.int (nI i)), none, some (.int (mvT (mvs c i).1 i))]) dX9_move_89 rfl rfl rfl (by decide) rfl ?_
            refine e_iincN (pc' := 95) (k := 1) (L' := [some (.ref (ad 96)), some (.int (nI ((mvs c i).2 + 1))), some (.int (nI (i + 1))), none, some (.int (mvT (mvs c i).1 i))]) dX9_move_92 rfl rfl rfl (by decide) rfl ?_
            refine e_goto (tgt := 12) dX9_move_95 (by decide) ?_
            refine e_fg (i := 4) (L' := [some (.ref (ad 96)), some (.int (nI ((mvs c i).2 + 1))), some (.int (nI (i + 1))), none, none]) rfl ?_
            have e3 := mvT_t hwi (by rw [mvs_n]; omega) (by rw [in99] at h4; exact h4) (lt_none hwi h5)
            have e : mvs c (i + 1) = (setP (mvs c i).1 i (tgtN (mvs c i).1 i), (mvs c i).2 + 1) := if_neg e3.2.1
            have e4 : (mvs c (i + 1)).2 = (mvs c i).2 + 1 := by rw [e]
            rw [← e4]
            exact ih (by omega) _ (by rw [e, e3.1]; exact g1.sP (by rw [mvs_n]; exact hn) (by omega)) (g2.up (by decide))
          · refine e_goto (tgt := 92) dX9_move_78 (by decide) ?_
            refine e_iincN (pc' := 95) (k := 1) (L' := [some (.ref (ad 96)), some (.int (nI ((mvs c i).2))), some (.int (nI (i + 1))), none, some (.int (mvT (mvs c i).1 i))]) dX9_move_92 rfl rfl rfl (by decide) rfl ?_
            refine e_goto (tgt := 12) dX9_move_95 (by decide) ?_
            refine e_fg (i := 4) (L' := [some (.ref (ad 96)), some (.int (nI ((mvs c i).2))), some (.int (nI (i + 1))), none, none]) rfl ?_
            have e : mvs c (i + 1) = mvs c i := if_pos (mvT_f hwi (by rw [mvs_n]; omega) (by first | exact Or.inl (by rw [in99] at h4; exact h4) | exact Or.inr (fun q => h5 (none_lt q))))
            rw [← e]
            exact ih (by omega) M (by rw [e]; exact g1) g2
    · refine e_iconst (pc' := 41) (v := nI 1) dX9_move_40 rfl (by decide) ?_
      refine e_goto (tgt := 55) dX9_move_41 (by decide) ?_
      refine e_iaddN (pc' := 56) dX9_move_55 rfl ?_
      refine e_istore (pc' := 58) (L' := [some (.ref (ad 96)), some (.int (nI ((mvs c i).2))), some (.int (nI i)), some (.float (frc ((mvs c i).1) (i))), some (.int (nI ((cp ((mvs c i).1) (i)) + 1)))]) dX9_move_56 rfl (by decide) rfl ?_
      rw [show (nI ((cp ((mvs c i).1) (i)) + 1)) = mvT (mvs c i).1 i from by unfold mvT; rw [if_pos (by unfold cgt; simpa using h1), nI_add]]
      refine e_fg (i := 3) (L' := [some (.ref (ad 96)), some (.int (nI ((mvs c i).2))), some (.int (nI i)), none, some (.int (mvT (mvs c i).1 i))]) rfl ?_
      refine e_iload (pc' := 60) dX9_move_58 rfl rfl ?_
      refine e_iconst (pc' := 61) (v := nI 0) dX9_move_60 rfl (by decide) ?_
      refine e_bipush (pc' := 63) (v := nI 99) dX9_move_61 rfl (by decide) ?_
      refine r_S (pc' := 66) (m' := mX9_in) (As := [.int (mvT (mvs c i).1 i), .int (nI 0), .int (nI 99)]) (st := []) (g_in (d := d) (mvT (mvs c i).1 i) (nI 0) (nI 99)) dX9_move_63 rfl rfl (Nat.le_of_ble_eq_true rfl) (fit_of (by omega) (by decide) (by decide) (by decide)) ml_X9_62 okX9_in rfl rfl ?_
      show EV _ _ _ _ _ 66 _ ([.int (bI (decide ((nI 0) ≤ (mvT (mvs c i).1 i) ∧ (mvT (mvs c i).1 i) ≤ (nI 99))))]) _
      refine e_if_eqB (pc' := 69) (tgt := 92) dX9_move_66 rfl (by decide) (fun h4 => ?_) (fun h4 => ?_)
      · refine e_iincN (pc' := 95) (k := 1) (L' := [some (.ref (ad 96)), some (.int (nI ((mvs c i).2))), some (.int (nI (i + 1))), none, some (.int (mvT (mvs c i).1 i))]) dX9_move_92 rfl rfl rfl (by decide) rfl ?_
        refine e_goto (tgt := 12) dX9_move_95 (by decide) ?_
        refine e_fg (i := 4) (L' := [some (.ref (ad 96)), some (.int (nI ((mvs c i).2))), some (.int (nI (i + 1))), none, none]) rfl ?_
        have e : mvs c (i + 1) = mvs c i := if_pos (mvT_f hwi (by rw [mvs_n]; omega) (by first | exact Or.inl (by rw [in99] at h4; exact h4) | exact Or.inr (fun q => h5 (none_lt q))))
        rw [← e]
        exact ih (by omega) M (by rw [e]; exact g1) g2
      · refine e_aload_n (pc' := 70) dX9_move_69 rfl rfl rfl ?_
        refine e_iload (pc' := 72) dX9_move_70 rfl rfl ?_
        refine r_V (pc' := 75) (m' := mX9_found) (As := [.int (mvT (mvs c i).1 i)]) (st := []) (g_found (d := d) g1 hwi (mvT (mvs c i).1 i)) dX9_move_72 rfl rfl (Nat.le_of_ble_eq_true rfl) (fit_of (by omega) (by decide) (by decide) (by decide)) ml_X9_81 okX9_found rfl rfl (by decide) rfl ?_
        show EV _ _ _ _ _ 75 _ ([.int (oI (mOn ((mvs c i).1) (mvT (mvs c i).1 i)))]) _
        refine e_if_lt (pc' := 78) (tgt := 81) dX9_move_75 rfl (by decide) (fun h5 => ?_) (fun h5 => ?_)
        · refine e_aload_n (pc' := 82) dX9_move_81 rfl rfl rfl ?_
          refine e_iload_n (pc' := 83) dX9_move_82 rfl rfl rfl ?_
          refine e_iconst (pc' := 84) (v := nI 0) dX9_move_83 rfl (by decide) ?_
          refine e_iload (pc' := 86) dX9_move_84 rfl rfl ?_
          refine r_V (pc' := 89) (m' := mX9_lays) (As := [.int (nI i), .int (nI 0), .int (mvT (mvs c i).1 i)]) (st := []) (g_lays0 (d := d) (m := i) (by omega) (mvT (mvs c i).1 i)) dX9_move_86 rfl rfl (Nat.le_of_ble_eq_true rfl) (fit_of (by omega) (by decide) (by decide) (by decide)) ml_X9_89 okX9_lays rfl rfl (by decide) rfl ?_
          show EV _ _ _ _ _ 89 _ ([]) _
          refine e_iincN (pc' := 92) (k := 1) (L' := [some (.ref (ad 96)), some (.int (nI ((mvs c i).2 + 1))), some (.int (nI i)), none, some (.int (mvT (mvs c i).1 i))]) dX9_move_89 rfl rfl rfl (by decide) rfl ?_
          refine e_iincN (pc' := 95) (k := 1) (L' := [some (.ref (ad 96)), some (.int (nI ((mvs c i).2 + 1))), some (.int (nI (i + 1))), none, some (.int (mvT (mvs c i).1 i))]) dX9_move_92 rfl rfl rfl (by decide) rfl ?_
          refine e_goto (tgt := 12) dX9_move_95 (by decide) ?_
          refine e_fg (i := 4) (L' := [some (.ref (ad 96)), some (.int (nI ((mvs c i).2 + 1))), some (.int (nI (i + 1))), none, none]) rfl ?_
          have e3 := mvT_t hwi (by rw [mvs_n]; omega) (by rw [in99] at h4; exact h4) (lt_none hwi h5)
          have e : mvs c (i + 1) = (setP (mvs c i).1 i (tgtN (mvs c i).1 i), (mvs c i).2 + 1) := if_neg e3.2.1
          have e4 : (mvs c (i + 1)).2 = (mvs c i).2 + 1 := by rw [e]
          rw [← e4]
          exact ih (by omega) _ (by rw [e, e3.1]; exact g1.sP (by rw [mvs_n]; exact hn) (by omega)) (g2.up (by decide))
        · refine e_goto (tgt := 92) dX9_move_78 (by decide) ?_
          refine e_iincN (pc' := 95) (k := 1) (L' := [some (.ref (ad 96)), some (.int (nI ((mvs c i).2))), some (.int (nI (i + 1))), none, some (.int (mvT (mvs c i).1 i))]) dX9_move_92 rfl rfl rfl (by decide) rfl ?_
          refine e_goto (tgt := 12) dX9_move_95 (by decide) ?_
          refine e_fg (i := 4) (L' := [some (.ref (ad 96)), some (.int (nI ((mvs c i).2))), some (.int (nI (i + 1))), none, none]) rfl ?_
          have e : mvs c (i + 1) = mvs c i := if_pos (mvT_f hwi (by rw [mvs_n]; omega) (by first | exact Or.inl (by rw [in99] at h4; exact h4) | exact Or.inr (fun q => h5 (none_lt q))))
          rw [← e]
          exact ih (by omega) M (by rw [e]; exact g1) g2)
theorem g_move (r : RowAt M 97 0 c) (hw : WF c) (hK : KtR M hs sz) (hW : KWF hs sz) (h6 : M 96 6 = bI w) : RETI G ad (d + 4) mX9_move [.ref (ad 96)] (M, o) (some (.int (nI ((mvs c (cn c)).2)))) (CHI w hs sz c (movC c) M) := by
  refine CM_of rfl (by decide) rfl (Nat.le_of_ble_eq_true rfl) rfl ?_
  have hn := hw.n
  have hk := hw.k
  have hw9 := hw.w9
  refine e_aload_n (pc' := 1) dX9_move_0 rfl rfl rfl ?_
  refine e_aload_n (pc' := 2) dX9_move_1 rfl rfl rfl ?_
  refine p_gfr (pc' := 5) (a := 96) (k := 0) (t := 97) dX9_move_2 rfl rfl (by decide) (by decide) rfl fl_X9_7 ?_
  refine r_VI (pc' := 8) (m' := mX9_keeps) (As := [.ref (ad 97)]) (st := []) (g_keeps (d := d) (w := w) r hw hK hW h6) dX9_move_5 rfl rfl (Nat.le_of_ble_eq_true rfl) (fit_of (by omega) (by decide) (by decide) (by decide)) ml_X9_85 okX9_keeps rfl rfl (by decide) rfl (fun M1 hI => ?_)
  show EV _ _ _ _ _ 8 _ ([]) _
  refine e_iconst (pc' := 9) (v := nI 0) dX9_move_8 rfl (by decide) ?_
  refine e_istore_n (pc' := 10) (L' := [some (.ref (ad 96)), some (.int (nI 0)), none, none, none]) dX9_move_9 rfl rfl (by decide) rfl ?_
  refine e_iconst (pc' := 11) (v := nI 0) dX9_move_10 rfl (by decide) ?_
  refine e_istore_n (pc' := 12) (L' := [some (.ref (ad 96)), some (.int (nI 0)), some (.int (nI 0)), none, none]) dX9_move_11 rfl rfl (by decide) rfl ?_
  exact gl_move (P := PI (some (.int (nI (mvs c (cn c)).2))) o (CHI w hs sz c (movC c) M)) hw (fun M' hr hk => ⟨rfl, M', rfl, CHI.mk hI (fun _ _ _ => rfl) KP.refl hr hk⟩) 0 (by omega) M1 ((r.kp hI.2.2.2 (by decide))) KP.refl
theorem g_dig (r : RowAt M 97 0 c) (hw : WF c) (hK : KtR M hs sz) (hW : KWF hs sz) (h6 : M 96 6 = bI w) {a b : Nat} (ha : a < cn c) (hb : b < cn c) (hne : ¬ a = b) (ht : tBet c a b = none) (hl : ck c < 16) : RETI G ad (d + 3) mX9_dig [.ref (ad 96), .int (nI a), .int (nI b)] (M, o) (some (.int (nI (ck c + 1 - 1)))) (CHI w hs sz c (digC c a b) M) := by
  refine CM_of rfl (by decide) rfl (Nat.le_of_ble_eq_true rfl) rfl ?_
  have hn := hw.n
  have hk := hw.k
  have hw9 := hw.w9
  refine e_aload_n (pc' := 1) dX9_dig_0 rfl rfl rfl ?_
  refine e_aload_n (pc' := 2) dX9_dig_1 rfl rfl rfl ?_
  refine e_iload_n (pc' := 3) dX9_dig_2 rfl rfl rfl ?_
  refine r_V (pc' := 6) (m' := mX9_isMagnet) (As := [.int (nI a)]) (st := [.ref (ad 96)]) (g_isMagnet (d := d) r hw (nI a)) dX9_dig_3 rfl rfl (Nat.le_of_ble_eq_true rfl) (fit_of (by omega) (by decide) (by decide) (by decide)) ml_X9_66 okX9_isMagnet rfl rfl (by decide) rfl ?_
  show EV _ _ _ _ _ 6 _ ([.int (bI (hasM c (nI a))), .ref (ad 96)]) _
  refine e_if_eqB (pc' := 9) (tgt := 17) dX9_dig_6 rfl (by decide) (fun hz1 => absurd hz1 (by rw [hasM_n hw ha]; decide)) (fun hz1 => ?_)
  refine e_aload_n (pc' := 10) dX9_dig_9 rfl rfl rfl ?_
  refine e_iload_n (pc' := 11) dX9_dig_10 rfl rfl rfl ?_
  refine r_V (pc' := 14) (m' := mX9_isMagnet) (As := [.int (nI b)]) (st := [.ref (ad 96)]) (g_isMagnet (d := d) r hw (nI b)) dX9_dig_11 rfl rfl (Nat.le_of_ble_eq_true rfl) (fit_of (by omega) (by decide) (by decide) (by decide)) ml_X9_66 okX9_isMagnet rfl rfl (by decide) rfl ?_
  show EV _ _ _ _ _ 14 _ ([.int (bI (hasM c (nI b))), .ref (ad 96)]) _
  refine e_if_neB (pc' := 17) (tgt := 21) dX9_dig_14 rfl (by decide) (fun hz2 => ?_) (fun hz2 => absurd hz2 (by rw [hasM_n hw hb]; decide))
  refine e_iload_n (pc' := 22) dX9_dig_21 rfl rfl rfl ?_
  refine e_iload_n (pc' := 23) dX9_dig_22 rfl rfl rfl ?_
  refine e_icmp_neN (pc' := 26) (tgt := 30) dX9_dig_23 rfl (by decide) (by omega) (by omega) (fun hz3 => ?_) (fun hz3 => absurd hz3 (hne))
  refine e_iconst (pc' := 31) (v := nI 0) dX9_dig_30 rfl (by decide) ?_
  refine r_V (pc' := 34) (m' := mX9_fails) (As := [.int (nI 0)]) (st := []) (g_fails (d := d) (p := 0) (by omega)) dX9_dig_31 rfl rfl (Nat.le_of_ble_eq_true rfl) (fit_of (by omega) (by decide) (by decide) (by decide)) ml_X9_70 okX9_fails rfl rfl (by decide) rfl ?_
  show EV _ _ _ _ _ 34 _ ([.int (bI (decide (0 < 0)))]) _
  refine e_if_eqB (pc' := 37) (tgt := 39) dX9_dig_34 rfl (by decide) (fun hz4 => ?_) (fun hz4 => absurd hz4 (by decide))
  refine e_aload_n (pc' := 40) dX9_dig_39 rfl rfl rfl ?_
  refine e_iload_n (pc' := 41) dX9_dig_40 rfl rfl rfl ?_
  refine e_iload_n (pc' := 42) dX9_dig_41 rfl rfl rfl ?_
  refine r_V (pc' := 45) (m' := mX9_between) (As := [.int (nI a), .int (nI b)]) (st := []) (g_between (d := d) ((r.up (by decide)).up (by decide)) hw (a := a) (b := b) (by omega) (by omega)) dX9_dig_42 rfl rfl (Nat.le_of_ble_eq_true rfl) (fit_of (by omega) (by decide) (by decide) (by decide)) ml_X9_121 okX9_between rfl rfl (by decide) rfl ?_
  show EV _ _ _ _ _ 45 _ ([.int (oI (tBet c a b))]) _
  refine e_if_lt (pc' := 48) (tgt := 61) dX9_dig_45 rfl (by decide) (fun hz5 => ?_) (fun hz5 => absurd hz5 (not_not_intro (none_lt ht)))
  refine e_aload_n (pc' := 62) dX9_dig_61 rfl rfl rfl ?_
  refine p_gfr (pc' := 65) (a := 96) (k := 0) (t := 97) dX9_dig_62 rfl rfl (by decide) (by decide) rfl fl_X9_7 ?_
  refine e_iconst (pc' := 66) (v := nI 1) dX9_dig_65 rfl (by decide) ?_
  refine p_iald (pc' := 67) (a := 97) (k := 1) (x := nI (ck c)) dX9_dig_66 rfl (rfl) (rfl) (by omega) (by decide) (by rw [up2_n (by decide)]; exact by rw [up2_n (by decide)]; exact r.k) ?_
  refine e_bipush (pc' := 69) (v := nI 16) dX9_dig_67 rfl (by decide) ?_
  refine e_icmp_neN (pc' := 72) (tgt := 81) dX9_dig_69 rfl (by decide) (by omega) (by omega) (fun hz6 => ?_) (fun hz6 => absurd hz6 (by omega))
  refine e_aload_n (pc' := 82) dX9_dig_81 rfl rfl rfl ?_
  refine e_aload_n (pc' := 83) dX9_dig_82 rfl rfl rfl ?_
  refine p_gfr (pc' := 86) (a := 96) (k := 0) (t := 97) dX9_dig_83 rfl rfl (by decide) (by decide) rfl fl_X9_7 ?_
  refine r_VI (pc' := 89) (m' := mX9_keeps) (As := [.ref (ad 97)]) (st := []) (g_keeps (d := d) (w := w) ((r.up (by decide)).up (by decide)) hw (hK.kp (by rw [up2_k (by decide), up2_k (by decide)]) (by rw [up2_n (by decide), up2_n (by decide)])) hW (by rw [up2_k (by decide), up2_k (by decide)]; exact h6)) dX9_dig_86 rfl rfl (Nat.le_of_ble_eq_true rfl) (fit_of (by omega) (by decide) (by decide) (by decide)) ml_X9_85 okX9_keeps rfl rfl (by decide) rfl (fun M1 hI => ?_)
  show EV _ _ _ _ _ 89 _ ([]) _
  refine e_aload_n (pc' := 90) dX9_dig_89 rfl rfl rfl ?_
  refine p_gfr (pc' := 93) (a := 96) (k := 0) (t := 97) dX9_dig_90 rfl rfl (by decide) (by decide) rfl fl_X9_7 ?_
  refine e_bipush (pc' := 95) (v := nI 40) dX9_dig_93 rfl (by decide) ?_
  refine e_iconst (pc' := 96) (v := nI 2) dX9_dig_95 rfl (by decide) ?_
  refine e_aload_n (pc' := 97) dX9_dig_96 rfl rfl rfl ?_
  refine p_gfr (pc' := 100) (a := 96) (k := 0) (t := 97) dX9_dig_97 rfl rfl (by decide) (by decide) rfl fl_X9_7 ?_
  refine e_iconst (pc' := 101) (v := nI 1) dX9_dig_100 rfl (by decide) ?_
  refine p_iald (pc' := 102) (a := 97) (k := 1) (x := nI (ck c)) dX9_dig_101 rfl (rfl) (rfl) (by omega) (by decide) ((((r.up (by decide)).up (by decide)).kp hI.2.2.2 (by decide)).k) ?_
  refine e_imulN (pc' := 103) dX9_dig_102 rfl ?_
  refine e_iaddN (pc' := 104) dX9_dig_103 rfl ?_
  refine e_iconst (pc' := 105) (v := nI 0) dX9_dig_104 rfl (by decide) ?_
  refine e_iaddN (pc' := 106) dX9_dig_105 rfl ?_
  refine e_iload_n (pc' := 107) dX9_dig_106 rfl rfl rfl ?_
  refine p_iast (pc' := 108) (a := 97) (k := (40 + (2 * (ck c))) + 0) dX9_dig_107 rfl (rfl) (rfl) (by omega) (by decide) ?_
  refine e_aload_n (pc' := 109) dX9_dig_108 rfl rfl rfl ?_
  refine p_gfr (pc' := 112) (a := 96) (k := 0) (t := 97) dX9_dig_109 rfl rfl (by decide) (by decide) rfl fl_X9_7 ?_
  refine e_bipush (pc' := 114) (v := nI 40) dX9_dig_112 rfl (by decide) ?_
  refine e_iconst (pc' := 115) (v := nI 2) dX9_dig_114 rfl (by decide) ?_
  refine e_aload_n (pc' := 116) dX9_dig_115 rfl rfl rfl ?_
  refine p_gfr (pc' := 119) (a := 96) (k := 0) (t := 97) dX9_dig_116 rfl rfl (by decide) (by decide) rfl fl_X9_7 ?_
  refine e_iconst (pc' := 120) (v := nI 1) dX9_dig_119 rfl (by decide) ?_
  refine p_iald (pc' := 121) (a := 97) (k := 1) (x := nI (ck c)) dX9_dig_120 rfl (rfl) (rfl) (by omega) (by decide) (by rw [up2_k (by omega)]; exact (r.up (by decide) |>.up (by decide) |>.kp hI.2.2.2 (by decide)).k) ?_
  refine e_imulN (pc' := 122) dX9_dig_121 rfl ?_
  refine e_iaddN (pc' := 123) dX9_dig_122 rfl ?_
  refine e_iconst (pc' := 124) (v := nI 1) dX9_dig_123 rfl (by decide) ?_
  refine e_iaddN (pc' := 125) dX9_dig_124 rfl ?_
  refine e_iload_n (pc' := 126) dX9_dig_125 rfl rfl rfl ?_
  refine p_iast (pc' := 127) (a := 97) (k := (40 + (2 * (ck c))) + 1) dX9_dig_126 rfl (rfl) (rfl) (by omega) (by decide) ?_
  refine e_aload_n (pc' := 128) dX9_dig_127 rfl rfl rfl ?_
  refine p_gfr (pc' := 131) (a := 96) (k := 0) (t := 97) dX9_dig_128 rfl rfl (by decide) (by decide) rfl fl_X9_7 ?_
  refine e_iconst (pc' := 132) (v := nI 1) dX9_dig_131 rfl (by decide) ?_
  refine e_dup2 (pc' := 133) dX9_dig_132 rfl rfl rfl ?_
  refine p_iald (pc' := 134) (a := 97) (k := 1) (x := nI (ck c)) dX9_dig_133 rfl (rfl) (rfl) (by omega) (by decide) (by rw [up2_k (by omega), up2_k (by omega)]; exact (r.up (by decide) |>.up (by decide) |>.kp hI.2.2.2 (by decide)).k) ?_
  refine e_iconst (pc' := 135) (v := nI 1) dX9_dig_134 rfl (by decide) ?_
  refine e_iaddN (pc' := 136) dX9_dig_135 rfl ?_
  refine p_iast (pc' := 137) (a := 97) (k := 1) dX9_dig_136 rfl (rfl) (rfl) (by omega) (by decide) ?_
  refine e_aload_n (pc' := 138) dX9_dig_137 rfl rfl rfl ?_
  refine p_gfr (pc' := 141) (a := 96) (k := 0) (t := 97) dX9_dig_138 rfl rfl (by decide) (by decide) rfl fl_X9_7 ?_
  refine e_iconst (pc' := 142) (v := nI 1) dX9_dig_141 rfl (by decide) ?_
  refine p_iald (pc' := 143) (a := 97) (k := 1) (x := nI ((ck c) + 1)) dX9_dig_142 rfl (rfl) (rfl) (by omega) (by decide) (up2_s) ?_
  refine e_iconst (pc' := 144) (v := nI 1) dX9_dig_143 rfl (by decide) ?_
  refine e_isubN (pc' := 145) dX9_dig_144 rfl (by omega) ?_
  exact e_iret dX9_dig_145 rfl (MP.retI (rfl) (CHI.mk hI (fun j g7 g8 => by rw [up2_k g7, up2_k g8]) ((KP.refl.up (by decide)).up (by decide)) (row_dig ((((r.up (by decide)).up (by decide)).kp hI.2.2.2 (by decide))) hl hn) ((((KP.refl.up (by decide)).up (by decide)).up (by decide))))) (by decide) (by decide)
theorem g_dig_a (r : RowAt M 97 0 c) (hw : WF c) (x y : Int32) (hx : hasM c x = false) : RETI G ad (d + 3) mX9_dig [.ref (ad 96), .int (x), .int (y)] (M, o) (some (.int (nI 0))) (FLI 1 M) := by
  refine CM_of rfl (by decide) rfl (Nat.le_of_ble_eq_true rfl) rfl ?_
  have hn := hw.n
  have hk := hw.k
  have hw9 := hw.w9
  refine e_aload_n (pc' := 1) dX9_dig_0 rfl rfl rfl ?_
  refine e_aload_n (pc' := 2) dX9_dig_1 rfl rfl rfl ?_
  refine e_iload_n (pc' := 3) dX9_dig_2 rfl rfl rfl ?_
  refine r_V (pc' := 6) (m' := mX9_isMagnet) (As := [.int (x)]) (st := [.ref (ad 96)]) (g_isMagnet (d := d) r hw (x)) dX9_dig_3 rfl rfl (Nat.le_of_ble_eq_true rfl) (fit_of (by omega) (by decide) (by decide) (by decide)) ml_X9_66 okX9_isMagnet rfl rfl (by decide) rfl ?_
  show EV _ _ _ _ _ 6 _ ([.int (bI (hasM c (x))), .ref (ad 96)]) _
  refine e_if_eqB (pc' := 9) (tgt := 17) dX9_dig_6 rfl (by decide) (fun hz1 => ?_) (fun hz1 => absurd hz1 (by rw [hx]; decide))
  refine e_iconst (pc' := 18) (v := nI 1) dX9_dig_17 rfl (by decide) ?_
  refine e_goto (tgt := 31) dX9_dig_18 (by decide) ?_
  refine r_V (pc' := 34) (m' := mX9_fails) (As := [.int (nI 1)]) (st := []) (g_fails (d := d) (p := 1) (by omega)) dX9_dig_31 rfl rfl (Nat.le_of_ble_eq_true rfl) (fit_of (by omega) (by decide) (by decide) (by decide)) ml_X9_70 okX9_fails rfl rfl (by decide) rfl ?_
  show EV _ _ _ _ _ 34 _ ([.int (bI (decide (0 < 1)))]) _
  refine e_if_eqB (pc' := 37) (tgt := 39) dX9_dig_34 rfl (by decide) (fun hz2 => absurd hz2 (by decide)) (fun hz2 => ?_)
  refine e_iconst (pc' := 38) (v := nI 0) dX9_dig_37 rfl (by decide) ?_
  exact e_iret dX9_dig_38 rfl (MP.retI rfl FLI.f) (by decide) (by decide)
theorem g_dig_b (r : RowAt M 97 0 c) (hw : WF c) {a : Nat} (ha : a < cn c) (y : Int32) (hx : hasM c y = false) : RETI G ad (d + 3) mX9_dig [.ref (ad 96), .int (nI a), .int (y)] (M, o) (some (.int (nI 0))) (FLI 1 M) := by
  refine CM_of rfl (by decide) rfl (Nat.le_of_ble_eq_true rfl) rfl ?_
  have hn := hw.n
  have hk := hw.k
  have hw9 := hw.w9
  refine e_aload_n (pc' := 1) dX9_dig_0 rfl rfl rfl ?_
  refine e_aload_n (pc' := 2) dX9_dig_1 rfl rfl rfl ?_
  refine e_iload_n (pc' := 3) dX9_dig_2 rfl rfl rfl ?_
  refine r_V (pc' := 6) (m' := mX9_isMagnet) (As := [.int (nI a)]) (st := [.ref (ad 96)]) (g_isMagnet (d := d) r hw (nI a)) dX9_dig_3 rfl rfl (Nat.le_of_ble_eq_true rfl) (fit_of (by omega) (by decide) (by decide) (by decide)) ml_X9_66 okX9_isMagnet rfl rfl (by decide) rfl ?_
  show EV _ _ _ _ _ 6 _ ([.int (bI (hasM c (nI a))), .ref (ad 96)]) _
  refine e_if_eqB (pc' := 9) (tgt := 17) dX9_dig_6 rfl (by decide) (fun hz1 => absurd hz1 (by rw [hasM_n hw ha]; decide)) (fun hz1 => ?_)
  refine e_aload_n (pc' := 10) dX9_dig_9 rfl rfl rfl ?_
  refine e_iload_n (pc' := 11) dX9_dig_10 rfl rfl rfl ?_
  refine r_V (pc' := 14) (m' := mX9_isMagnet) (As := [.int (y)]) (st := [.ref (ad 96)]) (g_isMagnet (d := d) r hw (y)) dX9_dig_11 rfl rfl (Nat.le_of_ble_eq_true rfl) (fit_of (by omega) (by decide) (by decide) (by decide)) ml_X9_66 okX9_isMagnet rfl rfl (by decide) rfl ?_
  show EV _ _ _ _ _ 14 _ ([.int (bI (hasM c (y))), .ref (ad 96)]) _
  refine e_if_neB (pc' := 17) (tgt := 21) dX9_dig_14 rfl (by decide) (fun hz2 => absurd hz2 (by rw [hx]; decide)) (fun hz2 => ?_)
  refine e_iconst (pc' := 18) (v := nI 1) dX9_dig_17 rfl (by decide) ?_
  refine e_goto (tgt := 31) dX9_dig_18 (by decide) ?_
  refine r_V (pc' := 34) (m' := mX9_fails) (As := [.int (nI 1)]) (st := []) (g_fails (d := d) (p := 1) (by omega)) dX9_dig_31 rfl rfl (Nat.le_of_ble_eq_true rfl) (fit_of (by omega) (by decide) (by decide) (by decide)) ml_X9_70 okX9_fails rfl rfl (by decide) rfl ?_
  show EV _ _ _ _ _ 34 _ ([.int (bI (decide (0 < 1)))]) _
  refine e_if_eqB (pc' := 37) (tgt := 39) dX9_dig_34 rfl (by decide) (fun hz3 => absurd hz3 (by decide)) (fun hz3 => ?_)
  refine e_iconst (pc' := 38) (v := nI 0) dX9_dig_37 rfl (by decide) ?_
  exact e_iret dX9_dig_38 rfl (MP.retI rfl FLI.f) (by decide) (by decide)
theorem g_dig_9 (r : RowAt M 97 0 c) (hw : WF c) {a : Nat} (ha : a < cn c) : RETI G ad (d + 3) mX9_dig [.ref (ad 96), .int (nI a), .int (nI a)] (M, o) (some (.int (nI 0))) (FLI 2 M) := by
  refine CM_of rfl (by decide) rfl (Nat.le_of_ble_eq_true rfl) rfl ?_
  have hn := hw.n
  have hk := hw.k
  have hw9 := hw.w9
  refine e_aload_n (pc' := 1) dX9_dig_0 rfl rfl rfl ?_
  refine e_aload_n (pc' := 2) dX9_dig_1 rfl rfl rfl ?_
  refine e_iload_n (pc' := 3) dX9_dig_2 rfl rfl rfl ?_
  refine r_V (pc' := 6) (m' := mX9_isMagnet) (As := [.int (nI a)]) (st := [.ref (ad 96)]) (g_isMagnet (d := d) r hw (nI a)) dX9_dig_3 rfl rfl (Nat.le_of_ble_eq_true rfl) (fit_of (by omega) (by decide) (by decide) (by decide)) ml_X9_66 okX9_isMagnet rfl rfl (by decide) rfl ?_
  show EV _ _ _ _ _ 6 _ ([.int (bI (hasM c (nI a))), .ref (ad 96)]) _
  refine e_if_eqB (pc' := 9) (tgt := 17) dX9_dig_6 rfl (by decide) (fun hz1 => absurd hz1 (by rw [hasM_n hw ha]; decide)) (fun hz1 => ?_)
  refine e_aload_n (pc' := 10) dX9_dig_9 rfl rfl rfl ?_
  refine e_iload_n (pc' := 11) dX9_dig_10 rfl rfl rfl ?_
  refine r_V (pc' := 14) (m' := mX9_isMagnet) (As := [.int (nI a)]) (st := [.ref (ad 96)]) (g_isMagnet (d := d) r hw (nI a)) dX9_dig_11 rfl rfl (Nat.le_of_ble_eq_true rfl) (fit_of (by omega) (by decide) (by decide) (by decide)) ml_X9_66 okX9_isMagnet rfl rfl (by decide) rfl ?_
  show EV _ _ _ _ _ 14 _ ([.int (bI (hasM c (nI a))), .ref (ad 96)]) _
  refine e_if_neB (pc' := 17) (tgt := 21) dX9_dig_14 rfl (by decide) (fun hz2 => ?_) (fun hz2 => absurd hz2 (by rw [hasM_n hw ha]; decide))
  refine e_iload_n (pc' := 22) dX9_dig_21 rfl rfl rfl ?_
  refine e_iload_n (pc' := 23) dX9_dig_22 rfl rfl rfl ?_
  refine e_icmp_neN (pc' := 26) (tgt := 30) dX9_dig_23 rfl (by decide) (by omega) (by omega) (fun hz3 => absurd hz3 (not_not_intro rfl)) (fun hz3 => ?_)
  refine e_iconst (pc' := 27) (v := nI 2) dX9_dig_26 rfl (by decide) ?_
  refine e_goto (tgt := 31) dX9_dig_27 (by decide) ?_
  refine r_V (pc' := 34) (m' := mX9_fails) (As := [.int (nI 2)]) (st := []) (g_fails (d := d) (p := 2) (by omega)) dX9_dig_31 rfl rfl (Nat.le_of_ble_eq_true rfl) (fit_of (by omega) (by decide) (by decide) (by decide)) ml_X9_70 okX9_fails rfl rfl (by decide) rfl ?_
  show EV _ _ _ _ _ 34 _ ([.int (bI (decide (0 < 2)))]) _
  refine e_if_eqB (pc' := 37) (tgt := 39) dX9_dig_34 rfl (by decide) (fun hz4 => absurd hz4 (by decide)) (fun hz4 => ?_)
  refine e_iconst (pc' := 38) (v := nI 0) dX9_dig_37 rfl (by decide) ?_
  exact e_iret dX9_dig_38 rfl (MP.retI rfl FLI.f) (by decide) (by decide)
theorem g_dig_3 (r : RowAt M 97 0 c) (hw : WF c) {a b : Nat} (ha : a < cn c) (hb : b < cn c) (hne : ¬ a = b) {j : Nat} (ht : tBet c a b = some j) : RETI G ad (d + 3) mX9_dig [.ref (ad 96), .int (nI a), .int (nI b)] (M, o) (some (.int (nI 0))) (FDI 3 3 (oI (tBet c a b)) M) := by
  refine CM_of rfl (by decide) rfl (Nat.le_of_ble_eq_true rfl) rfl ?_
  have hn := hw.n
  have hk := hw.k
  have hw9 := hw.w9
  refine e_aload_n (pc' := 1) dX9_dig_0 rfl rfl rfl ?_
  refine e_aload_n (pc' := 2) dX9_dig_1 rfl rfl rfl ?_
  refine e_iload_n (pc' := 3) dX9_dig_2 rfl rfl rfl ?_
  refine r_V (pc' := 6) (m' := mX9_isMagnet) (As := [.int (nI a)]) (st := [.ref (ad 96)]) (g_isMagnet (d := d) r hw (nI a)) dX9_dig_3 rfl rfl (Nat.le_of_ble_eq_true rfl) (fit_of (by omega) (by decide) (by decide) (by decide)) ml_X9_66 okX9_isMagnet rfl rfl (by decide) rfl ?_
  show EV _ _ _ _ _ 6 _ ([.int (bI (hasM c (nI a))), .ref (ad 96)]) _
  refine e_if_eqB (pc' := 9) (tgt := 17) dX9_dig_6 rfl (by decide) (fun hz1 => absurd hz1 (by rw [hasM_n hw ha]; decide)) (fun hz1 => ?_)
  refine e_aload_n (pc' := 10) dX9_dig_9 rfl rfl rfl ?_
  refine e_iload_n (pc' := 11) dX9_dig_10 rfl rfl rfl ?_
  refine r_V (pc' := 14) (m' := mX9_isMagnet) (As := [.int (nI b)]) (st := [.ref (ad 96)]) (g_isMagnet (d := d) r hw (nI b)) dX9_dig_11 rfl rfl (Nat.le_of_ble_eq_true rfl) (fit_of (by omega) (by decide) (by decide) (by decide)) ml_X9_66 okX9_isMagnet rfl rfl (by decide) rfl ?_
  show EV _ _ _ _ _ 14 _ ([.int (bI (hasM c (nI b))), .ref (ad 96)]) _
  refine e_if_neB (pc' := 17) (tgt := 21) dX9_dig_14 rfl (by decide) (fun hz2 => ?_) (fun hz2 => absurd hz2 (by rw [hasM_n hw hb]; decide))
  refine e_iload_n (pc' := 22) dX9_dig_21 rfl rfl rfl ?_
  refine e_iload_n (pc' := 23) dX9_dig_22 rfl rfl rfl ?_
  refine e_icmp_neN (pc' := 26) (tgt := 30) dX9_dig_23 rfl (by decide) (by omega) (by omega) (fun hz3 => ?_) (fun hz3 => absurd hz3 (hne))
  refine e_iconst (pc' := 31) (v := nI 0) dX9_dig_30 rfl (by decide) ?_
  refine r_V (pc' := 34) (m' := mX9_fails) (As := [.int (nI 0)]) (st := []) (g_fails (d := d) (p := 0) (by omega)) dX9_dig_31 rfl rfl (Nat.le_of_ble_eq_true rfl) (fit_of (by omega) (by decide) (by decide) (by decide)) ml_X9_70 okX9_fails rfl rfl (by decide) rfl ?_
  show EV _ _ _ _ _ 34 _ ([.int (bI (decide (0 < 0)))]) _
  refine e_if_eqB (pc' := 37) (tgt := 39) dX9_dig_34 rfl (by decide) (fun hz4 => ?_) (fun hz4 => absurd hz4 (by decide))
  refine e_aload_n (pc' := 40) dX9_dig_39 rfl rfl rfl ?_
  refine e_iload_n (pc' := 41) dX9_dig_40 rfl rfl rfl ?_
  refine e_iload_n (pc' := 42) dX9_dig_41 rfl rfl rfl ?_
  refine r_V (pc' := 45) (m' := mX9_between) (As := [.int (nI a), .int (nI b)]) (st := []) (g_between (d := d) ((r.up (by decide)).up (by decide)) hw (a := a) (b := b) (by omega) (by omega)) dX9_dig_42 rfl rfl (Nat.le_of_ble_eq_true rfl) (fit_of (by omega) (by decide) (by decide) (by decide)) ml_X9_121 okX9_between rfl rfl (by decide) rfl ?_
  show EV _ _ _ _ _ 45 _ ([.int (oI (tBet c a b))]) _
  refine e_if_lt (pc' := 48) (tgt := 61) dX9_dig_45 rfl (by decide) (fun hz5 => absurd hz5 (some_lt ht (by have := tBet_lt ht; omega))) (fun hz5 => ?_)
  refine e_aload_n (pc' := 49) dX9_dig_48 rfl rfl rfl ?_
  refine e_iconst (pc' := 50) (v := nI 3) dX9_dig_49 rfl (by decide) ?_
  refine e_iconst (pc' := 51) (v := nI 3) dX9_dig_50 rfl (by decide) ?_
  refine e_aload_n (pc' := 52) dX9_dig_51 rfl rfl rfl ?_
  refine e_iload_n (pc' := 53) dX9_dig_52 rfl rfl rfl ?_
  refine e_iload_n (pc' := 54) dX9_dig_53 rfl rfl rfl ?_
  refine r_V (pc' := 57) (m' := mX9_between) (As := [.int (nI a), .int (nI b)]) (st := [.int (nI 3), .int (nI 3), .ref (ad 96)]) (g_between (d := d) ((r.up (by decide)).up (by decide)) hw (a := a) (b := b) (by omega) (by omega)) dX9_dig_54 rfl rfl (Nat.le_of_ble_eq_true rfl) (fit_of (by omega) (by decide) (by decide) (by decide)) ml_X9_121 okX9_between rfl rfl (by decide) rfl ?_
  show EV _ _ _ _ _ 57 _ ([.int (oI (tBet c a b)), .int (nI 3), .int (nI 3), .ref (ad 96)]) _
  refine r_V (pc' := 60) (m' := mX9_denies) (As := [.int (nI 3), .int (nI 3), .int (oI (tBet c a b))]) (st := []) (g_denies (d := d) (3) (3) (oI (tBet c a b))) dX9_dig_57 rfl rfl (Nat.le_of_ble_eq_true rfl) (fit_of (by omega) (by decide) (by decide) (by decide)) ml_X9_77 okX9_denies rfl rfl (by decide) rfl ?_
  show EV _ _ _ _ _ 60 _ ([.int (nI 0)]) _
  exact e_iret dX9_dig_60 rfl (MP.retI rfl (FDI.of (fun j g7 g8 => by rw [up2_k g7, up2_k g8]) ((KP.refl.up (by decide)).up (by decide)))) (by decide) (by decide)
theorem g_dig_1 (r : RowAt M 97 0 c) (hw : WF c) {a b : Nat} (ha : a < cn c) (hb : b < cn c) (hne : ¬ a = b) (ht : tBet c a b = none) (hl : ck c = 16) : RETI G ad (d + 3) mX9_dig [.ref (ad 96), .int (nI a), .int (nI b)] (M, o) (some (.int (nI 0))) (FDI 3 1 (nI 16) M) := by
  refine CM_of rfl (by decide) rfl (Nat.le_of_ble_eq_true rfl) rfl ?_
  have hn := hw.n
  have hk := hw.k
  have hw9 := hw.w9
  refine e_aload_n (pc' := 1) dX9_dig_0 rfl rfl rfl ?_
  refine e_aload_n (pc' := 2) dX9_dig_1 rfl rfl rfl ?_
  refine e_iload_n (pc' := 3) dX9_dig_2 rfl rfl rfl ?_
  refine r_V (pc' := 6) (m' := mX9_isMagnet) (As := [.int (nI a)]) (st := [.ref (ad 96)]) (g_isMagnet (d := d) r hw (nI a)) dX9_dig_3 rfl rfl (Nat.le_of_ble_eq_true rfl) (fit_of (by omega) (by decide) (by decide) (by decide)) ml_X9_66 okX9_isMagnet rfl rfl (by decide) rfl ?_
  show EV _ _ _ _ _ 6 _ ([.int (bI (hasM c (nI a))), .ref (ad 96)]) _
  refine e_if_eqB (pc' := 9) (tgt := 17) dX9_dig_6 rfl (by decide) (fun hz1 => absurd hz1 (by rw [hasM_n hw ha]; decide)) (fun hz1 => ?_)
  refine e_aload_n (pc' := 10) dX9_dig_9 rfl rfl rfl ?_
  refine e_iload_n (pc' := 11) dX9_dig_10 rfl rfl rfl ?_
  refine r_V (pc' := 14) (m' := mX9_isMagnet) (As := [.int (nI b)]) (st := [.ref (ad 96)]) (g_isMagnet (d := d) r hw (nI b)) dX9_dig_11 rfl rfl (Nat.le_of_ble_eq_true rfl) (fit_of (by omega) (by decide) (by decide) (by decide)) ml_X9_66 okX9_isMagnet rfl rfl (by decide) rfl ?_
  show EV _ _ _ _ _ 14 _ ([.int (bI (hasM c (nI b))), .ref (ad 96)]) _
  refine e_if_neB (pc' := 17) (tgt := 21) dX9_dig_14 rfl (by decide) (fun hz2 => ?_) (fun hz2 => absurd hz2 (by rw [hasM_n hw hb]; decide))
  refine e_iload_n (pc' := 22) dX9_dig_21 rfl rfl rfl ?_
  refine e_iload_n (pc' := 23) dX9_dig_22 rfl rfl rfl ?_
  refine e_icmp_neN (pc' := 26) (tgt := 30) dX9_dig_23 rfl (by decide) (by omega) (by omega) (fun hz3 => ?_) (fun hz3 => absurd hz3 (hne))
  refine e_iconst (pc' := 31) (v := nI 0) dX9_dig_30 rfl (by decide) ?_
  refine r_V (pc' := 34) (m' := mX9_fails) (As := [.int (nI 0)]) (st := []) (g_fails (d := d) (p := 0) (by omega)) dX9_dig_31 rfl rfl (Nat.le_of_ble_eq_true rfl) (fit_of (by omega) (by decide) (by decide) (by decide)) ml_X9_70 okX9_fails rfl rfl (by decide) rfl ?_
  show EV _ _ _ _ _ 34 _ ([.int (bI (decide (0 < 0)))]) _
  refine e_if_eqB (pc' := 37) (tgt := 39) dX9_dig_34 rfl (by decide) (fun hz4 => ?_) (fun hz4 => absurd hz4 (by decide))
  refine e_aload_n (pc' := 40) dX9_dig_39 rfl rfl rfl ?_
  refine e_iload_n (pc' := 41) dX9_dig_40 rfl rfl rfl ?_
  refine e_iload_n (pc' := 42) dX9_dig_41 rfl rfl rfl ?_
  refine r_V (pc' := 45) (m' := mX9_between) (As := [.int (nI a), .int (nI b)]) (st := []) (g_between (d := d) ((r.up (by decide)).up (by decide)) hw (a := a) (b := b) (by omega) (by omega)) dX9_dig_42 rfl rfl (Nat.le_of_ble_eq_true rfl) (fit_of (by omega) (by decide) (by decide) (by decide)) ml_X9_121 okX9_between rfl rfl (by decide) rfl ?_
  show EV _ _ _ _ _ 45 _ ([.int (oI (tBet c a b))]) _
  refine e_if_lt (pc' := 48) (tgt := 61) dX9_dig_45 rfl (by decide) (fun hz5 => ?_) (fun hz5 => absurd hz5 (not_not_intro (none_lt ht)))
  refine e_aload_n (pc' := 62) dX9_dig_61 rfl rfl rfl ?_
  refine p_gfr (pc' := 65) (a := 96) (k := 0) (t := 97) dX9_dig_62 rfl rfl (by decide) (by decide) rfl fl_X9_7 ?_
  refine e_iconst (pc' := 66) (v := nI 1) dX9_dig_65 rfl (by decide) ?_
  refine p_iald (pc' := 67) (a := 97) (k := 1) (x := nI (ck c)) dX9_dig_66 rfl (rfl) (rfl) (by omega) (by decide) (by rw [up2_n (by decide)]; exact by rw [up2_n (by decide)]; exact r.k) ?_
  refine e_bipush (pc' := 69) (v := nI 16) dX9_dig_67 rfl (by decide) ?_
  refine e_icmp_neN (pc' := 72) (tgt := 81) dX9_dig_69 rfl (by decide) (by omega) (by omega) (fun hz6 => absurd hz6 (not_not_intro (by omega))) (fun hz6 => ?_)
  refine e_aload_n (pc' := 73) dX9_dig_72 rfl rfl rfl ?_
  refine e_iconst (pc' := 74) (v := nI 3) dX9_dig_73 rfl (by decide) ?_
  refine e_iconst (pc' := 75) (v := nI 1) dX9_dig_74 rfl (by decide) ?_
  refine e_bipush (pc' := 77) (v := nI 16) dX9_dig_75 rfl (by decide) ?_
  refine r_V (pc' := 80) (m' := mX9_denies) (As := [.int (nI 3), .int (nI 1), .int (nI 16)]) (st := []) (g_denies (d := d) (3) (1) (nI 16)) dX9_dig_77 rfl rfl (Nat.le_of_ble_eq_true rfl) (fit_of (by omega) (by decide) (by decide) (by decide)) ml_X9_77 okX9_denies rfl rfl (by decide) rfl ?_
  show EV _ _ _ _ _ 80 _ ([.int (nI 0)]) _
  exact e_iret dX9_dig_80 rfl (MP.retI rfl (FDI.of (fun j g7 g8 => by rw [up2_k g7, up2_k g8]) ((KP.refl.up (by decide)).up (by decide)))) (by decide) (by decide)
theorem gl_fill {M1 : Nat → Nat → Int32} (hw : WF c) {t : Nat} (ht : t < ck c) (r1 : RowAt M1 97 0 c) {P : PM} (hfin : ∀ M, RowAt M 97 0 (filC c t) → KP (fun a => a == 97) M1 M → P (.inl (some (.int (nI (ck c - 1))))) (M, o)) : ∀ i, i ≤ 2 * (ck c - 1) - 2 * t → ∀ (M : Nat → Nat → Int32), (∀ z, z ≠ 1 → z < 40 + 2 * t → M 97 z = M1 97 z) → (∀ z, 40 + 2 * t ≤ z → z < 40 + 2 * t + i → M 97 z = M1 97 (z + 2)) → (∀ z, 40 + 2 * t + i ≤ z → M 97 z = M1 97 z) → M 97 1 = nI (ck c - 1) → KP (fun a => a == 97) M1 M → ER G ad (d + 3) mX9_fill (0, 0) (P) (0, 0) 47 [some (.ref (ad 96)), some (.int (nI t)), some (.int (nI (40 + (2 * t) + i)))] [] (M, o) := down (2 * (ck c - 1) - 2 * t) _ (fun i hi ih M g1 g2 g3 g4 g5 => by
  have hn := hw.n
  have hk := hw.k
  have hw9 := hw.w9
  refine e_iload_n (pc' := 48) dX9_fill_47 rfl rfl rfl ?_
  refine e_bipush (pc' := 50) (v := nI 40) dX9_fill_48 rfl (by decide) ?_
  refine e_iconst (pc' := 51) (v := nI 2) dX9_fill_50 rfl (by decide) ?_
  refine e_aload_n (pc' := 52) dX9_fill_51 rfl rfl rfl ?_
  refine p_gfr (pc' := 55) (a := 96) (k := 0) (t := 97) dX9_fill_52 rfl rfl (by decide) (by decide) rfl fl_X9_7 ?_
  refine e_iconst (pc' := 56) (v := nI 1) dX9_fill_55 rfl (by decide) ?_
  refine p_iald (pc' := 57) (a := 97) (k := 1) (x := nI (ck c - 1)) dX9_fill_56 rfl (rfl) (rfl) (by omega) (by decide) (g4) ?_
  refine e_imulN (pc' := 58) dX9_fill_57 rfl ?_
  refine e_iaddN (pc' := 59) dX9_fill_58 rfl ?_
  refine e_icmp_geN (pc' := 62) (tgt := 82) dX9_fill_59 rfl (by decide) (by omega) (by omega) (fun hz1 => ?_) (fun hz1 => ?_)
  · refine e_aload_n (pc' := 83) dX9_fill_82 rfl rfl rfl ?_
    refine p_gfr (pc' := 86) (a := 96) (k := 0) (t := 97) dX9_fill_83 rfl rfl (by decide) (by decide) rfl fl_X9_7 ?_
    refine e_bipush (pc' := 88) (v := nI 40) dX9_fill_86 rfl (by decide) ?_
    refine e_iconst (pc' := 89) (v := nI 2) dX9_fill_88 rfl (by decide) ?_
    refine e_aload_n (pc' := 90) dX9_fill_89 rfl rfl rfl ?_
    refine p_gfr (pc' := 93) (a := 96) (k := 0) (t := 97) dX9_fill_90 rfl rfl (by decide) (by decide) rfl fl_X9_7 ?_
    refine e_iconst (pc' := 94) (v := nI 1) dX9_fill_93 rfl (by decide) ?_
    refine p_iald (pc' := 95) (a := 97) (k := 1) (x := nI (ck c - 1)) dX9_fill_94 rfl (rfl) (rfl) (by omega) (by decide) (g4) ?_
    refine e_imulN (pc' := 96) dX9_fill_95 rfl ?_
    refine e_iaddN (pc' := 97) dX9_fill_96 rfl ?_
    refine e_iconst (pc' := 98) (v := nI 0) dX9_fill_97 rfl (by decide) ?_
    refine p_iast (pc' := 99) (a := 97) (k := 40 + (2 * (ck c - 1))) dX9_fill_98 rfl (rfl) (rfl) (by omega) (by decide) ?_
    refine e_aload_n (pc' := 100) dX9_fill_99 rfl rfl rfl ?_
    refine p_gfr (pc' := 103) (a := 96) (k := 0) (t := 97) dX9_fill_100 rfl rfl (by decide) (by decide) rfl fl_X9_7 ?_
    refine e_bipush (pc' := 105) (v := nI 40) dX9_fill_103 rfl (by decide) ?_
    refine e_iconst (pc' := 106) (v := nI 2) dX9_fill_105 rfl (by decide) ?_
    refine e_aload_n (pc' := 107) dX9_fill_106 rfl rfl rfl ?_
    refine p_gfr (pc' := 110) (a := 96) (k := 0) (t := 97) dX9_fill_107 rfl rfl (by decide) (by decide) rfl fl_X9_7 ?_
    refine e_iconst (pc' := 111) (v := nI 1) dX9_fill_110 rfl (by decide) ?_
    refine p_iald (pc' := 112) (a := 97) (k := 1) (x := nI (ck c - 1)) dX9_fill_111 rfl (rfl) (rfl) (by omega) (by decide) (by rw [up2_k (by omega)]; exact g4) ?_
    refine e_imulN (pc' := 113) dX9_fill_112 rfl ?_
    refine e_iaddN (pc' := 114) dX9_fill_113 rfl ?_
    refine e_iconst (pc' := 115) (v := nI 1) dX9_fill_114 rfl (by decide) ?_
    refine e_iaddN (pc' := 116) dX9_fill_115 rfl ?_
    refine e_iconst (pc' := 117) (v := nI 0) dX9_fill_116 rfl (by decide) ?_
    refine p_iast (pc' := 118) (a := 97) (k := (40 + (2 * (ck c - 1))) + 1) dX9_fill_117 rfl (rfl) (rfl) (by omega) (by decide) ?_
    refine e_aload_n (pc' := 119) dX9_fill_118 rfl rfl rfl ?_
    refine p_gfr (pc' := 122) (a := 96) (k := 0) (t := 97) dX9_fill_119 rfl rfl (by decide) (by decide) rfl fl_X9_7 ?_
    refine e_iconst (pc' := 123) (v := nI 1) dX9_fill_122 rfl (by decide) ?_
    refine p_iald (pc' := 124) (a := 97) (k := 1) (x := nI (ck c - 1)) dX9_fill_123 rfl (rfl) (rfl) (by omega) (by decide) (by rw [up2_k (by omega), up2_k (by omega)]; exact g4) ?_
    exact e_iret dX9_fill_124 rfl (⟨_, rfl, hfin _ (row_fil r1 hn ht (by rw [up2_k (by omega), up2_k (by omega)]; exact g4) (fun z h1 h2 => by rw [up2_k (by omega), up2_k (by omega)]; exact g1 z h1 h2) (fun z h1 h2 => by rw [up2_k (by omega), up2_k (by omega)]; exact g2 z h1 (by omega))) ((g5.up (by decide)).up (by decide))⟩) (by decide) (by decide)
  · refine e_aload_n (pc' := 63) dX9_fill_62 rfl rfl rfl ?_
    refine p_gfr (pc' := 66) (a := 96) (k := 0) (t := 97) dX9_fill_63 rfl rfl (by decide) (by decide) rfl fl_X9_7 ?_
    refine e_iload_n (pc' := 67) dX9_fill_66 rfl rfl rfl ?_
    refine e_aload_n (pc' := 68) dX9_fill_67 rfl rfl rfl ?_
    refine p_gfr (pc' := 71) (a := 96) (k := 0) (t := 97) dX9_fill_68 rfl rfl (by decide) (by decide) rfl fl_X9_7 ?_
    refine e_iload_n (pc' := 72) dX9_fill_71 rfl rfl rfl ?_
    refine e_iconst (pc' := 73) (v := nI 2) dX9_fill_72 rfl (by decide) ?_
    refine e_iaddN (pc' := 74) dX9_fill_73 rfl ?_
    refine p_iald (pc' := 75) (a := 97) (k := (40 + (2 * t) + i) + 2) (x := M1 97 (40 + (2 * t) + i + 2)) dX9_fill_74 rfl (rfl) (rfl) (by omega) (by decide) (g3 _ (by omega)) ?_
    refine p_iast (pc' := 76) (a := 97) (k := 40 + (2 * t) + i) dX9_fill_75 rfl (rfl) (rfl) (by omega) (by decide) ?_
    refine e_iincN (pc' := 79) (k := 1) (L' := [some (.ref (ad 96)), some (.int (nI t)), some (.int (nI (40 + (2 * t) + i + 1)))]) dX9_fill_76 rfl rfl rfl (by decide) rfl ?_
    refine e_goto (tgt := 47) dX9_fill_79 (by decide) ?_
    exact ih (by omega) _ (fun z h1 h2 => by rw [up2_k (by omega)]; exact g1 z h1 h2) (fun z h1 h2 => by by_cases e : z = 40 + (2 * t) + i; rw [e]; exact up2_s; rw [up2_k e]; exact g2 z h1 (by omega)) (fun z h1 => by rw [up2_k (by omega)]; exact g3 z (by omega)) (by rw [up2_k (by omega)]; exact g4) (g5.up (by decide)))
theorem g_fill (r : RowAt M 97 0 c) (hw : WF c) (hK : KtR M hs sz) (hW : KWF hs sz) (h6 : M 96 6 = bI w) {t : Nat} (ht : t < ck c) : RETI G ad (d + 3) mX9_fill [.ref (ad 96), .int (nI t)] (M, o) (some (.int (nI (ck c - 1)))) (CHI w hs sz c (filC c t) M) := by
  refine CM_of rfl (by decide) rfl (Nat.le_of_ble_eq_true rfl) rfl ?_
  have hn := hw.n
  have hk := hw.k
  have hw9 := hw.w9
  refine e_aload_n (pc' := 1) dX9_fill_0 rfl rfl rfl ?_
  refine e_aload_n (pc' := 2) dX9_fill_1 rfl rfl rfl ?_
  refine e_iload_n (pc' := 3) dX9_fill_2 rfl rfl rfl ?_
  refine r_V (pc' := 6) (m' := mX9_isTunnel) (As := [.int (nI t)]) (st := [.ref (ad 96)]) (g_isTunnel (d := d) r hw (nI t)) dX9_fill_3 rfl rfl (Nat.le_of_ble_eq_true rfl) (fit_of (by omega) (by decide) (by decide) (by decide)) ml_X9_124 okX9_isTunnel rfl rfl (by decide) rfl ?_
  show EV _ _ _ _ _ 6 _ ([.int (bI (hasT c (nI t))), .ref (ad 96)]) _
  refine e_if_eqB (pc' := 9) (tgt := 13) dX9_fill_6 rfl (by decide) (fun hz1 => absurd hz1 (by rw [hasT_n hw ht]; decide)) (fun hz1 => ?_)
  refine e_iconst (pc' := 10) (v := nI 0) dX9_fill_9 rfl (by decide) ?_
  refine e_goto (tgt := 14) dX9_fill_10 (by decide) ?_
  refine r_V (pc' := 17) (m' := mX9_fails) (As := [.int (nI 0)]) (st := []) (g_fails (d := d) (p := 0) (by omega)) dX9_fill_14 rfl rfl (Nat.le_of_ble_eq_true rfl) (fit_of (by omega) (by decide) (by decide) (by decide)) ml_X9_70 okX9_fails rfl rfl (by decide) rfl ?_
  show EV _ _ _ _ _ 17 _ ([.int (bI (decide (0 < 0)))]) _
  refine e_if_eqB (pc' := 20) (tgt := 22) dX9_fill_17 rfl (by decide) (fun hz2 => ?_) (fun hz2 => absurd hz2 (by decide))
  refine e_aload_n (pc' := 23) dX9_fill_22 rfl rfl rfl ?_
  refine e_aload_n (pc' := 24) dX9_fill_23 rfl rfl rfl ?_
  refine p_gfr (pc' := 27) (a := 96) (k := 0) (t := 97) dX9_fill_24 rfl rfl (by decide) (by decide) rfl fl_X9_7 ?_
  refine r_VI (pc' := 30) (m' := mX9_keeps) (As := [.ref (ad 97)]) (st := []) (g_keeps (d := d) (w := w) ((r.up (by decide)).up (by decide)) hw (hK.kp (by rw [up2_k (by decide), up2_k (by decide)]) (by rw [up2_n (by decide), up2_n (by decide)])) hW (by rw [up2_k (by decide), up2_k (by decide)]; exact h6)) dX9_fill_27 rfl rfl (Nat.le_of_ble_eq_true rfl) (fit_of (by omega) (by decide) (by decide) (by decide)) ml_X9_85 okX9_keeps rfl rfl (by decide) rfl (fun M1 hI => ?_)
  show EV _ _ _ _ _ 30 _ ([]) _
  refine e_aload_n (pc' := 31) dX9_fill_30 rfl rfl rfl ?_
  refine p_gfr (pc' := 34) (a := 96) (k := 0) (t := 97) dX9_fill_31 rfl rfl (by decide) (by decide) rfl fl_X9_7 ?_
  refine e_iconst (pc' := 35) (v := nI 1) dX9_fill_34 rfl (by decide) ?_
  refine e_dup2 (pc' := 36) dX9_fill_35 rfl rfl rfl ?_
  refine p_iald (pc' := 37) (a := 97) (k := 1) (x := nI (ck c)) dX9_fill_36 rfl (rfl) (rfl) (by omega) (by decide) ((((r.up (by decide)).up (by decide)).kp hI.2.2.2 (by decide)).k) ?_
  refine e_iconst (pc' := 38) (v := nI 1) dX9_fill_37 rfl (by decide) ?_
  refine e_isubN (pc' := 39) dX9_fill_38 rfl (by omega) ?_
  refine p_iast (pc' := 40) (a := 97) (k := 1) dX9_fill_39 rfl (rfl) (rfl) (by omega) (by decide) ?_
  refine e_bipush (pc' := 42) (v := nI 40) dX9_fill_40 rfl (by decide) ?_
  refine e_iconst (pc' := 43) (v := nI 2) dX9_fill_42 rfl (by decide) ?_
  refine e_iload_n (pc' := 44) dX9_fill_43 rfl rfl rfl ?_
  refine e_imulN (pc' := 45) dX9_fill_44 rfl ?_
  refine e_iaddN (pc' := 46) dX9_fill_45 rfl ?_
  refine e_istore_n (pc' := 47) (L' := [some (.ref (ad 96)), some (.int (nI t)), some (.int (nI (40 + (2 * t))))]) dX9_fill_46 rfl rfl (by decide) rfl ?_
  exact gl_fill (P := PI (some (.int (nI (ck c - 1)))) o (CHI w hs sz c (filC c t) M)) (M1 := M1) hw ht ((((r.up (by decide)).up (by decide)).kp hI.2.2.2 (by decide))) (fun M' hr hk => ⟨rfl, M', rfl, CHI.mk hI (fun j g7 g8 => by rw [up2_k g7, up2_k g8]) ((KP.refl.up (by decide)).up (by decide)) hr hk⟩) 0 (Nat.zero_le _) _ (fun z h1 _ => up2_k h1) (fun z h1 h2 => absurd h2 (by omega)) (fun z h1 => up2_k (by omega)) up2_s (KP.refl.up (by decide))
theorem g_fill_t (r : RowAt M 97 0 c) (hw : WF c) (x : Int32) (hx : hasT c x = false) : RETI G ad (d + 3) mX9_fill [.ref (ad 96), .int (x)] (M, o) (some (.int (nI 0))) (FLI 1 M) := by
  refine CM_of rfl (by decide) rfl (Nat.le_of_ble_eq_true rfl) rfl ?_
  have hn := hw.n
  have hk := hw.k
  have hw9 := hw.w9
  refine e_aload_n (pc' := 1) dX9_fill_0 rfl rfl rfl ?_
  refine e_aload_n (pc' := 2) dX9_fill_1 rfl rfl rfl ?_
  refine e_iload_n (pc' := 3) dX9_fill_2 rfl rfl rfl ?_
  refine r_V (pc' := 6) (m' := mX9_isTunnel) (As := [.int (x)]) (st := [.ref (ad 96)]) (g_isTunnel (d := d) r hw (x)) dX9_fill_3 rfl rfl (Nat.le_of_ble_eq_true rfl) (fit_of (by omega) (by decide) (by decide) (by decide)) ml_X9_124 okX9_isTunnel rfl rfl (by decide) rfl ?_
  show EV _ _ _ _ _ 6 _ ([.int (bI (hasT c (x))), .ref (ad 96)]) _
  refine e_if_eqB (pc' := 9) (tgt := 13) dX9_fill_6 rfl (by decide) (fun hz1 => ?_) (fun hz1 => absurd hz1 (by rw [hx]; decide))
  refine e_iconst (pc' := 14) (v := nI 1) dX9_fill_13 rfl (by decide) ?_
  refine r_V (pc' := 17) (m' := mX9_fails) (As := [.int (nI 1)]) (st := []) (g_fails (d := d) (p := 1) (by omega)) dX9_fill_14 rfl rfl (Nat.le_of_ble_eq_true rfl) (fit_of (by omega) (by decide) (by decide) (by decide)) ml_X9_70 okX9_fails rfl rfl (by decide) rfl ?_
  show EV _ _ _ _ _ 17 _ ([.int (bI (decide (0 < 1)))]) _
  refine e_if_eqB (pc' := 20) (tgt := 22) dX9_fill_17 rfl (by decide) (fun hz2 => absurd hz2 (by decide)) (fun hz2 => ?_)
  refine e_iconst (pc' := 21) (v := nI 0) dX9_fill_20 rfl (by decide) ?_
  exact e_iret dX9_fill_21 rfl (MP.retI rfl FLI.f) (by decide) (by decide)
end T49

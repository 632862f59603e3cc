set_option maxHeartbeats 400000
/-! EXECUTING A TEXT -/
theorem IAr.kp {M M' : Nat → Nat → Int32} {a n : Nat} {f : Nat → Int32} {F : Nat → Bool} (h : IAr M a n f) (hk : KP F M M') (ha : F a = false) : IAr M' a n f := fun z hz => by rw [hk a ha]; exact h z hz
/-- the colony after j commands: q j the fields of the j-th, kk j its kind -/
def exC (c : Col) (q : Nat → Nat → Int32) (kk : Nat → Nat) : Nat → Col
  | 0 => c
  | j + 1 => (cy (exC c q kk j) (kk j) (q j 1) (q j 2) (q j 3)).2
def exJ (c : Col) (q : Nat → Nat → Int32) (kk : Nat → Nat) (j : Nat) : Nat := (jd (exC c q kk j) (kk j) (q j 1) (q j 2)).1
theorem exC_wf {c : Col} {q : Nat → Nat → Int32} {kk : Nat → Nat} (hw : WF c) : ∀ i, (∀ j, j < i → kk j < 8) → (∀ j, j < i → exJ c q kk j = 0) → WF (exC c q kk i)
  | 0, _, _ => hw
  | i + 1, h1, h2 => cy_wf (exC_wf hw i (fun j hj => h1 j (by omega)) (fun j hj => h2 j (by omega))) (h1 i (by omega)) (h2 i (by omega))
theorem mkR_k {l : List Nat} {k a0 f e : Nat} {cmd : Nat → Int32} (h : (mkR l k a0 cmd f).1 = some e) : (mkR l k a0 cmd f).2.1 0 = nI k := by
  unfold mkR at h ⊢
  cases q : mfail l k a0 cmd with
  | none => show ups (mrun l k a0 cmd (slen k)).2.2 0 (nI k) 0 = nI k; exact ups_s
  | some i => rw [q] at h; cases h
theorem pcR_k {l : List Nat} {a0 f e : Nat} {cmd : Nat → Int32} (h : (pcR l a0 cmd f).1 = some e) : ∃ k, k < 8 ∧ (pcR l a0 cmd f).2.1 0 = nI k := by
  unfold pcR at h ⊢
  cases q : fnd (fun k => (pcM l a0 cmd f k).1.isSome) 8 with
  | none => rw [q] at h; cases h
  | some k => rw [q] at h; exact ⟨k, (fnd_lt q).1, mkR_k h⟩
theorem prR_ok {l : List Nat} {cmds : Nat → Nat → Int32} (h : (prR l cmds).1 = true) : (prR l cmds).2.1 ≤ 15 ∧ ∀ j, j < (prR l cmds).2.1 → ∃ e, (prT l cmds j).1 = some e := by
  unfold prR at h ⊢
  rcases fnd_spec (fun i => !prC l cmds i) 15 with ⟨h1, _⟩ | ⟨i, h1, h2, h3, h4⟩
  · rw [h1] at h; cases h
  · rw [h1] at h ⊢
    dsimp only at h ⊢
    cases q : (prT l cmds i).1 with
    | none => rw [q] at h; cases h
    | some e =>
      rw [q] at h
      dsimp only at h ⊢
      by_cases g : e = l.length
      · rw [if_pos g]
        refine ⟨by show i + 1 ≤ 15; omega, fun j hj => ?_⟩
        have hj3 : j < i + 1 := hj
        by_cases g2 : j = i
        · rw [g2]; exact ⟨e, q⟩
        · have h6 : prC l cmds j = true := by simpa using h4 j (by omega)
          unfold prC at h6
          cases r : (prT l cmds j).1 with
          | none => rw [r] at h6; cases h6
          | some z => exact ⟨z, rfl⟩
      · rw [if_neg g] at h; cases h
section T28
variable {G : gC} {ad : Nat → Nat} {d : Nat} {M : Nat → Nat → Int32} {o : (Nat → Int64) × (Nat → UInt64)} {c : Col} {hs : Nat → Col} {nx sz : Nat} {l : List Nat}
theorem l_exok {M0 : Nat → Nat → Int32} (h64 : ColAt M0 64 c) (hw : WF c) (hH : HsAt M0 hs nx sz) {n : Nat} (hn3 : M0 76 3 = nI n) (hn15 : n ≤ 15) {q : Nat → Nat → Int32} {kk : Nat → Nat} (hq : ∀ j, j < n → IAr M0 (79 + j) 4 (q j)) (hk : ∀ j, j < n → q j 0 = nI (kk j) ∧ kk j < 8) {I : (Nat → Nat → Int32) → Prop} (hfin : ∀ M', ColAt M' 1 (exC c q kk n) → HsAt M' (psh hs sz c) ((nx + 1) % 8) (min (sz + 1) 8) → KP (inR 1 63) M0 M' → I M') (hok : ∀ j, j < n → exJ c q kk j = 0) : ∀ i, i ≤ n → ∀ (M : Nat → Nat → Int32), ColAt M 1 (exC c q kk i) → KP (inR 1 13) M0 M → ER G ad (d + 7) mX8_execute (0, 0) (PI (some (.int (nI n))) o (I)) (0, 0) 53 [some (.ref (ad 0)), none, some (.int (nI i)), none, none] [] (M, o) := down (n) _ (fun i hi ih M h1 hK => by
  have hwi := exC_wf (q := q) (kk := kk) hw i (fun j hj => (hk j (by omega)).2) (fun j hj => hok j (by omega))
  refine e_iload_n (pc' := 54) dX8_execute_53 rfl rfl rfl ?_
  refine e_aload_n (pc' := 55) dX8_execute_54 rfl rfl rfl ?_
  refine p_gfr (pc' := 58) (a := 0) (k := 7) (t := 76) dX8_execute_55 rfl rfl (by decide) (by decide) rfl fl_X8_57 ?_
  refine p_gfi (pc' := 61) (a := 76) (k := 3) (x := nI n) dX8_execute_58 rfl (rfl) (by decide) (by decide) rfl fl_X8_220 (((hK.at (inR_f (by omega)) 3).trans hn3)) ?_
  refine e_icmp_geN (pc' := 64) (tgt := 163) dX8_execute_61 rfl (by decide) (by first | omega | (have := jd_codes (exC c q kk i) (kk i) (q i 1) (q i 2); omega)) (by first | omega | (have := jd_codes (exC c q kk i) (kk i) (q i 1) (q i 2); omega)) (fun hz1 => ?_) (fun hz1 => ?_)
  · refine e_aload_n (pc' := 164) dX8_execute_163 rfl rfl rfl ?_
    refine p_gfr (pc' := 167) (a := 0) (k := 4) (t := 14) dX8_execute_164 rfl rfl (by decide) (by decide) rfl fl_X8_44 ?_
    refine e_aload_n (pc' := 168) dX8_execute_167 rfl rfl rfl ?_
    refine p_gfr (pc' := 171) (a := 0) (k := 5) (t := 64) dX8_execute_168 rfl rfl (by decide) (by decide) rfl fl_X8_48 ?_
    refine r_VI (pc' := 174) (m' := mX4_push) (As := [.ref (ad 64)]) (st := []) (c_push (d := d) isC64 (by omega) (h64.kp hK (fun i hi => inR_f (by omega))) hw (hH.kp hK (fun a h1 h2 => inR_f (by omega)))) dX8_execute_171 rfl rfl (Nat.le_of_ble_eq_true rfl) (fit_of (by omega) (by decide) (by decide) (by decide)) ml_X8_260 okX4_push rfl rfl (by decide) rfl (fun MH2 ⟨hH2, hK2⟩ => ?_)
    show EV _ _ _ _ _ 174 _ ([]) _
    refine e_aload_n (pc' := 175) dX8_execute_174 rfl rfl rfl ?_
    refine p_gfr (pc' := 178) (a := 0) (k := 7) (t := 76) dX8_execute_175 rfl rfl (by decide) (by decide) rfl fl_X8_57 ?_
    refine p_gfi (pc' := 181) (a := 76) (k := 3) (x := nI n) dX8_execute_178 rfl (rfl) (by decide) (by decide) rfl fl_X8_220 ((((hK2.at (inR_f (by omega)) 3).trans (hK.at (inR_f (by omega)) 3)).trans hn3)) ?_
    exact e_iret dX8_execute_181 rfl ((by
      have e9 : i = n := by omega
      subst e9
      exact MP.retI rfl (hfin _ (h1.kp hK2 (fun i hi => inR_f (by omega))) hH2 ((hK.wide (fun a ha => by unfold inR at *; simp at *; omega)).trans (hK2.wide (fun a ha => by unfold inR at *; simp at *; omega)))))) (by decide) (by decide)
  · refine e_aload_n (pc' := 65) dX8_execute_64 rfl rfl rfl ?_
    refine p_gfr (pc' := 68) (a := 0) (k := 7) (t := 76) dX8_execute_65 rfl rfl (by decide) (by decide) rfl fl_X8_57 ?_
    refine p_gfr (pc' := 71) (a := 76) (k := 2) (t := 78) dX8_execute_68 rfl rfl (by decide) (by decide) rfl fl_X8_223 ?_
    refine e_iload_n (pc' := 72) dX8_execute_71 rfl rfl rfl ?_
    refine p_aald (pc' := 73) (a := 78) (k := i) (t := 79 + i) dX8_execute_72 rfl (Or.inr rfl) rfl (by first | omega | (have := jd_codes (exC c q kk i) (kk i) (q i 1) (q i 2); omega)) (by decide) (cmd_ref i (by omega)) ?_
    refine e_astore_n (pc' := 74) (L' := [some (.ref (ad 0)), none, some (.int (nI i)), some (.ref (ad (79 + i))), none]) dX8_execute_73 rfl rfl (by decide) rfl ?_
    have hk8 := (hk i (by omega)).2
    have hqi := (hq i (by omega)).kp hK (inR_f (by omega))
    have hj : (jd (exC c q kk i) (kk i) (q i 1) (q i 2)).1 = 0 := hok i (by omega)
    refine e_aload_n (pc' := 75) dX8_execute_74 rfl rfl rfl ?_
    refine p_gfr (pc' := 78) (a := 0) (k := 3) (t := 13) dX8_execute_75 rfl rfl (by decide) (by decide) rfl fl_X8_37 ?_
    refine e_aload_n (pc' := 79) dX8_execute_78 rfl rfl rfl ?_
    refine p_gfi (pc' := 82) (a := 79 + i) (k := 0) (x := nI (kk i)) dX8_execute_79 rfl ((isQs i (by omega))) (by decide) (by decide) rfl fl_X8_227 ((hqi 0 (by decide)).trans (hk i (by omega)).1) ?_
    refine e_aload_n (pc' := 83) dX8_execute_82 rfl rfl rfl ?_
    refine p_gfi (pc' := 86) (a := 79 + i) (k := 1) (x := q i 1) dX8_execute_83 rfl ((isQs i (by omega))) (by decide) (by decide) rfl fl_X8_232 ((hqi 1 (by decide))) ?_
    refine e_aload_n (pc' := 87) dX8_execute_86 rfl rfl rfl ?_
    refine p_gfi (pc' := 90) (a := 79 + i) (k := 2) (x := q i 2) dX8_execute_87 rfl ((isQs i (by omega))) (by decide) (by decide) rfl fl_X8_235 ((hqi 2 (by decide))) ?_
    refine r_VI (pc' := 93) (m' := mX0_judge) (As := [.int (nI (kk i)), .int (q i 1), .int (q i 2)]) (st := []) (c_judge (d := d) h1 hwi (k := kk i) hk8 (q i 1) (q i 2)) dX8_execute_90 rfl rfl (Nat.le_of_ble_eq_true rfl) (fit_of (by omega) (by decide) (by decide) (by decide)) ml_X8_238 okX0_judge rfl rfl (by decide) rfl (fun MJ1 hJ1 => ?_)
    show EV _ _ _ _ _ 93 _ ([.int (nI ((jd (exC c q kk i) (kk i) (q i 1) (q i 2)).1))]) _
    refine e_istore (pc' := 95) (L' := [some (.ref (ad 0)), none, some (.int (nI i)), some (.ref (ad (79 + i))), some (.int (nI ((jd (exC c q kk i) (kk i) (q i 1) (q i 2)).1)))]) dX8_execute_93 rfl (by decide) rfl ?_
    refine e_iload (pc' := 97) dX8_execute_95 rfl rfl ?_
    refine e_if_eqN (pc' := 100) (tgt := 133) dX8_execute_97 rfl (by decide) (by first | omega | (have := jd_codes (exC c q kk i) (kk i) (q i 1) (q i 2); omega)) (fun hz2 => ?_) (fun hz2 => absurd hz2 (not_not_intro hj))
    refine e_aload_n (pc' := 134) dX8_execute_133 rfl rfl rfl ?_
    refine p_gfr (pc' := 137) (a := 0) (k := 3) (t := 13) dX8_execute_134 rfl rfl (by decide) (by decide) rfl fl_X8_37 ?_
    refine e_aload_n (pc' := 138) dX8_execute_137 rfl rfl rfl ?_
    refine p_gfi (pc' := 141) (a := 79 + i) (k := 0) (x := nI (kk i)) dX8_execute_138 rfl ((isQs i (by omega))) (by decide) (by decide) rfl fl_X8_227 (((hqi.kp hJ1.1 (by unfold inR; simp; omega)) 0 (by decide)).trans (hk i (by omega)).1) ?_
    refine e_aload_n (pc' := 142) dX8_execute_141 rfl rfl rfl ?_
    refine p_gfi (pc' := 145) (a := 79 + i) (k := 1) (x := q i 1) dX8_execute_142 rfl ((isQs i (by omega))) (by decide) (by decide) rfl fl_X8_232 (((hqi.kp hJ1.1 (by unfold inR; simp; omega)) 1 (by decide))) ?_
    refine e_aload_n (pc' := 146) dX8_execute_145 rfl rfl rfl ?_
    refine p_gfi (pc' := 149) (a := 79 + i) (k := 2) (x := q i 2) dX8_execute_146 rfl ((isQs i (by omega))) (by decide) (by decide) rfl fl_X8_235 (((hqi.kp hJ1.1 (by unfold inR; simp; omega)) 2 (by decide))) ?_
    refine e_aload_n (pc' := 150) dX8_execute_149 rfl rfl rfl ?_
    refine p_gfi (pc' := 153) (a := 79 + i) (k := 3) (x := q i 3) dX8_execute_150 rfl ((isQs i (by omega))) (by decide) (by decide) rfl fl_X8_254 (((hqi.kp hJ1.1 (by unfold inR; simp; omega)) 3 (by decide))) ?_
    refine r_VI (pc' := 156) (m' := mX0_carryOut) (As := [.int (nI (kk i)), .int (q i 1), .int (q i 2), .int (q i 3)]) (st := []) (c_carry (d := d) (jI.col h1 hJ1 (by decide)) hwi (k := kk i) hk8 (q i 1) (q i 2) (q i 3) hj) dX8_execute_153 rfl rfl (Nat.le_of_ble_eq_true rfl) (fit_of (by omega) (by decide) (by decide) (by decide)) ml_X8_257 okX0_carryOut rfl rfl (by decide) rfl (fun MC3 ⟨hC3, hK3⟩ => ?_)
    show EV _ _ _ _ _ 156 _ ([.int ((cy (exC c q kk i) (kk i) (q i 1) (q i 2) (q i 3)).1)]) _
    refine e_pop (pc' := 157) dX8_execute_156 rfl rfl ?_
    refine e_iincN (pc' := 160) (k := 1) (L' := [some (.ref (ad 0)), none, some (.int (nI (i + 1))), some (.ref (ad (79 + i))), some (.int (nI ((jd (exC c q kk i) (kk i) (q i 1) (q i 2)).1)))]) dX8_execute_157 rfl rfl rfl (by decide) rfl ?_
    refine e_goto (tgt := 53) dX8_execute_160 (by decide) ?_
    refine e_fg (i := 3) (L' := [some (.ref (ad 0)), none, some (.int (nI (i + 1))), none, some (.int (nI ((jd (exC c q kk i) (kk i) (q i 1) (q i 2)).1)))]) rfl ?_
    refine e_fg (i := 4) (L' := [some (.ref (ad 0)), none, some (.int (nI (i + 1))), none, none]) rfl ?_
    exact ih (by omega) _ hC3 ((hK.trans (hJ1.1.wide (fun a ha => by unfold inR at *; simp at *; omega))).trans (hK3.wide (fun a ha => by unfold inR at *; simp at *; omega))))
theorem l_exno {M0 : Nat → Nat → Int32} (h64 : ColAt M0 64 c) (hw : WF c) (hH : HsAt M0 hs nx sz) {n : Nat} (hn3 : M0 76 3 = nI n) (hn15 : n ≤ 15) {q : Nat → Nat → Int32} {kk : Nat → Nat} (hq : ∀ j, j < n → IAr M0 (79 + j) 4 (q j)) (hk : ∀ j, j < n → q j 0 = nI (kk j) ∧ kk j < 8) {z : Nat} (hz : z < n) (hok : ∀ j, j < z → exJ c q kk j = 0) (hnz : ¬ exJ c q kk z = 0) {I : (Nat → Nat → Int32) → Prop} (hfin : ∀ M', ColAt M' 1 c → HsAt M' hs nx sz → M' 0 11 = nI 6 → M' 0 12 = nI z → M' 0 13 = nI (if exJ c q kk z < 6 then exJ c q kk z else 7) → (∀ k, k < 11 → M' 0 k = M0 0 k) → KP (inR 0 13) M0 M' → I M') : ∀ i, i ≤ z → ∀ (M : Nat → Nat → Int32), ColAt M 1 (exC c q kk i) → KP (inR 1 13) M0 M → ER G ad (d + 7) mX8_execute (1, 6) (PXI "java/lang/UnsupportedOperationException" o I) (0, 0) 53 [some (.ref (ad 0)), none, some (.int (nI i)), none, none] [] (M, o) := down (z) _ (fun i hi ih M h1 hK => by
  have hwi := exC_wf (q := q) (kk := kk) hw i (fun j hj => (hk j (by omega)).2) (fun j hj => hok j (by omega))
  refine e_iload_n (pc' := 54) dX8_execute_53 rfl rfl rfl ?_
  refine e_aload_n (pc' := 55) dX8_execute_54 rfl rfl rfl ?_
  refine p_gfr (pc' := 58) (a := 0) (k := 7) (t := 76) dX8_execute_55 rfl rfl (by decide) (by decide) rfl fl_X8_57 ?_
  refine p_gfi (pc' := 61) (a := 76) (k := 3) (x := nI n) dX8_execute_58 rfl (rfl) (by decide) (by decide) rfl fl_X8_220 (((hK.at (inR_f (by omega)) 3).trans hn3)) ?_
  refine e_icmp_geN (pc' := 64) (tgt := 163) dX8_execute_61 rfl (by decide) (by first | omega | (have := jd_codes (exC c q kk i) (kk i) (q i 1) (q i 2); omega)) (by first | omega | (have := jd_codes (exC c q kk i) (kk i) (q i 1) (q i 2); omega)) (fun hz1 => absurd hz1 (by omega)) (fun hz1 => ?_)
  refine e_aload_n (pc' := 65) dX8_execute_64 rfl rfl rfl ?_
  refine p_gfr (pc' := 68) (a := 0) (k := 7) (t := 76) dX8_execute_65 rfl rfl (by decide) (by decide) rfl fl_X8_57 ?_
  refine p_gfr (pc' := 71) (a := 76) (k := 2) (t := 78) dX8_execute_68 rfl rfl (by decide) (by decide) rfl fl_X8_223 ?_
  refine e_iload_n (pc' := 72) dX8_execute_71 rfl rfl rfl ?_
  refine p_aald (pc' := 73) (a := 78) (k := i) (t := 79 + i) dX8_execute_72 rfl (Or.inr rfl) rfl (by first | omega | (have := jd_codes (exC c q kk i) (kk i) (q i 1) (q i 2); omega)) (by decide) (cmd_ref i (by omega)) ?_
  refine e_astore_n (pc' := 74) (L' := [some (.ref (ad 0)), none, some (.int (nI i)), some (.ref (ad (79 + i))), none]) dX8_execute_73 rfl rfl (by decide) rfl ?_
  have hk8 := (hk i (by omega)).2
  have hqi := (hq i (by omega)).kp hK (inR_f (by omega))
  refine e_aload_n (pc' := 75) dX8_execute_74 rfl rfl rfl ?_
  refine p_gfr (pc' := 78) (a := 0) (k := 3) (t := 13) dX8_execute_75 rfl rfl (by decide) (by decide) rfl fl_X8_37 ?_
  refine e_aload_n (pc' := 79) dX8_execute_78 rfl rfl rfl ?_
  refine p_gfi (pc' := 82) (a := 79 + i) (k := 0) (x := nI (kk i)) dX8_execute_79 rfl ((isQs i (by omega))) (by decide) (by decide) rfl fl_X8_227 ((hqi 0 (by decide)).trans (hk i (by omega)).1) ?_
  refine e_aload_n (pc' := 83) dX8_execute_82 rfl rfl rfl ?_
  refine p_gfi (pc' := 86) (a := 79 + i) (k := 1) (x := q i 1) dX8_execute_83 rfl ((isQs i (by omega))) (by decide) (by decide) rfl fl_X8_232 ((hqi 1 (by decide))) ?_
  refine e_aload_n (pc' := 87) dX8_execute_86 rfl rfl rfl ?_
  refine p_gfi (pc' := 90) (a := 79 + i) (k := 2) (x := q i 2) dX8_execute_87 rfl ((isQs i (by omega))) (by decide) (by decide) rfl fl_X8_235 ((hqi 2 (by decide))) ?_
  refine r_VI (pc' := 93) (m' := mX0_judge) (As := [.int (nI (kk i)), .int (q i 1), .int (q i 2)]) (st := []) (c_judge (d := d) h1 hwi (k := kk i) hk8 (q i 1) (q i 2)) dX8_execute_90 rfl rfl (Nat.le_of_ble_eq_true rfl) (fit_of (by omega) (by decide) (by decide) (by decide)) ml_X8_238 okX0_judge rfl rfl (by decide) rfl (fun MJ1 hJ1 => ?_)
  show EV _ _ _ _ _ 93 _ ([.int (nI ((jd (exC c q kk i) (kk i) (q i 1) (q i 2)).1))]) _
  refine e_istore (pc' := 95) (L' := [some (.ref (ad 0)), none, some (.int (nI i)), some (.ref (ad (79 + i))), some (.int (nI ((jd (exC c q kk i) (kk i) (q i 1) (q i 2)).1)))]) dX8_execute_93 rfl (by decide) rfl ?_
  refine e_iload (pc' := 97) dX8_execute_95 rfl rfl ?_
  refine e_if_eqN (pc' := 100) (tgt := 133) dX8_execute_97 rfl (by decide) (by first | omega | (have := jd_codes (exC c q kk i) (kk i) (q i 1) (q i 2); omega)) (fun hj => ?_) (fun hj => ?_)
  · refine e_aload_n (pc' := 134) dX8_execute_133 rfl rfl rfl ?_
    refine p_gfr (pc' := 137) (a := 0) (k := 3) (t := 13) dX8_execute_134 rfl rfl (by decide) (by decide) rfl fl_X8_37 ?_
    refine e_aload_n (pc' := 138) dX8_execute_137 rfl rfl rfl ?_
    refine p_gfi (pc' := 141) (a := 79 + i) (k := 0) (x := nI (kk i)) dX8_execute_138 rfl ((isQs i (by omega))) (by decide) (by decide) rfl fl_X8_227 (((hqi.kp hJ1.1 (by unfold inR; simp; omega)) 0 (by decide)).trans (hk i (by omega)).1) ?_
    refine e_aload_n (pc' := 142) dX8_execute_141 rfl rfl rfl ?_
    refine p_gfi (pc' := 145) (a := 79 + i) (k := 1) (x := q i 1) dX8_execute_142 rfl ((isQs i (by omega))) (by decide) (by decide) rfl fl_X8_232 (((hqi.kp hJ1.1 (by unfold inR; simp; omega)) 1 (by decide))) ?_
    refine e_aload_n (pc' := 146) dX8_execute_145 rfl rfl rfl ?_
    refine p_gfi (pc' := 149) (a := 79 + i) (k := 2) (x := q i 2) dX8_execute_146 rfl ((isQs i (by omega))) (by decide) (by decide) rfl fl_X8_235 (((hqi.kp hJ1.1 (by unfold inR; simp; omega)) 2 (by decide))) ?_
    refine e_aload_n (pc' := 150) dX8_execute_149 rfl rfl rfl ?_
    refine p_gfi (pc' := 153) (a := 79 + i) (k := 3) (x := q i 3) dX8_execute_150 rfl ((isQs i (by omega))) (by decide) (by decide) rfl fl_X8_254 (((hqi.kp hJ1.1 (by unfold inR; simp; omega)) 3 (by decide))) ?_
    refine r_VI (pc' := 156) (m' := mX0_carryOut) (As := [.int (nI (kk i)), .int (q i 1), .int (q i 2), .int (q i 3)]) (st := []) (c_carry (d := d) (jI.col h1 hJ1 (by decide)) hwi (k := kk i) hk8 (q i 1) (q i 2) (q i 3) hj) dX8_execute_153 rfl rfl (Nat.le_of_ble_eq_true rfl) (fit_of (by omega) (by decide) (by decide) (by decide)) ml_X8_257 okX0_carryOut rfl rfl (by decide) rfl (fun MC3 ⟨hC3, hK3⟩ => ?_)
    show EV _ _ _ _ _ 156 _ ([.int ((cy (exC c q kk i) (kk i) (q i 1) (q i 2) (q i 3)).1)]) _
    refine e_pop (pc' := 157) dX8_execute_156 rfl rfl ?_
    refine e_iincN (pc' := 160) (k := 1) (L' := [some (.ref (ad 0)), none, some (.int (nI (i + 1))), some (.ref (ad (79 + i))), some (.int (nI ((jd (exC c q kk i) (kk i) (q i 1) (q i 2)).1)))]) dX8_execute_157 rfl rfl rfl (by decide) rfl ?_
    refine e_goto (tgt := 53) dX8_execute_160 (by decide) ?_
    refine e_fg (i := 3) (L' := [some (.ref (ad 0)), none, some (.int (nI (i + 1))), none, some (.int (nI ((jd (exC c q kk i) (kk i) (q i 1) (q i 2)).1)))]) rfl ?_
    refine e_fg (i := 4) (L' := [some (.ref (ad 0)), none, some (.int (nI (i + 1))), none, none]) rfl ?_
    have hlt : i < z := (by rcases Nat.lt_or_ge i z with g | g; exact g; exact absurd hj (by rw [show i = z by omega]; exact hnz))
    exact ih hlt _ hC3 ((hK.trans (hJ1.1.wide (fun a ha => by unfold inR at *; simp at *; omega))).trans (hK3.wide (fun a ha => by unfold inR at *; simp at *; omega)))
  · have hiz : i = z := by rcases Nat.lt_or_ge i z with g | g; exact absurd (hok i g) hj; omega
    refine e_aload_n (pc' := 101) dX8_execute_100 rfl rfl rfl ?_
    refine p_gfr (pc' := 104) (a := 0) (k := 0) (t := 1) dX8_execute_101 rfl rfl (by decide) (by decide) rfl fl_X8_12 ?_
    refine e_aload_n (pc' := 105) dX8_execute_104 rfl rfl rfl ?_
    refine p_gfr (pc' := 108) (a := 0) (k := 5) (t := 64) dX8_execute_105 rfl rfl (by decide) (by decide) rfl fl_X8_48 ?_
    refine r_VI (pc' := 111) (m' := mX1_copyFrom) (As := [.ref (ad 64)]) (st := []) (c_copyFrom (d := d) isC1 isC64 (by omega) (jI.col (h64.kp hK (fun i hi => inR_f (by omega))) hJ1 (by decide)) hw) dX8_execute_108 rfl rfl (Nat.le_of_ble_eq_true rfl) (fit_of (by omega) (by decide) (by decide) (by decide)) ml_X8_217 okX1_copyFrom rfl rfl (by decide) rfl (fun MCc ⟨hCc, hKc⟩ => ?_)
    show EV _ _ _ _ _ 111 _ ([]) _
    have hcd := jd_codes (exC c q kk i) (kk i) (q i 1) (q i 2)
    refine e_aload_n (pc' := 112) dX8_execute_111 rfl rfl rfl ?_
    refine e_bipush (pc' := 114) (v := nI 6) dX8_execute_112 rfl (by decide) ?_
    refine e_iload_n (pc' := 115) dX8_execute_114 rfl rfl rfl ?_
    refine e_iload (pc' := 117) dX8_execute_115 rfl rfl ?_
    refine r_S (pc' := 120) (m' := mX8_causeOf) (As := [.int (nI ((jd (exC c q kk i) (kk i) (q i 1) (q i 2)).1))]) (st := [.int (nI i), .int (nI 6), .ref (ad 0)]) (c_causeOf (d := d) (r := (jd (exC c q kk i) (kk i) (q i 1) (q i 2)).1) (by omega)) dX8_execute_117 rfl rfl (Nat.le_of_ble_eq_true rfl) (fit_of (by omega) (by decide) (by decide) (by decide)) ml_X8_242 okX8_causeOf rfl rfl ?_
    show EV _ _ _ _ _ 120 _ ([.int (nI (if (jd (exC c q kk i) (kk i) (q i 1) (q i 2)).1 < 6 then (jd (exC c q kk i) (kk i) (q i 1) (q i 2)).1 else 7)), .int (nI i), .int (nI 6), .ref (ad 0)]) _
    refine r_V (pc' := 123) (m' := mX8_keepDenial) (As := [.int (nI 6), .int (nI i), .int (nI (if (jd (exC c q kk i) (kk i) (q i 1) (q i 2)).1 < 6 then (jd (exC c q kk i) (kk i) (q i 1) (q i 2)).1 else 7))]) (st := []) (c_keepD (d := d) (nI 6) (nI i) (nI (if (jd (exC c q kk i) (kk i) (q i 1) (q i 2)).1 < 6 then (jd (exC c q kk i) (kk i) (q i 1) (q i 2)).1 else 7))) dX8_execute_120 rfl rfl (Nat.le_of_ble_eq_true rfl) (fit_of (by omega) (by decide) (by decide) (by decide)) ml_X8_245 okX8_keepDenial rfl rfl (by decide) rfl ?_
    show EV _ _ _ _ _ 123 _ ([]) _
    exact e_throw (K := (1, 6)) (names := ["java/lang/RuntimeException", "java/lang/Exception"]) rfl xok_UnsupportedOperationException st_X8_251 dX8_execute_123 dX8_execute_126 dX8_execute_127 dX8_execute_129 dX8_execute_132 (by simp [rmK]) (by simp [rmK, Value.category] <;> omega) (Nat.le_refl _) (Nat.le_refl _) (MP.thrI rfl (by
      subst hiz
      have hk0 : ∀ k, k < 11 → MCc 0 k = M0 0 k := fun k _ => by rw [hKc 0 (by decide), hJ1.1 0 (by decide), hK 0 (by decide)]
      refine hfin _ (((hCc.up (by decide)).up (by decide)).up (by decide)) (((((hH.kp hK (fun a h1 h2 => inR_f (by omega))).kp hJ1.1 (fun a h1 h2 => by unfold inR; simp; omega)).kp hKc (fun a h1 h2 => inR_f (by omega))).up (by decide)).up (by decide) |>.up (by decide)) (by rw [up2_k (by decide), up2_k (by decide)]; exact up2_s) (by rw [up2_k (by decide)]; exact up2_s) up2_s (fun k hk9 => by rw [up2_k (by omega), up2_k (by omega), up2_k (by omega)]; exact hk0 k hk9) ?_
      exact (((((hK.wide (fun a ha => by unfold inR at *; simp at *; omega)).trans (hJ1.1.wide (fun a ha => by unfold inR at *; simp at *; omega))).trans (hKc.wide (fun a ha => by unfold inR at *; simp at *; omega))).up (by decide)).up (by decide)).up (by decide))) (by decide) (by decide))
end T28

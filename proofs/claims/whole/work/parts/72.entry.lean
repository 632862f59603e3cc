set_option maxHeartbeats 4000000
set_option maxRecDepth 20000
/-! THE LAW: what holds at its entry; its end; the claim -/
def gvn : List Cond := flatC (Jvm.Cond.and given_1 narrow_1)
def sPos : List Nat := [399, 414, 430, 440, 451, 459, 470, 480, 689, 696, 702, 709, 715, 724, 732, 739, 142, 168, 199, 221, 248, 280, 297, 324, 348, 372, 490, 529, 549, 586, 612, 638, 665]
def sOwn : List (String × Nat) := [("MagnetColony$Text", 44), ("MagnetColony$Text", 46), ("MagnetColony$Text", 48), ("MagnetColony$Text", 50), ("MagnetColony$Text", 52), ("MagnetColony$Text", 54), ("MagnetColony$Text", 56), ("MagnetColony$Text", 58), ("MagnetColonyModel", 182), ("MagnetColonyModel", 191), ("MagnetColonyModel", 193), ("MagnetColonyModel", 195), ("MagnetColonyModel", 197), ("MagnetColonyModel", 202), ("MagnetColonyModel", 204), ("MagnetColonyModel", 206), ("MagnetColony", 314), ("MagnetColony", 316), ("MagnetColony", 321), ("MagnetColony", 333), ("MagnetColony", 326), ("MagnetColony", 328), ("MagnetColony", 338), ("MagnetColony", 169), ("MagnetColony", 177), ("MagnetColony", 193), ("MagnetColony", 214), ("MagnetColony", 251), ("MagnetColony", 270), ("MagnetColony", 340), ("MagnetColony", 291), ("MagnetColony", 297), ("MagnetColony", 306)]
def tmS (i : Nat) : Term := Term.string (sOwn.getD i ("", 0)).1 (sOwn.getD i ("", 0)).2
def svT (i : Nat) : Term := .field (tmS i) "java/lang/String" "value" "[B"
theorem st_ex : ∀ i, i < 33 → gvn[sPos.getD i 0]? = some (Cond.exactly (tmS i) "java/lang/String") := by decide +kernel
theorem st_co : ∀ i, i < 16 → gvn[sPos.getD i 0 + 1]? = some (Cond.eq (.field (tmS i) "java/lang/String" "coder" "B") (.int 0)) := by decide +kernel
theorem st_ar : ∀ i, i < 16 → gvn[sPos.getD i 0 + 2]? = some (Cond.arrayOf (svT i) .byte) := by decide +kernel
theorem st_le : ∀ i, i < 16 → gvn[sPos.getD i 0 + 3]? = some (Cond.eq (.length (svT i)) (.int (Int32.ofNat (strB.getD i []).length))) := by decide +kernel
theorem st_el : ∀ i, i < 16 → ∀ j, j < (strB.getD i []).length → gvn[sPos.getD i 0 + 4 + j]? = some (Cond.eq (.elem (svT i) (.int (Int32.ofNat j))) (.int ((strB.getD i []).getD j 0))) := by decide +kernel
theorem st_sm : ∀ i, i < 16 → (strB.getD i []).length < 2 ^ 31 := by decide +kernel
theorem st_all : strL.all (fun q => decide (q.2.2.2 < 33) && (decide (tmS q.2.2.2 = Term.string q.1 q.2.1) && decide (Cond.stringRef q.1 q.2.1 q.2.2.1 ∈ lw_tbl))) = true := by decide +kernel
theorem nc_all : ncL.all (fun q => decide (Cond.not (.castable q.1 q.2) ∈ gvn)) = true := by decide +kernel
def R_law : String := "MagnetColonyLaw"
theorem inst_all : ∀ ci, ci < 10 → Cond.instantiable (cls ci).1 (cls ci).2.2 ∈ wG := fun ci h => match ci, h with
  | 0, _ => inst_0
  | 1, _ => inst_1
  | 2, _ => inst_2
  | 3, _ => inst_3
  | 4, _ => inst_4
  | 5, _ => inst_5
  | 6, _ => inst_6
  | 7, _ => inst_7
  | 8, _ => inst_8
  | 9, _ => inst_9
section T72
variable {s : State} {b L : Nat} {xs : Nat → Int32}
/-- the String constants -/
theorem e_strs {args : Array Value} (hg : ∀ w ∈ gvn, w.before args s = true) {A : Nat → Prop} (hA : ∀ a : Nat, a < s.heap.size → ¬ A a) : ∃ f : Nat → Nat × Nat, ∀ i, (i < 33 → (tmS i).eval args s none [] s = some (.ref (f i).1)) ∧ (i < 16 → vk_S 1 [(strB.getD i []).length] [strB.getD i []] (fun _ => (f i).1) (fun _ => (f i).2) A s s.heap) := by
  refine Classical.axiomOfChoice (r := fun i (q : Nat × Nat) => (i < 33 → (tmS i).eval args s none [] s = some (.ref q.1)) ∧ (i < 16 → vk_S 1 [(strB.getD i []).length] [strB.getD i []] (fun _ => q.1) (fun _ => q.2) A s s.heap)) (fun i => ?_)
  by_cases h16 : i < 16
  · obtain ⟨adK, adV, h1, h2⟩ := vk_Sof (args := args) (s := s) (N := 1) (tm := fun _ => tmS i) (len := [(strB.getD i []).length]) (byt := [strB.getD i []]) (A := A)
      (fun k hk => by obtain rfl : k = 0 := by omega
                      exact st_sm i h16)
      (fun k _ => hg _ (List.mem_of_getElem? (st_ex i (by omega))))
      (fun k _ => hg _ (List.mem_of_getElem? (st_co i h16)))
      (fun k _ => hg _ (List.mem_of_getElem? (st_ar i h16)))
      (fun k hk => by obtain rfl : k = 0 := by omega
                      exact hg _ (List.mem_of_getElem? (st_le i h16)))
      (fun k hk j hj => by obtain rfl : k = 0 := by omega
                           exact hg _ (List.mem_of_getElem? (st_el i h16 j hj)))
      (fun k j hk hj hne => absurd (show k = j by omega) hne) hA
    refine ⟨(adK 0, adV 0), fun _ => h2 0 (by decide), fun _ => ⟨fun k hk => ?_, fun k j hk hj _ => by omega⟩⟩
    obtain rfl : k = 0 := by omega
    exact h1.1 0 (by decide)
  · by_cases h33 : i < 33
    · obtain ⟨a, c, cA, kA, q1, -⟩ := Cond.exactly_spec (args := args) (first := s) (o := none) (s := s) (idx := []) (t := tmS i) (cls := "java/lang/String") (hg _ (List.mem_of_getElem? (st_ex i h33)))
      exact ⟨(a, 0), fun _ => q1, fun h => absurd h h16⟩
    · exact ⟨(0, 0), fun h => absurd h h33, fun h => absurd h h16⟩
/-- the classes -/
theorem e_cls {args : Array Value} (hts : ∀ w ∈ wG, w.before args s = true) : ∃ f : Nat → ClassId × (Nat → Nat), ∀ ci, ci < 10 → u_Kn s (cls ci).1 (cls ci).2.1 (cls ci).2.2 (f ci).1 (f ci).2 := by
  refine Classical.axiomOfChoice (r := fun ci (q : ClassId × (Nat → Nat)) => ci < 10 → u_Kn s (cls ci).1 (cls ci).2.1 (cls ci).2.2 q.1 q.2) (fun ci => ?_)
  by_cases h : ci < 10
  · obtain ⟨cC, iS, hK⟩ := u_known hts (cls_in h) (hts _ (inst_all ci h))
    exact ⟨(cC, iS), fun _ => hK⟩
  · exact ⟨(default, fun _ => 0), fun q => absurd q h⟩
theorem e_arr {args : Array Value} {ty : FieldType} (h : (Cond.arrayClass ty).before args s = true) (hra : ∀ (U : State) (c : ClassId), U.vm.findClass ("[" ++ ty.toString) = some c → va_RA U c ty) : ∃ cA : ClassId, ArrOfT s cA ty ∧ va_RA s cA ty := by
  obtain ⟨c, k, comp, h1, h2, h3⟩ := Cond.arrayClass_spec h
  exact ⟨c, fun n z => ⟨fun k h => (by cases h), k, h2, comp, h3⟩, hra s c h1⟩
theorem e_arq {C : String} (h : va_AO C s) : ∃ cA : ClassId, ArrOfT s cA (.object C) ∧ va_RA s cA (.object C) := by
  obtain ⟨comp, c, k, h1, h2, h3, h4, h5⟩ := Cond.arrayOver_spec h
  exact ⟨c, fun n z => ⟨fun k h => (by cases h), k, h3, comp, h4⟩, k, comp, h3, h4, h1, h5⟩
end T72
theorem tb_ao1 : Cond.arrayOver (.object RX1) ∈ lw_tbl := by decide +kernel
theorem tb_ao2 : Cond.arrayOver (.object RX2) ∈ lw_tbl := by decide +kernel
theorem tb_us : Cond.laysStatic Bundle.tN "UNASSIGNED_STACK" Bundle.steD ∈ lw_tbl := by decide +kernel
theorem tb_ss : Cond.laysStatic Bundle.tN "SUPPRESSED_SENTINEL" Bundle.listD ∈ lw_tbl := by decide +kernel
theorem tb_ti : Cond.initialized Bundle.tN ∈ lw_tbl := by decide +kernel
theorem tb_cs : Cond.laysStatic RJ0 "COMPACT_STRINGS" "Z" ∈ lw_tbl := by decide +kernel
theorem tb_ci : Cond.initialized RJ0 ∈ lw_tbl := by decide +kernel
theorem tb_sf : Cond.laysStatic RJ3 "SIOOBE_FORMATTER" "Ljava/util/function/BiFunction;" ∈ lw_tbl := by decide +kernel
theorem tb_si : Cond.initialized RJ3 ∈ lw_tbl := by decide +kernel
theorem gv_us : Cond.isRef (.static Bundle.tN "UNASSIGNED_STACK" Bundle.steD) ∈ gvn := List.mem_of_getElem? (i := 4) (by decide +kernel)
theorem gv_ss : Cond.isRef (.static Bundle.tN "SUPPRESSED_SENTINEL" Bundle.listD) ∈ gvn := List.mem_of_getElem? (i := 5) (by decide +kernel)
theorem gv_cs : Cond.eq (.static RJ0 "COMPACT_STRINGS" "Z") (.int 1) ∈ gvn := List.mem_of_getElem? (i := 6) (by decide +kernel)
theorem gv_sf : Cond.isRef (.static RJ3 "SIOOBE_FORMATTER" "Ljava/util/function/BiFunction;") ∈ gvn := List.mem_of_getElem? (i := 7) (by decide +kernel)
/-- what holds at the entry -/
theorem CX_0 (l : Launch) (hflags : l.flags = flags0) {s : State} {b L : Nat} {xs : Nat → Int32} (hL : L ≤ 2048) (hts : ∀ w ∈ lw_tbl, w.before #[Value.ref b] s = true) (hX : va_X b L xs s s.heap) (hbl : b < s.heap.size) (hgv : (Jvm.Cond.and given_1 narrow_1).before #[Value.ref b] s = true) : ∃ G : gC, gl G = l ∧ gb G = b ∧ gL G = L ∧ gB G = s.heap.size ∧ CX G s s.heap := by
  have hg : ∀ w ∈ gvn, w.before #[Value.ref b] s = true := flat_of_before _ hgv
  have htG : ∀ w ∈ wG, w.before #[Value.ref b] s = true := fun w hw => hts w (List.mem_filter.mp hw).1
  have hA : ∀ a : Nat, a < s.heap.size → ¬ (fun q : Nat => s.heap.size ≤ q) a := fun a h => Nat.not_le.mpr h
  obtain ⟨fS, hS⟩ := e_strs hg hA
  obtain ⟨fC, hC⟩ := e_cls htG
  have o1 : va_AO RX1 s := va_AO.of (hts _ tb_ao1)
  have o2 : va_AO RX2 s := va_AO.of (hts _ tb_ao2)
  obtain ⟨c0, a0⟩ := e_arr (htG _ ar_int) (fun _ _ h => h)
  obtain ⟨c1, a1⟩ := e_arr (htG _ ar_char) (fun _ _ h => h)
  obtain ⟨c2, a2⟩ := e_arr (htG _ ar_long) (fun _ _ h => h)
  obtain ⟨c3, a3⟩ := e_arr (htG _ ar_double) (fun _ _ h => h)
  obtain ⟨c4, a4⟩ := e_arq o1
  obtain ⟨c5, a5⟩ := e_arq o2
  refine ⟨(l, (fun c => (fC c).1, fun c => (fC c).2), s.heap.size, fun t => [c0, c1, c2, c3, c4, c5].getD t c0, fun i => (fS i).1, fun i => (fS i).2, b, L, xs), rfl, rfl, rfl, rfl, ⟨fun c q hq => ?_, fun k q hk => ?_⟩, fun w hw ho => va_Nw.of (oW_tab ho) (hts w hw), fun q hq => ?_, fun q hq => ?_, vx_Zqof (hts _ tb_us) (hts _ tb_ti) (hg _ gv_us) hA, vx_Zqof (hts _ tb_ss) (hts _ tb_ti) (hg _ gv_ss) hA, fun i hi => (hS i).2 hi, va_Zof (hts _ tb_cs) (hts _ tb_ci) (va_eqi (hg _ gv_cs)) hA, va_Zqof (hts _ tb_sf) (hts _ tb_si) (hg _ gv_sf) hA, o1, o2, hX, hbl, hL, Nat.le_refl _, ?_⟩
  · have hc : c < 10 := (List.getElem?_eq_some_iff.mp hq).1
    have e : q = cls c := Option.some.inj (hq.symm.trans (cls_at hc))
    subst e
    exact hC c hc
  · match k, hk with
    | 0, hk => cases hk; exact a0
    | 1, hk => cases hk; exact a1
    | 2, hk => cases hk; exact a2
    | 3, hk => cases hk; exact a3
    | 4, hk => cases hk; exact a4
    | 5, hk => cases hk; exact a5
    | k + 6, hk => simp at hk
  · have h := List.all_eq_true.mp st_all q hq
    simp only [Bool.and_eq_true, decide_eq_true_eq] at h
    obtain ⟨h1, h2, h3⟩ := h
    have h4 := (hS q.2.2.2).1 h1
    rw [h2] at h4
    exact vk_R.of (hts _ h3) h4
  · have h := List.all_eq_true.mp nc_all q hq
    exact va_Nc.of (hg _ (of_decide_eq_true h))
  · show l.stackTraces = false
    unfold Launch.stackTraces
    rw [hflags]
    decide
def lw_P (b : Addr) (xs : List Int32) (args : Array Value) (s : State) : Prop := args = #[.ref b] ∧ s.IntsAt b xs ∧ xs.length ≤ 2048 ∧ (Jvm.Cond.and given_1 narrow_1).before args s = true

/-! THE FRAME: EV (a method's frame stands so, and comes to its end), EVM (a method's contract), a rule an instruction. The world w: the cells that the law has made. -/
abbrev gC : Type := Launch × va_G × Nat × (Nat → ClassId) × (Nat → Nat) × (Nat → Nat) × Nat × Nat × (Nat → Int32)
abbrev gl (G : gC) : Launch := G.1
abbrev gD (G : gC) : va_G := G.2.1
abbrev gB (G : gC) : Nat := G.2.2.1
abbrev gA (G : gC) : Nat → ClassId := G.2.2.2.1
abbrev gK (G : gC) : Nat → Nat := G.2.2.2.2.1
abbrev gV (G : gC) : Nat → Nat := G.2.2.2.2.2.1
abbrev gb (G : gC) : Nat := G.2.2.2.2.2.2.1
abbrev gL (G : gC) : Nat := G.2.2.2.2.2.2.2.1
abbrev gx (G : gC) : Nat → Int32 := G.2.2.2.2.2.2.2.2
abbrev gS (G : gC) : Nat → Prop := fun q => gB G ≤ q
abbrev vC : List vw_C := [(RX0, TX0, 4), (RX1, TX1, 10), (RX2, TX2, 4), (RX3, TX3, 1), (RX4, TX4, 3), (RX5, TX5, 2), (RX6, TX6, 8), (RX7, TX7, 5), (RX8, TX8, 14), (RX9, TX9, 20)]
abbrev gT (G : gC) : List (ClassId × FieldType) := [(gA G 0, .int), (gA G 1, .char), (gA G 2, .long), (gA G 3, .double), (gA G 4, .object RX1), (gA G 5, .object RX2)]
/-- the good words of the tables -/
def wG : List Cond := lw_tbl.filter goodWord
theorem wG_in {w : Cond} (h : w ∈ lw_tbl) (hg : goodWord w = true) : w ∈ wG := List.mem_filter.mpr ⟨h, hg⟩
theorem wG_good : GoodIn wG wG := fun _ hw => ⟨hw, good_of_word (List.mem_filter.mp hw).2⟩
/-- words that the tables alone decide and that stay -/
def oW : Cond → Bool
  | .castable .. => true
  | .declares .. => true
  | .methodLinkNest .. => true
  | w => w.onTables && w.keeps
theorem oW_tab {w : Cond} (h : oW w = true) : w.onTables = true := by
  cases w <;> first | rfl | (simp [oW, Cond.onTables, Cond.keeps, Cond.steady] at h; done) | (simp only [oW, Bool.and_eq_true] at h; exact h.1)
theorem oW_warm {w : Cond} {s U : State} (h : oW w = true) (hW : s.WarmedH U.vm) (hz : va_Nw w s) : va_Nw w U := by
  have key : (w.onTables && w.keeps) = true → va_Nw w U := fun h => by
    rw [Bool.and_eq_true] at h
    have h1 := Cond.onTables_warm (T := U) (args' := #[]) hW h.1 h.2 hz
    rwa [State.setVm_self] at h1
  cases w with
  | castable a b => exact va_Nw.warmC hW hz
  | declares x => exact va_Nw.warmD hW hz
  | methodLinkNest a i x h => exact va_Nw.warmM hW hz
  | _ => exact key h
def strB : List (List Int32) := [[109, 97, 103, 110, 101, 116, 32, 78, 32, 78, 80], [115, 116, 114, 101, 110, 103, 116, 104, 32, 68, 61, 78], [116, 117, 114, 110, 32, 68], [115, 104, 105, 102, 116, 32, 78], [109, 111, 118, 101], [100, 105, 103, 32, 68, 45, 68], [102, 105, 108, 108, 32, 78], [115, 101, 116, 116, 108, 101], [117, 114, 110], [105, 103], [105, 108, 108], [118, 101], [97, 103, 110, 101, 116], [116, 116, 108, 101], [105, 102, 116], [116, 114, 101, 110, 103, 116, 104]]
/-- string constants: class, index, text, number -/
def strL : List (String × Nat × String × Nat) := [("MagnetColony", 314, "there is no such index", 16), ("MagnetColony", 316, "an argument is out of range", 17), ("MagnetColony", 321, "the call is denied", 18), ("MagnetColony", 333, "there is no such magnet", 19), ("MagnetColony", 326, "the position is out of range", 20), ("MagnetColony", 328, "there is none", 21), ("MagnetColony", 338, "there is no such tunnel", 22), ("MagnetColony", 169, "there are no magnets", 23), ("MagnetColony", 177, "there are no tunnels", 24), ("MagnetColony", 193, "the text buffer is full", 25), ("MagnetColony$Text", 44, "magnet N NP", 0), ("MagnetColony$Text", 46, "strength D=N", 1), ("MagnetColony$Text", 48, "turn D", 2), ("MagnetColony$Text", 50, "shift N", 3), ("MagnetColony$Text", 52, "move", 4), ("MagnetColony$Text", 54, "dig D-D", 5), ("MagnetColony$Text", 56, "fill N", 6), ("MagnetColony$Text", 58, "settle", 7), ("MagnetColony", 214, "the text does not match the grammar", 26), ("MagnetColony", 251, "a command failed", 27), ("MagnetColony", 270, "the output line has no such index", 28), ("MagnetColony", 340, "nothing was denied yet", 29), ("MagnetColony", 291, "no denial with a cause", 30), ("MagnetColony", 297, "no change can be undone", 31), ("MagnetColony", 306, "there is no snapshot", 32), ("MagnetColonyModel", 182, "urn", 8), ("MagnetColonyModel", 191, "ig", 9), ("MagnetColonyModel", 193, "ill", 10), ("MagnetColonyModel", 195, "ve", 11), ("MagnetColonyModel", 197, "agnet", 12), ("MagnetColonyModel", 202, "ttle", 13), ("MagnetColonyModel", 204, "ift", 14), ("MagnetColonyModel", 206, "trength", 15)]
/-- pairs of exception classes of which the first isn't the second -/
def ncL : List (String × String) := [("java/lang/IllegalArgumentException", "java/lang/IndexOutOfBoundsException"), ("java/lang/UnsupportedOperationException", "java/lang/IllegalArgumentException"), ("java/lang/UnsupportedOperationException", "java/lang/IndexOutOfBoundsException"), ("java/util/NoSuchElementException", "java/lang/IllegalArgumentException"), ("java/util/NoSuchElementException", "java/lang/IndexOutOfBoundsException")]
/-- what holds of the tables and of the old heap in every frame -/
def CX (G : gC) (s : State) (H : Heap) : Prop :=
  va_K (gD G) vC (gT G) s ∧ (∀ w ∈ lw_tbl, oW w = true → va_Nw w s) ∧ (∀ q ∈ strL, vk_R q.1 q.2.1 q.2.2.1 (gK G q.2.2.2) s) ∧ (∀ q ∈ ncL, va_Nc q.1 q.2 s) ∧
  vx_Zq Bundle.tN "UNASSIGNED_STACK" Bundle.steD (gS G) s H ∧ vx_Zq Bundle.tN "SUPPRESSED_SENTINEL" Bundle.listD (gS G) s H ∧
  (∀ i, i < 16 → vk_S 1 [(strB.getD i []).length] [strB.getD i []] (fun _ => gK G i) (fun _ => gV G i) (gS G) s H) ∧
  va_Z RJ0 "COMPACT_STRINGS" "Z" (.int 1) (gS G) s H ∧ va_Zq RJ3 "SIOOBE_FORMATTER" "Ljava/util/function/BiFunction;" (gS G) s H ∧
  va_AO RX1 s ∧ va_AO RX2 s ∧ va_X (gb G) (gL G) (gx G) s H ∧ gb G < gB G ∧ gL G ≤ 2048 ∧ gB G ≤ H.size ∧ (gl G).stackTraces = false
theorem CX.moved {G : gC} {s U : State} {H H1 : Heap} (h : CX G s H) (hW : s.WarmedH U.vm) (hz : H.size ≤ H1.size) (hq : ∀ a : Nat, a < H.size → ¬ gS G a → H1[a]? = H[a]?) : CX G U H1 := by
  obtain ⟨h1, h2, h3, h4, h5, h6, h7, h8, h9, h10, h11, h12, h13, h14, h15, h16⟩ := h
  refine ⟨h1.moved hW.alike, fun w hw ho => oW_warm ho hW (h2 w hw ho), fun q hq => vk_R.warm hW (h3 q hq), fun q hq => (h4 q hq).moved hW.alike, (h5.kept hq).moved hW.alike, (h6.kept hq).moved hW.alike, fun i hi => ((h7 i hi).kept hq).moved hW.alike, (h8.kept hq).moved hW.alike, (h9.kept hq).moved hW.alike, h10.moved hW.alike, h11.moved hW.alike, ?_, h13, h14, Nat.le_trans h15 hz, h16⟩
  refine (h12.kept ?_).moved hW.alike
  obtain ⟨scr, e1, -⟩ := h12
  exact hq _ (Array.getElem?_eq_some_iff.mp e1).1 (Nat.not_le.mpr h13)
/-- a method: name, bytes, locals, answer's type, rows of its exception table -/
abbrev MD : Type := MethodName × ByteArray × Nat × Option FieldType × List (Nat × Nat × Nat × Nat)
def cwd (m : MD) : Cond := match m.2.2.2.2 with
  | [] => .code m.1 m.2.1 m.2.2.1 m.2.2.2.1
  | a :: l => .codeWith m.1 m.2.1 m.2.2.1 m.2.2.2.1 (a :: l)
abbrev PQ : Type := Option Value ⊕ String → va_W → Prop
abbrev QF : Type := List Frame → Array Value → State → State → Prop
def rmK (d : Nat) (K : Nat × Nat) : Room := { frames := d + 12, cells := K.1, slots := K.2, locals := 80 * d + 200 }
def eQ (G : gC) (P : PQ) : Array Value → State → Outcome → State → Prop := fun _ st oc t => (∃ (v : Option Value) (w' : va_W), oc = .returned v ∧ P (.inl v) w' ∧ va_P (gD G) vC w' t.heap ∧ va_D (gS G) w') ∧ va_F (gS G) st t
def eX (G : gC) (P : PQ) : String → State → State → Prop := fun E st t => (∃ w' : va_W, P (.inr E) w' ∧ va_P (gD G) vC w' t.heap ∧ va_D (gS G) w') ∧ va_F (gS G) st t
def ePre (G : gC) (w : va_W) : State → Prop := fun U => CX G U U.heap ∧ va_P (gD G) vC w U.heap ∧ va_D (gS G) w
/-- a method's contract: from the world w, with these arguments, it ends as P says, at depth d, making K -/
def EVM (G : gC) (d : Nat) (m : MD) (K : Nat × Nat) (args : List Value) (w : va_W) (P : PQ) : Prop :=
  vx_Met (gl G) m.1 (cwd m :: wG) (rmK d K) (va_Pc args (ePre G w)) (eQ G P) (eX G P) K.1 K.2 (gS G)
/-- the locals, by their places -/
def lvp (ls : Array Slot) (n : Nat) (L : List (Option Value)) : Prop := ls.size = n ∧ lv_wf ls ∧ ∀ (i : Nat) (v : Value), L[i]? = some (some v) → ls[i]? = some (.val v)
/-- what a frame stands on -/
def FR (G : gC) (m : MD) (p : Program) (s : State) (mid : MethodId) (args : Array Value) (meth : Method) (c : Code) : Prop :=
  p.tables.exec = Jvm.exec ∧ c.code = m.2.1 ∧ meth.sig.returnType = m.2.2.2.1 ∧ c.maxLocals = m.2.2.1 ∧ s.vm.findClass m.1.cls = some mid.cls ∧ (∀ w ∈ wG, w.before args s = true) ∧ meth.locks = false ∧ CX G s s.heap ∧ c.exceptionTable.toList = tableOf m.2.2.2.2 ∧ meth.name = m.1.name
/-- the frame at pc, with locals L and operands st, in the world w, comes to its end -/
def EV (G : gC) (R : Room) (m : MD) (Qf : QF) (u : Nat × Nat) (pc : Nat) (L : List (Option Value)) (st : List Value) (w : va_W) : Prop :=
  ∀ (p : Program) (e : Env) (s : State) (mid : MethodId) (args : Array Value) (below : List Frame) (meth : Method) (c : Code) (H : Heap) (locs : List Loc) (ls : Array Slot),
    FR G m p s mid args meth c → va_P (gD G) vC w H → va_D (gS G) w → va_S (gS G) s.heap H locs → lvp ls m.2.2.1 L → W p (gl G) e R s mid args below meth c H locs u.1 u.2 (Qf below args s) (F0 mid pc ls st)
/-- .. with an exception over it, of the class E -/
def EX (G : gC) (R : Room) (m : MD) (Qf : QF) (u : Nat × Nat) (pc : Nat) (L : List (Option Value)) (st : List Value) (w : va_W) (E : String) : Prop :=
  ∀ (p : Program) (e : Env) (s : State) (mid : MethodId) (args : Array Value) (below : List Frame) (meth : Method) (c : Code) (H : Heap) (locs : List Loc) (ls : Array Slot) (q : Addr) (ce : Cell),
    FR G m p s mid args meth c → va_P (gD G) vC w H → va_D (gS G) w → va_S (gS G) s.heap H locs → lvp ls m.2.2.1 L → H[q]? = some ce → ce.vm = .none → s.vm.findClass E = some ce.cls → vx_W p (gl G) e R s mid args below meth c H locs u.1 u.2 (Qf below args s) (F0 mid pc ls st) q
def mQ (G : gC) (P : PQ) (K : Nat × Nat) : QF := fun below args s => vx_MQ below (eQ G P) (eX G P) args s K.1 K.2 (gS G)
/-! locals -/
def clr (L : List (Option Value)) (i : Nat) : List (Option Value) := match i with
  | 0 => L
  | k + 1 => match L[k]? with
    | some (some v) => match v.category with
      | 2 => L.set k none
      | _ => L
    | _ => L
def stp (L : List (Option Value)) (i : Nat) (v : Value) : List (Option Value) := (clr L i).set i (some v)
def stp2 (L : List (Option Value)) (i : Nat) (v : Value) : List (Option Value) := ((clr L i).set i (some v)).set (i + 1) none
def ent (L : List (Option Value)) : List (Nat × Value) := (List.range L.length).filterMap (fun i => match L[i]? with | some (some v) => some (i, v) | _ => none)
theorem ent_mem {L : List (Option Value)} {i : Nat} {v : Value} : (i, v) ∈ ent L ↔ L[i]? = some (some v) := by
  constructor
  · intro h
    obtain ⟨j, -, hj⟩ := List.mem_filterMap.mp h
    cases hL : L[j]? with
    | none => rw [hL] at hj; cases hj
    | some a =>
      cases a with
      | none => rw [hL] at hj; cases hj
      | some b => rw [hL] at hj; cases hj; exact hL
  · intro h
    refine List.mem_filterMap.mpr ⟨i, List.mem_range.mpr (List.getElem?_eq_some_iff.mp h).1, ?_⟩
    rw [h]
theorem lvp.has {ls : Array Slot} {n : Nat} {L : List (Option Value)} (h : lvp ls n L) : lv_has ls n (ent L) := ⟨h.1, h.2.1, fun q hq => h.2.2 q.1 q.2 (ent_mem.mp hq)⟩
theorem lvp.at {ls : Array Slot} {n : Nat} {L : List (Option Value)} (h : lvp ls n L) {i : Nat} {v : Value} (hi : L[i]? = some (some v)) : ls[i]? = some (.val v) := h.2.2 i v hi
theorem clr_get {L : List (Option Value)} {i j : Nat} {v : Value} (h : (clr L i)[j]? = some (some v)) : L[j]? = some (some v) ∧ ¬ (j + 1 = i ∧ v.category = 2) := by
  cases i with
  | zero => exact ⟨h, fun q => by omega⟩
  | succ k =>
    unfold clr at h
    dsimp only at h
    split at h
    · rename_i x hx
      split at h
      · rename_i hc
        by_cases hj : j = k
        · subst hj
          rw [List.getElem?_set_self (List.getElem?_eq_some_iff.mp hx).1] at h
          cases h
        · rw [List.getElem?_set_ne (Ne.symm hj)] at h
          exact ⟨h, fun q => hj (by omega)⟩
      · rename_i hc
        refine ⟨h, fun q => hc ?_⟩
        have e : j = k := by omega
        subst e
        rw [hx] at h
        cases h
        exact q.2
    · rename_i hx
      refine ⟨h, fun q => ?_⟩
      have e : j = k := by omega
      subst e
      exact hx v h
theorem lvp.set1 {ls' : Array Slot} {n i : Nat} {L : List (Option Value)} {v : Value} (h : lv_has ls' n ((i, v) :: (ent L).filter (fun q => !(q.1 == i) && !(q.1 + 1 == i && q.2.category == 2)))) : lvp ls' n (stp L i v) := by
  refine ⟨h.1, h.2.1, fun j x hj => ?_⟩
  unfold stp at hj
  by_cases e : j = i
  · subst e
    have hl : j < (clr L j).length := by
      have := (List.getElem?_eq_some_iff.mp hj).1
      simpa using this
    rw [List.getElem?_set_self hl] at hj
    cases hj
    exact h.2.2 _ List.mem_cons_self
  · rw [List.getElem?_set_ne (Ne.symm e)] at hj
    obtain ⟨h1, h2⟩ := clr_get hj
    refine h.2.2 (j, x) (List.mem_cons_of_mem _ (List.mem_filter.mpr ⟨ent_mem.mpr h1, ?_⟩))
    simp only [Bool.and_eq_true, Bool.not_eq_true', beq_eq_false_iff_ne, ne_eq, Bool.and_eq_false_iff]
    exact ⟨e, by by_cases z : j + 1 = i; exact Or.inr (fun w => h2 ⟨z, w⟩); exact Or.inl z⟩
theorem lvp.set2 {ls' : Array Slot} {n i : Nat} {L : List (Option Value)} {v : Value} (h : lv_has ls' n ((i, v) :: (ent L).filter (fun q => !(q.1 == i) && (!(q.1 == i + 1) && !(q.1 + 1 == i && q.2.category == 2))))) : lvp ls' n (stp2 L i v) := by
  refine ⟨h.1, h.2.1, fun j x hj => ?_⟩
  unfold stp2 at hj
  by_cases e1 : j = i + 1
  · subst e1
    by_cases hl : i + 1 < ((clr L i).set i (some v)).length
    · rw [List.getElem?_set_self hl] at hj; cases hj
    · rw [List.getElem?_eq_none (by simpa using hl)] at hj; cases hj
  · rw [List.getElem?_set_ne (Ne.symm e1)] at hj
    by_cases e : j = i
    · subst e
      have hl : j < (clr L j).length := by
        have := (List.getElem?_eq_some_iff.mp hj).1
        simpa using this
      rw [List.getElem?_set_self hl] at hj
      cases hj
      exact h.2.2 _ List.mem_cons_self
    · rw [List.getElem?_set_ne (Ne.symm e)] at hj
      obtain ⟨h1, h2⟩ := clr_get hj
      refine h.2.2 (j, x) (List.mem_cons_of_mem _ (List.mem_filter.mpr ⟨ent_mem.mpr h1, ?_⟩))
      simp only [Bool.and_eq_true, Bool.not_eq_true', beq_eq_false_iff_ne, ne_eq, Bool.and_eq_false_iff]
      exact ⟨e, e1, by by_cases z : j + 1 = i; exact Or.inr (fun w => h2 ⟨z, w⟩); exact Or.inl z⟩

section EVR
variable {G : gC} {R : Room} {m : MD} {Qf : QF} {u : Nat × Nat} {pc pc' : Nat} {L : List (Option Value)} {st : List Value} {w : va_W}
theorem e_iconst {n : Int} {v : Int32} (hd : decode m.2.1 pc = .ok (.iconst n, 1)) (hp : pc + 1 = pc') (hv : Int32.ofInt n = v) (k : EV G R m Qf u pc' L (.int v :: st) w) : EV G R m Qf u pc L (st) w := by
  subst hp
  intro p e s mid args below meth c H locs ls F hP hD hS hl
  exact lv_iconst F.1 F.2.1 hd hv (k p e s mid args below meth c H locs ls F hP hD hS hl)
theorem e_bipush {n : Int} {v : Int32} (hd : decode m.2.1 pc = .ok (.bipush n, 2)) (hp : pc + 2 = pc') (hv : (Int8.ofInt n).toInt32 = v) (k : EV G R m Qf u pc' L (.int v :: st) w) : EV G R m Qf u pc L (st) w := by
  subst hp
  intro p e s mid args below meth c H locs ls F hP hD hS hl
  exact lv_bipush F.1 F.2.1 hd hv (k p e s mid args below meth c H locs ls F hP hD hS hl)
theorem e_sipush {n : Int} {v : Int32} (hd : decode m.2.1 pc = .ok (.sipush n, 3)) (hp : pc + 3 = pc') (hv : (Int16.ofInt n).toInt32 = v) (k : EV G R m Qf u pc' L (.int v :: st) w) : EV G R m Qf u pc L (st) w := by
  subst hp
  intro p e s mid args below meth c H locs ls F hP hD hS hl
  exact lv_sipush F.1 F.2.1 hd hv (k p e s mid args below meth c H locs ls F hP hD hS hl)
theorem e_lconst {n : Fin 2} {v : Int64} (hd : decode m.2.1 pc = .ok (.lconst n, 1)) (hp : pc + 1 = pc') (hv : Int64.ofNat (n : Nat) = v) (k : EV G R m Qf u pc' L (.long v :: st) w) : EV G R m Qf u pc L (st) w := by
  subst hp
  intro p e s mid args below meth c H locs ls F hP hD hS hl
  exact lv_lconst F.1 F.2.1 hd hv (k p e s mid args below meth c H locs ls F hP hD hS hl)
theorem e_iload_n {k4 : Fin 4} {i : Nat} {x : Int32} (hd : decode m.2.1 pc = .ok (.iload_n k4, 1)) (hp : pc + 1 = pc') (hi : (k4 : Nat) = i) (hL : L[i]? = some (some (.int x))) (k : EV G R m Qf u pc' L (.int x :: st) w) : EV G R m Qf u pc L (st) w := by
  subst hp
  intro p e s mid args below meth c H locs ls F hP hD hS hl
  exact lv_iload_n F.1 F.2.1 hd hi (hl.at hL) (k p e s mid args below meth c H locs ls F hP hD hS hl)
theorem e_iload {i : Nat} {x : Int32} (hd : decode m.2.1 pc = .ok (.iload i, 2)) (hp : pc + 2 = pc') (hL : L[i]? = some (some (.int x))) (k : EV G R m Qf u pc' L (.int x :: st) w) : EV G R m Qf u pc L (st) w := by
  subst hp
  intro p e s mid args below meth c H locs ls F hP hD hS hl
  exact lv_iload F.1 F.2.1 hd (hl.at hL) (k p e s mid args below meth c H locs ls F hP hD hS hl)
theorem e_fload_n {k4 : Fin 4} {i : Nat} {x : UInt32} (hd : decode m.2.1 pc = .ok (.fload_n k4, 1)) (hp : pc + 1 = pc') (hi : (k4 : Nat) = i) (hL : L[i]? = some (some (.float x))) (k : EV G R m Qf u pc' L (.float x :: st) w) : EV G R m Qf u pc L (st) w := by
  subst hp
  intro p e s mid args below meth c H locs ls F hP hD hS hl
  exact lv_fload_n F.1 F.2.1 hd hi (hl.at hL) (k p e s mid args below meth c H locs ls F hP hD hS hl)
theorem e_fload {i : Nat} {x : UInt32} (hd : decode m.2.1 pc = .ok (.fload i, 2)) (hp : pc + 2 = pc') (hL : L[i]? = some (some (.float x))) (k : EV G R m Qf u pc' L (.float x :: st) w) : EV G R m Qf u pc L (st) w := by
  subst hp
  intro p e s mid args below meth c H locs ls F hP hD hS hl
  exact lv_fload F.1 F.2.1 hd (hl.at hL) (k p e s mid args below meth c H locs ls F hP hD hS hl)
theorem e_dload_n {k4 : Fin 4} {i : Nat} {x : UInt64} (hd : decode m.2.1 pc = .ok (.dload_n k4, 1)) (hp : pc + 1 = pc') (hi : (k4 : Nat) = i) (hL : L[i]? = some (some (.double x))) (k : EV G R m Qf u pc' L (.double x :: st) w) : EV G R m Qf u pc L (st) w := by
  subst hp
  intro p e s mid args below meth c H locs ls F hP hD hS hl
  exact lv_dload_n F.1 F.2.1 hd hi (hl.at hL) (k p e s mid args below meth c H locs ls F hP hD hS hl)
theorem e_dload {i : Nat} {x : UInt64} (hd : decode m.2.1 pc = .ok (.dload i, 2)) (hp : pc + 2 = pc') (hL : L[i]? = some (some (.double x))) (k : EV G R m Qf u pc' L (.double x :: st) w) : EV G R m Qf u pc L (st) w := by
  subst hp
  intro p e s mid args below meth c H locs ls F hP hD hS hl
  exact lv_dload F.1 F.2.1 hd (hl.at hL) (k p e s mid args below meth c H locs ls F hP hD hS hl)
theorem e_aload_n {k4 : Fin 4} {i : Nat} {x : Nat} (hd : decode m.2.1 pc = .ok (.aload_n k4, 1)) (hp : pc + 1 = pc') (hi : (k4 : Nat) = i) (hL : L[i]? = some (some (.ref x))) (k : EV G R m Qf u pc' L (.ref x :: st) w) : EV G R m Qf u pc L (st) w := by
  subst hp
  intro p e s mid args below meth c H locs ls F hP hD hS hl
  exact lv_aload_n F.1 F.2.1 hd hi (hl.at hL) (k p e s mid args below meth c H locs ls F hP hD hS hl)
theorem e_aload {i : Nat} {x : Nat} (hd : decode m.2.1 pc = .ok (.aload i, 2)) (hp : pc + 2 = pc') (hL : L[i]? = some (some (.ref x))) (k : EV G R m Qf u pc' L (.ref x :: st) w) : EV G R m Qf u pc L (st) w := by
  subst hp
  intro p e s mid args below meth c H locs ls F hP hD hS hl
  exact lv_aload F.1 F.2.1 hd (hl.at hL) (k p e s mid args below meth c H locs ls F hP hD hS hl)
theorem e_istore_n {k4 : Fin 4} {i : Nat} {x : Int32} {L' : List (Option Value)} (hd : decode m.2.1 pc = .ok (.istore_n k4, 1)) (hp : pc + 1 = pc') (hi : (k4 : Nat) = i) (hn : i < m.2.2.1) (hL : stp L i (.int x) = L') (k : EV G R m Qf u pc' L' st w) : EV G R m Qf u pc L (.int x :: st) w := by
  subst hL
  subst hp
  intro p e s mid args below meth c H locs ls F hP hD hS hl
  exact lv_istore_n F.1 F.2.1 hd hi hl.has hn rfl (fun ls1 h1 => k p e s mid args below meth c H locs ls1 F hP hD hS (lvp.set1 h1))
theorem e_istore {i : Nat} {x : Int32} {L' : List (Option Value)} (hd : decode m.2.1 pc = .ok (.istore i, 2)) (hp : pc + 2 = pc') (hn : i < m.2.2.1) (hL : stp L i (.int x) = L') (k : EV G R m Qf u pc' L' st w) : EV G R m Qf u pc L (.int x :: st) w := by
  subst hL
  subst hp
  intro p e s mid args below meth c H locs ls F hP hD hS hl
  exact lv_istore F.1 F.2.1 hd hl.has hn rfl (fun ls1 h1 => k p e s mid args below meth c H locs ls1 F hP hD hS (lvp.set1 h1))
theorem e_fstore_n {k4 : Fin 4} {i : Nat} {x : UInt32} {L' : List (Option Value)} (hd : decode m.2.1 pc = .ok (.fstore_n k4, 1)) (hp : pc + 1 = pc') (hi : (k4 : Nat) = i) (hn : i < m.2.2.1) (hL : stp L i (.float x) = L') (k : EV G R m Qf u pc' L' st w) : EV G R m Qf u pc L (.float x :: st) w := by
  subst hL
  subst hp
  intro p e s mid args below meth c H locs ls F hP hD hS hl
  exact lv_fstore_n F.1 F.2.1 hd hi hl.has hn rfl (fun ls1 h1 => k p e s mid args below meth c H locs ls1 F hP hD hS (lvp.set1 h1))
theorem e_fstore {i : Nat} {x : UInt32} {L' : List (Option Value)} (hd : decode m.2.1 pc = .ok (.fstore i, 2)) (hp : pc + 2 = pc') (hn : i < m.2.2.1) (hL : stp L i (.float x) = L') (k : EV G R m Qf u pc' L' st w) : EV G R m Qf u pc L (.float x :: st) w := by
  subst hL
  subst hp
  intro p e s mid args below meth c H locs ls F hP hD hS hl
  exact lv_fstore F.1 F.2.1 hd hl.has hn rfl (fun ls1 h1 => k p e s mid args below meth c H locs ls1 F hP hD hS (lvp.set1 h1))
theorem e_astore_n {k4 : Fin 4} {i : Nat} {x : Nat} {L' : List (Option Value)} (hd : decode m.2.1 pc = .ok (.astore_n k4, 1)) (hp : pc + 1 = pc') (hi : (k4 : Nat) = i) (hn : i < m.2.2.1) (hL : stp L i (.ref x) = L') (k : EV G R m Qf u pc' L' st w) : EV G R m Qf u pc L (.ref x :: st) w := by
  subst hL
  subst hp
  intro p e s mid args below meth c H locs ls F hP hD hS hl
  exact lv_astore_n F.1 F.2.1 hd hi hl.has hn rfl (fun ls1 h1 => k p e s mid args below meth c H locs ls1 F hP hD hS (lvp.set1 h1))
theorem e_astore {i : Nat} {x : Nat} {L' : List (Option Value)} (hd : decode m.2.1 pc = .ok (.astore i, 2)) (hp : pc + 2 = pc') (hn : i < m.2.2.1) (hL : stp L i (.ref x) = L') (k : EV G R m Qf u pc' L' st w) : EV G R m Qf u pc L (.ref x :: st) w := by
  subst hL
  subst hp
  intro p e s mid args below meth c H locs ls F hP hD hS hl
  exact lv_astore F.1 F.2.1 hd hl.has hn rfl (fun ls1 h1 => k p e s mid args below meth c H locs ls1 F hP hD hS (lvp.set1 h1))
theorem e_dstore_n {k4 : Fin 4} {i : Nat} {x : UInt64} {L' : List (Option Value)} (hd : decode m.2.1 pc = .ok (.dstore_n k4, 1)) (hp : pc + 1 = pc') (hi : (k4 : Nat) = i) (hn : i + 1 < m.2.2.1) (hL : stp2 L i (.double x) = L') (k : EV G R m Qf u pc' L' st w) : EV G R m Qf u pc L (.double x :: st) w := by
  subst hL
  subst hp
  intro p e s mid args below meth c H locs ls F hP hD hS hl
  exact lv_dstore_n F.1 F.2.1 hd hi hl.has hn rfl (fun ls1 h1 => k p e s mid args below meth c H locs ls1 F hP hD hS (lvp.set2 h1))
theorem e_dstore {i : Nat} {x : UInt64} {L' : List (Option Value)} (hd : decode m.2.1 pc = .ok (.dstore i, 2)) (hp : pc + 2 = pc') (hn : i + 1 < m.2.2.1) (hL : stp2 L i (.double x) = L') (k : EV G R m Qf u pc' L' st w) : EV G R m Qf u pc L (.double x :: st) w := by
  subst hL
  subst hp
  intro p e s mid args below meth c H locs ls F hP hD hS hl
  exact lv_dstore F.1 F.2.1 hd hl.has hn rfl (fun ls1 h1 => k p e s mid args below meth c H locs ls1 F hP hD hS (lvp.set2 h1))
theorem e_iinc {i : Nat} {n : Int} {x v : Int32} {L' : List (Option Value)} (hd : decode m.2.1 pc = .ok (.iinc i n, 3)) (hp : pc + 3 = pc') (hL0 : L[i]? = some (some (.int x))) (hv : x + Int32.ofInt n = v) (hn : i < m.2.2.1) (hL : stp L i (.int v) = L') (k : EV G R m Qf u pc' L' st w) : EV G R m Qf u pc L st w := by
  subst hL
  subst hp
  intro p e s mid args below meth c H locs ls F hP hD hS hl
  obtain ⟨k0, hk0⟩ := List.getElem?_of_mem (ent_mem.mpr hL0)
  exact lv_iinc (k := k0) F.1 F.2.1 hd hl.has hk0 hv hn rfl (fun ls1 h1 => k p e s mid args below meth c H locs ls1 F hP hD hS (lvp.set1 h1))
theorem e_iadd {x y : Int32} (hd : decode m.2.1 pc = .ok (.iadd, 1)) (hp : pc + 1 = pc') (k : EV G R m Qf u pc' L (.int (x + y) :: st) w) : EV G R m Qf u pc L (.int y :: .int x :: st) w := by
  subst hp
  intro p e s mid args below meth c H locs ls F hP hD hS hl
  exact lv_iadd F.1 F.2.1 hd (k p e s mid args below meth c H locs ls F hP hD hS hl)
theorem e_isub {x y : Int32} (hd : decode m.2.1 pc = .ok (.isub, 1)) (hp : pc + 1 = pc') (k : EV G R m Qf u pc' L (.int (x - y) :: st) w) : EV G R m Qf u pc L (.int y :: .int x :: st) w := by
  subst hp
  intro p e s mid args below meth c H locs ls F hP hD hS hl
  exact lv_isub F.1 F.2.1 hd (k p e s mid args below meth c H locs ls F hP hD hS hl)
theorem e_imul {x y : Int32} (hd : decode m.2.1 pc = .ok (.imul, 1)) (hp : pc + 1 = pc') (k : EV G R m Qf u pc' L (.int (x * y) :: st) w) : EV G R m Qf u pc L (.int y :: .int x :: st) w := by
  subst hp
  intro p e s mid args below meth c H locs ls F hP hD hS hl
  exact lv_imul F.1 F.2.1 hd (k p e s mid args below meth c H locs ls F hP hD hS hl)
theorem e_iand {x y : Int32} (hd : decode m.2.1 pc = .ok (.iand, 1)) (hp : pc + 1 = pc') (k : EV G R m Qf u pc' L (.int (x &&& y) :: st) w) : EV G R m Qf u pc L (.int y :: .int x :: st) w := by
  subst hp
  intro p e s mid args below meth c H locs ls F hP hD hS hl
  exact lv_iand F.1 F.2.1 hd (k p e s mid args below meth c H locs ls F hP hD hS hl)
theorem e_ior {x y : Int32} (hd : decode m.2.1 pc = .ok (.ior, 1)) (hp : pc + 1 = pc') (k : EV G R m Qf u pc' L (.int (x ||| y) :: st) w) : EV G R m Qf u pc L (.int y :: .int x :: st) w := by
  subst hp
  intro p e s mid args below meth c H locs ls F hP hD hS hl
  exact lv_ior F.1 F.2.1 hd (k p e s mid args below meth c H locs ls F hP hD hS hl)
theorem e_ixor {x y : Int32} (hd : decode m.2.1 pc = .ok (.ixor, 1)) (hp : pc + 1 = pc') (k : EV G R m Qf u pc' L (.int (x ^^^ y) :: st) w) : EV G R m Qf u pc L (.int y :: .int x :: st) w := by
  subst hp
  intro p e s mid args below meth c H locs ls F hP hD hS hl
  exact lv_ixor F.1 F.2.1 hd (k p e s mid args below meth c H locs ls F hP hD hS hl)
theorem e_ishl {x y : Int32} (hd : decode m.2.1 pc = .ok (.ishl, 1)) (hp : pc + 1 = pc') (k : EV G R m Qf u pc' L (.int (x <<< (y &&& 31)) :: st) w) : EV G R m Qf u pc L (.int y :: .int x :: st) w := by
  subst hp
  intro p e s mid args below meth c H locs ls F hP hD hS hl
  exact lv_ishl F.1 F.2.1 hd (k p e s mid args below meth c H locs ls F hP hD hS hl)
theorem e_ishr {x y : Int32} (hd : decode m.2.1 pc = .ok (.ishr, 1)) (hp : pc + 1 = pc') (k : EV G R m Qf u pc' L (.int (x >>> (y &&& 31)) :: st) w) : EV G R m Qf u pc L (.int y :: .int x :: st) w := by
  subst hp
  intro p e s mid args below meth c H locs ls F hP hD hS hl
  exact lv_ishr F.1 F.2.1 hd (k p e s mid args below meth c H locs ls F hP hD hS hl)
theorem e_iushr {x y : Int32} (hd : decode m.2.1 pc = .ok (.iushr, 1)) (hp : pc + 1 = pc') (k : EV G R m Qf u pc' L (.int (x.toUInt32 >>> (y.toUInt32 &&& Int32.toUInt32 31)).toInt32 :: st) w) : EV G R m Qf u pc L (.int y :: .int x :: st) w := by
  subst hp
  intro p e s mid args below meth c H locs ls F hP hD hS hl
  exact lv_iushr F.1 F.2.1 hd rfl (k p e s mid args below meth c H locs ls F hP hD hS hl)
theorem e_idiv {x y : Int32} (hd : decode m.2.1 pc = .ok (.idiv, 1)) (hp : pc + 1 = pc') (hy : ¬ y = 0) (k : EV G R m Qf u pc' L (.int (x / y) :: st) w) : EV G R m Qf u pc L (.int y :: .int x :: st) w := by
  subst hp
  intro p e s mid args below meth c H locs ls F hP hD hS hl
  exact lv_idiv F.1 F.2.1 hd hy (k p e s mid args below meth c H locs ls F hP hD hS hl)
theorem e_irem {x y : Int32} (hd : decode m.2.1 pc = .ok (.irem, 1)) (hp : pc + 1 = pc') (hy : ¬ y = 0) (k : EV G R m Qf u pc' L (.int (x - x / y * y) :: st) w) : EV G R m Qf u pc L (.int y :: .int x :: st) w := by
  subst hp
  intro p e s mid args below meth c H locs ls F hP hD hS hl
  exact lv_irem F.1 F.2.1 hd hy (k p e s mid args below meth c H locs ls F hP hD hS hl)
theorem e_ineg {x : Int32} (hd : decode m.2.1 pc = .ok (.ineg, 1)) (hp : pc + 1 = pc') (k : EV G R m Qf u pc' L (.int (-x) :: st) w) : EV G R m Qf u pc L (.int x :: st) w := by
  subst hp
  intro p e s mid args below meth c H locs ls F hP hD hS hl
  exact lv_ineg F.1 F.2.1 hd (k p e s mid args below meth c H locs ls F hP hD hS hl)
theorem e_i2l {x : Int32} (hd : decode m.2.1 pc = .ok (.i2l, 1)) (hp : pc + 1 = pc') (k : EV G R m Qf u pc' L (.long x.toInt64 :: st) w) : EV G R m Qf u pc L (.int x :: st) w := by
  subst hp
  intro p e s mid args below meth c H locs ls F hP hD hS hl
  exact lv_i2l F.1 F.2.1 hd rfl (k p e s mid args below meth c H locs ls F hP hD hS hl)
theorem e_i2c {x : Int32} (hd : decode m.2.1 pc = .ok (.i2c, 1)) (hp : pc + 1 = pc') (k : EV G R m Qf u pc' L (.int (x.toUInt32 % 65536).toInt32 :: st) w) : EV G R m Qf u pc L (.int x :: st) w := by
  subst hp
  intro p e s mid args below meth c H locs ls F hP hD hS hl
  exact lv_i2c F.1 F.2.1 hd rfl (k p e s mid args below meth c H locs ls F hP hD hS hl)
theorem e_i2f {x : Int32} (hd : decode m.2.1 pc = .ok (.i2f, 1)) (hp : pc + 1 = pc') (k : EV G R m Qf u pc' L (.float (FP.i2f x) :: st) w) : EV G R m Qf u pc L (.int x :: st) w := by
  subst hp
  intro p e s mid args below meth c H locs ls F hP hD hS hl
  exact lv_i2f F.1 F.2.1 hd (k p e s mid args below meth c H locs ls F hP hD hS hl)
theorem e_i2d {x : Int32} (hd : decode m.2.1 pc = .ok (.i2d, 1)) (hp : pc + 1 = pc') (k : EV G R m Qf u pc' L (.double (FP.i2d x) :: st) w) : EV G R m Qf u pc L (.int x :: st) w := by
  subst hp
  intro p e s mid args below meth c H locs ls F hP hD hS hl
  exact lv_i2d F.1 F.2.1 hd (k p e s mid args below meth c H locs ls F hP hD hS hl)
theorem e_f2i {x : UInt32} (hd : decode m.2.1 pc = .ok (.f2i, 1)) (hp : pc + 1 = pc') (k : EV G R m Qf u pc' L (.int (FP.f2i x) :: st) w) : EV G R m Qf u pc L (.float x :: st) w := by
  subst hp
  intro p e s mid args below meth c H locs ls F hP hD hS hl
  exact lv_f2i F.1 F.2.1 hd (k p e s mid args below meth c H locs ls F hP hD hS hl)
theorem e_f2d {x : UInt32} (hd : decode m.2.1 pc = .ok (.f2d, 1)) (hp : pc + 1 = pc') (hne : vf_n64 (FP.f2d x)) (k : EV G R m Qf u pc' L (.double (FP.f2d x) :: st) w) : EV G R m Qf u pc L (.float x :: st) w := by
  subst hp
  intro p e s mid args below meth c H locs ls F hP hD hS hl
  exact lv_f2d F.1 F.2.1 hd hne (k p e s mid args below meth c H locs ls F hP hD hS hl)
theorem e_fadd {x y : UInt32} (hd : decode m.2.1 pc = .ok (.fadd, 1)) (hp : pc + 1 = pc') (hne : vf_n32 (FP.fadd x y)) (k : EV G R m Qf u pc' L (.float (FP.fadd x y) :: st) w) : EV G R m Qf u pc L (.float y :: .float x :: st) w := by
  subst hp
  intro p e s mid args below meth c H locs ls F hP hD hS hl
  exact lv_fadd F.1 F.2.1 hd hne (k p e s mid args below meth c H locs ls F hP hD hS hl)
theorem e_fsub {x y : UInt32} (hd : decode m.2.1 pc = .ok (.fsub, 1)) (hp : pc + 1 = pc') (hne : vf_n32 (FP.fsub x y)) (k : EV G R m Qf u pc' L (.float (FP.fsub x y) :: st) w) : EV G R m Qf u pc L (.float y :: .float x :: st) w := by
  subst hp
  intro p e s mid args below meth c H locs ls F hP hD hS hl
  exact lv_fsub F.1 F.2.1 hd hne (k p e s mid args below meth c H locs ls F hP hD hS hl)
theorem e_fmul {x y : UInt32} (hd : decode m.2.1 pc = .ok (.fmul, 1)) (hp : pc + 1 = pc') (hne : vf_n32 (FP.fmul x y)) (k : EV G R m Qf u pc' L (.float (FP.fmul x y) :: st) w) : EV G R m Qf u pc L (.float y :: .float x :: st) w := by
  subst hp
  intro p e s mid args below meth c H locs ls F hP hD hS hl
  exact lv_fmul F.1 F.2.1 hd hne (k p e s mid args below meth c H locs ls F hP hD hS hl)
theorem e_fdiv {x y : UInt32} (hd : decode m.2.1 pc = .ok (.fdiv, 1)) (hp : pc + 1 = pc') (hne : vf_n32 (FP.fdiv x y)) (k : EV G R m Qf u pc' L (.float (FP.fdiv x y) :: st) w) : EV G R m Qf u pc L (.float y :: .float x :: st) w := by
  subst hp
  intro p e s mid args below meth c H locs ls F hP hD hS hl
  exact lv_fdiv F.1 F.2.1 hd hne (k p e s mid args below meth c H locs ls F hP hD hS hl)
theorem e_dadd {x y : UInt64} (hd : decode m.2.1 pc = .ok (.dadd, 1)) (hp : pc + 1 = pc') (hne : vf_n64 (FP.dadd x y)) (k : EV G R m Qf u pc' L (.double (FP.dadd x y) :: st) w) : EV G R m Qf u pc L (.double y :: .double x :: st) w := by
  subst hp
  intro p e s mid args below meth c H locs ls F hP hD hS hl
  exact lv_dadd F.1 F.2.1 hd hne (k p e s mid args below meth c H locs ls F hP hD hS hl)
theorem e_dsub {x y : UInt64} (hd : decode m.2.1 pc = .ok (.dsub, 1)) (hp : pc + 1 = pc') (hne : vf_n64 (FP.dsub x y)) (k : EV G R m Qf u pc' L (.double (FP.dsub x y) :: st) w) : EV G R m Qf u pc L (.double y :: .double x :: st) w := by
  subst hp
  intro p e s mid args below meth c H locs ls F hP hD hS hl
  exact lv_dsub F.1 F.2.1 hd hne (k p e s mid args below meth c H locs ls F hP hD hS hl)
theorem e_dmul {x y : UInt64} (hd : decode m.2.1 pc = .ok (.dmul, 1)) (hp : pc + 1 = pc') (hne : vf_n64 (FP.dmul x y)) (k : EV G R m Qf u pc' L (.double (FP.dmul x y) :: st) w) : EV G R m Qf u pc L (.double y :: .double x :: st) w := by
  subst hp
  intro p e s mid args below meth c H locs ls F hP hD hS hl
  exact lv_dmul F.1 F.2.1 hd hne (k p e s mid args below meth c H locs ls F hP hD hS hl)
theorem e_ddiv {x y : UInt64} (hd : decode m.2.1 pc = .ok (.ddiv, 1)) (hp : pc + 1 = pc') (hne : vf_n64 (FP.ddiv x y)) (k : EV G R m Qf u pc' L (.double (FP.ddiv x y) :: st) w) : EV G R m Qf u pc L (.double y :: .double x :: st) w := by
  subst hp
  intro p e s mid args below meth c H locs ls F hP hD hS hl
  exact lv_ddiv F.1 F.2.1 hd hne (k p e s mid args below meth c H locs ls F hP hD hS hl)
theorem e_dneg {x : UInt64} (hd : decode m.2.1 pc = .ok (.dneg, 1)) (hp : pc + 1 = pc') (k : EV G R m Qf u pc' L (.double (FP.dneg x) :: st) w) : EV G R m Qf u pc L (.double x :: st) w := by
  subst hp
  intro p e s mid args below meth c H locs ls F hP hD hS hl
  exact lv_dneg F.1 F.2.1 hd (k p e s mid args below meth c H locs ls F hP hD hS hl)
theorem e_fcmp {x y : UInt32} {op : CmpOp} (hd : decode m.2.1 pc = .ok (.fcmp op, 1)) (hp : pc + 1 = pc') (k : EV G R m Qf u pc' L (.int (Op.cmpValue (FP.fcmp x y) op) :: st) w) : EV G R m Qf u pc L (.float y :: .float x :: st) w := by
  subst hp
  intro p e s mid args below meth c H locs ls F hP hD hS hl
  exact lv_fcmp F.1 F.2.1 hd (k p e s mid args below meth c H locs ls F hP hD hS hl)
theorem e_dcmp {x y : UInt64} {op : CmpOp} (hd : decode m.2.1 pc = .ok (.dcmp op, 1)) (hp : pc + 1 = pc') (k : EV G R m Qf u pc' L (.int (Op.cmpValue (FP.dcmp x y) op) :: st) w) : EV G R m Qf u pc L (.double y :: .double x :: st) w := by
  subst hp
  intro p e s mid args below meth c H locs ls F hP hD hS hl
  exact lv_dcmp F.1 F.2.1 hd (k p e s mid args below meth c H locs ls F hP hD hS hl)
theorem e_lcmp {x y : Int64} (hd : decode m.2.1 pc = .ok (.lcmp, 1)) (hp : pc + 1 = pc') (k : EV G R m Qf u pc' L (.int (lg_cmp x y) :: st) w) : EV G R m Qf u pc L (.long y :: .long x :: st) w := by
  subst hp
  intro p e s mid args below meth c H locs ls F hP hD hS hl
  exact W.lcmp F.1 F.2.1 hd (k p e s mid args below meth c H locs ls F hP hD hS hl)
theorem e_fconst0  (hd : decode m.2.1 pc = .ok (.fconst 0, 1)) (hp : pc + 1 = pc') (k : EV G R m Qf u pc' L (.float FP.fconst0 :: st) w) : EV G R m Qf u pc L (st) w := by
  subst hp
  intro p e s mid args below meth c H locs ls F hP hD hS hl
  exact lv_fconst0 F.1 F.2.1 hd (k p e s mid args below meth c H locs ls F hP hD hS hl)
theorem e_dconst0  (hd : decode m.2.1 pc = .ok (.dconst 0, 1)) (hp : pc + 1 = pc') (k : EV G R m Qf u pc' L (.double FP.dconst0 :: st) w) : EV G R m Qf u pc L (st) w := by
  subst hp
  intro p e s mid args below meth c H locs ls F hP hD hS hl
  exact lv_dconst0 F.1 F.2.1 hd (k p e s mid args below meth c H locs ls F hP hD hS hl)
theorem e_dup {v : Value} (hd : decode m.2.1 pc = .ok (.dup, 1)) (hp : pc + 1 = pc') (hv : v.category = 1) (k : EV G R m Qf u pc' L (v :: v :: st) w) : EV G R m Qf u pc L (v :: st) w := by
  subst hp
  intro p e s mid args below meth c H locs ls F hP hD hS hl
  exact lv_dup F.1 F.2.1 hd hv (k p e s mid args below meth c H locs ls F hP hD hS hl)
theorem e_pop {v : Value} (hd : decode m.2.1 pc = .ok (.pop, 1)) (hp : pc + 1 = pc') (hv : v.category = 1) (k : EV G R m Qf u pc' L (st) w) : EV G R m Qf u pc L (v :: st) w := by
  subst hp
  intro p e s mid args below meth c H locs ls F hP hD hS hl
  exact lv_pop F.1 F.2.1 hd hv (k p e s mid args below meth c H locs ls F hP hD hS hl)
theorem e_dup_x1 {v v2 : Value} (hd : decode m.2.1 pc = .ok (.dup_x1, 1)) (hp : pc + 1 = pc') (hv : v.category = 1) (hv2 : v2.category = 1) (k : EV G R m Qf u pc' L (v :: v2 :: v :: st) w) : EV G R m Qf u pc L (v :: v2 :: st) w := by
  subst hp
  intro p e s mid args below meth c H locs ls F hP hD hS hl
  exact lv_dup_x1 F.1 F.2.1 hd hv hv2 (k p e s mid args below meth c H locs ls F hP hD hS hl)
theorem e_dup2 {v v2 : Value} (hd : decode m.2.1 pc = .ok (.dup2, 1)) (hp : pc + 1 = pc') (hv : v.category = 1) (hv2 : v2.category = 1) (k : EV G R m Qf u pc' L (v :: v2 :: v :: v2 :: st) w) : EV G R m Qf u pc L (v :: v2 :: st) w := by
  subst hp
  intro p e s mid args below meth c H locs ls F hP hD hS hl
  exact lv_dup2_11 F.1 F.2.1 hd hv hv2 (k p e s mid args below meth c H locs ls F hP hD hS hl)
theorem e_if_eq {x : Int32} {off : Int} {tgt : Nat} (hd : decode m.2.1 pc = .ok (.ifCond .eq off, 3)) (hp : pc + 3 = pc') (ht : (pc : Int) + off = (tgt : Int)) (kt : x = 0 → EV G R m Qf u tgt L st w) (kf : ¬ x = 0 → EV G R m Qf u pc' L st w) : EV G R m Qf u pc L (.int x :: st) w := by
  subst hp
  intro p e s mid args below meth c H locs ls F hP hD hS hl
  exact lv_if_eq F.1 F.2.1 hd ht (fun h => kt h p e s mid args below meth c H locs ls F hP hD hS hl) (fun h => kf h p e s mid args below meth c H locs ls F hP hD hS hl)
theorem e_icmp_eq {x y : Int32} {off : Int} {tgt : Nat} (hd : decode m.2.1 pc = .ok (.if_icmp .eq off, 3)) (hp : pc + 3 = pc') (ht : (pc : Int) + off = (tgt : Int)) (kt : x = y → EV G R m Qf u tgt L st w) (kf : ¬ x = y → EV G R m Qf u pc' L st w) : EV G R m Qf u pc L (.int y :: .int x :: st) w := by
  subst hp
  intro p e s mid args below meth c H locs ls F hP hD hS hl
  exact lv_icmp_eq F.1 F.2.1 hd ht (fun h => kt h p e s mid args below meth c H locs ls F hP hD hS hl) (fun h => kf h p e s mid args below meth c H locs ls F hP hD hS hl)
theorem e_if_ne {x : Int32} {off : Int} {tgt : Nat} (hd : decode m.2.1 pc = .ok (.ifCond .ne off, 3)) (hp : pc + 3 = pc') (ht : (pc : Int) + off = (tgt : Int)) (kt : ¬ x = 0 → EV G R m Qf u tgt L st w) (kf : x = 0 → EV G R m Qf u pc' L st w) : EV G R m Qf u pc L (.int x :: st) w := by
  subst hp
  intro p e s mid args below meth c H locs ls F hP hD hS hl
  exact lv_if_ne F.1 F.2.1 hd ht (fun h => kt h p e s mid args below meth c H locs ls F hP hD hS hl) (fun h => kf h p e s mid args below meth c H locs ls F hP hD hS hl)
theorem e_icmp_ne {x y : Int32} {off : Int} {tgt : Nat} (hd : decode m.2.1 pc = .ok (.if_icmp .ne off, 3)) (hp : pc + 3 = pc') (ht : (pc : Int) + off = (tgt : Int)) (kt : ¬ x = y → EV G R m Qf u tgt L st w) (kf : x = y → EV G R m Qf u pc' L st w) : EV G R m Qf u pc L (.int y :: .int x :: st) w := by
  subst hp
  intro p e s mid args below meth c H locs ls F hP hD hS hl
  exact lv_icmp_ne F.1 F.2.1 hd ht (fun h => kt h p e s mid args below meth c H locs ls F hP hD hS hl) (fun h => kf h p e s mid args below meth c H locs ls F hP hD hS hl)
theorem e_if_lt {x : Int32} {off : Int} {tgt : Nat} (hd : decode m.2.1 pc = .ok (.ifCond .lt off, 3)) (hp : pc + 3 = pc') (ht : (pc : Int) + off = (tgt : Int)) (kt : x < 0 → EV G R m Qf u tgt L st w) (kf : ¬ x < 0 → EV G R m Qf u pc' L st w) : EV G R m Qf u pc L (.int x :: st) w := by
  subst hp
  intro p e s mid args below meth c H locs ls F hP hD hS hl
  exact lv_if_lt F.1 F.2.1 hd ht (fun h => kt h p e s mid args below meth c H locs ls F hP hD hS hl) (fun h => kf h p e s mid args below meth c H locs ls F hP hD hS hl)
theorem e_icmp_lt {x y : Int32} {off : Int} {tgt : Nat} (hd : decode m.2.1 pc = .ok (.if_icmp .lt off, 3)) (hp : pc + 3 = pc') (ht : (pc : Int) + off = (tgt : Int)) (kt : x < y → EV G R m Qf u tgt L st w) (kf : ¬ x < y → EV G R m Qf u pc' L st w) : EV G R m Qf u pc L (.int y :: .int x :: st) w := by
  subst hp
  intro p e s mid args below meth c H locs ls F hP hD hS hl
  exact lv_icmp_lt F.1 F.2.1 hd ht (fun h => kt h p e s mid args below meth c H locs ls F hP hD hS hl) (fun h => kf h p e s mid args below meth c H locs ls F hP hD hS hl)
theorem e_if_ge {x : Int32} {off : Int} {tgt : Nat} (hd : decode m.2.1 pc = .ok (.ifCond .ge off, 3)) (hp : pc + 3 = pc') (ht : (pc : Int) + off = (tgt : Int)) (kt : 0 ≤ x → EV G R m Qf u tgt L st w) (kf : ¬ 0 ≤ x → EV G R m Qf u pc' L st w) : EV G R m Qf u pc L (.int x :: st) w := by
  subst hp
  intro p e s mid args below meth c H locs ls F hP hD hS hl
  exact lv_if_ge F.1 F.2.1 hd ht (fun h => kt h p e s mid args below meth c H locs ls F hP hD hS hl) (fun h => kf h p e s mid args below meth c H locs ls F hP hD hS hl)
theorem e_icmp_ge {x y : Int32} {off : Int} {tgt : Nat} (hd : decode m.2.1 pc = .ok (.if_icmp .ge off, 3)) (hp : pc + 3 = pc') (ht : (pc : Int) + off = (tgt : Int)) (kt : y ≤ x → EV G R m Qf u tgt L st w) (kf : ¬ y ≤ x → EV G R m Qf u pc' L st w) : EV G R m Qf u pc L (.int y :: .int x :: st) w := by
  subst hp
  intro p e s mid args below meth c H locs ls F hP hD hS hl
  exact lv_icmp_ge F.1 F.2.1 hd ht (fun h => kt h p e s mid args below meth c H locs ls F hP hD hS hl) (fun h => kf h p e s mid args below meth c H locs ls F hP hD hS hl)
theorem e_if_gt {x : Int32} {off : Int} {tgt : Nat} (hd : decode m.2.1 pc = .ok (.ifCond .gt off, 3)) (hp : pc + 3 = pc') (ht : (pc : Int) + off = (tgt : Int)) (kt : 0 < x → EV G R m Qf u tgt L st w) (kf : ¬ 0 < x → EV G R m Qf u pc' L st w) : EV G R m Qf u pc L (.int x :: st) w := by
  subst hp
  intro p e s mid args below meth c H locs ls F hP hD hS hl
  exact lv_if_gt F.1 F.2.1 hd ht (fun h => kt h p e s mid args below meth c H locs ls F hP hD hS hl) (fun h => kf h p e s mid args below meth c H locs ls F hP hD hS hl)
theorem e_icmp_gt {x y : Int32} {off : Int} {tgt : Nat} (hd : decode m.2.1 pc = .ok (.if_icmp .gt off, 3)) (hp : pc + 3 = pc') (ht : (pc : Int) + off = (tgt : Int)) (kt : y < x → EV G R m Qf u tgt L st w) (kf : ¬ y < x → EV G R m Qf u pc' L st w) : EV G R m Qf u pc L (.int y :: .int x :: st) w := by
  subst hp
  intro p e s mid args below meth c H locs ls F hP hD hS hl
  exact lv_icmp_gt F.1 F.2.1 hd ht (fun h => kt h p e s mid args below meth c H locs ls F hP hD hS hl) (fun h => kf h p e s mid args below meth c H locs ls F hP hD hS hl)
theorem e_if_le {x : Int32} {off : Int} {tgt : Nat} (hd : decode m.2.1 pc = .ok (.ifCond .le off, 3)) (hp : pc + 3 = pc') (ht : (pc : Int) + off = (tgt : Int)) (kt : x ≤ 0 → EV G R m Qf u tgt L st w) (kf : ¬ x ≤ 0 → EV G R m Qf u pc' L st w) : EV G R m Qf u pc L (.int x :: st) w := by
  subst hp
  intro p e s mid args below meth c H locs ls F hP hD hS hl
  exact lv_if_le F.1 F.2.1 hd ht (fun h => kt h p e s mid args below meth c H locs ls F hP hD hS hl) (fun h => kf h p e s mid args below meth c H locs ls F hP hD hS hl)
theorem e_icmp_le {x y : Int32} {off : Int} {tgt : Nat} (hd : decode m.2.1 pc = .ok (.if_icmp .le off, 3)) (hp : pc + 3 = pc') (ht : (pc : Int) + off = (tgt : Int)) (kt : x ≤ y → EV G R m Qf u tgt L st w) (kf : ¬ x ≤ y → EV G R m Qf u pc' L st w) : EV G R m Qf u pc L (.int y :: .int x :: st) w := by
  subst hp
  intro p e s mid args below meth c H locs ls F hP hD hS hl
  exact lv_icmp_le F.1 F.2.1 hd ht (fun h => kt h p e s mid args below meth c H locs ls F hP hD hS hl) (fun h => kf h p e s mid args below meth c H locs ls F hP hD hS hl)
theorem e_goto {off : Int} {tgt : Nat} (hd : decode m.2.1 pc = .ok (.goto off, 3)) (ht : (pc : Int) + off = (tgt : Int)) (k : EV G R m Qf u tgt L st w) : EV G R m Qf u pc L st w := by
  intro p e s mid args below meth c H locs ls F hP hD hS hl
  exact lv_goto F.1 F.2.1 hd ht (k p e s mid args below meth c H locs ls F hP hD hS hl)
theorem e_tableOut {dflt lo hi : Int} {offs : Array Int} {len : Nat} {x : Int32} {tgt : Nat} (hd : decode m.2.1 pc = .ok (.tableswitch dflt lo hi offs, len)) (h : x.toInt < lo ∨ hi < x.toInt) (ht : (pc : Int) + dflt = (tgt : Int)) (k : EV G R m Qf u tgt L st w) : EV G R m Qf u pc L (.int x :: st) w := by
  intro p e s mid args below meth c H locs ls F hP hD hS hl
  exact lv_tableOut F.1 F.2.1 hd h ht (k p e s mid args below meth c H locs ls F hP hD hS hl)
theorem e_tableIn {dflt lo hi : Int} {offs : Array Int} {len : Nat} {x : Int32} {off : Int} {tgt : Nat} (hd : decode m.2.1 pc = .ok (.tableswitch dflt lo hi offs, len)) (h1 : ¬ x.toInt < lo) (h2 : ¬ hi < x.toInt) (ho : offs[(x.toInt - lo).toNat]? = some off) (ht : (pc : Int) + off = (tgt : Int)) (k : EV G R m Qf u tgt L st w) : EV G R m Qf u pc L (.int x :: st) w := by
  intro p e s mid args below meth c H locs ls F hP hD hS hl
  exact lv_tableIn F.1 F.2.1 hd h1 h2 ho ht (k p e s mid args below meth c H locs ls F hP hD hS hl)
theorem e_lookup {dflt : Int} {ps : Array (Int × Int)} {len : Nat} {x : Int32} {off : Int} {tgt : Nat} (hd : decode m.2.1 pc = .ok (.lookupswitch dflt ps, len)) (hq : (ps.toList.zip (ps.toList.drop 1)).all (fun (a, next) => a.1 < next.1) = true) (ho : Op.lookupswitch.offset ps.toList dflt x.toInt = off) (ht : (pc : Int) + off = (tgt : Int)) (k : EV G R m Qf u tgt L st w) : EV G R m Qf u pc L (.int x :: st) w := by
  intro p e s mid args below meth c H locs ls F hP hD hS hl
  exact lv_lookup F.1 F.2.1 hd hq ho ht (k p e s mid args below meth c H locs ls F hP hD hS hl)
/-- fewer locals are known -/
theorem e_sub {L' : List (Option Value)} (h : ∀ (i : Nat) (v : Value), L'[i]? = some (some v) → L[i]? = some (some v)) (k : EV G R m Qf u pc L' st w) : EV G R m Qf u pc L st w := by
  intro p e s mid args below meth c H locs ls F hP hD hS hl
  exact k p e s mid args below meth c H locs ls F hP hD hS ⟨hl.1, hl.2.1, fun i v hi => hl.2.2 i v (h i v hi)⟩
theorem e_wide {k n : Nat} (h1 : u.1 ≤ k) (h2 : u.2 ≤ n) (kk : EV G R m Qf (k, n) pc L st w) : EV G R m Qf u pc L st w := by
  intro p e s mid args below meth c H locs ls F hP hD hS hl
  exact W.widen (k := k) (n := n) h1 h2 (kk p e s mid args below meth c H locs ls F hP hD hS hl)
end EVR
theorem zz_03 : True := trivial

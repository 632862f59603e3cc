/-! ENDS, CALLS, EXCEPTIONS -/
section ECA
variable {G : gC} {R : Room} {m : MD} {Qf : QF} {u K : Nat × Nat} {P : PQ} {pc pc' : Nat} {L : List (Option Value)} {st : List Value} {w : va_W}
theorem eQ_of {s t : State} {H : Heap} {locs : List Loc} {v : Option Value} (hP : va_P (gD G) vC w H) (hD : va_D (gS G) w) (hS : va_S (gS G) s.heap H locs) (hp : P (.inl v) w) (ht : t.heap = H) (a : Array Value) : eQ G P a s (.returned v) t :=
  ⟨⟨v, w, rfl, hp, by rw [ht]; exact hP, hD⟩, hS.F ht⟩
theorem e_iret {x : Int32} (hd : decode m.2.1 pc = .ok (.ireturn, 1)) (hr : m.2.2.2.1 = some .int) (hp : P (.inl (some (.int x))) w) (h1 : u.1 ≤ K.1) (h2 : u.2 ≤ K.2) : EV G R m (mQ G P K) u pc L [.int x] w := by
  intro p e s mid args below meth c H locs ls F hP hD hS hl
  refine vx_ret (W.widen (k := K.1) (n := K.2) h1 h2 ?_)
  exact W.iret F.1 F.2.1 (F.2.2.1.trans hr) (fun t ht _ => eQ_of hP hD hS hp ht args) hS.2.2 hd F.2.2.2.2.2.2.1
theorem e_zret {x : Int32} {ty : FieldType} (hd : decode m.2.1 pc = .ok (.ireturn, 1)) (hr : m.2.2.2.1 = some ty) (hn : narrow ty (.int x) = .int x) (hp : P (.inl (some (.int x))) w) (h1 : u.1 ≤ K.1) (h2 : u.2 ≤ K.2) : EV G R m (mQ G P K) u pc L [.int x] w := by
  intro p e s mid args below meth c H locs ls F hP hD hS hl
  refine vx_ret (W.widen (k := K.1) (n := K.2) h1 h2 ?_)
  exact W.zret F.1 F.2.1 (F.2.2.1.trans hr) hn (fun t ht _ => eQ_of hP hD hS hp ht args) hS.2.2 hd F.2.2.2.2.2.2.1
theorem e_fret {x : UInt32} (hd : decode m.2.1 pc = .ok (.freturn, 1)) (hr : m.2.2.2.1 = some .float) (hp : P (.inl (some (.float x))) w) (h1 : u.1 ≤ K.1) (h2 : u.2 ≤ K.2) : EV G R m (mQ G P K) u pc L [.float x] w := by
  intro p e s mid args below meth c H locs ls F hP hD hS hl
  refine vx_ret (W.widen (k := K.1) (n := K.2) h1 h2 ?_)
  exact W.fret F.1 F.2.1 (F.2.2.1.trans hr) (fun t ht _ => eQ_of hP hD hS hp ht args) hS.2.2 hd F.2.2.2.2.2.2.1
theorem e_dret {x : UInt64} (hd : decode m.2.1 pc = .ok (.dreturn, 1)) (hr : m.2.2.2.1 = some .double) (hp : P (.inl (some (.double x))) w) (h1 : u.1 ≤ K.1) (h2 : u.2 ≤ K.2) : EV G R m (mQ G P K) u pc L [.double x] w := by
  intro p e s mid args below meth c H locs ls F hP hD hS hl
  refine vx_ret (W.widen (k := K.1) (n := K.2) h1 h2 ?_)
  exact W.dret F.1 F.2.1 (F.2.2.1.trans hr) (fun t ht _ => eQ_of hP hD hS hp ht args) hS.2.2 hd F.2.2.2.2.2.2.1
theorem e_vret (hd : decode m.2.1 pc = .ok (.return_, 1)) (hr : m.2.2.2.1 = none) (hp : P (.inl none) w) (h1 : u.1 ≤ K.1) (h2 : u.2 ≤ K.2) : EV G R m (mQ G P K) u pc L [] w := by
  intro p e s mid args below meth c H locs ls F hP hD hS hl
  refine vx_ret (W.widen (k := K.1) (n := K.2) h1 h2 ?_)
  exact W.vret F.1 F.2.1 (F.2.2.1.trans hr) (fun t ht _ => eQ_of hP hD hS hp ht args) hS.2.2 hd F.2.2.2.2.2.2.1
theorem e_aret {x : Nat} {C : String} (hd : decode m.2.1 pc = .ok (.areturn, 1)) (hr : m.2.2.2.1 = some (.object C)) (hp : P (.inl (some (.ref x))) w) (h1 : u.1 ≤ K.1) (h2 : u.2 ≤ K.2) : EV G R m (mQ G P K) u pc L [.ref x] w := by
  intro p e s mid args below meth c H locs ls F hP hD hS hl
  refine vx_ret (W.widen (k := K.1) (n := K.2) h1 h2 ?_)
  exact W.aret F.1 F.2.1 (F.2.2.1.trans hr) (Or.inl ⟨_, rfl⟩) (Or.inr ⟨_, rfl⟩) (fun t ht _ => eQ_of hP hD hS hp ht args) hS.2.2 hd F.2.2.2.2.2.2.1
/-- an exception that leaves the method -/
theorem x_out {E : String} (hh : m.2.2.2.2 = []) (hp : P (.inr E) w) (h1 : u.1 ≤ K.1) (h2 : u.2 ≤ K.2) : EX G R m (mQ G P K) u pc L st w E := by
  intro p e s mid args below meth c H locs ls q ce F hP hD hS hl hq hv hcl
  refine vx_out (mc := K.1) (ms := K.2) (fun x hx => ?_) F.2.2.2.2.2.2.1 hq hv hcl (fun t ht _ => ⟨⟨w, hp, by rw [ht]; exact hP, hD⟩, hS.F ht⟩) hS.2.2 h1 h2
  have h9 := F.2.2.2.2.2.2.2.2.1
  rw [hh] at h9
  rw [h9] at hx
  cases hx
theorem ePre_blind {w : va_W} {av : List Value} : FrameBlind (va_Pc av (ePre G w)) := by
  intro a U g mk h
  obtain ⟨h1, h2, h3, h4⟩ := h
  exact ⟨h1, h2.moved (State.WarmedH.refl U) (Nat.le_refl _) (fun _ _ _ => rfl), h3, h4⟩
theorem ePre_at {p : Program} {s : State} {mid : MethodId} {args : Array Value} {meth : Method} {c : Code} {H : Heap} {locs : List Loc} (F : FR G m p s mid args meth c) (hP : va_P (gD G) vC w H) (hD : va_D (gS G) w) (hS : va_S (gS G) s.heap H locs) (U : State) (hU : U.heap = H) (hW : s.WarmedH U.vm) : ePre G w U := by
  refine ⟨?_, by rw [hU]; exact hP, hD⟩
  rw [hU]
  exact F.2.2.2.2.2.2.2.1.moved hW hS.1 hS.2.1
/-- what a call of an instance method asks of the tables -/
def VOK (m' : MD) (n : Nat) : Prop := cwd m' ∈ wG ∧ Cond.instanceMethod m'.1 ∈ wG ∧ Cond.selects m'.1.cls m'.1 m'.1 ∈ wG ∧ Cond.initialized m'.1.cls ∈ wG ∧ (m'.1.cls ≠ "java/lang/invoke/MethodHandle" ∧ m'.1.cls ≠ "java/lang/invoke/VarHandle") ∧ (parseMethodDescriptor m'.1.desc).map (fun d => d.parameters.length) = some n ∧ m'.2.2.2.2 = []
def SOK (m' : MD) (n : Nat) : Prop := cwd m' ∈ wG ∧ Cond.static m'.1 ∈ wG ∧ Cond.initialized m'.1.cls ∈ wG ∧ (m'.1.cls ≠ "java/lang/invoke/MethodHandle" ∧ m'.1.cls ≠ "java/lang/invoke/VarHandle") ∧ (parseMethodDescriptor m'.1.desc).map (fun d => d.parameters.length) = some n
def IOK (m' : MD) (n : Nat) : Prop := cwd m' ∈ wG ∧ Cond.instanceMethod m'.1 ∈ wG ∧ m'.1.name = "<init>" ∧ Cond.initialized m'.1.cls ∈ wG ∧ (m'.1.cls ≠ "java/lang/invoke/MethodHandle" ∧ m'.1.cls ≠ "java/lang/invoke/VarHandle") ∧ (parseMethodDescriptor m'.1.desc).map (fun d => d.parameters.length) = some n ∧ m'.2.2.2.2 = [] ∧ m'.2.2.2.1 = none
theorem cwd_plain {m' : MD} (h : m'.2.2.2.2 = []) : cwd m' = .code m'.1 m'.2.1 m'.2.2.1 m'.2.2.2.1 := by unfold cwd; rw [h]
theorem cwd_with {m' : MD} (h : m'.2.2.2.2 ≠ []) : cwd m' = .codeWith m'.1 m'.2.1 m'.2.2.1 m'.2.2.2.1 m'.2.2.2.2 := by
  unfold cwd
  cases h2 : m'.2.2.2.2 with
  | nil => exact absurd h2 h
  | cons a l => rfl
/-- does the callee's room fit? -/
def Fit (R : Room) (u : Nat × Nat) (d : Nat) (nL : Nat) (K : Nat × Nat) : Prop := d + 13 ≤ R.frames ∧ 80 * d + 219 + nL ≤ R.locals ∧ u.1 + K.1 ≤ R.cells ∧ u.2 + K.2 ≤ R.slots
theorem ws_good {m' : MD} (h : cwd m' ∈ wG) : GoodIn wG (cwd m' :: wG) := fun x hx => by
  rcases List.mem_cons.mp hx with rfl | hx
  · exact ⟨h, good_of_word (List.mem_filter.mp h).2⟩
  · exact wG_good x hx
theorem callB {s : State} {args : Array Value} {m' : MD} {d n idx : Nat} {K' : Nat × Nat} {own : String} (hts : ∀ w ∈ wG, w.before args s = true) (hF : Fit R u d m'.2.2.1 K') (hc : cwd m' ∈ wG) (hh : m'.2.2.2.2 = []) (hi : Cond.initialized m'.1.cls ∈ wG) (hy : m'.1.cls ≠ "java/lang/invoke/MethodHandle" ∧ m'.1.cls ≠ "java/lang/invoke/VarHandle") (hn : (parseMethodDescriptor m'.1.desc).map (fun d => d.parameters.length) = some n) (hl : Cond.methodLink own idx m'.1 ∈ wG) :
    CallB R s args own idx m'.1 m'.2.1 m'.2.2.1 m'.2.2.2.1 (cwd m' :: wG) (rmK d K') K'.1 K'.2 n := by
  obtain ⟨f1, f2, f3, f4⟩ := hF
  refine ⟨rfl, rfl, by show d + 12 + 1 ≤ _; omega, by show 8 + (_ + 11) + (80 * d + 200) ≤ _; omega, pay_in hts (ws_good hc), by rw [← cwd_plain hh]; exact List.mem_cons_self, hts _ (by rw [← cwd_plain hh]; exact hc), hts _ hi, hy, fun sig hs => ?_, hts _ hl⟩
  rw [hs] at hn
  exact (Option.some.inj hn).symm
section Run
variable {p : Program} {e : Env} {s : State} {mid : MethodId} {args : Array Value} {below : List Frame} {meth : Method} {c : Code} {H : Heap} {locs : List Loc} {ls : Array Slot} {P' : PQ} {K' : Nat × Nat} {stk : List Value} {a : Array Value}
theorem run_use (F : FR G m p s mid args meth c) (hS : va_S (gS G) s.heap H locs) (hl : lvp ls m.2.2.1 L)
    (hr : vx_Run p (gl G) e R s mid args below meth c H locs u.1 u.2 K'.1 K'.2 (F0 mid pc ls stk) st (eQ G P' a) (eX G P') (gS G))
    (kr : ∀ (v : Option Value) (w' : va_W), P' (.inl v) w' → EV G R m Qf (u.1 + K'.1, u.2 + K'.2) (pc + 3) L (v.toList ++ st) w')
    (kx : ∀ (E : String) (w' : va_W), P' (.inr E) w' → EX G R m Qf (u.1 + K'.1, u.2 + K'.2) pc L st w' E) :
    W p (gl G) e R s mid args below meth c H locs u.1 u.2 (Qf below args s) (F0 mid pc ls stk) := by
  intro T hT X
  rcases hr T hT X with ⟨v, st₀, t, T', L', h0, X', hL, e1, e2, ⟨⟨v', w', hv, hp, hP1, hD1⟩, hF1⟩, stp⟩ | ⟨q, st₀, t, T', L', E, ce, h0, X', hL, e1, e2, ⟨⟨w', hp, hP1, hD1⟩, hF1⟩, hce, hcv, hcl, stp⟩
  · cases hv
    obtain ⟨k1, k2, k3⟩ := vx_keep h0 e1 hS (fun _ _ h => h) (fun _ h => h) hL hF1
    obtain ⟨t2, a1, b1⟩ := kr v w' hp p e s mid args below meth c T'.heap (locs ++ L') ls F (by rw [e1]; exact hP1) hD1 k3 hl T' rfl X'
    exact ⟨t2, stp t2 a1, b1⟩
  · obtain ⟨k1, k2, k3⟩ := vx_keep h0 e1 hS (fun _ _ h => h) (fun _ h => h) hL hF1
    obtain ⟨t2, a1, b1⟩ := kx E w' hp p e s mid args below meth c T'.heap (locs ++ L') ls q ce F (by rw [e1]; exact hP1) hD1 k3 hl (by rw [e1]; exact hce) hcv hcl T' rfl X'
    exact ⟨t2, stp.trans a1, b1⟩
end Run
theorem e_invV {m' : MD} {d n idx b ci : Nat} {K' : Nat × Nat} {As stk : List Value} {P' : PQ} {fs : List Value} {q : vw_C} (q0 : Nat) (hM : EVM G d m' K' (.ref b :: As) w P') (hd : decode m.2.1 pc = .ok (.invokevirtual idx, 3)) (hp : pc + 3 = pc') (hs : stk = As.reverse ++ .ref b :: st) (hw : (st.map fun v => v.category).sum ≤ 8) (hF : Fit R u d m'.2.2.1 K') (hl : Cond.methodLink m.1.cls idx m'.1 ∈ wG) (ok : VOK m' n) (hn : As.length = n)
    (he : w[q0]? = some (b, .inr (ci, fs))) (hc : vC[ci]? = some q) (hq : q.1 = m'.1.cls)
    (kr : ∀ (v : Option Value) (w' : va_W), P' (.inl v) w' → EV G R m Qf (u.1 + K'.1, u.2 + K'.2) pc' L (v.toList ++ st) w')
    (kx : ∀ (E : String) (w' : va_W), P' (.inr E) w' → EX G R m Qf (u.1 + K'.1, u.2 + K'.2) pc L st w' E) : EV G R m Qf u pc L stk w := by
  subst hp
  subst hs
  intro p e s mid args below meth c H locs ls F hP hD hS hlv
  obtain ⟨o1, o2, o3, o4, o5, o6, o7⟩ := ok
  refine run_use F hS hlv (vx_runV (C := m'.1.cls) (Ts := wG) ⟨F.1, F.2.1, F.2.2.2.1, F.2.2.2.2.1, F.2.2.2.2.2.1⟩ hM ⟨callB F.2.2.2.2.2.1 hF o1 o7 o4 o5 o6 hl, F.2.2.2.2.2.1 _ o2, F.2.2.2.2.2.1 _ o3⟩ ⟨ePre_blind, ?_, fun U hU hW => ⟨rfl, ePre_at F hP hD hS U hU hW⟩⟩ rfl hn hlv.1 rfl (lv_room hw) hd ⟨hF.2.2.1, hF.2.2.2⟩) kr kx
  rw [← hq]
  exact va_recv F.2.2.2.2.2.2.2.1.1 hP hc he
theorem e_invS {m' : MD} {d n idx : Nat} {K' : Nat × Nat} {As stk : List Value} {P' : PQ} (hM : EVM G d m' K' As w P') (hd : decode m.2.1 pc = .ok (.invokestatic idx, 3)) (hp : pc + 3 = pc') (hs : stk = As.reverse ++ st) (hw : (st.map fun v => v.category).sum ≤ 8) (hF : Fit R u d m'.2.2.1 K') (hl : Cond.methodLink m.1.cls idx m'.1 ∈ wG) (ok : SOK m' n) (hh : m'.2.2.2.2 = []) (hn : As.length = n)
    (kr : ∀ (v : Option Value) (w' : va_W), P' (.inl v) w' → EV G R m Qf (u.1 + K'.1, u.2 + K'.2) pc' L (v.toList ++ st) w')
    (kx : ∀ (E : String) (w' : va_W), P' (.inr E) w' → EX G R m Qf (u.1 + K'.1, u.2 + K'.2) pc L st w' E) : EV G R m Qf u pc L stk w := by
  subst hp
  subst hs
  intro p e s mid args below meth c H locs ls F hP hD hS hlv
  obtain ⟨o1, o2, o4, o5, o6⟩ := ok
  exact run_use F hS hlv (vx_runS (Ts := wG) ⟨F.1, F.2.1, F.2.2.2.1, F.2.2.2.2.1, F.2.2.2.2.2.1⟩ hM ⟨callB F.2.2.2.2.2.1 hF o1 hh o4 o5 o6 hl, F.2.2.2.2.2.1 _ o2⟩ ⟨ePre_blind, fun U hU hW => ⟨rfl, ePre_at F hP hD hS U hU hW⟩⟩ rfl hn hlv.1 rfl (lv_room hw) hd ⟨hF.2.2.1, hF.2.2.2⟩) kr kx
/-- a static method with a table of its own -/
theorem e_invSX {m' : MD} {d n idx : Nat} {K' : Nat × Nat} {As stk : List Value} {P' : PQ} (hM : EVM G d m' K' As w P') (hd : decode m.2.1 pc = .ok (.invokestatic idx, 3)) (hp : pc + 3 = pc') (hs : stk = As.reverse ++ st) (hw : (st.map fun v => v.category).sum ≤ 8) (hF : Fit R u d m'.2.2.1 K') (hl : Cond.methodLink m.1.cls idx m'.1 ∈ wG) (ok : SOK m' n) (hh : m'.2.2.2.2 ≠ []) (hn : As.length = n)
    (kr : ∀ (v : Option Value) (w' : va_W), P' (.inl v) w' → EV G R m Qf (u.1 + K'.1, u.2 + K'.2) pc' L (v.toList ++ st) w')
    (kx : ∀ (E : String) (w' : va_W), P' (.inr E) w' → EX G R m Qf (u.1 + K'.1, u.2 + K'.2) pc L st w' E) : EV G R m Qf u pc L stk w := by
  subst hp
  subst hs
  intro p e s mid args below meth c H locs ls F hP hD hS hlv
  obtain ⟨o1, o2, o4, o5, o6⟩ := ok
  have hts := F.2.2.2.2.2.1
  obtain ⟨f1, f2, f3, f4⟩ := id hF
  refine run_use F hS hlv (vx_runSX (hh := m'.2.2.2.2) (bytes := m'.2.1) (maxL := m'.2.2.1) (ret := m'.2.2.2.1) (Ts := wG) ⟨F.1, F.2.1, F.2.2.2.1, F.2.2.2.2.1, hts⟩ hM ⟨⟨rfl, rfl, by show d + 12 + 1 ≤ _; omega, by show 8 + (_ + 11) + (80 * d + 200) ≤ _; omega, pay_in hts (ws_good o1), by rw [← cwd_with hh]; exact List.mem_cons_self⟩, hts _ (by rw [← cwd_with hh]; exact o1), hts _ o4, o5, fun sig hs => ?_, hts _ hl, hts _ o2⟩ ⟨ePre_blind, fun U hU hW => ⟨rfl, ePre_at F hP hD hS U hU hW⟩⟩ rfl hn hlv.1 rfl (lv_room hw) hd ⟨f3, f4⟩) kr kx
  rw [hs] at o6
  exact (Option.some.inj o6).symm
theorem MetFree_imp {l : Launch} {x : MethodName} {S : Spec} {P1 : Array Value → State → Prop} {K1 : Program → Env → List Frame → State → Array Value → Prop} {Q1 Q2 : Array Value → State → Outcome → State → Prop}
    (h : MetFree l x S P1 K1 Q1) (hq : ∀ a s o s', Q1 a s o s' → Q2 a s o s') : MetFree l x S P1 K1 Q2 := by
  intro p e ha hc hk s m args below hf happ hP hK
  obtain ⟨n, o, h1, h2, h3, h4⟩ := h p e ha hc hk s m args below hf happ hP hK
  exact ⟨n, o, h1, h2, h3, hq _ _ _ _ h4⟩
/-- a method that never throws, as the kit's plain contract -/
theorem EVM.met {m' : MD} {d : Nat} {K' : Nat × Nat} {As : List Value} {P' : PQ} (h : EVM G d m' K' As w P') (hx : ∀ (E : String) (w' : va_W), ¬ P' (.inr E) w') : Met (gl G) m'.1 (cwd m' :: wG) (rmK d K') (va_Pc As (ePre G w)) (eQ G P') K'.1 K'.2 (gS G) := by
  refine MetFree_imp h (fun a s o t hq => ?_)
  rcases hq with h | ⟨q, -, E, ce, L, ⟨⟨w', hp, -⟩, -⟩, -⟩
  · exact h
  · exact absurd hp (hx E w')
section Run2
variable {p : Program} {e : Env} {s : State} {mid : MethodId} {args : Array Value} {below : List Frame} {meth : Method} {c : Code} {H : Heap} {locs : List Loc} {ls : Array Slot} {P' : PQ} {K' : Nat × Nat} {stk : List Value} {a : Array Value}
theorem run_use2 (F : FR G m p s mid args meth c) (hS : va_S (gS G) s.heap H locs) (hl : lvp ls m.2.2.1 L)
    (hr : va_Run p (gl G) e R s mid args below meth c H locs u.1 u.2 K'.1 K'.2 (F0 mid pc ls stk) st (eQ G P' a) (gS G))
    (kr : ∀ (v : Option Value) (w' : va_W), P' (.inl v) w' → EV G R m Qf (u.1 + K'.1, u.2 + K'.2) (pc + 3) L (v.toList ++ st) w') :
    W p (gl G) e R s mid args below meth c H locs u.1 u.2 (Qf below args s) (F0 mid pc ls stk) := by
  intro T hT X
  obtain ⟨v, st₀, t, T', L', h0, X', hL, e1, e2, ⟨⟨v', w', hv, hp, hP1, hD1⟩, hF1⟩, stp⟩ := hr T hT X
  cases hv
  obtain ⟨k1, k2, k3⟩ := vx_keep h0 e1 hS (fun _ _ h => h) (fun _ h => h) hL hF1
  obtain ⟨t2, a1, b1⟩ := kr v w' hp p e s mid args below meth c T'.heap (locs ++ L') ls F (by rw [e1]; exact hP1) hD1 k3 hl T' rfl X'
  exact ⟨t2, stp t2 a1, b1⟩
end Run2
theorem cn_of {s : State} {args : Array Value} {m' : MD} {d n idx : Nat} {K' : Nat × Nat} {own host : String} (hts : ∀ w ∈ wG, w.before args s = true) (hC : CX G s s.heap) (hF : Fit R u d m'.2.2.1 K') (hc : cwd m' ∈ wG) (hh : m'.2.2.2.2 = []) (hi : Cond.initialized m'.1.cls ∈ wG) (hy : m'.1.cls ≠ "java/lang/invoke/MethodHandle" ∧ m'.1.cls ≠ "java/lang/invoke/VarHandle") (hn : (parseMethodDescriptor m'.1.desc).map (fun d => d.parameters.length) = some n) (hl : Cond.methodLinkNest own idx m'.1 host ∈ lw_tbl) :
    va_CN R s args own idx m'.1 host m'.2.1 m'.2.2.1 m'.2.2.2.1 (cwd m' :: wG) (rmK d K') K'.1 K'.2 n := by
  obtain ⟨f1, f2, f3, f4⟩ := hF
  refine ⟨⟨rfl, rfl, by show d + 12 + 1 ≤ _; omega, by show 8 + (_ + 11) + (80 * d + 200) ≤ _; omega, pay_in hts (ws_good hc), by rw [← cwd_plain hh]; exact List.mem_cons_self⟩, hts _ (by rw [← cwd_plain hh]; exact hc), hts _ hi, hy, fun sig hs => ?_, va_Nw.use rfl (hC.2.1 _ hl rfl)⟩
  rw [hs] at hn
  exact (Option.some.inj hn).symm
/-- a nest mate's private static method that never throws -/
theorem e_invSN {m' : MD} {d n idx : Nat} {K' : Nat × Nat} {As stk : List Value} {P' : PQ} {host : String} (hM : EVM G d m' K' As w P') (hx : ∀ (E : String) (w' : va_W), ¬ P' (.inr E) w') (hd : decode m.2.1 pc = .ok (.invokestatic idx, 3)) (hp : pc + 3 = pc') (hs : stk = As.reverse ++ st) (hw : (st.map fun v => v.category).sum ≤ 8) (hF : Fit R u d m'.2.2.1 K') (hl : Cond.methodLinkNest m.1.cls idx m'.1 host ∈ lw_tbl) (ok : SOK m' n) (hh : m'.2.2.2.2 = []) (hn : As.length = n)
    (kr : ∀ (v : Option Value) (w' : va_W), P' (.inl v) w' → EV G R m Qf (u.1 + K'.1, u.2 + K'.2) pc' L (v.toList ++ st) w') : EV G R m Qf u pc L stk w := by
  subst hp
  subst hs
  intro p e s mid args below meth c H locs ls F hP hD hS hlv
  obtain ⟨o1, o2, o4, o5, o6⟩ := ok
  exact run_use2 F hS hlv (va_runSN (Ts := wG) ⟨F.1, F.2.1, F.2.2.2.1, F.2.2.2.2.1, F.2.2.2.2.2.1⟩ (hM.met hx) ⟨cn_of F.2.2.2.2.2.1 F.2.2.2.2.2.2.2.1 hF o1 hh o4 o5 o6 hl, F.2.2.2.2.2.1 _ o2, trivial⟩ ⟨ePre_blind, fun U hU hW => ⟨rfl, ePre_at F hP hD hS U hU hW⟩⟩ rfl hn hlv.1 rfl (lv_room hw) hd ⟨hF.2.2.1, hF.2.2.2⟩) kr
/-- a constructor -/
theorem e_invI {m' : MD} {d n idx b : Nat} {K' : Nat × Nat} {As stk : List Value} {P' : PQ} (hM : EVM G d m' K' (.ref b :: As) w P') (hx : ∀ (E : String) (w' : va_W), ¬ P' (.inr E) w') (hd : decode m.2.1 pc = .ok (.invokespecial idx, 3)) (hp : pc + 3 = pc') (hs : stk = As.reverse ++ .ref b :: st) (hw : (st.map fun v => v.category).sum ≤ 8) (hF : Fit R u d m'.2.2.1 K') (hl : Cond.methodLink m.1.cls idx m'.1 ∈ wG) (ok : IOK m' n) (hn : As.length = n)
    (kr : ∀ (v : Option Value) (w' : va_W), P' (.inl v) w' → EV G R m Qf (u.1 + K'.1, u.2 + K'.2) pc' L (v.toList ++ st) w') : EV G R m Qf u pc L stk w := by
  subst hp
  subst hs
  intro p e s mid args below meth c H locs ls F hP hD hS hlv
  obtain ⟨o1, o2, o3, o4, o5, o6, o7, o8⟩ := ok
  have cb := callB (own := m.1.cls) (idx := idx) (R := R) (u := u) F.2.2.2.2.2.1 hF o1 o7 o4 o5 o6 hl
  rw [o8] at cb
  exact run_use2 F hS hlv (va_runI (Ts := wG) ⟨F.1, F.2.1, F.2.2.2.1, F.2.2.2.2.1, F.2.2.2.2.2.1⟩ (hM.met hx) ⟨cb, o3, F.2.2.2.2.2.1 _ o2⟩ ⟨ePre_blind, fun U hU hW => ⟨rfl, ePre_at F hP hD hS U hU hW⟩⟩ rfl hn hlv.1 rfl (lv_room hw) hd ⟨hF.2.2.1, hF.2.2.2⟩) kr
theorem e_invIN {m' : MD} {d n idx b : Nat} {K' : Nat × Nat} {As stk : List Value} {P' : PQ} {host : String} (hM : EVM G d m' K' (.ref b :: As) w P') (hx : ∀ (E : String) (w' : va_W), ¬ P' (.inr E) w') (hd : decode m.2.1 pc = .ok (.invokespecial idx, 3)) (hp : pc + 3 = pc') (hs : stk = As.reverse ++ .ref b :: st) (hw : (st.map fun v => v.category).sum ≤ 8) (hF : Fit R u d m'.2.2.1 K') (hl : Cond.methodLinkNest m.1.cls idx m'.1 host ∈ lw_tbl) (ok : IOK m' n) (hn : As.length = n)
    (kr : ∀ (v : Option Value) (w' : va_W), P' (.inl v) w' → EV G R m Qf (u.1 + K'.1, u.2 + K'.2) pc' L (v.toList ++ st) w') : EV G R m Qf u pc L stk w := by
  subst hp
  subst hs
  intro p e s mid args below meth c H locs ls F hP hD hS hlv
  obtain ⟨o1, o2, o3, o4, o5, o6, o7, o8⟩ := ok
  have cb := cn_of (G := G) (own := m.1.cls) (idx := idx) (R := R) (u := u) F.2.2.2.2.2.1 F.2.2.2.2.2.2.2.1 hF o1 o7 o4 o5 o6 hl
  rw [o8] at cb
  exact run_use2 F hS hlv (va_runIN (Ts := wG) ⟨F.1, F.2.1, F.2.2.2.1, F.2.2.2.2.1, F.2.2.2.2.2.1⟩ (hM.met hx) ⟨cb, o3, F.2.2.2.2.2.1 _ o2⟩ ⟨ePre_blind, fun U hU hW => ⟨rfl, ePre_at F hP hD hS U hU hW⟩⟩ rfl hn hlv.1 rfl (lv_room hw) hd ⟨hF.2.2.1, hF.2.2.2⟩) kr
/-- Object.<init> -/
theorem e_objInit {idx b : Nat} (hd : decode m.2.1 pc = .ok (.invokespecial idx, 3)) (hp : pc + 3 = pc') (hl : Cond.methodLink m.1.cls idx objectInit ∈ wG) (hin : Cond.instanceMethod objectInit ∈ wG) (hc : Cond.code objectInit ⟨#[0xb1]⟩ 1 none ∈ wG) (h1 : 1 ≤ R.frames) (h2 : (st.map fun v => v.category).sum + 12 ≤ R.locals) (k : EV G R m Qf u pc' L st w) : EV G R m Qf u pc L (.ref b :: st) w := by
  subst hp
  intro p e s mid args below meth c H locs ls F hP hD hS hlv
  exact W.objInit F.1 F.2.1 F.2.2.2.2.1 (F.2.2.2.2.2.1 _ hl) (F.2.2.2.2.2.1 _ hin) (F.2.2.2.2.2.1 _ hc) rfl (by rw [F.2.2.2.1]; exact hlv.1) rfl hd h1 (by show 2 * 0 + _ + 12 ≤ _; omega) (k p e s mid args below meth c H locs ls F hP hD hS hlv)
/-! a method's contract out of its frame -/
def entL (As : List Value) (n : Nat) : List (Option Value) := As.map some ++ List.replicate (n - As.length) none
theorem lv_args_mem : ∀ (As : List Value) (k i : Nat) (v : Value), As.all (fun v => v.category == 1) = true → As[i]? = some v → (k + i, v) ∈ lv_args k As
  | [], k, i, v, _, h => by simp at h
  | a :: As, k, i, v, ha, h => by
    simp only [List.all_cons, Bool.and_eq_true, beq_iff_eq] at ha
    cases i with
    | zero => simp at h; subst h; exact List.mem_cons_self
    | succ i =>
      have h2 : ¬ a.category = 2 := by omega
      simp only [lv_args, if_neg h2]
      rw [List.getElem?_cons_succ] at h
      have := lv_args_mem As (k + 1) i v ha.2 h
      rw [show k + (i + 1) = k + 1 + i by omega]
      exact List.mem_cons_of_mem _ this
theorem lg_sl_len : ∀ (As : List Value), As.all (fun v => v.category == 1) = true → (lg_sl As).length = As.length
  | [], _ => rfl
  | a :: As, ha => by
    simp only [List.all_cons, Bool.and_eq_true, beq_iff_eq] at ha
    have h2 : ¬ a.category = 2 := by omega
    have := lg_sl_len As ha.2
    simp only [lg_sl, List.flatMap_cons, if_neg h2, List.length_append, List.length_cons, List.length_nil] at this ⊢
    omega
theorem lvp_entry {As : List Value} {n : Nat} (ha : As.all (fun v => v.category == 1) = true) (hn : As.length ≤ n) : lvp ((lg_sl As ++ List.replicate (n - (lg_sl As).length) Slot.unset).toArray) n (entL As n) := by
  have h := lv_entry As (n := n) (by rw [lg_sl_len As ha]; exact hn)
  refine ⟨h.1, h.2.1, fun i v hi => ?_⟩
  unfold entL at hi
  by_cases hl : i < As.length
  · rw [List.getElem?_append_left (by simpa using hl), List.getElem?_map] at hi
    cases ho : As[i]? with
    | none => rw [ho] at hi; cases hi
    | some x =>
      rw [ho] at hi
      cases hi
      have := lv_args_mem As 0 i v ha ho
      rw [Nat.zero_add] at this
      exact h.2.2 _ this
  · rw [List.getElem?_append_right (by simpa using hl)] at hi
    have := List.eq_of_mem_replicate (List.mem_of_getElem? hi)
    cases this
theorem EVM_of {d : Nat} {As : List Value} (hh : m.2.2.2.2 = []) (hy : plainName m.1.cls = true) (ha : As.all (fun v => v.category == 1) = true) (hn : As.length ≤ m.2.2.1) (k : EV G (rmK d K) m (mQ G P K) (0, 0) 0 (entL As m.2.2.1) [] w) : EVM G d m K As w P := by
  refine vx_ofW (cc := m.2.1) (maxL := m.2.2.1) (ret := m.2.2.2.1) (ws' := wG) hy (by rw [cwd_plain hh]) ?_
  intro p e s mid args below meth c s₁ B hml ht hv
  obtain ⟨rfl, hC, hP, hD⟩ := hv
  have hts := atoms_spec (ws := cwd m :: wG) B.pre
  rw [lg_entry_eq]
  refine k p e s mid As.toArray below meth c s.heap [] _ ⟨B.exec, B.bytes, B.returns, hml, findClass_of_methodNamed B.named, fun x hx => hts x (List.mem_cons_of_mem _ hx), B.notSynchronized, hC, ?_, (name_of_methodNamed B.named B.method).1⟩ hP hD va_S.rf (lvp_entry ha hn)
  rw [hh]
  cases hq : c.exceptionTable.toList with
  | nil => rfl
  | cons a l => exact (ht a (by rw [hq]; exact List.mem_cons_self)).elim
theorem EVM_ofH {d : Nat} {As : List Value} (hh : m.2.2.2.2 ≠ []) (hy : plainName m.1.cls = true) (ha : As.all (fun v => v.category == 1) = true) (hn : As.length ≤ m.2.2.1) (k : EV G (rmK d K) m (mQ G P K) (0, 0) 0 (entL As m.2.2.1) [] w) : EVM G d m K As w P := by
  refine vx_ofWH (cc := m.2.1) (maxL := m.2.2.1) (ret := m.2.2.2.1) (hh := m.2.2.2.2) (ws' := wG) hy (by rw [cwd_with hh]) ?_
  intro p e s mid args below meth c s₁ B hml hv
  obtain ⟨rfl, hC, hP, hD⟩ := hv
  have hts := atoms_spec (ws := cwd m :: wG) B.pre
  rw [lg_entry_eq]
  refine k p e s mid As.toArray below meth c s.heap [] _ ⟨B.exec, B.bytes, B.returns, hml, findClass_of_methodNamed B.named, fun x hx => hts x (List.mem_cons_of_mem _ hx), B.notSynchronized, hC, ?_, (name_of_methodNamed B.named B.method).1⟩ hP hD va_S.rf (lvp_entry ha hn)
  have h9 := hts (cwd m) List.mem_cons_self
  rw [cwd_with hh] at h9
  exact vx_table (x := m.1) B h9
theorem EVM.mono {m' : MD} {d : Nat} {As : List Value} {P1 P2 : PQ} (h : EVM G d m' K As w P1) (hp : ∀ r w', P1 r w' → P2 r w') : EVM G d m' K As w P2 := by
  refine MetFree_imp h (fun a s o t hq => ?_)
  rcases hq with ⟨⟨⟨v, w', h1, h2, h3, h4⟩, h5⟩, h6⟩ | ⟨q, h0, E, ce, L, ⟨⟨w', h2, h3, h4⟩, h5⟩, h6⟩
  · exact Or.inl ⟨⟨⟨v, w', h1, hp _ _ h2, h3, h4⟩, h5⟩, h6⟩
  · exact Or.inr ⟨q, h0, E, ce, L, ⟨⟨w', hp _ _ h2, h3, h4⟩, h5⟩, h6⟩
/-! exceptions -/
def XOK (own cls : String) (ik ic : Nat) (names : List String) : Prop := Cond.classLink own ik cls ∈ wG ∧ Cond.initialized cls ∈ wG ∧ (∀ w ∈ vx_atS own ic cls names, w ∈ lw_tbl ∧ oW w = true) ∧ Bundle.fit cls = true ∧ (∀ n ∈ names, Bundle.fit n = true)
theorem oW_ot {w : Cond} (h : oW w = true) : vx_ot w = true := by
  unfold vx_ot
  rw [oW_tab h]
  rfl
theorem x_hat {s : State} {args : Array Value} {own cls : String} {ik ic : Nat} {names : List String} (hC : CX G s s.heap) (ok : XOK own cls ik ic names) : ∀ w ∈ vx_atS own ic cls names, w.before args s = true := fun w hw => by
  obtain ⟨h1, h2⟩ := ok.2.2.1 w hw
  exact va_Nw.use (oW_tab h2) (hC.2.1 w h1 h2)
theorem wG_ot {w : Cond} (h : w ∈ wG) : vx_ot w = true := by
  unfold vx_ot
  rw [(List.mem_filter.mp h).2, Bool.or_true]
theorem e_throw {cls text : String} {names : List String} {ik is ic no : Nat} (hh : m.2.2.2.2 = []) (ok : XOK m.1.cls cls ik ic names) (hst : (m.1.cls, is, text, no) ∈ strL)
    (d0 : decode m.2.1 pc = .ok (.new ik, 3)) (d3 : decode m.2.1 (pc + 3) = .ok (.dup, 1)) (d4 : decode m.2.1 (pc + 4) = .ok (.ldc is, 2)) (d6 : decode m.2.1 (pc + 6) = .ok (.invokespecial ic, 3)) (d9 : decode m.2.1 (pc + 9) = .ok (.athrow, 1))
    (hf : names.length + 3 < R.frames) (hl : (st.map fun v => v.category).sum + (13 * (names.length + 1) + 43) ≤ R.locals) (hc : u.1 + 1 ≤ R.cells) (hs : u.2 + 6 ≤ R.slots) (hp : P (.inr cls) w) (h1 : u.1 + 1 ≤ K.1) (h2 : u.2 + 6 ≤ K.2) : EV G R m (mQ G P K) u pc L st w := by
  intro p e s mid args below meth c H locs ls F hP hD hS hlv
  have hC := F.2.2.2.2.2.2.2.1
  have hts := F.2.2.2.2.2.1
  obtain ⟨-, -, c3, -, c5, c6, -, -, -, -, -, -, -, -, -, c16⟩ := id hC
  refine vx_throwS (names := names) F.1 F.2.1 c16 F.2.2.2.2.1 ok.2.2.2.1 ok.2.2.2.2 (hts _ ok.1) (hts _ ok.2.1) (c3 _ hst) (x_hat hC ok) ?_ c5 c6 hS (by rw [F.2.2.2.1]; exact hlv.1) d0 d3 d4 d6 d9 ?_ hf hl hc hs F.2.2.2.2.2.2.1 ?_ hS.2.2 h1 h2
  · intro x hx
    rcases List.mem_cons.mp hx with rfl | hx
    · exact wG_ot ok.1
    · rcases List.mem_cons.mp hx with rfl | hx
      · exact wG_ot ok.2.1
      · exact oW_ot (ok.2.2.1 x hx).2
  · intro x hx
    have h9 := F.2.2.2.2.2.2.2.2.1
    rw [hh] at h9
    rw [h9] at hx
    cases hx
  · intro t hA hz hq
    refine ⟨⟨w, hp, hP.kept (fun k x hx => hq _ (hP k x hx).lt), hD⟩, Nat.le_trans hS.1 hz, fun q g1 g2 => (hq q (Nat.lt_of_lt_of_le g1 hS.1)).trans (hS.2.1 q g1 g2)⟩
theorem e_throwW {cls text : String} {names : List String} {ik is ic no : Nat} (hh : m.2.2.2.2 = []) (ok : XOK m.1.cls cls ik ic names) (hst : (m.1.cls, is, text, no) ∈ strL)
    (d0 : decode m.2.1 pc = .ok (.new ik, 3)) (d3 : decode m.2.1 (pc + 3) = .ok (.dup, 1)) (d4 : decode m.2.1 (pc + 4) = .ok (.ldc_w is, 3)) (d7 : decode m.2.1 (pc + 7) = .ok (.invokespecial ic, 3)) (d10 : decode m.2.1 (pc + 10) = .ok (.athrow, 1))
    (hf : names.length + 3 < R.frames) (hl : (st.map fun v => v.category).sum + (13 * (names.length + 1) + 43) ≤ R.locals) (hc : u.1 + 1 ≤ R.cells) (hs : u.2 + 6 ≤ R.slots) (hp : P (.inr cls) w) (h1 : u.1 + 1 ≤ K.1) (h2 : u.2 + 6 ≤ K.2) : EV G R m (mQ G P K) u pc L st w := by
  intro p e s mid args below meth c H locs ls F hP hD hS hlv
  have hC := F.2.2.2.2.2.2.2.1
  have hts := F.2.2.2.2.2.1
  obtain ⟨-, -, c3, -, c5, c6, -, -, -, -, -, -, -, -, -, c16⟩ := id hC
  refine vx_throwSW (names := names) F.1 F.2.1 c16 F.2.2.2.2.1 ok.2.2.2.1 ok.2.2.2.2 (hts _ ok.1) (hts _ ok.2.1) (c3 _ hst) (x_hat hC ok) ?_ c5 c6 hS (by rw [F.2.2.2.1]; exact hlv.1) d0 d3 d4 d7 d10 ?_ hf hl hc hs F.2.2.2.2.2.2.1 ?_ hS.2.2 h1 h2
  · intro x hx
    rcases List.mem_cons.mp hx with rfl | hx
    · exact wG_ot ok.1
    · rcases List.mem_cons.mp hx with rfl | hx
      · exact wG_ot ok.2.1
      · exact oW_ot (ok.2.2.1 x hx).2
  · intro x hx
    have h9 := F.2.2.2.2.2.2.2.2.1
    rw [hh] at h9
    rw [h9] at hx
    cases hx
  · intro t hA hz hq
    refine ⟨⟨w, hp, hP.kept (fun k x hx => hq _ (hP k x hx).lt), hD⟩, Nat.le_trans hS.1 hz, fun q g1 g2 => (hq q (Nat.lt_of_lt_of_le g1 hS.1)).trans (hS.2.1 q g1 g2)⟩
/-- caught by a row of this method's table -/
theorem x_catch {E name : String} (pre : List (Nat × Nat × Nat × Nat)) (x : Nat × Nat × Nat × Nat) (suf : List (Nat × Nat × Nat × Nat)) (hsplit : m.2.2.2.2 = pre ++ x :: suf)
    (hpass : ∀ z ∈ pre, z.2.2.2 ≠ 0 ∧ ∃ nm : String, Cond.classLink m.1.cls z.2.2.2 nm ∈ wG ∧ (E, nm) ∈ ncL) (hx : covers ⟨x.1, x.2.1, x.2.2.1, x.2.2.2⟩ pc = true) (h0 : x.2.2.2 ≠ 0) (hl : Cond.classLink m.1.cls x.2.2.2 name ∈ wG) (hc : Cond.castable E name ∈ lw_tbl)
    (k : ∀ q : Nat, EV G R m Qf u x.2.2.1 L [.ref q] w) : EX G R m Qf u pc L st w E := by
  intro p e s mid args below meth c H locs ls q ce F hP hD hS hlv hq hv hcl
  have hC := F.2.2.2.2.2.2.2.1
  have hts := F.2.2.2.2.2.1
  refine vx_catch (x := ⟨x.1, x.2.1, x.2.2.1, x.2.2.2⟩) F.2.2.2.2.1 (pre.map fun q => ⟨q.1, q.2.1, q.2.2.1, q.2.2.2⟩) (suf.map fun q => ⟨q.1, q.2.1, q.2.2.1, q.2.2.2⟩) (by rw [F.2.2.2.2.2.2.2.2.1, hsplit]; simp [tableOf]) ?_ hx h0 (hts _ hl) (va_Nw.use rfl (hC.2.1 _ hc rfl)) hq hv hcl (k q p e s mid args below meth c H locs ls F hP hD hS hlv)
  intro z hz
  obtain ⟨y, hy, rfl⟩ := List.mem_map.mp hz
  obtain ⟨g1, nm, g2, g3⟩ := hpass y hy
  exact Or.inr ⟨g1, nm, hts _ g2, hC.2.2.2.1 _ g3⟩
end ECA

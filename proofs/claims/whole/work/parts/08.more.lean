/-! CONTRACTS WITH A MEMORY OF WHICH SOMETHING IS KNOWN; LOOPS; WHAT STAYS -/
/-- it returns v, and I holds of the ints then -/
def RETI (G : gC) (ad : Nat → Nat) (d : Nat) (m : MD) (args : List Value) (S : Mem) (v : Option Value) (I : (Nat → Nat → Int32) → Prop) : Prop := CM G ad d m (0, 0) args S (fun r S2 => r = .inl v ∧ ∃ M', S2 = (M', S.2) ∧ I M')
abbrev PI (v : Option Value) (o : (Nat → Int64) × (Nat → UInt64)) (I : (Nat → Nat → Int32) → Prop) : PM := fun r S2 => r = .inl v ∧ ∃ M', S2 = (M', o) ∧ I M'
theorem EVM_imp {G : gC} {d : Nat} {m : MD} {K : Nat × Nat} {args : List Value} {w : va_W} {P P2 : PQ} (h : EVM G d m K args w P) (hi : ∀ r w', P r w' → P2 r w') : EVM G d m K args w P2 := by
  refine MetFree_imp h (fun a s oc t hq => ?_)
  rcases hq with ⟨⟨⟨v, w', e, hp, h3⟩, h4⟩, h5⟩ | ⟨q, hq1, E, ce, L, ⟨⟨w', hp, h3⟩, h4⟩, h5⟩
  · exact Or.inl ⟨⟨⟨v, w', e, hi _ _ hp, h3⟩, h4⟩, h5⟩
  · exact Or.inr ⟨q, hq1, E, ce, L, ⟨⟨w', hi _ _ hp, h3⟩, h4⟩, h5⟩
theorem CM_imp {G : gC} {ad : Nat → Nat} {d : Nat} {m : MD} {K : Nat × Nat} {args : List Value} {S : Mem} {P P2 : PM} (h : CM G ad d m K args S P) (hi : ∀ r S', P r S' → P2 r S') : CM G ad d m K args S P2 :=
  EVM_imp h (fun r w' h => by obtain ⟨S', e, h⟩ := h; exact ⟨S', e, hi r S' h⟩)
section EWI
variable {G : gC} {R : Room} {m : MD} {Qf : QF} {u K : Nat × Nat} {pc pc' d : Nat} {L : List (Option Value)} {st : List Value} {ad : Nat → Nat} {S : Mem} {I : (Nat → Nat → Int32) → Prop} {M : Nat → Nat → Int32} {o : (Nat → Int64) × (Nat → UInt64)}
theorem MP.retI {v v' : Option Value} {M' : Nat → Nat → Int32} {o : (Nat → Int64) × (Nat → UInt64)} (hv : v = v') (hI : I M') : MP G ad (PI v' o I) (.inl v) (wM G ad (M', o)) := ⟨(M', o), rfl, by rw [hv], M', rfl, hI⟩
theorem r_VI {m' : MD} {d' n idx b ci k : Nat} {As stk : List Value} {v : Option Value} {refs : List (Option Nat)} (hM : RETI G ad d' m' (.ref (ad b) :: As) (M, o) v I) (hd : decode m.2.1 pc = .ok (.invokevirtual idx, 3)) (hp : pc + 3 = pc') (hs : stk = As.reverse ++ .ref (ad b) :: st) (hw : (st.map fun v => v.category).sum ≤ 8) (hF : Fit R u d' m'.2.2.1 (0, 0)) (hl : Cond.methodLink m.1.cls idx m'.1 ∈ wG) (ok : VOK m' n) (hn : As.length = n)
    (hb : shp[b]? = some (ci, k, refs)) (hci : ci < 10) (hq : (cls ci).1 = m'.1.cls)
    (kr : ∀ M', I M' → EV G R m Qf u pc' L (v.toList ++ st) (wM G ad (M', o))) : EV G R m Qf u pc L stk (wM G ad (M, o)) :=
  c_V hM hd hp hs hw hF hl ok hn hb hci hq (fun v2 S2 h => by obtain ⟨h1, M', rfl, h2⟩ := h; cases h1; exact kr M' h2) (fun E S2 h => by cases h.1)
theorem r_SI {m' : MD} {d' n idx : Nat} {As stk : List Value} {v : Option Value} (hM : RETI G ad d' m' As (M, o) v I) (hd : decode m.2.1 pc = .ok (.invokestatic idx, 3)) (hp : pc + 3 = pc') (hs : stk = As.reverse ++ st) (hw : (st.map fun v => v.category).sum ≤ 8) (hF : Fit R u d' m'.2.2.1 (0, 0)) (hl : Cond.methodLink m.1.cls idx m'.1 ∈ wG) (ok : SOK m' n) (hh : m'.2.2.2.2 = []) (hn : As.length = n)
    (kr : ∀ M', I M' → EV G R m Qf u pc' L (v.toList ++ st) (wM G ad (M', o))) : EV G R m Qf u pc L stk (wM G ad (M, o)) :=
  c_S hM hd hp hs hw hF hl ok hh hn (fun v2 S2 h => by obtain ⟨h1, M', rfl, h2⟩ := h; cases h1; exact kr M' h2) (fun E S2 h => by cases h.1)
theorem RET.toI {m' : MD} {args : List Value} {v : Option Value} {M' : Nat → Nat → Int32} (h : RET G ad d m' args S v (M', S.2)) (hI : I M') : RETI G ad d m' args S v I := CM_imp h (fun r S2 h => ⟨h.1, M', h.2, hI⟩)
theorem e_fg {i : Nat} {w : va_W} {L' : List (Option Value)} (hL : L.set i none = L') (k : EV G R m Qf u pc L' st w) : EV G R m Qf u pc L st w := by
  subst hL
  refine e_sub (fun j v hj => ?_) k
  by_cases e : j = i
  · subst e
    by_cases hl : j < L.length
    · rw [List.getElem?_set_self hl] at hj; cases hj
    · rw [List.getElem?_eq_none (by simpa using hl)] at hj; cases hj
  · rwa [List.getElem?_set_ne (Ne.symm e)] at hj
theorem e_ldcW {idx : Nat} {x : Int32} {w0 : va_W} (hd : decode m.2.1 pc = .ok (.ldc_w idx, 3)) (hp : pc + 3 = pc') (hl : Cond.constant m.1.cls idx x ∈ wG) (k : EV G R m Qf u pc' L (.int x :: st) w0) : EV G R m Qf u pc L st w0 := by
  subst hp
  intro p e s mid args below meth c H locs ls F hP hD hS hlv
  exact lv_ldcw F.1 F.2.1 F.2.2.2.2.1 (F.2.2.2.2.2.1 _ hl) hd (k p e s mid args below meth c H locs ls F hP hD hS hlv)
theorem p_gfi {a k ci n idx : Nat} {refs : List (Option Nat)} {x : Int32} (hd : decode m.2.1 pc = .ok (.getfield idx, 3)) (hp : pc + 3 = pc') (hs : shp[a]? = some (ci, n, refs)) (hci : ci < 10) (hk : k < (cls ci).2.2) (hr : refs[k]? = some none) (hl : Cond.fieldLink m.1.cls idx ((cls ci).2.1 k).1 ((cls ci).2.1 k).2.1 ((cls ci).2.1 k).2.2.1 ∈ wG) (hx : M a k = x)
    (kk : EV G R m Qf u pc' L (.int x :: st) (wM G ad (M, o))) : EV G R m Qf u pc L (.ref (ad a) :: st) (wM G ad (M, o)) := e_gfi (S := (M, o)) hd hp hs hci hk hr hl hx kk
theorem p_gfr {a k ci n idx t : Nat} {refs : List (Option Nat)} (hd : decode m.2.1 pc = .ok (.getfield idx, 3)) (hp : pc + 3 = pc') (hs : shp[a]? = some (ci, n, refs)) (hci : ci < 10) (hk : k < (cls ci).2.2) (hr : refs[k]? = some (some t)) (hl : Cond.fieldLink m.1.cls idx ((cls ci).2.1 k).1 ((cls ci).2.1 k).2.1 ((cls ci).2.1 k).2.2.1 ∈ wG)
    (kk : EV G R m Qf u pc' L (.ref (ad t) :: st) (wM G ad (M, o))) : EV G R m Qf u pc L (.ref (ad a) :: st) (wM G ad (M, o)) := e_gfr (S := (M, o)) hd hp hs hci hk hr hl kk
theorem p_pfi {a k ci n idx : Nat} {refs : List (Option Nat)} {x : Int32} (hd : decode m.2.1 pc = .ok (.putfield idx, 3)) (hp : pc + 3 = pc') (hs : shp[a]? = some (ci, n, refs)) (hci : ci < 10) (hk : k < (cls ci).2.2) (hr : refs[k]? = some none) (hl : Cond.fieldLink m.1.cls idx ((cls ci).2.1 k).1 ((cls ci).2.1 k).2.1 ((cls ci).2.1 k).2.2.1 ∈ wG) (hfin : ((cls ci).2.1 k).2.2.2 = false) (hty : ((cls ci).2.1 k).2.2.1 = "I")
    (kk : EV G R m Qf u pc' L st (wM G ad (up2 M a k x, o))) : EV G R m Qf u pc L (.int x :: .ref (ad a) :: st) (wM G ad (M, o)) := e_pfi (S := (M, o)) hd hp hs hci hk hr hl hfin hty kk
theorem p_pfz {a k ci n idx : Nat} {refs : List (Option Nat)} {x : Int32} (hd : decode m.2.1 pc = .ok (.putfield idx, 3)) (hp : pc + 3 = pc') (hs : shp[a]? = some (ci, n, refs)) (hci : ci < 10) (hk : k < (cls ci).2.2) (hr : refs[k]? = some none) (hl : Cond.fieldLink m.1.cls idx ((cls ci).2.1 k).1 ((cls ci).2.1 k).2.1 ((cls ci).2.1 k).2.2.1 ∈ wG) (hfin : ((cls ci).2.1 k).2.2.2 = false) (hty : ((cls ci).2.1 k).2.2.1 = "Z") (hx : x = 0 ∨ x = 1)
    (kk : EV G R m Qf u pc' L st (wM G ad (up2 M a k x, o))) : EV G R m Qf u pc L (.int x :: .ref (ad a) :: st) (wM G ad (M, o)) := e_pfz (S := (M, o)) hd hp hs hci hk hr hl hfin hty hx kk
theorem p_iald {a k n : Nat} {refs : List (Option Nat)} {i x : Int32} (hd : decode m.2.1 pc = .ok (.iaload, 1)) (hp : pc + 1 = pc') (hs : shp[a]? = some (100, n, refs)) (hi : i = nI k) (hk : k < n) (hn : n < 2 ^ 31) (hx : M a k = x)
    (kk : EV G R m Qf u pc' L (.int x :: st) (wM G ad (M, o))) : EV G R m Qf u pc L (.int i :: .ref (ad a) :: st) (wM G ad (M, o)) := e_iald (S := (M, o)) hd hp hs hi hk hn hx kk
theorem p_cald {a k n : Nat} {refs : List (Option Nat)} {i x : Int32} (hd : decode m.2.1 pc = .ok (.caload, 1)) (hp : pc + 1 = pc') (hs : shp[a]? = some (101, n, refs)) (hi : i = nI k) (hk : k < n) (hn : n < 2 ^ 31) (hx : M a k = x)
    (kk : EV G R m Qf u pc' L (.int x :: st) (wM G ad (M, o))) : EV G R m Qf u pc L (.int i :: .ref (ad a) :: st) (wM G ad (M, o)) := e_cald (S := (M, o)) hd hp hs hi hk hn hx kk
theorem p_iast {a k n : Nat} {refs : List (Option Nat)} {i x : Int32} (hd : decode m.2.1 pc = .ok (.iastore, 1)) (hp : pc + 1 = pc') (hs : shp[a]? = some (100, n, refs)) (hi : i = nI k) (hk : k < n) (hn : n < 2 ^ 31)
    (kk : EV G R m Qf u pc' L st (wM G ad (up2 M a k x, o))) : EV G R m Qf u pc L (.int x :: .int i :: .ref (ad a) :: st) (wM G ad (M, o)) := e_iast (S := (M, o)) hd hp hs hi hk hn kk
theorem p_cast {a k n : Nat} {refs : List (Option Nat)} {i x : Int32} (hd : decode m.2.1 pc = .ok (.castore, 1)) (hp : pc + 1 = pc') (hs : shp[a]? = some (101, n, refs)) (hi : i = nI k) (hk : k < n) (hn : n < 2 ^ 31) (hx : vp_nar .char x = x)
    (kk : EV G R m Qf u pc' L st (wM G ad (up2 M a k x, o))) : EV G R m Qf u pc L (.int x :: .int i :: .ref (ad a) :: st) (wM G ad (M, o)) := e_cast (S := (M, o)) hd hp hs hi hk hn hx kk
theorem p_aald {a k n t : Nat} {refs : List (Option Nat)} {i : Int32} (hd : decode m.2.1 pc = .ok (.aaload, 1)) (hp : pc + 1 = pc') (hs : shp[a]? = some (104, n, refs) ∨ shp[a]? = some (105, n, refs)) (hi : i = nI k) (hk : k < n) (hn : n < 2 ^ 31) (hr : refs[k]? = some (some t))
    (kk : EV G R m Qf u pc' L (.ref (ad t) :: st) (wM G ad (M, o))) : EV G R m Qf u pc L (.int i :: .ref (ad a) :: st) (wM G ad (M, o)) := e_aald (S := (M, o)) hd hp hs hi hk hn hr kk
theorem p_alen {a n : Nat} {refs : List (Option Nat)} (hd : decode m.2.1 pc = .ok (.arraylength, 1)) (hp : pc + 1 = pc') (hs : shp[a]? = some (100, n, refs))
    (kk : EV G R m Qf u pc' L (.int (nI n) :: st) (wM G ad (M, o))) : EV G R m Qf u pc L (.ref (ad a) :: st) (wM G ad (M, o)) := e_alen (S := (M, o)) hd hp hs kk
theorem p_copy {a0 a1 n0 n1 i0 i1 c idx : Nat} {r0 r1 : List (Option Nat)} {x0 x1 xc : Int32} (hd : decode m.2.1 pc = .ok (.invokestatic idx, 3)) (hp : pc + 3 = pc') (hl : Cond.methodLink m.1.cls idx arraycopyName ∈ wG) (h1 : Cond.native arraycopyName ∈ wG) (h2 : Cond.static arraycopyName ∈ wG) (h3 : Cond.initialized "java/lang/System" ∈ wG)
    (hs0 : shp[a0]? = some (100, n0, r0)) (hs1 : shp[a1]? = some (100, n1, r1)) (hx0 : x0 = nI i0) (hx1 : x1 = nI i1) (hxc : xc = nI c) (b0 : i0 + c ≤ n0) (b1 : i1 + c ≤ n1) (hn0 : n0 < 2 ^ 31) (hn1 : n1 < 2 ^ 31) (hf : 1 ≤ R.frames) (hlo : (st.map fun v => v.category).sum + (nativeFrameWords "java/lang/System" "arraycopy" 5 + 11) ≤ R.locals)
    (kk : EV G R m Qf u pc' L st (wM G ad (upA M a1 (va_cpy (M a0) (M a1) i0 i1 c), o))) : EV G R m Qf u pc L (.int xc :: .int x1 :: .ref (ad a1) :: .int x0 :: .ref (ad a0) :: st) (wM G ad (M, o)) := e_copy (S := (M, o)) hd hp hl h1 h2 h3 hs0 hs1 hx0 hx1 hxc b0 b1 hn0 hn1 hf hlo kk
theorem p_last {x : Int64} (hd : decode m.2.1 pc = .ok (.lastore, 1)) (hp : pc + 1 = pc')
    (kk : EV G R m Qf u pc' L st (wM G ad (M, vp_updL o.1 0 x, o.2))) : EV G R m Qf u pc L (.long x :: .int 0 :: .ref (ad 104) :: st) (wM G ad (M, o)) := e_last (S := (M, o)) hd hp kk
theorem p_dast {x : UInt64} (hd : decode m.2.1 pc = .ok (.dastore, 1)) (hp : pc + 1 = pc')
    (kk : EV G R m Qf u pc' L st (wM G ad (M, o.1, vf_upd o.2 0 x))) : EV G R m Qf u pc L (.double x :: .int 0 :: .ref (ad 105) :: st) (wM G ad (M, o)) := e_dast (S := (M, o)) hd hp kk
theorem p_lald (hd : decode m.2.1 pc = .ok (.laload, 1)) (hp : pc + 1 = pc')
    (kk : EV G R m Qf u pc' L (.long (o.1 0) :: st) (wM G ad (M, o))) : EV G R m Qf u pc L (.int 0 :: .ref (ad 104) :: st) (wM G ad (M, o)) := e_lald (S := (M, o)) hd hp kk
theorem p_dald (hd : decode m.2.1 pc = .ok (.daload, 1)) (hp : pc + 1 = pc')
    (kk : EV G R m Qf u pc' L (.double (o.2 0) :: st) (wM G ad (M, o))) : EV G R m Qf u pc L (.int 0 :: .ref (ad 105) :: st) (wM G ad (M, o)) := e_dald (S := (M, o)) hd hp kk
end EWI
/-- a loop from i up to N -/
theorem down (N : Nat) (P : Nat → Prop) (step : ∀ i, i ≤ N → (i < N → P (i + 1)) → P i) : ∀ i, i ≤ N → P i := by
  have h : ∀ k i, i ≤ N → N - i = k → P i := by
    intro k
    induction k with
    | zero => intro i hi hk; exact step i hi (fun h => absurd h (by omega))
    | succ k ih => intro i hi hk; exact step i hi (fun h => ih (i + 1) (by omega) (by omega))
  exact fun i hi => h _ i hi rfl
/-- only what F says of the cells changes -/
def KP (F : Nat → Bool) (M M' : Nat → Nat → Int32) : Prop := ∀ a, F a = false → M' a = M a
theorem KP.refl {F : Nat → Bool} {M : Nat → Nat → Int32} : KP F M M := fun _ _ => rfl
theorem KP.trans {F : Nat → Bool} {M M1 M2 : Nat → Nat → Int32} (h1 : KP F M M1) (h2 : KP F M1 M2) : KP F M M2 := fun a h => (h2 a h).trans (h1 a h)
theorem KP.wide {F F' : Nat → Bool} {M M' : Nat → Nat → Int32} (h : KP F M M') (hF : ∀ a, F' a = false → F a = false) : KP F' M M' := fun a ha => h a (hF a ha)
theorem KP.up {F : Nat → Bool} {M M' : Nat → Nat → Int32} {a k : Nat} {x : Int32} (h : KP F M M') (ha : F a = true) : KP F M (up2 M' a k x) := fun b hb => by
  rw [up2_n (fun e => by rw [e, ha] at hb; cases hb)]
  exact h b hb
theorem KP.upA {F : Nat → Bool} {M M' : Nat → Nat → Int32} {a : Nat} {f : Nat → Int32} (h : KP F M M') (ha : F a = true) : KP F M (upA M' a f) := fun b hb => by
  rw [upA_n (fun e => by rw [e, ha] at hb; cases hb)]
  exact h b hb
theorem KP.at {F : Nat → Bool} {M M' : Nat → Nat → Int32} (h : KP F M M') {a : Nat} (ha : F a = false) (k : Nat) : M' a k = M a k := by rw [h a ha]
/-- cells from A up to B -/
def inR (A B : Nat) : Nat → Bool := fun a => decide (A ≤ a) && decide (a ≤ B)
theorem inR_t {A B a : Nat} (h1 : A ≤ a) (h2 : a ≤ B) : inR A B a = true := by unfold inR; simp [h1, h2]
theorem inR_f {A B a : Nat} (h : a < A ∨ B < a) : inR A B a = false := by unfold inR; simp; omega
theorem ite_nI {p : Prop} [Decidable p] {a b : Nat} : (if p then nI a else nI b) = nI (if p then a else b) := by split <;> rfl
theorem min_nI {a b : Nat} (ha : a < 2 ^ 31) (hb : b < 2 ^ 31) : (if nI b < nI a then nI b else nI a) = nI (min a b) := by
  by_cases h : b < a
  · rw [if_pos (nI_lt h ha), Nat.min_eq_right (by omega)]
  · rw [if_neg (fun q => h ((nI_ltI hb ha).mp q)), Nat.min_eq_left (by omega)]
theorem max_nI {a b : Nat} (ha : a < 2 ^ 31) (hb : b < 2 ^ 31) : (if nI a < nI b then nI b else nI a) = nI (max a b) := by
  by_cases h : a < b
  · rw [if_pos (nI_lt h hb), Nat.max_eq_right (by omega)]
  · rw [if_neg (fun q => h ((nI_ltI ha hb).mp q)), Nat.max_eq_left (by omega)]

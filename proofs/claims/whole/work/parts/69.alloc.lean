set_option maxHeartbeats 400000
/-! THE CONSTRUCTORS: worlds that grow -/
def Z0 : Nat → Nat → Int32 := up2 (up2 (fun _ _ => 0) 0 10 (-1)) 96 14 (-1)
abbrev ZM : Mem := (Z0, fun _ => 0, fun _ => 0)
theorem Z0_n {a : Nat} (h : a ≠ 0) (h2 : a ≠ 96) : Z0 a = fun _ => 0 := by unfold Z0; rw [up2_n h2, up2_n h]
def sh (k : Nat) : Nat × Nat × List (Option Nat) := shp.getD k (0, 0, [])
def AW (n : Nat) (ad : Nat → Nat) (E : Nat → va_E) : va_W := (List.range n).map (fun k => (ad k, E k))
theorem vfu_s {α : Type} {f : Nat → α} {k : Nat} {x : α} : vf_upd f k x k = x := if_pos rfl
theorem vfu_n {α : Type} {f : Nat → α} {k j : Nat} {x : α} (h : j ≠ k) : vf_upd f k x j = f j := if_neg h
theorem AW.len {n : Nat} {ad : Nat → Nat} {E : Nat → va_E} : (AW n ad E).length = n := by unfold AW; simp
theorem AW.get {n a : Nat} {ad : Nat → Nat} {E : Nat → va_E} (h : a < n) : (AW n ad E)[a]? = some (ad a, E a) := by
  unfold AW
  rw [List.getElem?_map, List.getElem?_range h, Option.map_some]
theorem AW.push {n q : Nat} {ad : Nat → Nat} {E : Nat → va_E} {e : va_E} : AW n ad E ++ [(q, e)] = AW (n + 1) (vf_upd ad n q) (vf_upd E n e) := by
  unfold AW
  rw [List.range_succ, List.map_append]
  congr 1
  · refine List.map_congr_left (fun k hk => ?_)
    have := List.mem_range.mp hk
    rw [vfu_n (by omega), vfu_n (by omega)]
  · rw [List.map_cons, List.map_nil, vfu_s, vfu_s]
theorem AW.set {n a : Nat} {ad : Nat → Nat} {E : Nat → va_E} {e : va_E} (h : a < n) : (AW n ad E).set a (ad a, e) = AW n ad (vf_upd E a e) := by
  apply List.ext_getElem?
  intro j
  by_cases hj : j = a
  · subst hj
    rw [List.getElem?_set_self (by rw [AW.len]; exact h), AW.get h, vfu_s]
  · rw [List.getElem?_set_ne (Ne.symm hj)]
    by_cases hl : j < n
    · rw [AW.get hl, AW.get hl, vfu_n hj]
    · rw [List.getElem?_eq_none (by rw [AW.len]; omega), List.getElem?_eq_none (by rw [AW.len]; omega)]
theorem cellM_ad {G : gC} {ad ad' : Nat → Nat} {S : Mem} {a : Nat} {s : Nat × Nat × List (Option Nat)} (h : ∀ i r, s.2.2.getD i none = some r → ad' r = ad r) : cellM G ad' S a s = cellM G ad S a s := by
  have h1 : refF ad' s.2.2 = refF ad s.2.2 := by
    funext i
    unfold refF
    cases e : s.2.2.getD i none with
    | none => rfl
    | some r => simp [h i r e]
  have h2 : objF ad' (S.1 a) s.2.2 = objF ad (S.1 a) s.2.2 := by
    unfold objF
    refine List.map_congr_left (fun i _ => ?_)
    unfold objV
    cases e : s.2.2.getD i none with
    | none => rfl
    | some r => simp [objR, h i r e]
  unfold cellM
  split <;> first | rfl | rw [h1] | rw [h2]
/-- what is made is as the shape says, but for what is being made -/
def ST (G : gC) (n : Nat) (ad : Nat → Nat) (E : Nat → va_E) (dn : List Nat) : Prop := ∀ k, k < n → k ∉ dn → E k = cellM G ad ZM k (sh k) ∧ ∀ i r, (sh k).2.2.getD i none = some r → r < n
section T69
variable {G : gC} {n q a : Nat} {ad ad' : Nat → Nat} {E : Nat → va_E} {e : va_E} {dn dn' : List Nat}
theorem ST.new (h : ST G n ad E dn) (hd : ∀ k, k < n → k ∉ dn' → k ∉ dn) (he : n ∉ dn' → e = cellM G (vf_upd ad n q) ZM n (sh n) ∧ ∀ i r, (sh n).2.2.getD i none = some r → r < n + 1) : ST G (n + 1) (vf_upd ad n q) (vf_upd E n e) dn' := by
  intro k hk hn
  by_cases hkn : k = n
  · subst hkn
    rw [vfu_s]
    exact he hn
  · obtain ⟨h1, h2⟩ := h k (by omega) (hd k (by omega) hn)
    rw [vfu_n hkn]
    refine ⟨h1.trans (cellM_ad (fun i r hr => ?_)).symm, fun i r hr => Nat.lt_succ_of_lt (h2 i r hr)⟩
    have := h2 i r hr
    exact vfu_n (by omega)
theorem ST.set (h : ST G n ad E dn) (ha : a ∈ dn) : ST G n ad (vf_upd E a e) dn := by
  intro k hk hn
  have hka : k ≠ a := fun z => by subst z; exact hn ha
  rw [vfu_n hka]
  exact h k hk hn
theorem ST.fin (h : ST G n ad E (a :: dn)) (he : E a = cellM G ad ZM a (sh a)) (hr : ∀ i r, (sh a).2.2.getD i none = some r → r < n) : ST G n ad E dn := by
  intro k hk hn
  by_cases hka : k = a
  · subst hka; exact ⟨he, hr⟩
  · exact h k hk (by simp [hka, hn])
/-- no references -/
theorem nor {s : Nat × Nat × List (Option Nat)} {m : Nat} (h : s.2.2 = []) : ∀ i r, s.2.2.getD i none = some r → r < m := fun i r hr => by rw [h] at hr; simp at hr
theorem rall {l : List (Option Nat)} {m : Nat} (h : l.all (fun x => match x with | none => true | some r => decide (r < m)) = true) : ∀ i r, l.getD i none = some r → r < m := fun i r hr => by
  rw [List.getD_eq_getElem?_getD] at hr
  cases e : l[i]? with
  | none => rw [e] at hr; cases hr
  | some x =>
    rw [e] at hr
    have hx : x = some r := hr
    subst hx
    have := List.all_eq_true.mp h _ (List.mem_of_getElem? e)
    simpa using this
end T69
section EVA
variable {G : gC} {R : Room} {m : MD} {Qf : QF} {u : Nat × Nat} {pc pc' : Nat} {L : List (Option Value)} {st : List Value} {n : Nat} {ad : Nat → Nat} {E : Nat → va_E} {dn : List Nat}
theorem hA_of {p : Program} {s : State} {mid : MethodId} {args : Array Value} {meth : Method} {c : Code} (F : FR G m p s mid args meth c) : ∀ q, s.heap.size ≤ q → gS G q := fun q h => Nat.le_trans F.2.2.2.2.2.2.2.1.2.2.2.2.2.2.2.2.2.2.2.2.2.2.1 h
/-- an object is made: it is being made from now on -/
theorem a_new {idx ci : Nat} {fs : List Value} (hS : ST G n ad E dn) (hd : decode m.2.1 pc = .ok (.new idx, 3)) (hp : pc + 3 = pc') (hci : ci < 10) (hcl : Cond.classLink m.1.cls idx (cls ci).1 ∈ wG) (hinst : Cond.instantiable (cls ci).1 (cls ci).2.2 ∈ wG) (hini : Cond.initialized (cls ci).1 ∈ wG) (hfs : ∀ j, j < (cls ci).2.2 → defaultValue (cls_t ci j) = vp_V fs j) (h1 : u.1 + 1 ≤ R.cells) (h2 : u.2 + (cls ci).2.2 ≤ R.slots)
    (k : ∀ (q : Nat) (ad' : Nat → Nat) (E' : Nat → va_E), ST G (n + 1) ad' E' (n :: dn) → (∀ k, k < n → ad' k = ad k) → ad' n = q → (∀ k, k < n → E' k = E k) → E' n = .inr (ci, fs) → EV G R m Qf (u.1 + 1, u.2 + (cls ci).2.2) pc' L (.ref q :: st) (AW (n + 1) ad' E')) : EV G R m Qf u pc L st (AW n ad E) := by
  subst hp
  intro p e s mid args below meth c H locs ls F hP hD hS0 hlv
  refine va_new F.1 F.2.1 F.2.2.2.2.2.1 (cls_in hci) (cls_t ci) (cls_ty hci) F.2.2.2.2.1 (F.2.2.2.2.2.1 _ hcl) (F.2.2.2.2.2.1 _ hinst) (F.2.2.2.2.2.1 _ hini) F.2.2.2.2.2.2.2.1.1 hP hD hS0 (hA_of F) (cls_at hci) hfs h1 h2 hd (fun q H1 a1 a2 a3 => ?_)
  rw [AW.push] at a1 a2
  exact k q _ _ (hS.new (fun k hk hn => fun z => hn (List.mem_cons_of_mem _ z)) (fun z => absurd List.mem_cons_self z)) (fun k hk => vfu_n (by omega)) vfu_s (fun k hk => vfu_n (by omega)) vfu_s p e s mid args below meth c H1 locs ls F a1 a2 a3 hlv
theorem gT_at {t : Nat} {q : ClassId × FieldType} (h : (gT G)[t]? = some q) {s : State} {H : Heap} (hC : CX G s H) {cA : ClassId} {ty : FieldType} (hq : q.2 = ty) (hra : ∀ (U : State) (c : ClassId), va_RA U c ty → U.vm.findClass ("[" ++ ty.toString) = some c) {D : va_G} {cl : List vw_C} (hK : va_K D cl (gT G ++ [(cA, ty)]) s) : cA = q.1 := by
  subst hq
  have h1 := hra s _ (hC.1.2 t _ h).2
  have h2 := hra s _ (hK.2 (gT G).length (cA, q.2) (by rw [List.getElem?_append_right (Nat.le_refl _)]; simp)).2
  exact Option.some.inj (h2.symm.trans h1)
/-- an array of numbers is made -/
theorem a_newN {atype : ArrayType} {t N : Nat} {ty : FieldType} {a0 : vp_A} {x : Int32} (hS : ST G n ad E dn) (hnd : n ∉ dn) (hd : decode m.2.1 pc = .ok (.newarray atype, 2)) (hp : pc + 2 = pc') (harr : Cond.arrayClass (newarray.typeOf atype) ∈ wG) (hty : newarray.typeOf atype = ty) (ht : (gT G)[t]? = some (gA G t, ty)) (hra : ∀ (U : State) (c : ClassId), va_RA U c ty → U.vm.findClass ("[" ++ ty.toString) = some c) (ha : ∀ cA : ClassId, vp_cell cA a0 = arrV cA N (fun _ => defaultValue ty)) (hx : x = nI N) (hN : N < 2 ^ 31) (hb : N * componentBytes ty ≤ 536870912) (hc : ∀ ad' : Nat → Nat, (.inl (gA G t, a0) : va_E) = cellM G ad' ZM n (sh n)) (hr : (sh n).2.2 = []) (h1 : u.1 + 1 ≤ R.cells) (h2 : u.2 + N ≤ R.slots)
    (k : ∀ (q : Nat) (ad' : Nat → Nat) (E' : Nat → va_E), ST G (n + 1) ad' E' dn → (∀ k, k < n → ad' k = ad k) → ad' n = q → (∀ k, k < n → E' k = E k) → EV G R m Qf (u.1 + 1, u.2 + N) pc' L (.ref q :: st) (AW (n + 1) ad' E')) : EV G R m Qf u pc L (.int x :: st) (AW n ad E) := by
  subst hp
  subst hx
  intro p e s mid args below meth c H locs ls F hP hD hS0 hlv
  refine va_newa F.1 F.2.1 (F.2.2.2.2.2.1 _ harr) hty F.2.2.2.2.2.2.2.1.1 hP hD hS0 (hA_of F) ha (fun z => absurd (nI_pos' hN) (Int32.not_le.mpr z)) (nI_clamp hN) hb h1 h2 hd (fun q cA H1 a0' a1 a2 a3 => ?_)
  have hcA := gT_at ht F.2.2.2.2.2.2.2.1 rfl hra a0'
  subst hcA
  rw [AW.push] at a1 a2
  exact k q _ _ (hS.new (fun k hk hn => hn) (fun _ => ⟨hc _, nor hr⟩)) (fun k hk => vfu_n (by omega)) vfu_s (fun k hk => vfu_n (by omega)) p e s mid args below meth c H1 locs ls F a1 a2 a3 hlv
/-- an array of references is made: it is being made from now on -/
theorem a_newQ {idx t N : Nat} {C : String} {x : Int32} (hS : ST G n ad E dn) (hd : decode m.2.1 pc = .ok (.anewarray idx, 3)) (hp : pc + 3 = pc') (hcl : Cond.classLink m.1.cls idx C ∈ wG) (hAO : ∀ (s : State) (H : Heap), CX G s H → va_AO C s) (ht : (gT G)[t]? = some (gA G t, .object C)) (hx : x = nI N) (hN : N < 2 ^ 31) (hb : N * 4 ≤ 536870912) (h1 : u.1 + 1 ≤ R.cells) (h2 : u.2 + N ≤ R.slots)
    (k : ∀ (q : Nat) (ad' : Nat → Nat) (E' : Nat → va_E), ST G (n + 1) ad' E' (n :: dn) → (∀ k, k < n → ad' k = ad k) → ad' n = q → (∀ k, k < n → E' k = E k) → E' n = .inl (gA G t, N, .inr (.inr (.inr (.inr (fun _ => none))))) → EV G R m Qf (u.1 + 1, u.2 + N) pc' L (.ref q :: st) (AW (n + 1) ad' E')) : EV G R m Qf u pc L (.int x :: st) (AW n ad E) := by
  subst hp
  subst hx
  intro p e s mid args below meth c H locs ls F hP hD hS0 hlv
  refine va_newq F.1 F.2.1 F.2.2.2.2.1 (F.2.2.2.2.2.1 _ hcl) (hAO _ _ F.2.2.2.2.2.2.2.1) F.2.2.2.2.2.2.2.1.1 hP hD hS0 (hA_of F) (fun z => absurd (nI_pos' hN) (Int32.not_le.mpr z)) (nI_clamp hN) hb h1 h2 hd (fun q cA H1 a0' a1 a2 a3 => ?_)
  have hcA := gT_at ht F.2.2.2.2.2.2.2.1 rfl (fun U c h => by obtain ⟨_, _, _, _, _, h5⟩ := h; exact h5) a0'
  subst hcA
  rw [AW.push] at a1 a2
  exact k q _ _ (hS.new (fun k hk hn => fun z => hn (List.mem_cons_of_mem _ z)) (fun z => absurd List.mem_cons_self z)) (fun k hk => vfu_n (by omega)) vfu_s (fun k hk => vfu_n (by omega)) vfu_s p e s mid args below meth c H1 locs ls F a1 a2 a3 hlv
/-- a field of an object in the making is written -/
theorem a_putF {idx a b ci kf : Nat} {fs : List Value} {v : Value} {ty : FieldType} (hS : ST G n ad E dn) (hd : decode m.2.1 pc = .ok (.putfield idx, 3)) (hp : pc + 3 = pc') (ha : a < n) (hm : a ∈ dn) (hb : ad a = b) (he : E a = .inr (ci, fs)) (hci : ci < 10) (hk : kf < (cls ci).2.2) (hl : Cond.fieldLink m.1.cls idx ((cls ci).2.1 kf).1 ((cls ci).2.1 kf).2.1 ((cls ci).2.1 kf).2.2.1 ∈ wG) (hfin : ((cls ci).2.1 kf).2.2.2 = true) (hini : m.1.name = "<init>") (hdc : ((cls ci).2.1 kf).1 = m.1.cls) (hty : parseFieldDescriptor ((cls ci).2.1 kf).2.2.1 = some ty) (hn : narrow ty v = v) (hfit : fits ty v = true) (hlen : kf < fs.length)
    (k : ∀ (E' : Nat → va_E), ST G n ad E' dn → E' a = .inr (ci, fs.set kf v) → (∀ k, k ≠ a → E' k = E k) → EV G R m Qf u pc' L st (AW n ad E')) : EV G R m Qf u pc L (v :: .ref b :: st) (AW n ad E) := by
  subst hp
  subst hb
  intro p e s mid args below meth c H locs ls F hP hD hS0 hlv
  have hg : (AW n ad E)[a]? = some (ad a, .inr (ci, fs)) := by rw [AW.get ha, he]
  refine va_putF F.1 F.2.1 F.2.2.2.2.2.1 (cls_in hci) (cls_t ci) (cls_ty hci) (cls_nm hci) F.2.2.2.2.1 F.2.2.2.2.2.2.2.1.1 hP hD hS0 a hg (cls_at hci) kf hk (F.2.2.2.2.2.1 _ hl) (fun _ h => h) hfin (F.2.2.2.2.2.2.2.2.2.trans hini) hdc hty hn hfit hlen hd (fun H1 locs1 a1 a2 a3 => ?_)
  rw [AW.set ha] at a1 a2
  exact k _ (hS.set hm) vfu_s (fun k hk => vfu_n hk) p e s mid args below meth c H1 locs1 ls F a1 a2 a3 hlv
theorem a_put {idx a b ci kf : Nat} {fs : List Value} {v : Value} {ty : FieldType} (hS : ST G n ad E dn) (hd : decode m.2.1 pc = .ok (.putfield idx, 3)) (hp : pc + 3 = pc') (ha : a < n) (hm : a ∈ dn) (hb : ad a = b) (he : E a = .inr (ci, fs)) (hci : ci < 10) (hk : kf < (cls ci).2.2) (hl : Cond.fieldLink m.1.cls idx ((cls ci).2.1 kf).1 ((cls ci).2.1 kf).2.1 ((cls ci).2.1 kf).2.2.1 ∈ wG) (hfin : ((cls ci).2.1 kf).2.2.2 = false) (hty : parseFieldDescriptor ((cls ci).2.1 kf).2.2.1 = some ty) (hn : narrow ty v = v) (hfit : fits ty v = true) (hlen : kf < fs.length)
    (k : ∀ (E' : Nat → va_E), ST G n ad E' dn → E' a = .inr (ci, fs.set kf v) → (∀ k, k ≠ a → E' k = E k) → EV G R m Qf u pc' L st (AW n ad E')) : EV G R m Qf u pc L (v :: .ref b :: st) (AW n ad E) := by
  subst hp
  subst hb
  intro p e s mid args below meth c H locs ls F hP hD hS0 hlv
  have hg : (AW n ad E)[a]? = some (ad a, .inr (ci, fs)) := by rw [AW.get ha, he]
  refine va_put F.1 F.2.1 F.2.2.2.2.2.1 (cls_in hci) (cls_t ci) (cls_ty hci) (cls_nm hci) F.2.2.2.2.1 F.2.2.2.2.2.2.2.1.1 hP hD hS0 a hg (cls_at hci) kf hk (F.2.2.2.2.2.1 _ hl) (fun _ h => h) hfin hty hn hfit hlen hd (fun H1 locs1 a1 a2 a3 => ?_)
  rw [AW.set ha] at a1 a2
  exact k _ (hS.set hm) vfu_s (fun k hk => vfu_n hk) p e s mid args below meth c H1 locs1 ls F a1 a2 a3 hlv
theorem a_get {idx a b ci kf : Nat} {fs : List Value} {v : Value} (hd : decode m.2.1 pc = .ok (.getfield idx, 3)) (hp : pc + 3 = pc') (ha : a < n) (hb : ad a = b) (he : E a = .inr (ci, fs)) (hci : ci < 10) (hk : kf < (cls ci).2.2) (hl : Cond.fieldLink m.1.cls idx ((cls ci).2.1 kf).1 ((cls ci).2.1 kf).2.1 ((cls ci).2.1 kf).2.2.1 ∈ wG) (hv : fs[kf]? = some v)
    (k : EV G R m Qf u pc' L (v :: st) (AW n ad E)) : EV G R m Qf u pc L (.ref b :: st) (AW n ad E) := by
  subst hp
  subst hb
  intro p e s mid args below meth c H locs ls F hP hD hS0 hlv
  have hg : (AW n ad E)[a]? = some (ad a, .inr (ci, fs)) := by rw [AW.get ha, he]
  exact va_get F.1 F.2.1 F.2.2.2.2.2.1 (cls_in hci) F.2.2.2.2.1 F.2.2.2.2.2.2.2.1.1 hP a hg (cls_at hci) kf hk (F.2.2.2.2.2.1 _ hl) (fun _ h => h) hv hd (k p e s mid args below meth c H locs ls F hP hD hS0 hlv)
theorem a_ast {a b t N j v qk ci : Nat} {x : Int32} {vs : List Value} {f : Nat → Option Nat} (hS : ST G n ad E dn) (hd : decode m.2.1 pc = .ok (.aastore, 1)) (hp : pc + 1 = pc') (ha : a < n) (hm : a ∈ dn) (hb : ad a = b) (he : E a = .inl (gA G t, N, .inr (.inr (.inr (.inr f))))) (hci : ci < 10) (ht : (gT G)[t]? = some (gA G t, .object (cls ci).1)) (hq : qk < n) (hv : ad qk = v) (hev : E qk = .inr (ci, vs)) (hx : x = nI j) (hj : j < N) (hN : N < 2 ^ 31)
    (k : ∀ (E' : Nat → va_E), ST G n ad E' dn → E' a = .inl (gA G t, N, .inr (.inr (.inr (.inr (va_up f j (some v)))))) → (∀ k, k ≠ a → E' k = E k) → EV G R m Qf u pc' L st (AW n ad E')) : EV G R m Qf u pc L (.ref v :: .int x :: .ref b :: st) (AW n ad E) := by
  subst hp
  subst hb
  subst hv
  subst hx
  intro p e s mid args below meth c H locs ls F hP hD hS0 hlv
  have hg : (AW n ad E)[a]? = some (ad a, .inl (gA G t, N, .inr (.inr (.inr (.inr f))))) := by rw [AW.get ha, he]
  have hg2 : (AW n ad E)[qk]? = some (ad qk, .inr (ci, vs)) := by rw [AW.get hq, hev]
  refine va_astq F.1 F.2.1 F.2.2.2.2.2.2.2.1.1 hP hD hS0 a t qk ci hg ht hg2 (cls_at hci) (vp_in_nI hj hN) hd (fun H1 locs1 a1 a2 a3 => ?_)
  rw [AW.set ha, nI_clamp (Nat.lt_trans hj hN)] at a1 a2
  exact k _ (hS.set hm) vfu_s (fun k hk => vfu_n hk) p e s mid args below meth c H1 locs1 ls F a1 a2 a3 hlv
/-- a constructor's contract -/
def CTR (G : gC) (d : Nat) (m : MD) (K : Nat × Nat) (args : List Value) (n n' : Nat) (ad : Nat → Nat) (E : Nat → va_E) (dn : List Nat) : Prop := EVM G d m K args (AW n ad E) (fun r w' => r = .inl none ∧ ∃ (ad' : Nat → Nat) (E' : Nat → va_E), w' = AW n' ad' E' ∧ ST G n' ad' E' dn ∧ (∀ k, k < n → ad' k = ad k) ∧ (∀ k, k ∈ dn → E' k = E k))
abbrev CTP (G : gC) (n n' : Nat) (ad : Nat → Nat) (E : Nat → va_E) (dn : List Nat) : PQ := fun r w' => r = .inl none ∧ ∃ (ad' : Nat → Nat) (E' : Nat → va_E), w' = AW n' ad' E' ∧ ST G n' ad' E' dn ∧ (∀ k, k < n → ad' k = ad k) ∧ (∀ k, k ∈ dn → E' k = E k)
theorem a_inv {m' : MD} {d k idx b n' : Nat} {K' : Nat × Nat} {As stk : List Value} (hM : CTR G d m' K' (.ref b :: As) n n' ad E dn) (hd : decode m.2.1 pc = .ok (.invokespecial idx, 3)) (hp : pc + 3 = pc') (hs : stk = As.reverse ++ .ref b :: st) (hw : (st.map fun v => v.category).sum ≤ 8) (hF : Fit R u d m'.2.2.1 K') (hl : Cond.methodLink m.1.cls idx m'.1 ∈ wG) (ok : IOK m' k) (hn : As.length = k)
    (kr : ∀ (ad' : Nat → Nat) (E' : Nat → va_E), ST G n' ad' E' dn → (∀ k, k < n → ad' k = ad k) → (∀ k, k ∈ dn → E' k = E k) → EV G R m Qf (u.1 + K'.1, u.2 + K'.2) pc' L st (AW n' ad' E')) : EV G R m Qf u pc L stk (AW n ad E) :=
  e_invI hM (fun E w' h => by cases h.1) hd hp hs hw hF hl ok hn (fun v w' h => by
    obtain ⟨h1, ad', E', rfl, h3, h4, h5⟩ := h
    cases h1
    exact kr ad' E' h3 h4 h5)
theorem a_invN {m' : MD} {d k idx b n' : Nat} {K' : Nat × Nat} {As stk : List Value} {host : String} (hM : CTR G d m' K' (.ref b :: As) n n' ad E dn) (hd : decode m.2.1 pc = .ok (.invokespecial idx, 3)) (hp : pc + 3 = pc') (hs : stk = As.reverse ++ .ref b :: st) (hw : (st.map fun v => v.category).sum ≤ 8) (hF : Fit R u d m'.2.2.1 K') (hl : Cond.methodLinkNest m.1.cls idx m'.1 host ∈ lw_tbl) (ok : IOK m' k) (hn : As.length = k)
    (kr : ∀ (ad' : Nat → Nat) (E' : Nat → va_E), ST G n' ad' E' dn → (∀ k, k < n → ad' k = ad k) → (∀ k, k ∈ dn → E' k = E k) → EV G R m Qf (u.1 + K'.1, u.2 + K'.2) pc' L st (AW n' ad' E')) : EV G R m Qf u pc L stk (AW n ad E) :=
  e_invIN hM (fun E w' h => by cases h.1) hd hp hs hw hF hl ok hn (fun v w' h => by
    obtain ⟨h1, ad', E', rfl, h3, h4, h5⟩ := h
    cases h1
    exact kr ad' E' h3 h4 h5)
end EVA

/-! THE WORLD: 106 made cells, their ints in one memory -/
abbrev Mem : Type := (Nat → Nat → Int32) × (Nat → Int64) × (Nat → UInt64)
/-- kind (a class of vC; 100 int[], 101 char[], 102 long[], 103 double[], 104 Colony[], 105 Command[]), length, references by places -/
def shp : List (Nat × Nat × List (Option Nat)) := [(8, 14, [some 1, some 7, some 12, some 13, some 14, some 64, some 70, some 76, some 94, none, none, none, none, none]), (1, 10, [none, some 2, some 3, some 4, none, none, some 5, some 6, none, none]), (100, 9, []), (100, 9, []), (100, 9, []), (100, 16, []), (100, 16, []), (6, 8, [some 1, some 8, some 9, some 10, some 11, none, none, none]), (100, 18, []), (100, 9, []), (100, 9, []), (100, 9, []), (3, 1, [some 1]), (0, 4, [some 1, some 7, some 12, none]), (4, 3, [some 15, none, none]), (104, 8, [some 16, some 22, some 28, some 34, some 40, some 46, some 52, some 58]), (1, 10, [none, some 17, some 18, some 19, none, none, some 20, some 21, none, none]), (100, 9, []), (100, 9, []), (100, 9, []), (100, 16, []), (100, 16, []), (1, 10, [none, some 23, some 24, some 25, none, none, some 26, some 27, none, none]), (100, 9, []), (100, 9, []), (100, 9, []), (100, 16, []), (100, 16, []), (1, 10, [none, some 29, some 30, some 31, none, none, some 32, some 33, none, none]), (100, 9, []), (100, 9, []), (100, 9, []), (100, 16, []), (100, 16, []), (1, 10, [none, some 35, some 36, some 37, none, none, some 38, some 39, none, none]), (100, 9, []), (100, 9, []), (100, 9, []), (100, 16, []), (100, 16, []), (1, 10, [none, some 41, some 42, some 43, none, none, some 44, some 45, none, none]), (100, 9, []), (100, 9, []), (100, 9, []), (100, 16, []), (100, 16, []), (1, 10, [none, some 47, some 48, some 49, none, none, some 50, some 51, none, none]), (100, 9, []), (100, 9, []), (100, 9, []), (100, 16, []), (100, 16, []), (1, 10, [none, some 53, some 54, some 55, none, none, some 56, some 57, none, none]), (100, 9, []), (100, 9, []), (100, 9, []), (100, 16, []), (100, 16, []), (1, 10, [none, some 59, some 60, some 61, none, none, some 62, some 63, none, none]), (100, 9, []), (100, 9, []), (100, 9, []), (100, 16, []), (100, 16, []), (1, 10, [none, some 65, some 66, some 67, none, none, some 68, some 69, none, none]), (100, 9, []), (100, 9, []), (100, 9, []), (100, 16, []), (100, 16, []), (1, 10, [none, some 71, some 72, some 73, none, none, some 74, some 75, none, none]), (100, 9, []), (100, 9, []), (100, 9, []), (100, 16, []), (100, 16, []), (7, 5, [some 77, none, some 78, none, none]), (101, 60, []), (105, 15, [some 79, some 80, some 81, some 82, some 83, some 84, some 85, some 86, some 87, some 88, some 89, some 90, some 91, some 92, some 93]), (2, 4, [none, none, none, none]), (2, 4, [none, none, none, none]), (2, 4, [none, none, none, none]), (2, 4, [none, none, none, none]), (2, 4, [none, none, none, none]), (2, 4, [none, none, none, none]), (2, 4, [none, none, none, none]), (2, 4, [none, none, none, none]), (2, 4, [none, none, none, none]), (2, 4, [none, none, none, none]), (2, 4, [none, none, none, none]), (2, 4, [none, none, none, none]), (2, 4, [none, none, none, none]), (2, 4, [none, none, none, none]), (2, 4, [none, none, none, none]), (5, 2, [some 95, none]), (101, 23, []), (9, 20, [some 97, some 98, some 99, some 100, none, none, none, none, none, none, none, none, some 101, none, none, some 102, none, none, some 103, none]), (100, 72, []), (100, 576, []), (100, 72, []), (100, 72, []), (100, 60, []), (101, 60, []), (100, 124, []), (102, 1, []), (103, 1, [])]
def objR (ad : Nat → Nat) (f : Nat → Int32) (k : Nat) (r : Option Nat) : Value := match r with
  | some t => .ref (ad t)
  | none => .int (f k)
def objV (ad : Nat → Nat) (f : Nat → Int32) (refs : List (Option Nat)) (k : Nat) : Value := objR ad f k (refs.getD k none)
def objF (ad : Nat → Nat) (f : Nat → Int32) (refs : List (Option Nat)) : List Value := (List.range refs.length).map (objV ad f refs)
def refF (ad : Nat → Nat) (refs : List (Option Nat)) : Nat → Option Nat := fun i => (refs.getD i none).map ad
def cellM (G : gC) (ad : Nat → Nat) (S : Mem) (a : Nat) (s : Nat × Nat × List (Option Nat)) : va_E := match s.1 with
  | 100 => .inl (gA G 0, (s.2.1, .inl (S.1 a)))
  | 101 => .inl (gA G 1, (s.2.1, .inl (S.1 a)))
  | 102 => .inl (gA G 2, (s.2.1, .inr (.inl S.2.1)))
  | 103 => .inl (gA G 3, (s.2.1, .inr (.inr (.inr (.inl S.2.2)))))
  | 104 => .inl (gA G 4, (s.2.1, .inr (.inr (.inr (.inr (refF ad s.2.2))))))
  | 105 => .inl (gA G 5, (s.2.1, .inr (.inr (.inr (.inr (refF ad s.2.2))))))
  | ci => .inr (ci, objF ad (S.1 a) s.2.2)
def wM (G : gC) (ad : Nat → Nat) (S : Mem) : va_W := (List.range shp.length).map (fun a => (ad a, cellM G ad S a (shp.getD a (0, 0, []))))
def upA (M : Nat → Nat → Int32) (a : Nat) (f : Nat → Int32) : Nat → Nat → Int32 := fun b => if b = a then f else M b
def up2 (M : Nat → Nat → Int32) (a k : Nat) (x : Int32) : Nat → Nat → Int32 := upA M a (upd (M a) k x)
theorem upA_s {M : Nat → Nat → Int32} {a : Nat} {f : Nat → Int32} : upA M a f a = f := if_pos rfl
theorem upA_n {M : Nat → Nat → Int32} {a b : Nat} {f : Nat → Int32} (h : b ≠ a) : upA M a f b = M b := if_neg h
theorem up2_s {M : Nat → Nat → Int32} {a k : Nat} {x : Int32} : up2 M a k x a k = x := by unfold up2; rw [upA_s]; exact if_pos rfl
theorem up2_k {M : Nat → Nat → Int32} {a k j : Nat} {x : Int32} (h : j ≠ k) : up2 M a k x a j = M a j := by unfold up2; rw [upA_s]; exact if_neg h
theorem up2_n {M : Nat → Nat → Int32} {a b k : Nat} {x : Int32} (h : b ≠ a) : up2 M a k x b = M b := by unfold up2; exact upA_n h
theorem up2_v (M : Nat → Nat → Int32) (a k b j : Nat) (x : Int32) : up2 M a k x b j = if b = a ∧ j = k then x else M b j := by
  by_cases h : b = a
  · subst h
    by_cases h2 : j = k
    · subst h2; rw [up2_s, if_pos ⟨rfl, rfl⟩]
    · rw [up2_k h2, if_neg (fun q => h2 q.2)]
  · rw [up2_n h, if_neg (fun q => h q.1)]
theorem wM_get {G : gC} {ad : Nat → Nat} {S : Mem} {a : Nat} {s : Nat × Nat × List (Option Nat)} (h : shp[a]? = some s) : (wM G ad S)[a]? = some (ad a, cellM G ad S a s) := by
  have hl := (List.getElem?_eq_some_iff.mp h).1
  unfold wM
  rw [List.getElem?_map, List.getElem?_range hl, Option.map_some, List.getD_eq_getElem?_getD, h]
  rfl
theorem wM_set {G : gC} {ad : Nat → Nat} {S S' : Mem} {a : Nat} {s : Nat × Nat × List (Option Nat)} {e : va_E} (h : shp[a]? = some s) (he : e = cellM G ad S' a s) (ho : ∀ (b : Nat) (s' : Nat × Nat × List (Option Nat)), b ≠ a → shp[b]? = some s' → cellM G ad S' b s' = cellM G ad S b s') : (wM G ad S).set a (ad a, e) = wM G ad S' := by
  have hl := (List.getElem?_eq_some_iff.mp h).1
  apply List.ext_getElem?
  intro b
  by_cases hb : b = a
  · subst hb
    rw [List.getElem?_set_self (by simpa [wM] using hl), wM_get h, he]
  · rw [List.getElem?_set_ne (Ne.symm hb)]
    by_cases hlb : b < shp.length
    · have hs : shp[b]? = some shp[b] := List.getElem?_eq_getElem hlb
      rw [wM_get hs, wM_get hs, ho b _ hb hs]
    · rw [List.getElem?_eq_none (by simpa [wM] using hlb), List.getElem?_eq_none (by simpa [wM] using hlb)]
theorem cellM_obj {G : gC} {ad : Nat → Nat} {S : Mem} {a ci n : Nat} {refs : List (Option Nat)} (h : ci < 10) : cellM G ad S a (ci, n, refs) = .inr (ci, objF ad (S.1 a) refs) := by
  unfold cellM
  split <;> first | rfl | (dsimp only at *; omega)
theorem cellM_upA {G : gC} {ad : Nat → Nat} {S : Mem} {a b : Nat} {f : Nat → Int32} {s : Nat × Nat × List (Option Nat)} (h : b ≠ a) : cellM G ad (upA S.1 a f, S.2) b s = cellM G ad S b s := by
  unfold cellM
  dsimp only
  rw [upA_n h]
theorem objF_len (ad : Nat → Nat) (f : Nat → Int32) (refs : List (Option Nat)) : (objF ad f refs).length = refs.length := by simp [objF]
theorem objF_get {ad : Nat → Nat} {f : Nat → Int32} {refs : List (Option Nat)} {k : Nat} {r : Option Nat} (h : refs[k]? = some r) : (objF ad f refs)[k]? = some (objR ad f k r) := by
  have hl := (List.getElem?_eq_some_iff.mp h).1
  unfold objF objV
  rw [List.getElem?_map, List.getElem?_range hl, Option.map_some, List.getD_eq_getElem?_getD, h]
  rfl
theorem objF_set {ad : Nat → Nat} {f : Nat → Int32} {refs : List (Option Nat)} {k : Nat} {x : Int32} (h : refs[k]? = some none) : (objF ad f refs).set k (.int x) = objF ad (upd f k x) refs := by
  have hl := (List.getElem?_eq_some_iff.mp h).1
  apply List.ext_getElem?
  intro j
  by_cases hj : j = k
  · subst hj
    rw [List.getElem?_set_self (by rw [objF_len]; exact hl), objF_get h]
    simp [objR, upd]
  · rw [List.getElem?_set_ne (Ne.symm hj)]
    by_cases hlj : j < refs.length
    · have hs : refs[j]? = some refs[j] := List.getElem?_eq_getElem hlj
      rw [objF_get hs, objF_get hs]
      generalize refs[j] = r
      cases r with
      | some t => rfl
      | none => simp [objR, upd, hj]
    · rw [List.getElem?_eq_none (by rw [objF_len]; omega), List.getElem?_eq_none (by rw [objF_len]; omega)]
def cls (ci : Nat) : vw_C := vC.getD ci (RX0, TX0, 4)
theorem cls_at {ci : Nat} (h : ci < 10) : vC[ci]? = some (cls ci) := by
  unfold cls
  rw [List.getD_eq_getElem?_getD, List.getElem?_eq_getElem (show ci < vC.length from h)]
  rfl
theorem inG0 : ∀ w ∈ wsX00, w ∈ wG := fun w hw => wG_in ((goodIn_of (big := lw_tbl) wsX00 (by decide +kernel)) w hw).1 (List.all_eq_true.mp (show wsX00.all goodWord = true by decide +kernel) w hw)
theorem inG1 : ∀ w ∈ wsX10, w ∈ wG := fun w hw => wG_in ((goodIn_of (big := lw_tbl) wsX10 (by decide +kernel)) w hw).1 (List.all_eq_true.mp (show wsX10.all goodWord = true by decide +kernel) w hw)
theorem inG2 : ∀ w ∈ wsX20, w ∈ wG := fun w hw => wG_in ((goodIn_of (big := lw_tbl) wsX20 (by decide +kernel)) w hw).1 (List.all_eq_true.mp (show wsX20.all goodWord = true by decide +kernel) w hw)
theorem inG3 : ∀ w ∈ wsX30, w ∈ wG := fun w hw => wG_in ((goodIn_of (big := lw_tbl) wsX30 (by decide +kernel)) w hw).1 (List.all_eq_true.mp (show wsX30.all goodWord = true by decide +kernel) w hw)
theorem inG4 : ∀ w ∈ wsX40, w ∈ wG := fun w hw => wG_in ((goodIn_of (big := lw_tbl) wsX40 (by decide +kernel)) w hw).1 (List.all_eq_true.mp (show wsX40.all goodWord = true by decide +kernel) w hw)
theorem inG5 : ∀ w ∈ wsX50, w ∈ wG := fun w hw => wG_in ((goodIn_of (big := lw_tbl) wsX50 (by decide +kernel)) w hw).1 (List.all_eq_true.mp (show wsX50.all goodWord = true by decide +kernel) w hw)
theorem inG6 : ∀ w ∈ wsX60, w ∈ wG := fun w hw => wG_in ((goodIn_of (big := lw_tbl) wsX60 (by decide +kernel)) w hw).1 (List.all_eq_true.mp (show wsX60.all goodWord = true by decide +kernel) w hw)
theorem inG7 : ∀ w ∈ wsX70, w ∈ wG := fun w hw => wG_in ((goodIn_of (big := lw_tbl) wsX70 (by decide +kernel)) w hw).1 (List.all_eq_true.mp (show wsX70.all goodWord = true by decide +kernel) w hw)
theorem inG8 : ∀ w ∈ wsX80, w ∈ wG := fun w hw => wG_in ((goodIn_of (big := lw_tbl) wsX80 (by decide +kernel)) w hw).1 (List.all_eq_true.mp (show wsX80.all goodWord = true by decide +kernel) w hw)
theorem inG9 : ∀ w ∈ wsX90, w ∈ wG := fun w hw => wG_in ((goodIn_of (big := lw_tbl) wsX90 (by decide +kernel)) w hw).1 (List.all_eq_true.mp (show wsX90.all goodWord = true by decide +kernel) w hw)
theorem cls_in {ci : Nat} (h : ci < 10) : ∀ w ∈ u_ws (cls ci).1 (cls ci).2.1 (cls ci).2.2, w ∈ wG := by
  match ci, h with
  | 0, _ => exact inG0
  | 1, _ => exact inG1
  | 2, _ => exact inG2
  | 3, _ => exact inG3
  | 4, _ => exact inG4
  | 5, _ => exact inG5
  | 6, _ => exact inG6
  | 7, _ => exact inG7
  | 8, _ => exact inG8
  | 9, _ => exact inG9
theorem cls_nm {ci : Nat} (h : ci < 10) : ∀ a, a < (cls ci).2.2 → ∀ b, b < (cls ci).2.2 → a ≠ b → ((cls ci).2.1 a).2.1 ≠ ((cls ci).2.1 b).2.1 := by
  match ci, h with
  | 0, _ => exact nmX0
  | 1, _ => exact nmX1
  | 2, _ => exact nmX2
  | 3, _ => exact nmX3
  | 4, _ => exact nmX4
  | 5, _ => exact nmX5
  | 6, _ => exact nmX6
  | 7, _ => exact nmX7
  | 8, _ => exact nmX8
  | 9, _ => exact nmX9
def cls_t (ci : Nat) : Nat → FieldType := match ci with
  | 0 => tyX0
  | 1 => tyX1
  | 2 => tyX2
  | 3 => tyX3
  | 4 => tyX4
  | 5 => tyX5
  | 6 => tyX6
  | 7 => tyX7
  | 8 => tyX8
  | _ => tyX9
theorem cls_ty {ci : Nat} (h : ci < 10) : ∀ k, k < (cls ci).2.2 → parseFieldDescriptor ((cls ci).2.1 k).2.2.1 = some (cls_t ci k) := by
  match ci, h with
  | 0, _ => exact tyX0_ok
  | 1, _ => exact tyX1_ok
  | 2, _ => exact tyX2_ok
  | 3, _ => exact tyX3_ok
  | 4, _ => exact tyX4_ok
  | 5, _ => exact tyX5_ok
  | 6, _ => exact tyX6_ok
  | 7, _ => exact tyX7_ok
  | 8, _ => exact tyX8_ok
  | 9, _ => exact tyX9_ok
abbrev PM : Type := Option Value ⊕ String → Mem → Prop
def MP (G : gC) (ad : Nat → Nat) (Pm : PM) : PQ := fun r w => ∃ S : Mem, w = wM G ad S ∧ Pm r S
/-- a method's contract over the memory -/
def CM (G : gC) (ad : Nat → Nat) (d : Nat) (m : MD) (K : Nat × Nat) (args : List Value) (S : Mem) (Pm : PM) : Prop := EVM G d m K args (wM G ad S) (MP G ad Pm)
/-- .. it returns v, the memory is S' -/
def RET (G : gC) (ad : Nat → Nat) (d : Nat) (m : MD) (args : List Value) (S : Mem) (v : Option Value) (S' : Mem) : Prop := CM G ad d m (0, 0) args S (fun r S2 => r = .inl v ∧ S2 = S')
/-- .. it throws E -/
def THR (G : gC) (ad : Nat → Nat) (d : Nat) (m : MD) (args : List Value) (S : Mem) (E : String) (S' : Mem) : Prop := CM G ad d m (1, 6) args S (fun r S2 => r = .inr E ∧ S2 = S')
abbrev ER (G : gC) (ad : Nat → Nat) (d : Nat) (m : MD) (K : Nat × Nat) (Pm : PM) (u : Nat × Nat) (pc : Nat) (L : List (Option Value)) (st : List Value) (S : Mem) : Prop := EV G (rmK d K) m (mQ G (MP G ad Pm) K) u pc L st (wM G ad S)
abbrev PR (v : Option Value) (S' : Mem) : PM := fun r S2 => r = .inl v ∧ S2 = S'
abbrev PX (E : String) (S' : Mem) : PM := fun r S2 => r = .inr E ∧ S2 = S'
section EWM
variable {G : gC} {R : Room} {m : MD} {Qf : QF} {u K : Nat × Nat} {pc pc' d : Nat} {L : List (Option Value)} {st : List Value} {ad : Nat → Nat} {S : Mem} {Pm : PM} {w0 : va_W}
theorem e_gf {a k ci n idx : Nat} {refs : List (Option Nat)} {r : Option Nat} {v : Value} (hd : decode m.2.1 pc = .ok (.getfield idx, 3)) (hp : pc + 3 = pc') (hs : shp[a]? = some (ci, n, refs)) (hci : ci < 10) (hk : k < (cls ci).2.2) (hr : refs[k]? = some r) (hl : Cond.fieldLink m.1.cls idx ((cls ci).2.1 k).1 ((cls ci).2.1 k).2.1 ((cls ci).2.1 k).2.2.1 ∈ wG) (hv : objR ad (S.1 a) k r = v)
    (kk : EV G R m Qf u pc' L (v :: st) (wM G ad S)) : EV G R m Qf u pc L (.ref (ad a) :: st) (wM G ad S) := by
  subst hp
  subst hv
  intro p e s mid args below meth c H locs ls F hP hD hS hlv
  have he := wM_get (G := G) (ad := ad) (S := S) hs
  rw [cellM_obj hci] at he
  exact va_get F.1 F.2.1 F.2.2.2.2.2.1 (cls_in hci) F.2.2.2.2.1 F.2.2.2.2.2.2.2.1.1 hP a he (cls_at hci) k hk (F.2.2.2.2.2.1 _ hl) (fun _ h => h) (objF_get hr) hd (kk p e s mid args below meth c H locs ls F hP hD hS hlv)
/-- a field of ints is read -/
theorem e_gfi {a k ci n idx : Nat} {refs : List (Option Nat)} {x : Int32} (hd : decode m.2.1 pc = .ok (.getfield idx, 3)) (hp : pc + 3 = pc') (hs : shp[a]? = some (ci, n, refs)) (hci : ci < 10) (hk : k < (cls ci).2.2) (hr : refs[k]? = some none) (hl : Cond.fieldLink m.1.cls idx ((cls ci).2.1 k).1 ((cls ci).2.1 k).2.1 ((cls ci).2.1 k).2.2.1 ∈ wG) (hx : S.1 a k = x)
    (kk : EV G R m Qf u pc' L (.int x :: st) (wM G ad S)) : EV G R m Qf u pc L (.ref (ad a) :: st) (wM G ad S) := e_gf hd hp hs hci hk hr hl (by rw [← hx]; rfl) kk
theorem e_gfr {a k ci n idx t : Nat} {refs : List (Option Nat)} (hd : decode m.2.1 pc = .ok (.getfield idx, 3)) (hp : pc + 3 = pc') (hs : shp[a]? = some (ci, n, refs)) (hci : ci < 10) (hk : k < (cls ci).2.2) (hr : refs[k]? = some (some t)) (hl : Cond.fieldLink m.1.cls idx ((cls ci).2.1 k).1 ((cls ci).2.1 k).2.1 ((cls ci).2.1 k).2.2.1 ∈ wG)
    (kk : EV G R m Qf u pc' L (.ref (ad t) :: st) (wM G ad S)) : EV G R m Qf u pc L (.ref (ad a) :: st) (wM G ad S) := e_gf hd hp hs hci hk hr hl rfl kk
theorem e_pf {a k ci n idx : Nat} {refs : List (Option Nat)} {x : Int32} {ty : FieldType} (hd : decode m.2.1 pc = .ok (.putfield idx, 3)) (hp : pc + 3 = pc') (hs : shp[a]? = some (ci, n, refs)) (hci : ci < 10) (hk : k < (cls ci).2.2) (hr : refs[k]? = some none) (hl : Cond.fieldLink m.1.cls idx ((cls ci).2.1 k).1 ((cls ci).2.1 k).2.1 ((cls ci).2.1 k).2.2.1 ∈ wG) (hfin : ((cls ci).2.1 k).2.2.2 = false) (hty : parseFieldDescriptor ((cls ci).2.1 k).2.2.1 = some ty) (hn : narrow ty (.int x) = .int x) (hfit : fits ty (.int x) = true)
    (kk : EV G R m Qf u pc' L st (wM G ad (up2 S.1 a k x, S.2))) : EV G R m Qf u pc L (.int x :: .ref (ad a) :: st) (wM G ad S) := by
  subst hp
  intro p e s mid args below meth c H locs ls F hP hD hS hlv
  have he := wM_get (G := G) (ad := ad) (S := S) hs
  rw [cellM_obj hci] at he
  refine va_put F.1 F.2.1 F.2.2.2.2.2.1 (cls_in hci) (cls_t ci) (cls_ty hci) (cls_nm hci) F.2.2.2.2.1 F.2.2.2.2.2.2.2.1.1 hP hD hS a he (cls_at hci) k hk (F.2.2.2.2.2.1 _ hl) (fun _ h => h) hfin hty hn hfit (by rw [objF_len]; exact (List.getElem?_eq_some_iff.mp hr).1) hd (fun H1 locs1 hP1 hD1 hS1 => ?_)
  have e1 : (wM G ad S).set a (ad a, .inr (ci, (objF ad (S.1 a) refs).set k (.int x))) = wM G ad (up2 S.1 a k x, S.2) := by
    refine wM_set hs ?_ (fun b s' hb _ => cellM_upA hb)
    rw [cellM_obj hci, objF_set hr]
    show _ = Sum.inr (ci, objF ad (up2 S.1 a k x a) refs)
    rw [up2, upA_s]
  rw [e1] at hP1 hD1
  exact kk p e s mid args below meth c H1 locs1 ls F hP1 hD1 hS1 hlv
theorem pfd_I : parseFieldDescriptor "I" = some .int := by decide +kernel
theorem pfd_Z : parseFieldDescriptor "Z" = some .boolean := by decide +kernel
theorem e_pfi {a k ci n idx : Nat} {refs : List (Option Nat)} {x : Int32} (hd : decode m.2.1 pc = .ok (.putfield idx, 3)) (hp : pc + 3 = pc') (hs : shp[a]? = some (ci, n, refs)) (hci : ci < 10) (hk : k < (cls ci).2.2) (hr : refs[k]? = some none) (hl : Cond.fieldLink m.1.cls idx ((cls ci).2.1 k).1 ((cls ci).2.1 k).2.1 ((cls ci).2.1 k).2.2.1 ∈ wG) (hfin : ((cls ci).2.1 k).2.2.2 = false) (hty : ((cls ci).2.1 k).2.2.1 = "I")
    (kk : EV G R m Qf u pc' L st (wM G ad (up2 S.1 a k x, S.2))) : EV G R m Qf u pc L (.int x :: .ref (ad a) :: st) (wM G ad S) := e_pf hd hp hs hci hk hr hl hfin (by rw [hty]; exact pfd_I) rfl rfl kk
theorem e_pfz {a k ci n idx : Nat} {refs : List (Option Nat)} {x : Int32} (hd : decode m.2.1 pc = .ok (.putfield idx, 3)) (hp : pc + 3 = pc') (hs : shp[a]? = some (ci, n, refs)) (hci : ci < 10) (hk : k < (cls ci).2.2) (hr : refs[k]? = some none) (hl : Cond.fieldLink m.1.cls idx ((cls ci).2.1 k).1 ((cls ci).2.1 k).2.1 ((cls ci).2.1 k).2.2.1 ∈ wG) (hfin : ((cls ci).2.1 k).2.2.2 = false) (hty : ((cls ci).2.1 k).2.2.1 = "Z") (hx : x = 0 ∨ x = 1)
    (kk : EV G R m Qf u pc' L st (wM G ad (up2 S.1 a k x, S.2))) : EV G R m Qf u pc L (.int x :: .ref (ad a) :: st) (wM G ad S) := e_pf hd hp hs hci hk hr hl hfin (by rw [hty]; exact pfd_Z) (by rcases hx with rfl | rfl <;> rfl) (by rcases hx with rfl | rfl <;> rfl) kk
theorem e_iald {a k n : Nat} {refs : List (Option Nat)} {i x : Int32} (hd : decode m.2.1 pc = .ok (.iaload, 1)) (hp : pc + 1 = pc') (hs : shp[a]? = some (100, n, refs)) (hi : i = nI k) (hk : k < n) (hn : n < 2 ^ 31) (hx : S.1 a k = x)
    (kk : EV G R m Qf u pc' L (.int x :: st) (wM G ad S)) : EV G R m Qf u pc L (.int i :: .ref (ad a) :: st) (wM G ad S) := by
  subst hp
  subst hi
  subst hx
  intro p e s mid args below meth c H locs ls F hP hD hS hlv
  refine va_iald F.1 F.2.1 F.2.2.2.2.2.2.2.1.1 hP a 0 (wM_get hs) rfl (vp_in_nI hk hn) hd ?_
  rw [nI_clamp (Nat.lt_trans hk hn)]
  exact kk p e s mid args below meth c H locs ls F hP hD hS hlv
theorem e_cald {a k n : Nat} {refs : List (Option Nat)} {i x : Int32} (hd : decode m.2.1 pc = .ok (.caload, 1)) (hp : pc + 1 = pc') (hs : shp[a]? = some (101, n, refs)) (hi : i = nI k) (hk : k < n) (hn : n < 2 ^ 31) (hx : S.1 a k = x)
    (kk : EV G R m Qf u pc' L (.int x :: st) (wM G ad S)) : EV G R m Qf u pc L (.int i :: .ref (ad a) :: st) (wM G ad S) := by
  subst hp
  subst hi
  subst hx
  intro p e s mid args below meth c H locs ls F hP hD hS hlv
  refine va_cald F.1 F.2.1 F.2.2.2.2.2.2.2.1.1 hP a 1 (wM_get hs) rfl (vp_in_nI hk hn) hd ?_
  rw [nI_clamp (Nat.lt_trans hk hn)]
  exact kk p e s mid args below meth c H locs ls F hP hD hS hlv
theorem e_iast {a k n : Nat} {refs : List (Option Nat)} {i x : Int32} (hd : decode m.2.1 pc = .ok (.iastore, 1)) (hp : pc + 1 = pc') (hs : shp[a]? = some (100, n, refs)) (hi : i = nI k) (hk : k < n) (hn : n < 2 ^ 31)
    (kk : EV G R m Qf u pc' L st (wM G ad (up2 S.1 a k x, S.2))) : EV G R m Qf u pc L (.int x :: .int i :: .ref (ad a) :: st) (wM G ad S) := by
  subst hp
  subst hi
  intro p e s mid args below meth c H locs ls F hP hD hS hlv
  refine va_iast F.1 F.2.1 F.2.2.2.2.2.2.2.1.1 hP hD hS a 0 (wM_get hs) rfl (vp_in_nI hk hn) hd (fun H1 locs1 hP1 hD1 hS1 => ?_)
  have e1 : (wM G ad S).set a (ad a, .inl (gA G 0, (n, .inl (upd (S.1 a) (nI k).toNatClampNeg x)))) = wM G ad (up2 S.1 a k x, S.2) := by
    refine wM_set hs ?_ (fun b s' hb _ => cellM_upA hb)
    show _ = Sum.inl (gA G 0, (n, Sum.inl (up2 S.1 a k x a)))
    rw [up2, upA_s, nI_clamp (Nat.lt_trans hk hn)]
  rw [show ((n, Sum.inl (S.1 a)) : vp_A).1 = n from rfl] at hP1 hD1
  rw [e1] at hP1 hD1
  exact kk p e s mid args below meth c H1 locs1 ls F hP1 hD1 hS1 hlv
theorem e_cast {a k n : Nat} {refs : List (Option Nat)} {i x : Int32} (hd : decode m.2.1 pc = .ok (.castore, 1)) (hp : pc + 1 = pc') (hs : shp[a]? = some (101, n, refs)) (hi : i = nI k) (hk : k < n) (hn : n < 2 ^ 31) (hx : vp_nar .char x = x)
    (kk : EV G R m Qf u pc' L st (wM G ad (up2 S.1 a k x, S.2))) : EV G R m Qf u pc L (.int x :: .int i :: .ref (ad a) :: st) (wM G ad S) := by
  subst hp
  subst hi
  intro p e s mid args below meth c H locs ls F hP hD hS hlv
  refine va_cast F.1 F.2.1 F.2.2.2.2.2.2.2.1.1 hP hD hS a 1 (wM_get hs) rfl (vp_in_nI hk hn) hd (fun H1 locs1 hP1 hD1 hS1 => ?_)
  have e1 : (wM G ad S).set a (ad a, .inl (gA G 1, (n, .inl (upd (S.1 a) (nI k).toNatClampNeg (vp_nar .char x))))) = wM G ad (up2 S.1 a k x, S.2) := by
    refine wM_set hs ?_ (fun b s' hb _ => cellM_upA hb)
    show _ = Sum.inl (gA G 1, (n, Sum.inl (up2 S.1 a k x a)))
    rw [up2, upA_s, nI_clamp (Nat.lt_trans hk hn), hx]
  rw [e1] at hP1 hD1
  exact kk p e s mid args below meth c H1 locs1 ls F hP1 hD1 hS1 hlv
theorem e_aald {a k n t : Nat} {refs : List (Option Nat)} {i : Int32} (hd : decode m.2.1 pc = .ok (.aaload, 1)) (hp : pc + 1 = pc') (hs : shp[a]? = some (104, n, refs) ∨ shp[a]? = some (105, n, refs)) (hi : i = nI k) (hk : k < n) (hn : n < 2 ^ 31) (hr : refs[k]? = some (some t))
    (kk : EV G R m Qf u pc' L (.ref (ad t) :: st) (wM G ad S)) : EV G R m Qf u pc L (.int i :: .ref (ad a) :: st) (wM G ad S) := by
  subst hp
  subst hi
  intro p e s mid args below meth c H locs ls F hP hD hS hlv
  have e9 : va_rf (refF ad refs (nI k).toNatClampNeg) = .ref (ad t) := by
    rw [nI_clamp (Nat.lt_trans hk hn)]
    unfold refF
    rw [List.getD_eq_getElem?_getD, hr]
    rfl
  rcases hs with hs | hs
  · refine va_aldq F.1 F.2.1 F.2.2.2.2.2.2.2.1.1 hP a 4 (wM_get hs) rfl (vp_in_nI hk hn) hd ?_
    dsimp only
    rw [e9]
    exact kk p e s mid args below meth c H locs ls F hP hD hS hlv
  · refine va_aldq F.1 F.2.1 F.2.2.2.2.2.2.2.1.1 hP a 5 (wM_get hs) rfl (vp_in_nI hk hn) hd ?_
    dsimp only
    rw [e9]
    exact kk p e s mid args below meth c H locs ls F hP hD hS hlv
theorem e_alen {a n : Nat} {refs : List (Option Nat)} (hd : decode m.2.1 pc = .ok (.arraylength, 1)) (hp : pc + 1 = pc') (hs : shp[a]? = some (100, n, refs))
    (kk : EV G R m Qf u pc' L (.int (nI n) :: st) (wM G ad S)) : EV G R m Qf u pc L (.ref (ad a) :: st) (wM G ad S) := by
  subst hp
  intro p e s mid args below meth c H locs ls F hP hD hS hlv
  exact va_alen F.1 F.2.1 F.2.2.2.2.2.2.2.1.1 hP a 0 (wM_get hs) rfl rfl hd (kk p e s mid args below meth c H locs ls F hP hD hS hlv)
theorem shp_only {k c : Nat} (h : ((List.range shp.length).all fun b => b == k || (shp.getD b (0, 0, [])).1 != c) = true) {b : Nat} {s' : Nat × Nat × List (Option Nat)} (hb : b ≠ k) (hs : shp[b]? = some s') : s'.1 ≠ c := by
  have hl := (List.getElem?_eq_some_iff.mp hs).1
  have h1 := List.all_eq_true.mp h b (List.mem_range.mpr hl)
  rw [List.getD_eq_getElem?_getD, hs] at h1
  simp only [Option.getD_some, Bool.or_eq_true, beq_iff_eq, bne_iff_ne, ne_eq] at h1
  rcases h1 with h1 | h1
  · exact absurd h1 hb
  · exact h1
theorem cellM_out {G : gC} {ad : Nat → Nat} {M : Nat → Nat → Int32} {o o' : Nat → Int64} {d d' : Nat → UInt64} {b : Nat} {s' : Nat × Nat × List (Option Nat)} (h : o = o' ∨ s'.1 ≠ 102) (h2 : d = d' ∨ s'.1 ≠ 103) : cellM G ad (M, o, d) b s' = cellM G ad (M, o', d') b s' := by
  unfold cellM
  split <;> first | rfl | (rcases h with rfl | h; rfl; exact absurd (by assumption) h) | (rcases h2 with rfl | h2; rfl; exact absurd (by assumption) h2)
theorem vp_01 : vp_in (0 : Int32) 1 := vp_in_nI (n := 0) (N := 1) (by decide) (by decide)
theorem e_last {x : Int64} (hd : decode m.2.1 pc = .ok (.lastore, 1)) (hp : pc + 1 = pc')
    (kk : EV G R m Qf u pc' L st (wM G ad (S.1, vp_updL S.2.1 0 x, S.2.2))) : EV G R m Qf u pc L (.long x :: .int 0 :: .ref (ad 104) :: st) (wM G ad S) := by
  subst hp
  intro p e s mid args below meth c H locs ls F hP hD hS hlv
  have hs : shp[104]? = some (102, 1, []) := rfl
  refine va_last F.1 F.2.1 F.2.2.2.2.2.2.2.1.1 hP hD hS 104 2 (wM_get hs) rfl vp_01 hd (fun H1 locs1 hP1 hD1 hS1 => ?_)
  have e1 : (wM G ad S).set 104 (ad 104, .inl (gA G 2, (1, .inr (.inl (vp_updL S.2.1 (0 : Int32).toNatClampNeg x))))) = wM G ad (S.1, vp_updL S.2.1 0 x, S.2.2) := by
    refine wM_set hs rfl (fun b s' hb h2 => ?_)
    obtain ⟨M, o, dd⟩ := S
    exact cellM_out (Or.inr (shp_only (k := 104) (by decide +kernel) hb h2)) (Or.inl rfl)
  rw [e1] at hP1 hD1
  exact kk p e s mid args below meth c H1 locs1 ls F hP1 hD1 hS1 hlv
theorem e_dast {x : UInt64} (hd : decode m.2.1 pc = .ok (.dastore, 1)) (hp : pc + 1 = pc')
    (kk : EV G R m Qf u pc' L st (wM G ad (S.1, S.2.1, vf_upd S.2.2 0 x))) : EV G R m Qf u pc L (.double x :: .int 0 :: .ref (ad 105) :: st) (wM G ad S) := by
  subst hp
  intro p e s mid args below meth c H locs ls F hP hD hS hlv
  have hs : shp[105]? = some (103, 1, []) := rfl
  refine va_dast F.1 F.2.1 F.2.2.2.2.2.2.2.1.1 hP hD hS 105 3 (wM_get hs) rfl vp_01 hd (fun H1 locs1 hP1 hD1 hS1 => ?_)
  have e1 : (wM G ad S).set 105 (ad 105, .inl (gA G 3, (1, .inr (.inr (.inr (.inl (vf_upd S.2.2 (0 : Int32).toNatClampNeg x))))))) = wM G ad (S.1, S.2.1, vf_upd S.2.2 0 x) := by
    refine wM_set hs rfl (fun b s' hb h2 => ?_)
    obtain ⟨M, o, dd⟩ := S
    exact cellM_out (Or.inl rfl) (Or.inr (shp_only (k := 105) (by decide +kernel) hb h2))
  rw [e1] at hP1 hD1
  exact kk p e s mid args below meth c H1 locs1 ls F hP1 hD1 hS1 hlv
theorem e_lald (hd : decode m.2.1 pc = .ok (.laload, 1)) (hp : pc + 1 = pc')
    (kk : EV G R m Qf u pc' L (.long (S.2.1 0) :: st) (wM G ad S)) : EV G R m Qf u pc L (.int 0 :: .ref (ad 104) :: st) (wM G ad S) := by
  subst hp
  intro p e s mid args below meth c H locs ls F hP hD hS hlv
  exact va_lald F.1 F.2.1 F.2.2.2.2.2.2.2.1.1 hP 104 2 (wM_get (show shp[104]? = some (102, 1, []) from rfl)) rfl vp_01 hd (kk p e s mid args below meth c H locs ls F hP hD hS hlv)
theorem e_dald (hd : decode m.2.1 pc = .ok (.daload, 1)) (hp : pc + 1 = pc')
    (kk : EV G R m Qf u pc' L (.double (S.2.2 0) :: st) (wM G ad S)) : EV G R m Qf u pc L (.int 0 :: .ref (ad 105) :: st) (wM G ad S) := by
  subst hp
  intro p e s mid args below meth c H locs ls F hP hD hS hlv
  exact va_dald F.1 F.2.1 F.2.2.2.2.2.2.2.1.1 hP 105 3 (wM_get (show shp[105]? = some (103, 1, []) from rfl)) rfl vp_01 hd (kk p e s mid args below meth c H locs ls F hP hD hS hlv)
/-! calls over the memory -/
theorem fit_of {K' : Nat × Nat} {d' nL : Nat} (hd : d' + 1 ≤ d) (hn : nL ≤ 61) (h1 : u.1 + K'.1 ≤ K.1) (h2 : u.2 + K'.2 ≤ K.2) : Fit (rmK d K) u d' nL K' := by
  refine ⟨by show _ ≤ d + 12; omega, by show _ ≤ 80 * d + 200; omega, h1, h2⟩
theorem c_V {m' : MD} {d' n idx b ci k : Nat} {K' : Nat × Nat} {As stk : List Value} {Pm' : PM} {refs : List (Option Nat)} (hM : CM G ad d' m' K' (.ref (ad b) :: As) S Pm') (hd : decode m.2.1 pc = .ok (.invokevirtual idx, 3)) (hp : pc + 3 = pc') (hs : stk = As.reverse ++ .ref (ad b) :: st) (hw : (st.map fun v => v.category).sum ≤ 8) (hF : Fit R u d' m'.2.2.1 K') (hl : Cond.methodLink m.1.cls idx m'.1 ∈ wG) (ok : VOK m' n) (hn : As.length = n)
    (hb : shp[b]? = some (ci, k, refs)) (hci : ci < 10) (hq : (cls ci).1 = m'.1.cls)
    (kr : ∀ (v : Option Value) (S' : Mem), Pm' (.inl v) S' → EV G R m Qf (u.1 + K'.1, u.2 + K'.2) pc' L (v.toList ++ st) (wM G ad S'))
    (kx : ∀ (E : String) (S' : Mem), Pm' (.inr E) S' → EX G R m Qf (u.1 + K'.1, u.2 + K'.2) pc L st (wM G ad S') E) : EV G R m Qf u pc L stk (wM G ad S) := by
  have he := wM_get (G := G) (ad := ad) (S := S) hb
  rw [cellM_obj hci] at he
  exact e_invV b hM hd hp hs hw hF hl ok hn he (cls_at hci) hq (fun v w' h => by obtain ⟨S', rfl, h⟩ := h; exact kr v S' h) (fun E w' h => by obtain ⟨S', rfl, h⟩ := h; exact kx E S' h)
theorem c_S {m' : MD} {d' n idx : Nat} {K' : Nat × Nat} {As stk : List Value} {Pm' : PM} (hM : CM G ad d' m' K' As S Pm') (hd : decode m.2.1 pc = .ok (.invokestatic idx, 3)) (hp : pc + 3 = pc') (hs : stk = As.reverse ++ st) (hw : (st.map fun v => v.category).sum ≤ 8) (hF : Fit R u d' m'.2.2.1 K') (hl : Cond.methodLink m.1.cls idx m'.1 ∈ wG) (ok : SOK m' n) (hh : m'.2.2.2.2 = []) (hn : As.length = n)
    (kr : ∀ (v : Option Value) (S' : Mem), Pm' (.inl v) S' → EV G R m Qf (u.1 + K'.1, u.2 + K'.2) pc' L (v.toList ++ st) (wM G ad S'))
    (kx : ∀ (E : String) (S' : Mem), Pm' (.inr E) S' → EX G R m Qf (u.1 + K'.1, u.2 + K'.2) pc L st (wM G ad S') E) : EV G R m Qf u pc L stk (wM G ad S) :=
  e_invS hM hd hp hs hw hF hl ok hh hn (fun v w' h => by obtain ⟨S', rfl, h⟩ := h; exact kr v S' h) (fun E w' h => by obtain ⟨S', rfl, h⟩ := h; exact kx E S' h)
theorem c_SX {m' : MD} {d' n idx : Nat} {K' : Nat × Nat} {As stk : List Value} {Pm' : PM} (hM : CM G ad d' m' K' As S Pm') (hd : decode m.2.1 pc = .ok (.invokestatic idx, 3)) (hp : pc + 3 = pc') (hs : stk = As.reverse ++ st) (hw : (st.map fun v => v.category).sum ≤ 8) (hF : Fit R u d' m'.2.2.1 K') (hl : Cond.methodLink m.1.cls idx m'.1 ∈ wG) (ok : SOK m' n) (hh : m'.2.2.2.2 ≠ []) (hn : As.length = n)
    (kr : ∀ (v : Option Value) (S' : Mem), Pm' (.inl v) S' → EV G R m Qf (u.1 + K'.1, u.2 + K'.2) pc' L (v.toList ++ st) (wM G ad S'))
    (kx : ∀ (E : String) (S' : Mem), Pm' (.inr E) S' → EX G R m Qf (u.1 + K'.1, u.2 + K'.2) pc L st (wM G ad S') E) : EV G R m Qf u pc L stk (wM G ad S) :=
  e_invSX hM hd hp hs hw hF hl ok hh hn (fun v w' h => by obtain ⟨S', rfl, h⟩ := h; exact kr v S' h) (fun E w' h => by obtain ⟨S', rfl, h⟩ := h; exact kx E S' h)
/-- .. of a method that returns v -/
theorem r_V {m' : MD} {d' n idx b ci k : Nat} {As stk : List Value} {v : Option Value} {S' : Mem} {refs : List (Option Nat)} (hM : RET G ad d' m' (.ref (ad b) :: As) S v S') (hd : decode m.2.1 pc = .ok (.invokevirtual idx, 3)) (hp : pc + 3 = pc') (hs : stk = As.reverse ++ .ref (ad b) :: st) (hw : (st.map fun v => v.category).sum ≤ 8) (hF : Fit R u d' m'.2.2.1 (0, 0)) (hl : Cond.methodLink m.1.cls idx m'.1 ∈ wG) (ok : VOK m' n) (hn : As.length = n)
    (hb : shp[b]? = some (ci, k, refs)) (hci : ci < 10) (hq : (cls ci).1 = m'.1.cls)
    (kr : EV G R m Qf u pc' L (v.toList ++ st) (wM G ad S')) : EV G R m Qf u pc L stk (wM G ad S) :=
  c_V hM hd hp hs hw hF hl ok hn hb hci hq (fun v2 S2 h => by obtain ⟨h1, rfl⟩ := h; cases h1; exact kr) (fun E S2 h => by cases h.1)
theorem r_S {m' : MD} {d' n idx : Nat} {As stk : List Value} {v : Option Value} {S' : Mem} (hM : RET G ad d' m' As S v S') (hd : decode m.2.1 pc = .ok (.invokestatic idx, 3)) (hp : pc + 3 = pc') (hs : stk = As.reverse ++ st) (hw : (st.map fun v => v.category).sum ≤ 8) (hF : Fit R u d' m'.2.2.1 (0, 0)) (hl : Cond.methodLink m.1.cls idx m'.1 ∈ wG) (ok : SOK m' n) (hh : m'.2.2.2.2 = []) (hn : As.length = n)
    (kr : EV G R m Qf u pc' L (v.toList ++ st) (wM G ad S')) : EV G R m Qf u pc L stk (wM G ad S) :=
  c_S hM hd hp hs hw hF hl ok hh hn (fun v2 S2 h => by obtain ⟨h1, rfl⟩ := h; cases h1; exact kr) (fun E S2 h => by cases h.1)
theorem r_SN {m' : MD} {d' n idx : Nat} {As stk : List Value} {v : Option Value} {S' : Mem} {host : String} (hM : RET G ad d' m' As S v S') (hd : decode m.2.1 pc = .ok (.invokestatic idx, 3)) (hp : pc + 3 = pc') (hs : stk = As.reverse ++ st) (hw : (st.map fun v => v.category).sum ≤ 8) (hF : Fit R u d' m'.2.2.1 (0, 0)) (hl : Cond.methodLinkNest m.1.cls idx m'.1 host ∈ lw_tbl) (ok : SOK m' n) (hh : m'.2.2.2.2 = []) (hn : As.length = n)
    (kr : EV G R m Qf u pc' L (v.toList ++ st) (wM G ad S')) : EV G R m Qf u pc L stk (wM G ad S) :=
  e_invSN hM (fun E w' h => by obtain ⟨S2, -, h, -⟩ := h; cases h) hd hp hs hw hF hl ok hh hn (fun v2 w' h => by obtain ⟨S2, rfl, h1, rfl⟩ := h; cases h1; exact kr)
/-- .. of a method that throws E: it leaves this one too -/
theorem t_V {m' : MD} {d' n idx b ci k : Nat} {As stk : List Value} {E : String} {S' : Mem} {refs : List (Option Nat)} {P : PQ} (hM : THR G ad d' m' (.ref (ad b) :: As) S E S') (hd : decode m.2.1 pc = .ok (.invokevirtual idx, 3)) (hs : stk = As.reverse ++ .ref (ad b) :: st) (hw : (st.map fun v => v.category).sum ≤ 8) (hF : Fit R u d' m'.2.2.1 (1, 6)) (hl : Cond.methodLink m.1.cls idx m'.1 ∈ wG) (ok : VOK m' n) (hn : As.length = n)
    (hb : shp[b]? = some (ci, k, refs)) (hci : ci < 10) (hq : (cls ci).1 = m'.1.cls) (hh : m.2.2.2.2 = []) (hP : P (.inr E) (wM G ad S')) (h1 : u.1 + 1 ≤ K.1) (h2 : u.2 + 6 ≤ K.2) : EV G R m (mQ G P K) u pc L stk (wM G ad S) :=
  c_V hM hd rfl hs hw hF hl ok hn hb hci hq (fun v2 S2 h => by cases h.1) (fun E2 S2 h => by obtain ⟨h3, rfl⟩ := h; cases h3; exact x_out hh hP h1 h2)
theorem t_S {m' : MD} {d' n idx : Nat} {As stk : List Value} {E : String} {S' : Mem} {P : PQ} (hM : THR G ad d' m' As S E S') (hd : decode m.2.1 pc = .ok (.invokestatic idx, 3)) (hs : stk = As.reverse ++ st) (hw : (st.map fun v => v.category).sum ≤ 8) (hF : Fit R u d' m'.2.2.1 (1, 6)) (hl : Cond.methodLink m.1.cls idx m'.1 ∈ wG) (ok : SOK m' n) (hh2 : m'.2.2.2.2 = []) (hn : As.length = n)
    (hh : m.2.2.2.2 = []) (hP : P (.inr E) (wM G ad S')) (h1 : u.1 + 1 ≤ K.1) (h2 : u.2 + 6 ≤ K.2) : EV G R m (mQ G P K) u pc L stk (wM G ad S) :=
  c_S hM hd rfl hs hw hF hl ok hh2 hn (fun v2 S2 h => by cases h.1) (fun E2 S2 h => by obtain ⟨h3, rfl⟩ := h; cases h3; exact x_out hh hP h1 h2)
theorem MP.ret {v v' : Option Value} {S' : Mem} (hv : v = v') (hS : S = S') : MP G ad (PR v' S') (.inl v) (wM G ad S) := ⟨S, rfl, by rw [hv], hS⟩
theorem MP.thr {E E' : String} {S' : Mem} (hv : E = E') (hS : S = S') : MP G ad (PX E' S') (.inr E) (wM G ad S) := ⟨S, rfl, by rw [hv], hS⟩
theorem CM_of {As : List Value} (hh : m.2.2.2.2 = []) (hy : plainName m.1.cls = true) (ha : As.all (fun v => v.category == 1) = true) (hn : As.length ≤ m.2.2.1) {L0 : List (Option Value)} (hL : entL As m.2.2.1 = L0) (k : ER G ad d m K Pm (0, 0) 0 L0 [] S) : CM G ad d m K As S Pm := EVM_of hh hy ha hn (by rw [hL]; exact k)
theorem CM_ofH {As : List Value} (hh : m.2.2.2.2 ≠ []) (hy : plainName m.1.cls = true) (ha : As.all (fun v => v.category == 1) = true) (hn : As.length ≤ m.2.2.1) {L0 : List (Option Value)} (hL : entL As m.2.2.1 = L0) (k : ER G ad d m K Pm (0, 0) 0 L0 [] S) : CM G ad d m K As S Pm := EVM_ofH hh hy ha hn (by rw [hL]; exact k)
/-- library members -/
theorem e_min {x y : Int32} {idx : Nat} (hd : decode m.2.1 pc = .ok (.invokestatic idx, 3)) (hp : pc + 3 = pc') (hl : Cond.methodLink m.1.cls idx Lib.Math.min.name ∈ wG) (h1 : Cond.static Lib.Math.min.name ∈ wG) (h2 : Cond.initialized "java/lang/Math" ∈ wG) (h3 : Cond.code Lib.Math.min.name Lib.Math.min.code 2 (some .int) ∈ wG) (hf : 1 ≤ R.frames) (hlo : (st.map fun v => v.category).sum + 13 ≤ R.locals) (hc : u.1 ≤ R.cells) (hs : u.2 ≤ R.slots)
    (k : EV G R m Qf u pc' L (.int (if y < x then y else x) :: st) w0) : EV G R m Qf u pc L (.int y :: .int x :: st) w0 := by
  subst hp
  intro p e s mid args below meth c H locs ls F hP hD hS hlv
  exact va_mmin F.1 F.2.1 (by rw [F.2.2.2.1]; exact hlv.1.symm) F.2.2.2.2.1 (F.2.2.2.2.2.1 _ hl) (F.2.2.2.2.2.1 _ h1) (F.2.2.2.2.2.1 _ h2) (F.2.2.2.2.2.1 _ h3) hf hlo hc hs hd (k p e s mid args below meth c H locs ls F hP hD hS hlv)
theorem e_max {x y : Int32} {idx : Nat} (hd : decode m.2.1 pc = .ok (.invokestatic idx, 3)) (hp : pc + 3 = pc') (hl : Cond.methodLink m.1.cls idx Lib.Math.max.name ∈ wG) (h1 : Cond.static Lib.Math.max.name ∈ wG) (h2 : Cond.initialized "java/lang/Math" ∈ wG) (h3 : Cond.code Lib.Math.max.name Lib.Math.max.code 2 (some .int) ∈ wG) (hf : 1 ≤ R.frames) (hlo : (st.map fun v => v.category).sum + 13 ≤ R.locals) (hc : u.1 ≤ R.cells) (hs : u.2 ≤ R.slots)
    (k : EV G R m Qf u pc' L (.int (if x < y then y else x) :: st) w0) : EV G R m Qf u pc L (.int y :: .int x :: st) w0 := by
  subst hp
  intro p e s mid args below meth c H locs ls F hP hD hS hlv
  exact va_mmax F.1 F.2.1 (by rw [F.2.2.2.1]; exact hlv.1.symm) F.2.2.2.2.1 (F.2.2.2.2.2.1 _ hl) (F.2.2.2.2.2.1 _ h1) (F.2.2.2.2.2.1 _ h2) (F.2.2.2.2.2.1 _ h3) hf hlo hc hs hd (k p e s mid args below meth c H locs ls F hP hD hS hlv)
theorem e_abs {x : Int32} {idx : Nat} (hd : decode m.2.1 pc = .ok (.invokestatic idx, 3)) (hp : pc + 3 = pc') (hl : Cond.methodLink m.1.cls idx Lib.Math.abs.name ∈ wG) (h1 : Cond.static Lib.Math.abs.name ∈ wG) (h2 : Cond.initialized "java/lang/Math" ∈ wG) (h3 : Cond.code Lib.Math.abs.name Lib.Math.abs.code 1 (some .int) ∈ wG) (hf : 1 ≤ R.frames) (hlo : (st.map fun v => v.category).sum + 13 ≤ R.locals) (hc : u.1 ≤ R.cells) (hs : u.2 ≤ R.slots)
    (k : EV G R m Qf u pc' L (.int (if 0 ≤ x then x else 0 - x) :: st) w0) : EV G R m Qf u pc L (.int x :: st) w0 := by
  subst hp
  intro p e s mid args below meth c H locs ls F hP hD hS hlv
  exact va_mabs F.1 F.2.1 (by rw [F.2.2.2.1]; exact hlv.1.symm) F.2.2.2.2.1 (F.2.2.2.2.2.1 _ hl) (F.2.2.2.2.2.1 _ h1) (F.2.2.2.2.2.1 _ h2) (F.2.2.2.2.2.1 _ h3) hf hlo hc hs hd (k p e s mid args below meth c H locs ls F hP hD hS hlv)
/-- System.arraycopy of ints -/
theorem e_copy {a0 a1 n0 n1 i0 i1 c idx : Nat} {r0 r1 : List (Option Nat)} {x0 x1 xc : Int32} (hd : decode m.2.1 pc = .ok (.invokestatic idx, 3)) (hp : pc + 3 = pc') (hl : Cond.methodLink m.1.cls idx arraycopyName ∈ wG) (h1 : Cond.native arraycopyName ∈ wG) (h2 : Cond.static arraycopyName ∈ wG) (h3 : Cond.initialized "java/lang/System" ∈ wG)
    (hs0 : shp[a0]? = some (100, n0, r0)) (hs1 : shp[a1]? = some (100, n1, r1)) (hx0 : x0 = nI i0) (hx1 : x1 = nI i1) (hxc : xc = nI c) (b0 : i0 + c ≤ n0) (b1 : i1 + c ≤ n1) (hn0 : n0 < 2 ^ 31) (hn1 : n1 < 2 ^ 31) (hf : 1 ≤ R.frames) (hlo : (st.map fun v => v.category).sum + (nativeFrameWords "java/lang/System" "arraycopy" 5 + 11) ≤ R.locals)
    (kk : EV G R m Qf u pc' L st (wM G ad (upA S.1 a1 (va_cpy (S.1 a0) (S.1 a1) i0 i1 c), S.2))) : EV G R m Qf u pc L (.int xc :: .int x1 :: .ref (ad a1) :: .int x0 :: .ref (ad a0) :: st) (wM G ad S) := by
  subst hp
  subst hx0
  subst hx1
  subst hxc
  intro p e s mid args below meth c2 H locs ls F hP hD hS hlv
  have g0 : (nI i0).toNatClampNeg = i0 := nI_clamp (by omega)
  have g1 : (nI i1).toNatClampNeg = i1 := nI_clamp (by omega)
  have g2 : (nI c).toNatClampNeg = c := nI_clamp (by omega)
  refine va_copyi F.1 F.2.1 (by rw [F.2.2.2.1]; exact hlv.1.symm) F.2.2.2.2.1 (F.2.2.2.2.2.1 _ hl) (F.2.2.2.2.2.1 _ h1) (F.2.2.2.2.2.1 _ h2) (F.2.2.2.2.2.1 _ h3) F.2.2.2.2.2.2.2.1.1 hP hD hS a0 a1 0 0 (wM_get hs0) (wM_get hs1) rfl rfl rfl (nI_pos (by omega)) (nI_pos (by omega)) (nI_pos (by omega)) (by rw [g0, g2]; exact b0) (by rw [g1, g2]; exact b1) (fun i _ => rfl) hf hlo hd (fun H1 locs1 hP1 hD1 hS1 => ?_)
  rw [g0, g1, g2] at hP1 hD1
  have e1 : (wM G ad S).set a1 (ad a1, .inl (gA G 0, (n1, .inl (va_cpy (S.1 a0) (S.1 a1) i0 i1 c)))) = wM G ad (upA S.1 a1 (va_cpy (S.1 a0) (S.1 a1) i0 i1 c), S.2) := by
    refine wM_set hs1 ?_ (fun b s' hb _ => cellM_upA hb)
    show _ = Sum.inl (gA G 0, (n1, Sum.inl (upA S.1 a1 _ a1)))
    rw [upA_s]
  rw [e1] at hP1 hD1
  exact kk p e s mid args below meth c2 H1 locs1 ls F hP1 hD1 hS1 hlv
/-- a String constant -/
theorem e_ldcS {idx no : Nat} {tx : String} (hd : decode m.2.1 pc = .ok (.ldc idx, 2)) (hp : pc + 2 = pc') (hst : (m.1.cls, idx, tx, no) ∈ strL) (k : EV G R m Qf u pc' L (.ref (gK G no) :: st) w0) : EV G R m Qf u pc L st w0 := by
  subst hp
  intro p e s mid args below meth c H locs ls F hP hD hS hlv
  exact va_ldcS F.1 F.2.1 F.2.2.2.2.1 (F.2.2.2.2.2.2.2.1.2.2.1 _ hst) hd (k p e s mid args below meth c H locs ls F hP hD hS hlv)
theorem e_ldcI {idx : Nat} {x : Int32} (hd : decode m.2.1 pc = .ok (.ldc idx, 2)) (hp : pc + 2 = pc') (hl : Cond.constant m.1.cls idx x ∈ wG) (k : EV G R m Qf u pc' L (.int x :: st) w0) : EV G R m Qf u pc L st w0 := by
  subst hp
  intro p e s mid args below meth c H locs ls F hP hD hS hlv
  exact lv_ldc F.1 F.2.1 F.2.2.2.2.1 (F.2.2.2.2.2.1 _ hl) hd (k p e s mid args below meth c H locs ls F hP hD hS hlv)
theorem e_slen (hd : decode m.2.1 pc = .ok (.arraylength, 1)) (hp : pc + 1 = pc') (k : EV G R m Qf u pc' L (.int (nI (gL G)) :: st) w0) : EV G R m Qf u pc L (.ref (gb G) :: st) w0 := by
  subst hp
  intro p e s mid args below meth c H locs ls F hP hD hS hlv
  obtain ⟨-, -, -, -, -, -, -, -, -, -, -, c12, c13, -, c15, -⟩ := F.2.2.2.2.2.2.2.1
  exact va_slen F.1 F.2.1 c12 (Nat.lt_of_lt_of_le c13 c15) (Nat.not_le.mpr c13) hS hd (k p e s mid args below meth c H locs ls F hP hD hS hlv)
theorem e_sld {i : Int32} {j : Nat} (hd : decode m.2.1 pc = .ok (.iaload, 1)) (hp : pc + 1 = pc') (hi : i = nI j) (hj : j < gL G) (k : EV G R m Qf u pc' L (.int (gx G j) :: st) w0) : EV G R m Qf u pc L (.int i :: .ref (gb G) :: st) w0 := by
  subst hp
  subst hi
  intro p e s mid args below meth c H locs ls F hP hD hS hlv
  obtain ⟨-, -, -, -, -, -, -, -, -, -, -, c12, c13, c14, c15, -⟩ := F.2.2.2.2.2.2.2.1
  refine va_sld F.1 F.2.1 c12 (Nat.lt_of_lt_of_le c13 c15) (Nat.not_le.mpr c13) hS (vp_in_nI hj (by omega)) hd ?_
  rw [nI_clamp (by omega)]
  exact k p e s mid args below meth c H locs ls F hP hD hS hlv
end EWM


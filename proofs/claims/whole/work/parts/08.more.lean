/-! CONTRACTS WITH A MEMORY OF WHICH SOMETHING IS KNOWN; LOOPS; WHAT STAYS -/
/-- it returns v, and I holds of the ints then -/
def RETI (G : gC) (ad : Nat → Nat) (d : Nat) (m : MD) (args : List Value) (S : Mem) (v : Option Value) (I : (Nat → Nat → Int32) → Prop) : Prop := CM G ad d m (0, 0) args S (fun r S2 => r = .inl v ∧ ∃ M', S2 = (M', S.2) ∧ I M')
abbrev PI (v : Option Value) (o : (Nat → Int64) × (Nat → UInt64)) (I : (Nat → Nat → Int32) → Prop) : PM := fun r S2 => r = .inl v ∧ ∃ M', S2 = (M', o) ∧ I M'
theorem EVM_imp {G : gC} {d : Nat} {m : MD} {K : Nat × Nat} {args : List Value} {w : va_W} {P P2 : PQ} (h : EVM G d m K args w P) (hi : ∀ r w', P r w' → P2 r w') : EVM G d m K args w P2 := by
  refine MetFree_imp h (fun a s oc t hq => ?_)
  rcases hq with ⟨⟨⟨v, w', e, hp, h3⟩, h4⟩, h5⟩ | ⟨q, hq1, E, ce, L, ⟨⟨w', hp, h3⟩, h4⟩, h5⟩
  · exact Or.inl ⟨⟨⟨v, w', e, hi _ _ hp, h3⟩, h4⟩, h5⟩
  · exact Or.inr ⟨q, hq1, E, ce, L, ⟨⟨w', hi _ _ hp, h3⟩, h4⟩, h5⟩
theorem CM_imp {G : gC} {ad : Nat → Nat} {d : Nat} {m : MD} {K : Nat × Nat} {args : List Value} {S : Mem} {P P2 : PM} (h : CM G ad d m K args S P) (hi : ∀ r S', P r S' → P2 r S') : CM G ad d m K args S P2 :=
  EVM_imp h (fun r w' h => by obtain ⟨S', e, h⟩ := h; exact ⟨S', e, hi r S' h⟩)
section EWI
variable {G : gC} {R : Room} {m : MD} {Qf : QF} {u K : Nat × Nat} {pc pc' d : Nat} {L : List (Option Value)} {st : List Value} {ad : Nat → Nat} {S : Mem} {I : (Nat → Nat → Int32) → Prop}
theorem MP.retI {v v' : Option Value} {M' : Nat → Nat → Int32} {o : (Nat → Int64) × (Nat → UInt64)} (hv : v = v') (hI : I M') : MP G ad (PI v' o I) (.inl v) (wM G ad (M', o)) := ⟨(M', o), rfl, by rw [hv], M', rfl, hI⟩
theorem r_VI {m' : MD} {d' n idx b ci k : Nat} {As stk : List Value} {v : Option Value} {refs : List (Option Nat)} (hM : RETI G ad d' m' (.ref (ad b) :: As) S v I) (hd : decode m.2.1 pc = .ok (.invokevirtual idx, 3)) (hp : pc + 3 = pc') (hs : stk = As.reverse ++ .ref (ad b) :: st) (hw : (st.map fun v => v.category).sum ≤ 8) (hF : Fit R u d' m'.2.2.1 (0, 0)) (hl : Cond.methodLink m.1.cls idx m'.1 ∈ wG) (ok : VOK m' n) (hn : As.length = n)
    (hb : shp[b]? = some (ci, k, refs)) (hci : ci < 10) (hq : (cls ci).1 = m'.1.cls)
    (kr : ∀ M', I M' → EV G R m Qf u pc' L (v.toList ++ st) (wM G ad (M', S.2))) : EV G R m Qf u pc L stk (wM G ad S) :=
  c_V hM hd hp hs hw hF hl ok hn hb hci hq (fun v2 S2 h => by obtain ⟨h1, M', rfl, h2⟩ := h; cases h1; exact kr M' h2) (fun E S2 h => by cases h.1)
theorem r_SI {m' : MD} {d' n idx : Nat} {As stk : List Value} {v : Option Value} (hM : RETI G ad d' m' As S v I) (hd : decode m.2.1 pc = .ok (.invokestatic idx, 3)) (hp : pc + 3 = pc') (hs : stk = As.reverse ++ st) (hw : (st.map fun v => v.category).sum ≤ 8) (hF : Fit R u d' m'.2.2.1 (0, 0)) (hl : Cond.methodLink m.1.cls idx m'.1 ∈ wG) (ok : SOK m' n) (hh : m'.2.2.2.2 = []) (hn : As.length = n)
    (kr : ∀ M', I M' → EV G R m Qf u pc' L (v.toList ++ st) (wM G ad (M', S.2))) : EV G R m Qf u pc L stk (wM G ad S) :=
  c_S hM hd hp hs hw hF hl ok hh hn (fun v2 S2 h => by obtain ⟨h1, M', rfl, h2⟩ := h; cases h1; exact kr M' h2) (fun E S2 h => by cases h.1)
theorem RET.toI {m' : MD} {args : List Value} {v : Option Value} {M' : Nat → Nat → Int32} (h : RET G ad d m' args S v (M', S.2)) (hI : I M') : RETI G ad d m' args S v I := CM_imp h (fun r S2 h => ⟨h.1, M', h.2, hI⟩)
theorem e_fg {i : Nat} {w : va_W} {L' : List (Option Value)} (hL : L.set i none = L') (k : EV G R m Qf u pc L' st w) : EV G R m Qf u pc L st w := by
  subst hL
  refine e_sub (fun j v hj => ?_) k
  by_cases e : j = i
  · subst e
    by_cases hl : j < L.length
    · rw [List.getElem?_set_self hl] at hj; cases hj
    · rw [List.getElem?_eq_none (by simpa using hl)] at hj; cases hj
  · rwa [List.getElem?_set_ne (Ne.symm e)] at hj
end EWI
/-- a loop from i up to N -/
theorem down (N : Nat) (P : Nat → Prop) (step : ∀ i, i ≤ N → (i < N → P (i + 1)) → P i) : ∀ i, i ≤ N → P i := by
  have h : ∀ k i, i ≤ N → N - i = k → P i := by
    intro k
    induction k with
    | zero => intro i hi hk; exact step i hi (fun h => absurd h (by omega))
    | succ k ih => intro i hi hk; exact step i hi (fun h => ih (i + 1) (by omega) (by omega))
  exact fun i hi => h _ i hi rfl
/-- only what F says of the cells changes -/
def KP (F : Nat → Bool) (M M' : Nat → Nat → Int32) : Prop := ∀ a, F a = false → M' a = M a
theorem KP.refl {F : Nat → Bool} {M : Nat → Nat → Int32} : KP F M M := fun _ _ => rfl
theorem KP.trans {F : Nat → Bool} {M M1 M2 : Nat → Nat → Int32} (h1 : KP F M M1) (h2 : KP F M1 M2) : KP F M M2 := fun a h => (h2 a h).trans (h1 a h)
theorem KP.wide {F F' : Nat → Bool} {M M' : Nat → Nat → Int32} (h : KP F M M') (hF : ∀ a, F' a = false → F a = false) : KP F' M M' := fun a ha => h a (hF a ha)
theorem KP.up {F : Nat → Bool} {M M' : Nat → Nat → Int32} {a k : Nat} {x : Int32} (h : KP F M M') (ha : F a = true) : KP F M (up2 M' a k x) := fun b hb => by
  rw [up2_n (fun e => by rw [e, ha] at hb; cases hb)]
  exact h b hb
theorem KP.upA {F : Nat → Bool} {M M' : Nat → Nat → Int32} {a : Nat} {f : Nat → Int32} (h : KP F M M') (ha : F a = true) : KP F M (upA M' a f) := fun b hb => by
  rw [upA_n (fun e => by rw [e, ha] at hb; cases hb)]
  exact h b hb
theorem KP.at {F : Nat → Bool} {M M' : Nat → Nat → Int32} (h : KP F M M') {a : Nat} (ha : F a = false) (k : Nat) : M' a k = M a k := by rw [h a ha]
/-- cells from A up to B -/
def inR (A B : Nat) : Nat → Bool := fun a => decide (A ≤ a) && decide (a ≤ B)
theorem inR_t {A B a : Nat} (h1 : A ≤ a) (h2 : a ≤ B) : inR A B a = true := by unfold inR; simp [h1, h2]
theorem inR_f {A B a : Nat} (h : a < A ∨ B < a) : inR A B a = false := by unfold inR; simp; omega
theorem ite_nI {p : Prop} [Decidable p] {a b : Nat} : (if p then nI a else nI b) = nI (if p then a else b) := by split <;> rfl
theorem min_nI {a b : Nat} (ha : a < 2 ^ 31) (hb : b < 2 ^ 31) : (if nI b < nI a then nI b else nI a) = nI (min a b) := by
  by_cases h : b < a
  · rw [if_pos (nI_lt h ha), Nat.min_eq_right (by omega)]
  · rw [if_neg (fun q => h ((nI_ltI hb ha).mp q)), Nat.min_eq_left (by omega)]
theorem max_nI {a b : Nat} (ha : a < 2 ^ 31) (hb : b < 2 ^ 31) : (if nI a < nI b then nI b else nI a) = nI (max a b) := by
  by_cases h : a < b
  · rw [if_pos (nI_lt h hb), Nat.max_eq_right (by omega)]
  · rw [if_neg (fun q => h ((nI_ltI ha hb).mp q)), Nat.max_eq_left (by omega)]

set_option maxHeartbeats 400000
/-! THE LAW: what stands between two calls -/
/-- the class's cells -/
def CLS (M : Nat → Nat → Int32) (c : Col) (hs : Nat → Col) (nx sz : Nat) (sn : Option Col) (l ln : List Nat) (ft d1 d2 d3 : Int32) : Prop :=
  ColAt M 1 c ∧ HsAt M hs nx sz ∧ M 0 9 = bI sn.isSome ∧ (∀ s, sn = some s → ColAt M 70 s) ∧ SgAt M 76 l ∧ SgAt M 94 ln ∧ M 0 10 = ft ∧ M 0 11 = d1 ∧ M 0 12 = d2 ∧ M 0 13 = d3
/-- the reference's cells -/
def MDL (M : Nat → Nat → Int32) (c : Col) (hs : Nat → Col) (sz : Nat) (sn : Option Col) (l ln : List Nat) (ft d1 d2 d3 : Int32) : Prop :=
  RowAt M 97 0 c ∧ KtR M hs sz ∧ M 96 6 = nI 0 ∧ M 96 4 = bI sn.isSome ∧ (∀ s, sn = some s → RowAt M 99 0 s) ∧ TxR M l ∧ LnR M ln ∧ M 96 14 = ft ∧ M 96 9 = d1 ∧ M 96 10 = d2 ∧ M 96 11 = d3
def PUR (c : Col) (hs : Nat → Col) (sz : Nat) (sn : Option Col) (l ln : List Nat) (ft : Int32) : Prop :=
  WF c ∧ KWF hs sz ∧ (∀ s, sn = some s → WF s) ∧ l.length ≤ 60 ∧ (∀ i, l.getD i 0 < 65536) ∧ ln.length ≤ 23 ∧ (∀ i, ln.getD i 0 < 65536) ∧ (ft = -1 ∨ ∃ f, f < 200 ∧ ft = nI f)
def LV (M : Nat → Nat → Int32) : Prop := ∃ c hs nx sz sn l ln ft d1 d2 d3, CLS M c hs nx sz sn l ln ft d1 d2 d3 ∧ MDL M c hs sz sn l ln ft d1 d2 d3 ∧ PUR c hs sz sn l ln ft
section T64
variable {M M' M1 M2 : Nat → Nat → Int32} {c c' sc : Col} {hs : Nat → Col} {nx sz : Nat} {sn : Option Col} {l ln : List Nat} {ft d1 d2 d3 : Int32} {F : Nat → Bool}
theorem CLS.kp (h : CLS M c hs nx sz sn l ln ft d1 d2 d3) (hk : KP F M M') (hF : ∀ a, (a ≤ 6 ∨ (14 ≤ a ∧ a ≤ 63) ∨ (70 ≤ a ∧ a ≤ 77) ∨ a = 94 ∨ a = 95) → F a = false) : CLS M' c hs nx sz sn l ln ft d1 d2 d3 := by
  obtain ⟨h1, h2, h3, h4, h5, h6, h7, h8, h9, h10⟩ := h
  have h0 : ∀ j, M' 0 j = M 0 j := fun j => hk.at (hF 0 (by omega)) j
  exact ⟨h1.kp hk (fun i hi => hF _ (by omega)), h2.kp hk (fun a g1 g2 => hF a (by omega)), (h0 9).trans h3, fun s e => (h4 s e).kp hk (fun i hi => hF _ (by omega)), h5.kp hk (hF _ (by omega)) (hF _ (by omega)), h6.kp hk (hF _ (by omega)) (hF _ (by omega)), (h0 10).trans h7, (h0 11).trans h8, (h0 12).trans h9, (h0 13).trans h10⟩
theorem TxR.kp (h : TxR M l) (h1 : M' 96 13 = M 96 13) (h2 : M' 101 = M 101) : TxR M' l := ⟨h1.trans h.1, fun i hi => by rw [h2]; exact h.2 i hi⟩
theorem LnR.kp (h : LnR M l) (h1 : M' 96 16 = M 96 16) (h2 : M' 102 = M 102) : LnR M' l := ⟨h1.trans h.1, fun i hi => by rw [h2]; exact h.2 i hi⟩
theorem MDL.kp (h : MDL M c hs sz sn l ln ft d1 d2 d3) (hk : KP F M M') (hF : ∀ a, 96 ≤ a → a ≤ 102 → F a = false) : MDL M' c hs sz sn l ln ft d1 d2 d3 := by
  obtain ⟨h1, h2, h3, h4, h5, h6, h7, h8, h9, h10, h11⟩ := h
  have h0 : ∀ j, M' 96 j = M 96 j := fun j => hk.at (hF 96 (by omega) (by omega)) j
  exact ⟨h1.kp hk (hF _ (by omega) (by omega)), h2.kp (h0 5) (hk 98 (hF _ (by omega) (by omega))), (h0 6).trans h3, (h0 4).trans h4, fun s e => (h5 s e).kp hk (hF _ (by omega) (by omega)), h6.kp (h0 13) (hk 101 (hF _ (by omega) (by omega))), h7.kp (h0 16) (hk 102 (hF _ (by omega) (by omega))), (h0 14).trans h8, (h0 9).trans h9, (h0 10).trans h10, (h0 11).trans h11⟩
/-- the reference's own cell: all but some places -/
theorem MDL.q (h : MDL M c hs sz sn l ln ft d1 d2 d3) (h8 : ∀ j, j ≠ 7 → j ≠ 8 → M' 96 j = M 96 j) (hk : KP (fun a => a == 96) M M') : MDL M' c hs sz sn l ln ft d1 d2 d3 := by
  obtain ⟨h1, h2, h3, h4, h5, h6, h7, h9, h10, h11, h12⟩ := h
  exact ⟨h1.kp hk (by decide), h2.kp (h8 5 (by decide) (by decide)) (hk 98 (by decide)), (h8 6 (by decide) (by decide)).trans h3, (h8 4 (by decide) (by decide)).trans h4, fun s e => (h5 s e).kp hk (by decide), h6.kp (h8 13 (by decide) (by decide)) (hk 101 (by decide)), h7.kp (h8 16 (by decide) (by decide)) (hk 102 (by decide)), (h8 14 (by decide) (by decide)).trans h9, (h8 9 (by decide) (by decide)).trans h10, (h8 10 (by decide) (by decide)).trans h11, (h8 11 (by decide) (by decide)).trans h12⟩
/-- a query: nothing is changed -/
theorem LV.q {k : Nat} (hc : CLS M c hs nx sz sn l ln ft d1 d2 d3) (hm : MDL M c hs sz sn l ln ft d1 d2 d3) (hp : PUR c hs sz sn l ln ft) (h1 : KP (inR 7 11) M M1) (h2 : QR k M1 M2) : M2 96 8 = nI k ∧ LV M2 :=
  ⟨h2.1, c, hs, nx, sz, sn, l, ln, ft, d1, d2, d3, (hc.kp h1 (fun a ha => inR_f (by omega))).kp h2.2.2 (fun a ha => by simp; omega), (hm.kp h1 (fun a g1 g2 => inR_f (by omega))).q h2.2.1 h2.2.2, hp⟩
end T64
/-- one call of the class through its wrapper, then one of the reference -/
def OPT {β : Type} (G : gC) (ad : Nat → Nat) (mk : β → Value) (rel : β → (Nat → Int64) × (Nat → UInt64) → Prop) (mw mg : MD) (wa ga : List Value) (M : Nat → Nat → Int32) (o : (Nat → Int64) × (Nat → UInt64)) : Prop :=
  ∃ (k : Nat) (F : (Nat → Int64) × (Nat → UInt64) → Prop) (I : (Nat → Nat → Int32) → Prop) (b : β), k < 4 ∧ CM G ad 20 mw (1, 6) wa (M, o) (PW k F I) ∧ (∀ M1 o1, I M1 → RETI G ad 20 mg ga (M1, o1) (some (mk b)) (fun M2 => M2 96 8 = nI k ∧ LV M2)) ∧ (k = 0 → ∀ o1, F o1 → rel b o1)
/-- one of each, both by an int -/
def OPD (G : gC) (ad : Nat → Nat) (mx mg : MD) (M : Nat → Nat → Int32) (o : (Nat → Int64) × (Nat → UInt64)) : Prop :=
  ∃ (v : Int32) (I : (Nat → Nat → Int32) → Prop), RETI G ad 20 mx [.ref (ad 0)] (M, o) (some (.int v)) I ∧ ∀ M1, I M1 → RETI G ad 20 mg [.ref (ad 96)] (M1, o) (some (.int v)) LV
abbrev mkI : Int32 → Value := fun v => .int v
abbrev mkB : Bool → Value := fun v => .int (bI v)
abbrev mkF : UInt32 → Value := fun v => .float v
abbrev mkD : UInt64 → Value := fun v => .double v
abbrev rlI : Int32 → (Nat → Int64) × (Nat → UInt64) → Prop := fun v o => o.1 0 = v.toInt64
abbrev rlB : Bool → (Nat → Int64) × (Nat → UInt64) → Prop := fun v o => o.1 0 = if v then 1 else 0
abbrev rlF : UInt32 → (Nat → Int64) × (Nat → UInt64) → Prop := fun v o => o.2 0 = FP.f2d v ∧ FP.Core.dIsNaN (FP.f2d v) = false
abbrev rlD : UInt64 → (Nat → Int64) × (Nat → UInt64) → Prop := fun v o => o.2 0 = v ∧ FP.Core.dIsNaN v = false
section T64b
variable {G : gC} {ad : Nat → Nat} {M M' M1 M2 : Nat → Nat → Int32} {o : (Nat → Int64) × (Nat → UInt64)} {c c' sc : Col} {hs : Nat → Col} {nx sz : Nat} {sn : Option Col} {l ln : List Nat} {ft d1 d2 d3 : Int32} {β : Type} {mk : β → Value} {rel : β → (Nat → Int64) × (Nat → UInt64) → Prop} {mw mg mx : MD} {wa ga : List Value} {k : Nat} {Fo : (Nat → Int64) × (Nat → UInt64) → Prop} {b : β}
theorem KP.lo (h : KP (inR 7 11) M M1) : M1 97 = M 97 := h 97 (by decide)
theorem OPT.q (hc : CLS M c hs nx sz sn l ln ft d1 d2 d3) (hm : MDL M c hs sz sn l ln ft d1 d2 d3) (hp : PUR c hs sz sn l ln ft) (hk : k < 4) (hW : CM G ad 20 mw (1, 6) wa (M, o) (PW k Fo (KP (inR 7 11) M))) (hG : ∀ M1 o1, MDL M1 c hs sz sn l ln ft d1 d2 d3 → RETI G ad 20 mg ga (M1, o1) (some (mk b)) (QR k M1)) (hr : k = 0 → ∀ o1, Fo o1 → rel b o1) : OPT G ad mk rel mw mg wa ga M o :=
  ⟨k, Fo, _, b, hk, hW, fun M1 o1 h1 => (hG M1 o1 (hm.kp h1 (fun a g1 g2 => inR_f (by omega)))).imp (fun M2 h2 => LV.q hc hm hp h1 h2), hr⟩
theorem OPD.q {v : Int32} (hc : CLS M c hs nx sz sn l ln ft d1 d2 d3) (hm : MDL M c hs sz sn l ln ft d1 d2 d3) (hp : PUR c hs sz sn l ln ft) (hW : RETI G ad 20 mx [.ref (ad 0)] (M, o) (some (.int v)) (KP (inR 7 11) M)) (hG : ∀ M1, MDL M1 c hs sz sn l ln ft d1 d2 d3 → RETI G ad 20 mg [.ref (ad 96)] (M1, o) (some (.int v)) (QR k M1)) : OPD G ad mx mg M o :=
  ⟨v, _, hW, fun M1 h1 => (hG M1 (hm.kp h1 (fun a g1 g2 => inR_f (by omega)))).imp (fun M2 h2 => (LV.q hc hm hp h1 h2).2)⟩
/-- a change that both make -/
theorem LV.chg (hc : CLS M c hs nx sz sn l ln ft d1 d2 d3) (hm : MDL M c hs sz sn l ln ft d1 d2 d3) (hp : PUR c hs sz sn l ln ft) (hw' : WF c') (h1 : ColAt M1 1 c' ∧ HsAt M1 (psh hs sz c) ((nx + 1) % 8) (min (sz + 1) 8) ∧ KP (inR 1 63) M M1) (h2 : CHI false hs sz c c' M1 M2) : M2 96 8 = nI 0 ∧ LV M2 := by
  obtain ⟨a1, a2, a3, a4, a5, a6, a7, a8, a9, a10⟩ := hc
  obtain ⟨b1, b2, b3, b4, b5, b6, b7, b8, b9, b10, b11⟩ := hm
  obtain ⟨p1, p2, p3, p4⟩ := hp
  obtain ⟨g1, g2, g3⟩ := h1
  obtain ⟨e1, e2, e3, e4, e5⟩ := h2
  have k3 : ∀ {a : Nat}, 96 ≤ a → M1 a = M a := fun ha => g3 _ (inR_f (by omega))
  have z0 : ∀ j, M2 0 j = M 0 j := fun j => (e5.at (by decide) j).trans (g3.at (by decide) j)
  have q : ∀ j, j ≠ 5 → j ≠ 7 → j ≠ 8 → M2 96 j = M 96 j := fun j x1 x2 x3 => (e4 j x1 x2 x3).trans (g3.at (by decide) j)
  refine ⟨e1, c', psh hs sz c, (nx + 1) % 8, min (sz + 1) 8, sn, l, ln, ft, d1, d2, d3, ⟨g1.kp e5 (fun i hi => by simp; omega), g2.kp e5 (fun a x1 x2 => by simp; omega), (z0 9).trans a3, fun s e => ((a4 s e).kp g3 (fun i hi => inR_f (by omega))).kp e5 (fun i hi => by simp; omega), (a5.kp g3 (by decide) (by decide)).kp e5 (by decide) (by decide), (a6.kp g3 (by decide) (by decide)).kp e5 (by decide) (by decide), (z0 10).trans a7, (z0 11).trans a8, (z0 12).trans a9, (z0 13).trans a10⟩, ⟨e2, e3, (q 6 (by decide) (by decide) (by decide)).trans b3, (q 4 (by decide) (by decide) (by decide)).trans b4, fun s e => ((b5 s e).kp g3 (by decide)).kp e5 (by decide), b6.kp (q 13 (by decide) (by decide) (by decide)) ((e5 101 (by decide)).trans (k3 (by decide))), b7.kp (q 16 (by decide) (by decide) (by decide)) ((e5 102 (by decide)).trans (k3 (by decide))), (q 14 (by decide) (by decide) (by decide)).trans b8, (q 9 (by decide) (by decide) (by decide)).trans b9, (q 10 (by decide) (by decide) (by decide)).trans b10, (q 11 (by decide) (by decide) (by decide)).trans b11⟩, hw', p2.push p1, p3, p4⟩
theorem MDL.c63 (h : MDL M c hs sz sn l ln ft d1 d2 d3) (hk : KP (inR 1 63) M M1) : MDL M1 c hs sz sn l ln ft d1 d2 d3 := h.kp hk (fun a g1 g2 => inR_f (by omega))
theorem OPT.chg (hc : CLS M c hs nx sz sn l ln ft d1 d2 d3) (hm : MDL M c hs sz sn l ln ft d1 d2 d3) (hp : PUR c hs sz sn l ln ft) (hw' : WF c') (hW : CM G ad 20 mw (1, 6) wa (M, o) (PW 0 Fo (fun M' => ColAt M' 1 c' ∧ HsAt M' (psh hs sz c) ((nx + 1) % 8) (min (sz + 1) 8) ∧ KP (inR 1 63) M M'))) (hG : ∀ M1 o1, MDL M1 c hs sz sn l ln ft d1 d2 d3 → RETI G ad 20 mg ga (M1, o1) (some (mk b)) (CHI false hs sz c c' M1)) (hr : ∀ o1, Fo o1 → rel b o1) : OPT G ad mk rel mw mg wa ga M o :=
  ⟨0, Fo, _, b, by decide, hW, fun M1 o1 h1 => (hG M1 o1 (hm.c63 h1.2.2)).imp (fun M2 h2 => LV.chg hc hm hp hw' h1 h2), fun _ => hr⟩
theorem FLR.all9 {kd : Nat} {j : Nat × Int32} (h : FLR kd j M1 M2) : M2 96 8 = nI (plc kd j.1) ∧ KP (fun a => a == 96) M1 M2 ∧ (∀ i, i ≠ 7 → i ≠ 8 → i ≠ 9 → i ≠ 10 → i ≠ 11 → M2 96 i = M1 96 i) ∧ (j.1 ≤ 5 → M2 96 9 = nI j.1 ∧ M2 96 10 = j.2 ∧ M2 96 11 = nI 0) ∧ (¬ j.1 ≤ 5 → M2 96 9 = M1 96 9 ∧ M2 96 10 = M1 96 10 ∧ M2 96 11 = M1 96 11) := by
  unfold FLR at h
  by_cases hj : j.1 ≤ 5
  · rw [if_pos hj] at h
    obtain ⟨x1, x2, x3, x4, x5, x6, x7⟩ := h
    exact ⟨x1, x7, fun i _ y1 y2 y3 y4 => x6 i (by assumption) y1 y2 y3 y4, fun _ => ⟨x3, x4, x5⟩, fun q => absurd hj q⟩
  · rw [if_neg hj] at h
    obtain ⟨x1, x2, x6, x7⟩ := h
    exact ⟨x1, x7, fun i y0 y1 _ _ _ => x6 i y0 y1, fun q => absurd q hj, fun _ => ⟨x6 9 (by decide) (by decide), x6 10 (by decide) (by decide), x6 11 (by decide) (by decide)⟩⟩
theorem dnF_o {f : Nat → Int32} {r : Nat} {x : Int32} {i : Nat} (h : i < 11) : dnF f r x i = f i := by
  unfold dnF
  split
  · dsimp only
    rw [if_neg (by omega), if_neg (by omega), if_neg (by omega)]
  · rfl
/-- a change that both refuse -/
theorem LV.fail {kd : Nat} {j : Nat × Int32} (hc : CLS M c hs nx sz sn l ln ft d1 d2 d3) (hm : MDL M c hs sz sn l ln ft d1 d2 d3) (hp : PUR c hs sz sn l ln ft) (h1 : M1 0 = dnF (M 0) j.1 j.2 ∧ KP (fun a => inR 7 13 a || a == 0) M M1) (h2 : FLR kd j M1 M2) : M2 96 8 = nI (plc kd j.1) ∧ LV M2 := by
  obtain ⟨a1, a2, a3, a4, a5, a6, a7, a8, a9, a10⟩ := hc
  obtain ⟨b1, b2, b3, b4, b5, b6, b7, b8, b9, b10, b11⟩ := hm
  obtain ⟨g1, g3⟩ := h1
  obtain ⟨e1, e5, e4, eA, eB⟩ := h2.all9
  have f : ∀ {a : Nat}, (a ≤ 6 ∧ 1 ≤ a) ∨ 14 ≤ a → (fun a => inR 7 13 a || a == 0) a = false := fun ha => by unfold inR; simp; omega
  have k3 : ∀ {a : Nat}, 14 ≤ a → M1 a = M a := fun ha => g3 _ (f (Or.inr ha))
  have k5 : ∀ {a : Nat}, a < 96 → (fun a => a == 96) a = false := fun ha => by simp; omega
  have z0 : ∀ j', M2 0 j' = dnF (M 0) j.1 j.2 j' := fun j' => (e5.at (k5 (by decide)) j').trans (by rw [g1])
  have q : ∀ i, i ≠ 7 → i ≠ 8 → i ≠ 9 → i ≠ 10 → i ≠ 11 → M2 96 i = M 96 i := fun i x1 x2 x3 x4 x5 => (e4 i x1 x2 x3 x4 x5).trans (by rw [k3 (by decide)])
  have hcl : ∀ y1 y2 y3, M2 0 11 = y1 → M2 0 12 = y2 → M2 0 13 = y3 → CLS M2 c hs nx sz sn l ln ft y1 y2 y3 := fun y1 y2 y3 v1 v2 v3 =>
    ⟨(a1.kp g3 (fun i hi => f (by omega))).kp e5 (fun i hi => k5 (by omega)), (a2.kp g3 (fun a x1 x2 => f (by omega))).kp e5 (fun a x1 x2 => k5 (by omega)), ((z0 9).trans (dnF_o (by decide))).trans a3, fun s e => ((a4 s e).kp g3 (fun i hi => f (by omega))).kp e5 (fun i hi => k5 (by omega)), (a5.kp g3 (by decide) (by decide)).kp e5 (by decide) (by decide), (a6.kp g3 (by decide) (by decide)).kp e5 (by decide) (by decide), ((z0 10).trans (dnF_o (by decide))).trans a7, v1, v2, v3⟩
  have hml : ∀ y1 y2 y3, M2 96 9 = y1 → M2 96 10 = y2 → M2 96 11 = y3 → MDL M2 c hs sz sn l ln ft y1 y2 y3 := fun y1 y2 y3 v1 v2 v3 =>
    ⟨(b1.kp g3 (by decide)).kp e5 (by decide), b2.kp (q 5 (by decide) (by decide) (by decide) (by decide) (by decide)) ((e5 98 (by decide)).trans (k3 (by decide))), (q 6 (by decide) (by decide) (by decide) (by decide) (by decide)).trans b3, (q 4 (by decide) (by decide) (by decide) (by decide) (by decide)).trans b4, fun s e => ((b5 s e).kp g3 (by decide)).kp e5 (by decide), b6.kp (q 13 (by decide) (by decide) (by decide) (by decide) (by decide)) ((e5 101 (by decide)).trans (k3 (by decide))), b7.kp (q 16 (by decide) (by decide) (by decide) (by decide) (by decide)) ((e5 102 (by decide)).trans (k3 (by decide))), (q 14 (by decide) (by decide) (by decide) (by decide) (by decide)).trans b8, v1, v2, v3⟩
  refine ⟨e1, ?_⟩
  by_cases hj : j.1 ≤ 5
  · have w : dnF (M 0) j.1 j.2 = fun k => if k = 11 then nI j.1 else if k = 12 then j.2 else if k = 13 then nI 0 else M 0 k := by unfold dnF; rw [if_pos hj]
    obtain ⟨v1, v2, v3⟩ := eA hj
    exact ⟨c, hs, nx, sz, sn, l, ln, ft, nI j.1, j.2, nI 0, hcl _ _ _ ((z0 11).trans (by rw [w]; rfl)) ((z0 12).trans (by rw [w]; rfl)) ((z0 13).trans (by rw [w]; rfl)), hml _ _ _ v1 v2 v3, hp⟩
  · have w : dnF (M 0) j.1 j.2 = M 0 := by unfold dnF; rw [if_neg hj]
    obtain ⟨v1, v2, v3⟩ := eB hj
    exact ⟨c, hs, nx, sz, sn, l, ln, ft, d1, d2, d3, hcl _ _ _ ((z0 11).trans (by rw [w]; exact a8)) ((z0 12).trans (by rw [w]; exact a9)) ((z0 13).trans (by rw [w]; exact a10)), hml _ _ _ (v1.trans (by rw [k3 (by decide)]; exact b9)) (v2.trans (by rw [k3 (by decide)]; exact b10)) (v3.trans (by rw [k3 (by decide)]; exact b11)), hp⟩
theorem OPT.fail {kd : Nat} {j : Nat × Int32} (hc : CLS M c hs nx sz sn l ln ft d1 d2 d3) (hm : MDL M c hs sz sn l ln ft d1 d2 d3) (hp : PUR c hs sz sn l ln ft) (hk : k < 4) (h0 : ¬ k = 0) (e : plc kd j.1 = k) (hW : CM G ad 20 mw (1, 6) wa (M, o) (PW k NO (fun M' => M' 0 = dnF (M 0) j.1 j.2 ∧ KP (fun a => inR 7 13 a || a == 0) M M'))) (hG : ∀ M1 o1, MDL M1 c hs sz sn l ln ft d1 d2 d3 → RETI G ad 20 mg ga (M1, o1) (some (mk b)) (FLR kd j M1)) : OPT G ad mk rel mw mg wa ga M o :=
  ⟨k, NO, _, b, hk, hW, fun M1 o1 h1 => (hG M1 o1 (hm.kp h1.2 (fun a g1 g2 => by unfold inR; simp; omega))).imp (fun M2 h2 => e ▸ LV.fail hc hm hp h1 h2), fun q => absurd q h0⟩
end T64b

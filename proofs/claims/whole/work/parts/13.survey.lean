set_option maxHeartbeats 400000
/-! SURVEY: mirrors of its methods -/
def Arr (M : Nat → Nat → Int32) (a n : Nat) (f : Nat → Nat) : Prop := ∀ x, x < n → M a x = nI (f x)
def OAr (M : Nat → Nat → Int32) (a n : Nat) (f : Nat → Option Nat) : Prop := ∀ x, x < n → M a x = oI (f x)
theorem Arr.up {M : Nat → Nat → Int32} {a n b k : Nat} {x : Int32} {f : Nat → Nat} (h : Arr M a n f) (hb : a ≠ b) : Arr (up2 M b k x) a n f := fun z hz => by rw [up2_n hb]; exact h z hz
theorem Arr.set {M : Nat → Nat → Int32} {a n i x : Nat} {f : Nat → Nat} (h : Arr M a n f) : Arr (up2 M a i (nI x)) a n (ups f i x) := fun _ hz => up2_row (h _ hz)
theorem Arr.kp {M M' : Nat → Nat → Int32} {a n : Nat} {f : Nat → Nat} {F : Nat → Bool} (h : Arr M a n f) (hk : KP F M M') (ha : F a = false) : Arr M' a n f := fun z hz => by rw [hk a ha]; exact h z hz
theorem Arr.cong {M : Nat → Nat → Int32} {a n : Nat} {f g : Nat → Nat} (h : Arr M a n f) (e : ∀ x, x < n → f x = g x) : Arr M a n g := fun z hz => by rw [← e z hz]; exact h z hz
theorem OAr.up {M : Nat → Nat → Int32} {a n b k : Nat} {x : Int32} {f : Nat → Option Nat} (h : OAr M a n f) (hb : a ≠ b) : OAr (up2 M b k x) a n f := fun z hz => by rw [up2_n hb]; exact h z hz
theorem OAr.set {M : Nat → Nat → Int32} {a n i : Nat} {x : Option Nat} {f : Nat → Option Nat} (h : OAr M a n f) : OAr (up2 M a i (oI x)) a n (ups f i x) := fun z hz => by
  by_cases e : z = i
  · subst e; rw [up2_s, ups_s]
  · rw [up2_k e, ups_n e]; exact h z hz
theorem OAr.kp {M M' : Nat → Nat → Int32} {a n : Nat} {f : Nat → Option Nat} {F : Nat → Bool} (h : OAr M a n f) (hk : KP F M M') (ha : F a = false) : OAr M' a n f := fun z hz => by rw [hk a ha]; exact h z hz
/-- f over 0 .. n - 1 -/
def iter {σ : Type} (f : Nat → σ → σ) : Nat → σ → σ
  | 0, s => s
  | n + 1, s => f n (iter f n s)
def uni (L : Nat → Nat) (a b : Nat) : Nat → Nat := fun x => if L x = L b then L a else L x
def labs (c : Col) (use : Nat → Bool) : Nat → Nat → Nat
  | 0 => id
  | k + 1 => if use k then uni (labs c use k) (cf c k) (cg c k) else labs c use k
def mrgP (c : Col) (use : Nat → Bool) (k : Nat) : Bool := use k && !decide (labs c use k (cf c k) = labs c use k (cg c k))
def mrg (c : Col) (use : Nat → Bool) (k : Nat) : Nat := cnt (mrgP c use) k
def labs2 (c : Col) : Nat → Nat → Nat
  | 0 => id
  | k + 1 => uni (uni (labs2 c k) (cf c k) (cg c k + 9)) (cg c k) (cf c k + 9)
theorem uni_lt {L : Nat → Nat} {a b n m : Nat} (h : ∀ x, x < n → L x < m) (ha : a < n) : ∀ x, x < n → uni L a b x < m := fun x hx => by
  unfold uni; split
  · exact h a ha
  · exact h x hx
theorem labs_lt {c : Col} (hw : WF c) (use : Nat → Bool) : ∀ k, k ≤ ck c → ∀ x, x < 18 → labs c use k x < 18
  | 0, _ => fun _ hx => hx
  | k + 1, hk => by
    have h := labs_lt hw use k (by omega)
    have := hw.f (j := k) (by omega)
    have := hw.n
    unfold labs; split
    · exact uni_lt h (by omega)
    · exact h
theorem labs2_lt {c : Col} (hw : WF c) : ∀ k, k ≤ ck c → ∀ x, x < 18 → labs2 c k x < 18
  | 0, _ => fun _ hx => hx
  | k + 1, hk => by
    have h := labs2_lt hw k (by omega)
    have := hw.f (j := k) (by omega)
    have := hw.g (j := k) (by omega)
    have := hw.n
    exact uni_lt (uni_lt h (by omega)) (by omega)
def sep2 (c : Col) : Bool := (fnd (fun m => decide (labs2 c (ck c) m = labs2 c (ck c) (m + 9))) (cn c)).isNone
/-- distances -/
def won (D : Nat → Option Nat) (m nx len : Nat) : Nat → Option Nat := if D m = some len ∧ D nx = none then ups D nx (some (len + 1)) else D
def wst (c : Col) (len j : Nat) (D : Nat → Option Nat) : Nat → Option Nat := if blk c (cw c) j then D else won (won D (cf c j) (cg c j) len) (cg c j) (cf c j) len
def wrow (c : Col) (len : Nat) (D : Nat → Option Nat) : Nat → Option Nat := iter (wst c len) (ck c) D
def wal (c : Col) (a k : Nat) : Nat → Option Nat := iter (wrow c) k (ups (fun _ => none) a (some 0))
/-- blocked tunnels to earlier magnets -/
def earP (c : Col) (w m j : Nat) : Bool := match oEnd c j m with
  | some o => decide (o < m) && blk c w j
  | none => false
def ear (c : Col) (w m : Nat) : Nat := cnt (earP c w m) (ck c)
def bndF (c : Col) : Nat → Nat → Nat → Nat → Nat → Nat
  | 0, _, _, _, least => least
  | fu + 1, m, w, b, least => if least ≤ b then least else if cn c ≤ m ∨ 9 ≤ m then b else bndF c fu (m + 1) (w ||| 2 ^ m) (b + ear c (w ||| 2 ^ m) m) (bndF c fu (m + 1) w (b + ear c w m) least)
def lobF (c : Col) : Nat → Nat
  | 0 => ck c
  | k + 1 => min (lobF c k) (blkN c (cw c ^^^ k))
def sstB (c : Col) (r : Option Nat) (k : Nat) : Bool := (match r with | none => true | some b => decide (pop k < b)) && decide (blkN c (cw c ^^^ k) = 0)
def sstF (c : Col) : Nat → Option Nat
  | 0 => none
  | k + 1 => if sstB c (sstF c k) k = true then some (pop k) else sstF c k
/-- poles given -/
def pst (c : Col) (j : Nat) (s : Nat × Nat) : Nat × Nat := if s.1.testBit (cf c j) = s.1.testBit (cg c j) then s else
  (s.1 ||| 2 ^ (if s.1.testBit (cf c j) then cg c j else cf c j), if s.2.testBit (cf c j) || s.2.testBit (cg c j) then s.2 else s.2 ||| 2 ^ (if s.1.testBit (cf c j) then cg c j else cf c j))
def prow (c : Col) (_ : Nat) (s : Nat × Nat) : Nat × Nat := iter (pst c) (ck c) s
def giv (c : Col) (m gn : Nat) : Nat × Nat := iter (prow c) (cn c - 1) (2 ^ m, gn ||| 2 ^ m)
def btO (c : Col) (gn part m : Nat) : Nat := let t := part &&& (gn ^^^ cw c); let o := part ^^^ t; if pop t = pop o then (if t.testBit m then t else o) else if pop t < pop o then t else o
/-- given norths, seen, set -/
def bst (c : Col) (m : Nat) (s : Nat × Nat × Nat) : Nat × Nat × Nat := if s.2.1.testBit m then s else let r := giv c m s.1; (r.2, s.2.1 ||| r.1, s.2.2 ||| btO c r.2 r.1 m)
def bsts (c : Col) (i : Nat) : Nat × Nat × Nat := iter (bst c) i (0, 0, 0)
def bestF (c : Col) : Option Nat := if blkN c (bsts c (cn c)).1 = 0 then some (bsts c (cn c)).2.2 else none
/-- bridges: numbers, lowest, last number, found -/
abbrev BS : Type := (Nat → Int32) × (Nat → Int32) × Int32 × Int32
def numM (v : Nat) (s : BS) : BS := (ups s.1 v (s.2.2.1 + nI 1), ups s.2.1 v (s.2.2.1 + nI 1), s.2.2.1 + nI 1, s.2.2.2)
def reaM (v : Nat) (x : Int32) (s : BS) : BS := (s.1, ups s.2.1 v (if x < s.2.1 v then x else s.2.1 v), s.2.2.1, s.2.2.2)
def foundM (v x : Nat) (s : BS) : BS := if s.1 v < s.2.1 x then (s.1, s.2.1, s.2.2.1, s.2.2.2 + nI 1) else s
/-- what a tunnel does, when rec explores on -/
def exst (c : Col) (rec : Nat → Int32 → BS → BS) (v : Nat) (e : Int32) (j : Nat) (s : BS) : BS := match oEnd c j v with
  | none => s
  | some x => if nI j = e then s else if ¬ s.1 x = 0 then reaM v (s.1 x) s else foundM v x (reaM v ((rec x (nI j) s).2.1 x) (rec x (nI j) s))
def expl (c : Col) : Nat → Nat → Int32 → BS → BS
  | 0, _, _, s => s
  | fu + 1, v, e, s => iter (exst c (expl c fu) v e) (ck c) (numM v s)
def brst (c : Col) (m : Nat) (s : BS) : BS := if s.1 m = 0 then expl c 9 m (-1) s else s
def brs (c : Col) (low : Nat → Int32) (i : Nat) : BS := iter (brst c) i (fun _ => 0, low, 0, 0)
def IAr (M : Nat → Nat → Int32) (a n : Nat) (f : Nat → Int32) : Prop := ∀ x, x < n → M a x = f x
theorem IAr.up {M : Nat → Nat → Int32} {a n b k : Nat} {x : Int32} {f : Nat → Int32} (h : IAr M a n f) (hb : a ≠ b) : IAr (up2 M b k x) a n f := fun z hz => by rw [up2_n hb]; exact h z hz
theorem IAr.set {M : Nat → Nat → Int32} {a n i : Nat} {x : Int32} {f : Nat → Int32} (h : IAr M a n f) : IAr (up2 M a i x) a n (ups f i x) := fun _ hz => up2_rowT (h _ hz)
def BSAt (M : Nat → Nat → Int32) (s : BS) : Prop := IAr M 10 9 s.1 ∧ IAr M 11 9 s.2.1 ∧ M 7 6 = s.2.2.1 ∧ M 7 7 = s.2.2.2
section T13
variable {G : gC} {ad : Nat → Nat} {d : Nat} {M : Nat → Nat → Int32} {o : (Nat → Int64) × (Nat → UInt64)} {c : Col}
theorem l_sep (M0 : Nat → Nat → Int32) : ∀ i, i ≤ 18 → ∀ (M : Nat → Nat → Int32), (∀ x, x < i → M 8 x = nI x) → KP (inR 7 11) M0 M → ER G ad d mX6_separateLabels (0, 0) (PI none o (fun M' => Arr M' 8 18 id ∧ KP (inR 7 11) M0 M')) (0, 0) 2 [some (.ref (ad 7)), some (.int (nI i))] [] (M, o) := down (18) _ (fun i hi ih M h1 h2 => by
  refine e_iload_n (pc' := 3) dX6_separateLabels_2 rfl rfl rfl ?_
  refine e_aload_n (pc' := 4) dX6_separateLabels_3 rfl rfl rfl ?_
  refine p_gfr (pc' := 7) (a := 7) (k := 1) (t := 8) dX6_separateLabels_4 rfl rfl (by decide) (by decide) rfl fl_X6_9 ?_
  refine p_alen (pc' := 8) (a := 8) dX6_separateLabels_7 rfl rfl ?_
  refine e_icmp_geN (pc' := 11) (tgt := 24) dX6_separateLabels_8 rfl (by decide) (by omega) (by omega) (fun hz1 => ?_) (fun hz1 => ?_)
  · exact e_vret dX6_separateLabels_24 rfl (MP.retI rfl ⟨fun x hx => h1 x (by omega), h2⟩) (by decide) (by decide)
  · refine e_aload_n (pc' := 12) dX6_separateLabels_11 rfl rfl rfl ?_
    refine p_gfr (pc' := 15) (a := 7) (k := 1) (t := 8) dX6_separateLabels_12 rfl rfl (by decide) (by decide) rfl fl_X6_9 ?_
    refine e_iload_n (pc' := 16) dX6_separateLabels_15 rfl rfl rfl ?_
    refine e_iload_n (pc' := 17) dX6_separateLabels_16 rfl rfl rfl ?_
    refine p_iast (pc' := 18) (a := 8) (k := i) dX6_separateLabels_17 rfl (rfl) (rfl) (by omega) (by decide) ?_
    refine e_iincN (pc' := 21) (k := 1) (L' := [some (.ref (ad 7)), some (.int (nI (i + 1)))]) dX6_separateLabels_18 rfl rfl rfl (by decide) rfl ?_
    refine e_goto (tgt := 2) dX6_separateLabels_21 (by decide) ?_
    exact ih (by omega) _ (fun x hx => by rw [up2_v]; split; rename_i hh; rw [hh.2]; rename_i hh; exact h1 x (by omega)) (h2.up (by decide)))
theorem c_sep  : RETI G ad d mX6_separateLabels [.ref (ad 7)] (M, o) none (fun M' => Arr M' 8 18 id ∧ KP (inR 7 11) M M') := by
  refine CM_of rfl (by decide) rfl (Nat.le_of_ble_eq_true rfl) rfl ?_
  refine e_iconst (pc' := 1) (v := nI 0) dX6_separateLabels_0 rfl (by decide) ?_
  refine e_istore_n (pc' := 2) (L' := [some (.ref (ad 7)), some (.int (nI 0))]) dX6_separateLabels_1 rfl rfl (by decide) rfl ?_
  exact l_sep M 0 (by omega) M (fun x hx => by omega) KP.refl
theorem uni_s1 {M : Nat → Nat → Int32} {L : Nat → Nat} {a b i : Nat} (h1 : Arr M 8 18 (fun x => if x < i ∧ L x = L b then L a else L x)) (he : L i = L b) : Arr (up2 M 8 i (nI (L a))) 8 18 (fun x => if x < i + 1 ∧ L x = L b then L a else L x) := h1.set.cong (fun x hx => by
  by_cases e : x = i
  · subst e; simp [ups, he]
  · have e2 : x < i + 1 ↔ x < i := by omega
    simp [ups, e, e2])
theorem uni_s0 {M : Nat → Nat → Int32} {L : Nat → Nat} {a b i : Nat} (h1 : Arr M 8 18 (fun x => if x < i ∧ L x = L b then L a else L x)) (he : ¬ L i = L b) : Arr M 8 18 (fun x => if x < i + 1 ∧ L x = L b then L a else L x) := h1.cong (fun x hx => by
  by_cases e : x = i
  · subst e; simp [he]
  · have e2 : x < i + 1 ↔ x < i := by omega
    simp [e2])
theorem l_unite {M0 : Nat → Nat → Int32} {L : Nat → Nat} (hL : ∀ x, x < 18 → L x < 18) {a b : Nat} (ha : a < 18) (hb : b < 18) (hne : ¬ L a = L b) : ∀ i, i ≤ 18 → ∀ (M : Nat → Nat → Int32), Arr M 8 18 (fun x => if x < i ∧ L x = L b then L a else L x) → KP (inR 7 11) M0 M → ER G ad d mX6_unite (0, 0) (PI (some (.int (bI (!decide (L a = L b))))) o (fun M' => Arr M' 8 18 (uni L a b) ∧ KP (inR 7 11) M0 M')) (0, 0) 26 [some (.ref (ad 7)), none, none, some (.int (nI (L a))), some (.int (nI (L b))), some (.int (nI i))] [] (M, o) := down (18) _ (fun i hi ih M h1 h2 => by
  have h3 := hL a ha
  have h4 := hL b hb
  refine e_iload (pc' := 28) dX6_unite_26 rfl rfl ?_
  refine e_aload_n (pc' := 29) dX6_unite_28 rfl rfl rfl ?_
  refine p_gfr (pc' := 32) (a := 7) (k := 1) (t := 8) dX6_unite_29 rfl rfl (by decide) (by decide) rfl fl_X6_9 ?_
  refine p_alen (pc' := 33) (a := 8) dX6_unite_32 rfl rfl ?_
  refine e_icmp_geN (pc' := 36) (tgt := 62) dX6_unite_33 rfl (by decide) (by first | omega | (have := hL i (by omega); omega)) (by first | omega | (have := hL i (by omega); omega)) (fun hz1 => ?_) (fun hz1 => ?_)
  · refine e_iconst (pc' := 63) (v := nI 1) dX6_unite_62 rfl (by decide) ?_
    exact e_zret (ty := .boolean) dX6_unite_63 rfl (rfl) (MP.retI (congrArg (fun z => some (Value.int z)) (by rw [decide_eq_false hne]; rfl)) ⟨h1.cong (fun x hx => by unfold uni; simp only [show x < i by omega, true_and]), h2⟩) (by decide) (by decide)
  · refine e_aload_n (pc' := 37) dX6_unite_36 rfl rfl rfl ?_
    refine p_gfr (pc' := 40) (a := 7) (k := 1) (t := 8) dX6_unite_37 rfl rfl (by decide) (by decide) rfl fl_X6_9 ?_
    refine e_iload (pc' := 42) dX6_unite_40 rfl rfl ?_
    refine p_iald (pc' := 43) (a := 8) (k := i) (x := nI (L i)) dX6_unite_42 rfl (rfl) (rfl) (by first | omega | (have := hL i (by omega); omega)) (by decide) (by rw [h1 i (by omega)]; simp) ?_
    refine e_iload (pc' := 45) dX6_unite_43 rfl rfl ?_
    refine e_icmp_neN (pc' := 48) (tgt := 56) dX6_unite_45 rfl (by decide) (by first | omega | (have := hL i (by omega); omega)) (by first | omega | (have := hL i (by omega); omega)) (fun he => ?_) (fun he => ?_)
    · refine e_iincN (pc' := 59) (k := 1) (L' := [some (.ref (ad 7)), none, none, some (.int (nI (L a))), some (.int (nI (L b))), some (.int (nI (i + 1)))]) dX6_unite_56 rfl rfl rfl (by decide) rfl ?_
      refine e_goto (tgt := 26) dX6_unite_59 (by decide) ?_
      exact ih (by omega) _ (uni_s0 h1 he) h2
    · refine e_aload_n (pc' := 49) dX6_unite_48 rfl rfl rfl ?_
      refine p_gfr (pc' := 52) (a := 7) (k := 1) (t := 8) dX6_unite_49 rfl rfl (by decide) (by decide) rfl fl_X6_9 ?_
      refine e_iload (pc' := 54) dX6_unite_52 rfl rfl ?_
      refine e_iload_n (pc' := 55) dX6_unite_54 rfl rfl rfl ?_
      refine p_iast (pc' := 56) (a := 8) (k := i) dX6_unite_55 rfl (rfl) (rfl) (by first | omega | (have := hL i (by omega); omega)) (by decide) ?_
      refine e_iincN (pc' := 59) (k := 1) (L' := [some (.ref (ad 7)), none, none, some (.int (nI (L a))), some (.int (nI (L b))), some (.int (nI (i + 1)))]) dX6_unite_56 rfl rfl rfl (by decide) rfl ?_
      refine e_goto (tgt := 26) dX6_unite_59 (by decide) ?_
      exact ih (by omega) _ (uni_s1 h1 he) (h2.up (by decide)))
theorem c_unite {L : Nat → Nat} (h1 : Arr M 8 18 L) (hL : ∀ x, x < 18 → L x < 18) {a b : Nat} (ha : a < 18) (hb : b < 18) : RETI G ad d mX6_unite [.ref (ad 7), .int (nI a), .int (nI b)] (M, o) (some (.int (bI (!decide (L a = L b))))) (fun M' => Arr M' 8 18 (uni L a b) ∧ KP (inR 7 11) M M') := by
  refine CM_of rfl (by decide) rfl (Nat.le_of_ble_eq_true rfl) rfl ?_
  refine e_aload_n (pc' := 1) dX6_unite_0 rfl rfl rfl ?_
  refine p_gfr (pc' := 4) (a := 7) (k := 1) (t := 8) dX6_unite_1 rfl rfl (by decide) (by decide) rfl fl_X6_9 ?_
  refine e_iload_n (pc' := 5) dX6_unite_4 rfl rfl rfl ?_
  have hi1 : a < 18 := by omega
  have hb1 := hL a hi1
  refine p_iald (pc' := 6) (a := 8) (k := a) (x := nI (L a)) dX6_unite_5 rfl (rfl) (rfl) (by omega) (by decide) (h1 _ hi1) ?_
  refine e_istore_n (pc' := 7) (L' := [some (.ref (ad 7)), some (.int (nI a)), some (.int (nI b)), some (.int (nI (L a))), none, none]) dX6_unite_6 rfl rfl (by decide) rfl ?_
  refine e_aload_n (pc' := 8) dX6_unite_7 rfl rfl rfl ?_
  refine p_gfr (pc' := 11) (a := 7) (k := 1) (t := 8) dX6_unite_8 rfl rfl (by decide) (by decide) rfl fl_X6_9 ?_
  refine e_iload_n (pc' := 12) dX6_unite_11 rfl rfl rfl ?_
  have hi2 : b < 18 := by omega
  have hb2 := hL b hi2
  refine p_iald (pc' := 13) (a := 8) (k := b) (x := nI (L b)) dX6_unite_12 rfl (rfl) (rfl) (by omega) (by decide) (h1 _ hi2) ?_
  refine e_istore (pc' := 15) (L' := [some (.ref (ad 7)), some (.int (nI a)), some (.int (nI b)), some (.int (nI (L a))), some (.int (nI (L b))), none]) dX6_unite_13 rfl (by decide) rfl ?_
  refine e_iload_n (pc' := 16) dX6_unite_15 rfl rfl rfl ?_
  refine e_iload (pc' := 18) dX6_unite_16 rfl rfl ?_
  refine e_icmp_neN (pc' := 21) (tgt := 23) dX6_unite_18 rfl (by decide) (by omega) (by omega) (fun he => ?_) (fun he => ?_)
  · refine e_iconst (pc' := 24) (v := nI 0) dX6_unite_23 rfl (by decide) ?_
    refine e_istore (pc' := 26) (L' := [some (.ref (ad 7)), some (.int (nI a)), some (.int (nI b)), some (.int (nI (L a))), some (.int (nI (L b))), some (.int (nI 0))]) dX6_unite_24 rfl (by decide) rfl ?_
    refine e_fg (i := 1) (L' := [some (.ref (ad 7)), none, some (.int (nI b)), some (.int (nI (L a))), some (.int (nI (L b))), some (.int (nI 0))]) rfl ?_
    refine e_fg (i := 2) (L' := [some (.ref (ad 7)), none, none, some (.int (nI (L a))), some (.int (nI (L b))), some (.int (nI 0))]) rfl ?_
    exact l_unite hL ha hb he 0 (by omega) M (h1.cong (fun x hx => by simp)) KP.refl
  · refine e_iconst (pc' := 22) (v := nI 0) dX6_unite_21 rfl (by decide) ?_
    exact e_zret (ty := .boolean) dX6_unite_22 rfl (rfl) (MP.retI (congrArg (fun z => some (Value.int z)) (by rw [decide_eq_true he]; rfl)) ⟨h1.cong (fun x hx => by unfold uni; split; rename_i q; rw [q, he]; rfl), KP.refl⟩) (by decide) (by decide)
theorem cnt_1 {P : Nat → Bool} {i : Nat} (h : P i = true) : cnt P (i + 1) = cnt P i + 1 := by show cnt P i + (if P i = true then 1 else 0) = _; rw [if_pos h]
theorem cnt_0 {P : Nat → Bool} {i : Nat} (h : P i = false) : cnt P (i + 1) = cnt P i := by show cnt P i + (if P i = true then 1 else 0) = _; rw [if_neg (by rw [h]; decide)]; rfl
theorem labs_1 {use : Nat → Bool} {i : Nat} (h : use i = true) : labs c use (i + 1) = uni (labs c use i) (cf c i) (cg c i) := if_pos h
theorem labs_0 {use : Nat → Bool} {i : Nat} (h : use i = false) : labs c use (i + 1) = labs c use i := if_neg (by rw [h]; decide)
theorem mrg_s {use : Nat → Bool} {i : Nat} (h : use i = false) : mrg c use (i + 1) = mrg c use i := cnt_0 (by unfold mrgP; rw [h]; rfl)
theorem mrg_0 {use : Nat → Bool} {i : Nat} (h : (!decide (labs c use i (cf c i) = labs c use i (cg c i))) = false) : mrg c use (i + 1) = mrg c use i := cnt_0 (by unfold mrgP; rw [h, Bool.and_false])
theorem mrg_1 {use : Nat → Bool} {i : Nat} (hu : use i = true) (h : (!decide (labs c use i (cf c i) = labs c use i (cg c i))) = true) : mrg c use (i + 1) = mrg c use i + 1 := cnt_1 (by unfold mrgP; rw [hu, h]; rfl)
theorem sub_dec (a b : Nat) : nI a - nI b + Int32.ofInt (-1) = nI a - nI (b + 1) := by
  rw [← nI_add]
  show _ - _ + (-1) = _ - (_ + 1)
  rw [← Int32.sub_eq_add_neg, Int32.sub_sub]
theorem l_countParts {M0 : Nat → Nat → Int32} (hw : WF c) (t : Int32) : ∀ i, i ≤ ck c → ∀ (M : Nat → Nat → Int32) (x : Int32), x = nI (cn c) - nI (mrg c (fun j => !decide (nI j = t)) i) → ColAt M 1 c → Arr M 8 18 (labs c (fun j => !decide (nI j = t)) i) → KP (inR 7 11) M0 M → ER G ad (d + 1) mX6_countParts (0, 0) (PI (some (.int (nI (cn c) - nI (mrg c (fun j => !decide (nI j = t)) (ck c))))) o (fun M' => KP (inR 7 11) M0 M')) (0, 0) 14 [some (.ref (ad 7)), some (.int (t)), some (.int (x)), some (.int (nI i))] [] (M, o) := down (ck c) _ (fun i hi ih M x hx h hA h2 => by
  have hn := hw.n
  have hk := hw.k
  have hw9 := hw.w9
  have hL := labs_lt hw (fun j => !decide (nI j = t)) i hi
  refine e_iload_n (pc' := 15) dX6_countParts_14 rfl rfl rfl ?_
  refine e_aload_n (pc' := 16) dX6_countParts_15 rfl rfl rfl ?_
  refine p_gfr (pc' := 19) (a := 7) (k := 0) (t := 1) dX6_countParts_16 rfl rfl (by decide) (by decide) rfl fl_X6_24 ?_
  refine p_gfi (pc' := 22) (a := 1) (k := 5) (x := nI (ck c)) dX6_countParts_19 rfl (rfl) (by decide) (by decide) rfl fl_X6_37 (h.k) ?_
  refine e_icmp_geN (pc' := 25) (tgt := 64) dX6_countParts_22 rfl (by decide) (by omega) (by omega) (fun hz1 => ?_) (fun hz1 => ?_)
  · refine e_iload_n (pc' := 65) dX6_countParts_64 rfl rfl rfl ?_
    exact e_iret dX6_countParts_65 rfl (MP.retI (by rw [hx, show i = ck c by omega]) h2) (by decide) (by decide)
  · refine e_iload_n (pc' := 26) dX6_countParts_25 rfl rfl rfl ?_
    refine e_iload_n (pc' := 27) dX6_countParts_26 rfl rfl rfl ?_
    refine e_icmp_eq (pc' := 30) (tgt := 58) dX6_countParts_27 rfl (by decide) (fun ht => ?_) (fun ht => ?_)
    · refine e_iincN (pc' := 61) (k := 1) (L' := [some (.ref (ad 7)), some (.int (t)), some (.int (x)), some (.int (nI (i + 1)))]) dX6_countParts_58 rfl rfl rfl (by decide) rfl ?_
      refine e_goto (tgt := 14) dX6_countParts_61 (by decide) ?_
      exact ih (by omega) _ _ (by rw [mrg_s (by simp [ht])]; exact hx) h (by rw [labs_0 (by simp [ht])]; exact hA) h2
    · refine e_aload_n (pc' := 31) dX6_countParts_30 rfl rfl rfl ?_
      refine e_aload_n (pc' := 32) dX6_countParts_31 rfl rfl rfl ?_
      refine p_gfr (pc' := 35) (a := 7) (k := 0) (t := 1) dX6_countParts_32 rfl rfl (by decide) (by decide) rfl fl_X6_24 ?_
      refine p_gfr (pc' := 38) (a := 1) (k := 6) (t := 5) dX6_countParts_35 rfl rfl (by decide) (by decide) rfl fl_X6_40 ?_
      refine e_iload_n (pc' := 39) dX6_countParts_38 rfl rfl rfl ?_
      have hi1 : i < ck c := by omega
      have hb1 := hw.f hi1
      refine p_iald (pc' := 40) (a := 5) (k := i) (x := nI (cf c i)) dX6_countParts_39 rfl (rfl) (rfl) (by omega) (by decide) (h.f hi1) ?_
      refine e_aload_n (pc' := 41) dX6_countParts_40 rfl rfl rfl ?_
      refine p_gfr (pc' := 44) (a := 7) (k := 0) (t := 1) dX6_countParts_41 rfl rfl (by decide) (by decide) rfl fl_X6_24 ?_
      refine p_gfr (pc' := 47) (a := 1) (k := 7) (t := 6) dX6_countParts_44 rfl rfl (by decide) (by decide) rfl fl_X6_43 ?_
      refine e_iload_n (pc' := 48) dX6_countParts_47 rfl rfl rfl ?_
      have hi2 : i < ck c := by omega
      have hb2 := hw.g hi2
      refine p_iald (pc' := 49) (a := 6) (k := i) (x := nI (cg c i)) dX6_countParts_48 rfl (rfl) (rfl) (by omega) (by decide) (h.g hi2) ?_
      refine r_VI (pc' := 52) (m' := mX6_unite) (As := [.int (nI (cf c i)), .int (nI (cg c i))]) (st := []) (c_unite (d := d) hA hL (a := cf c i) (b := cg c i) (by omega) (by omega)) dX6_countParts_49 rfl rfl (Nat.le_of_ble_eq_true rfl) (fit_of (by omega) (by decide) (by decide) (by decide)) ml_X6_46 okX6_unite rfl rfl (by decide) rfl (fun MU1 ⟨hU1, hV1⟩ => ?_)
      show EV _ _ _ _ _ 52 _ ([.int (bI (!decide (((labs c (fun j => !decide (nI j = t)) i)) (cf c i) = ((labs c (fun j => !decide (nI j = t)) i)) (cg c i))))]) _
      refine e_if_eqB (pc' := 55) (tgt := 58) dX6_countParts_52 rfl (by decide) (fun hu => ?_) (fun hu => ?_)
      · refine e_iincN (pc' := 61) (k := 1) (L' := [some (.ref (ad 7)), some (.int (t)), some (.int (x)), some (.int (nI (i + 1)))]) dX6_countParts_58 rfl rfl rfl (by decide) rfl ?_
        refine e_goto (tgt := 14) dX6_countParts_61 (by decide) ?_
        exact ih (by omega) _ _ (by rw [mrg_0 hu]; exact hx) (h.kp hV1 (fun i hi => inR_f (by omega))) (by rw [labs_1 (by simp [ht])]; exact hU1) (h2.trans hV1)
      · refine e_iinc (pc' := 58) (L' := [some (.ref (ad 7)), some (.int (t)), some (.int (x + Int32.ofInt (-1))), some (.int (nI i))]) dX6_countParts_55 rfl rfl rfl (by decide) rfl ?_
        refine e_iincN (pc' := 61) (k := 1) (L' := [some (.ref (ad 7)), some (.int (t)), some (.int (x + Int32.ofInt (-1))), some (.int (nI (i + 1)))]) dX6_countParts_58 rfl rfl rfl (by decide) rfl ?_
        refine e_goto (tgt := 14) dX6_countParts_61 (by decide) ?_
        exact ih (by omega) _ _ (by rw [mrg_1 (by simp [ht]) hu, hx]; exact sub_dec _ _) (h.kp hV1 (fun i hi => inR_f (by omega))) (by rw [labs_1 (by simp [ht])]; exact hU1) (h2.trans hV1))
theorem c_countParts (h : ColAt M 1 c) (hw : WF c) (t : Int32) : RETI G ad (d + 1) mX6_countParts [.ref (ad 7), .int (t)] (M, o) (some (.int (nI (cn c) - nI (mrg c (fun j => !decide (nI j = t)) (ck c))))) (fun M' => KP (inR 7 11) M M') := by
  refine CM_of rfl (by decide) rfl (Nat.le_of_ble_eq_true rfl) rfl ?_
  have hn := hw.n
  have hk := hw.k
  have hw9 := hw.w9
  refine e_aload_n (pc' := 1) dX6_countParts_0 rfl rfl rfl ?_
  refine r_VI (pc' := 4) (m' := mX6_separateLabels) (As := []) (st := []) (c_sep (d := d)) dX6_countParts_1 rfl rfl (Nat.le_of_ble_eq_true rfl) (fit_of (by omega) (by decide) (by decide) (by decide)) ml_X6_28 okX6_separateLabels rfl rfl (by decide) rfl (fun M1 ⟨hA1, hK1⟩ => ?_)
  show EV _ _ _ _ _ 4 _ ([]) _
  refine e_aload_n (pc' := 5) dX6_countParts_4 rfl rfl rfl ?_
  refine p_gfr (pc' := 8) (a := 7) (k := 0) (t := 1) dX6_countParts_5 rfl rfl (by decide) (by decide) rfl fl_X6_24 ?_
  refine p_gfi (pc' := 11) (a := 1) (k := 0) (x := nI (cn c)) dX6_countParts_8 rfl (rfl) (by decide) (by decide) rfl fl_X6_31 ((h.kp hK1 (fun i hi => inR_f (by omega))).n) ?_
  refine e_istore_n (pc' := 12) (L' := [some (.ref (ad 7)), some (.int (t)), some (.int (nI (cn c))), none]) dX6_countParts_11 rfl rfl (by decide) rfl ?_
  refine e_iconst (pc' := 13) (v := nI 0) dX6_countParts_12 rfl (by decide) ?_
  refine e_istore_n (pc' := 14) (L' := [some (.ref (ad 7)), some (.int (t)), some (.int (nI (cn c))), some (.int (nI 0))]) dX6_countParts_13 rfl rfl (by decide) rfl ?_
  exact l_countParts hw t 0 (by omega) M1 _ (by show _ = _ - nI 0; rw [nI0]; exact (Int32.sub_zero ..).symm) (h.kp hK1 (fun i hi => inR_f (by omega))) hA1 hK1
def ptsI (c : Col) (t : Int32) : Int32 := nI (cn c) - nI (mrg c (fun j => !decide (nI j = t)) (ck c))
def cbfP (c : Col) (j : Nat) : Bool := decide (ptsI c (-1) < ptsI c (nI j))
theorem l_cbf {M0 : Nat → Nat → Int32} (hw : WF c) : ∀ i, i ≤ ck c → ∀ (M : Nat → Nat → Int32), ColAt M 1 c → KP (inR 7 11) M0 M → ER G ad (d + 2) mX6_countBridgesByFilling (0, 0) (PI (some (.int (nI (cnt (cbfP c) (ck c))))) o (fun M' => KP (inR 7 11) M0 M')) (0, 0) 10 [some (.ref (ad 7)), some (.int (ptsI c (-1))), some (.int (nI (cnt (cbfP c) i))), some (.int (nI i))] [] (M, o) := down (ck c) _ (fun i hi ih M h h2 => by
  have hn := hw.n
  have hk := hw.k
  have hw9 := hw.w9
  refine e_iload_n (pc' := 11) dX6_countBridgesByFilling_10 rfl rfl rfl ?_
  refine e_aload_n (pc' := 12) dX6_countBridgesByFilling_11 rfl rfl rfl ?_
  refine p_gfr (pc' := 15) (a := 7) (k := 0) (t := 1) dX6_countBridgesByFilling_12 rfl rfl (by decide) (by decide) rfl fl_X6_24 ?_
  refine p_gfi (pc' := 18) (a := 1) (k := 5) (x := nI (ck c)) dX6_countBridgesByFilling_15 rfl (rfl) (by decide) (by decide) rfl fl_X6_37 (h.k) ?_
  refine e_icmp_geN (pc' := 21) (tgt := 39) dX6_countBridgesByFilling_18 rfl (by decide) (by first | omega | (have := cnt_le (cbfP c) i; omega)) (by first | omega | (have := cnt_le (cbfP c) i; omega)) (fun hz1 => ?_) (fun hz1 => ?_)
  · refine e_iload_n (pc' := 40) dX6_countBridgesByFilling_39 rfl rfl rfl ?_
    exact e_iret dX6_countBridgesByFilling_40 rfl (MP.retI (by rw [show i = ck c by omega]) h2) (by decide) (by decide)
  · refine e_aload_n (pc' := 22) dX6_countBridgesByFilling_21 rfl rfl rfl ?_
    refine e_iload_n (pc' := 23) dX6_countBridgesByFilling_22 rfl rfl rfl ?_
    refine r_VI (pc' := 26) (m' := mX6_countParts) (As := [.int (nI i)]) (st := []) (c_countParts (d := d) h hw (nI i)) dX6_countBridgesByFilling_23 rfl rfl (Nat.le_of_ble_eq_true rfl) (fit_of (by omega) (by decide) (by decide) (by decide)) ml_X6_91 okX6_countParts rfl rfl (by decide) rfl (fun MU1 hV1 => ?_)
    show EV _ _ _ _ _ 26 _ ([.int (ptsI c (nI i))]) _
    refine e_iload_n (pc' := 27) dX6_countBridgesByFilling_26 rfl rfl rfl ?_
    refine e_icmp_le (pc' := 30) (tgt := 33) dX6_countBridgesByFilling_27 rfl (by decide) (fun hc => ?_) (fun hc => ?_)
    · refine e_iincN (pc' := 36) (k := 1) (L' := [some (.ref (ad 7)), some (.int (ptsI c (-1))), some (.int (nI (cnt (cbfP c) i))), some (.int (nI (i + 1)))]) dX6_countBridgesByFilling_33 rfl rfl rfl (by decide) rfl ?_
      refine e_goto (tgt := 10) dX6_countBridgesByFilling_36 (by decide) ?_
      rw [← cnt_0 (P := cbfP c) (decide_eq_false (Int32.not_lt.mpr hc))]
      exact ih (by omega) _ (h.kp hV1 (fun i hi => inR_f (by omega))) (h2.trans hV1)
    · refine e_iincN (pc' := 33) (k := 1) (L' := [some (.ref (ad 7)), some (.int (ptsI c (-1))), some (.int (nI (cnt (cbfP c) i + 1))), some (.int (nI i))]) dX6_countBridgesByFilling_30 rfl rfl rfl (by decide) rfl ?_
      refine e_iincN (pc' := 36) (k := 1) (L' := [some (.ref (ad 7)), some (.int (ptsI c (-1))), some (.int (nI (cnt (cbfP c) i + 1))), some (.int (nI (i + 1)))]) dX6_countBridgesByFilling_33 rfl rfl rfl (by decide) rfl ?_
      refine e_goto (tgt := 10) dX6_countBridgesByFilling_36 (by decide) ?_
      rw [← cnt_1 (P := cbfP c) (decide_eq_true (Int32.not_le.mp hc))]
      exact ih (by omega) _ (h.kp hV1 (fun i hi => inR_f (by omega))) (h2.trans hV1))
theorem c_cbf (h : ColAt M 1 c) (hw : WF c) : RETI G ad (d + 2) mX6_countBridgesByFilling [.ref (ad 7)] (M, o) (some (.int (nI (cnt (cbfP c) (ck c))))) (fun M' => KP (inR 7 11) M M') := by
  refine CM_of rfl (by decide) rfl (Nat.le_of_ble_eq_true rfl) rfl ?_
  have hn := hw.n
  have hk := hw.k
  have hw9 := hw.w9
  refine e_aload_n (pc' := 1) dX6_countBridgesByFilling_0 rfl rfl rfl ?_
  refine e_iconst (pc' := 2) (v := (-1)) dX6_countBridgesByFilling_1 rfl (by decide) ?_
  refine r_VI (pc' := 5) (m' := mX6_countParts) (As := [.int ((-1))]) (st := []) (c_countParts (d := d) h hw ((-1))) dX6_countBridgesByFilling_2 rfl rfl (Nat.le_of_ble_eq_true rfl) (fit_of (by omega) (by decide) (by decide) (by decide)) ml_X6_91 okX6_countParts rfl rfl (by decide) rfl (fun MU1 hV1 => ?_)
  show EV _ _ _ _ _ 5 _ ([.int (ptsI c ((-1)))]) _
  refine e_istore_n (pc' := 6) (L' := [some (.ref (ad 7)), some (.int (ptsI c ((-1)))), none, none]) dX6_countBridgesByFilling_5 rfl rfl (by decide) rfl ?_
  refine e_iconst (pc' := 7) (v := nI 0) dX6_countBridgesByFilling_6 rfl (by decide) ?_
  refine e_istore_n (pc' := 8) (L' := [some (.ref (ad 7)), some (.int (ptsI c ((-1)))), some (.int (nI 0)), none]) dX6_countBridgesByFilling_7 rfl rfl (by decide) rfl ?_
  refine e_iconst (pc' := 9) (v := nI 0) dX6_countBridgesByFilling_8 rfl (by decide) ?_
  refine e_istore_n (pc' := 10) (L' := [some (.ref (ad 7)), some (.int (ptsI c ((-1)))), some (.int (nI 0)), some (.int (nI 0))]) dX6_countBridgesByFilling_9 rfl rfl (by decide) rfl ?_
  exact l_cbf hw 0 (by omega) _ (h.kp hV1 (fun i hi => inR_f (by omega))) hV1
theorem l_cu2 {M0 M : Nat → Nat → Int32} (h : ColAt M 1 c) (hw : WF c) (hA : Arr M 8 18 (labs2 c (ck c))) (h2 : KP (inR 7 11) M0 M) : ∀ i, i ≤ cn c → (∀ j, j < i → ¬ labs2 c (ck c) j = labs2 c (ck c) (j + 9)) → ER G ad (d + 2) mX6_canUniteCounterparts (0, 0) (PI (some (.int (bI (sep2 c)))) o (fun M' => KP (inR 7 11) M0 M')) (0, 0) 65 [some (.ref (ad 7)), some (.int (nI i)), none, none] [] (M, o) := down (cn c) _ (fun i hi ih hj => by
  have hn := hw.n
  have hk := hw.k
  have hw9 := hw.w9
  have hL := labs2_lt hw (ck c) (Nat.le_refl _)
  refine e_iload_n (pc' := 66) dX6_canUniteCounterparts_65 rfl rfl rfl ?_
  refine e_aload_n (pc' := 67) dX6_canUniteCounterparts_66 rfl rfl rfl ?_
  refine p_gfr (pc' := 70) (a := 7) (k := 0) (t := 1) dX6_canUniteCounterparts_67 rfl rfl (by decide) (by decide) rfl fl_X6_24 ?_
  refine p_gfi (pc' := 73) (a := 1) (k := 0) (x := nI (cn c)) dX6_canUniteCounterparts_70 rfl (rfl) (by decide) (by decide) rfl fl_X6_31 (h.n) ?_
  refine e_icmp_geN (pc' := 76) (tgt := 102) dX6_canUniteCounterparts_73 rfl (by decide) (by omega) (by omega) (fun hz1 => ?_) (fun hz1 => ?_)
  · refine e_iconst (pc' := 103) (v := nI 1) dX6_canUniteCounterparts_102 rfl (by decide) ?_
    exact e_zret (ty := .boolean) dX6_canUniteCounterparts_103 rfl (rfl) (MP.retI (congrArg (fun z => some (Value.int z)) (bI1 (by unfold sep2; rw [fnd_none (fun j hj2 => decide_eq_false (hj j (by omega)))]; rfl))) h2) (by decide) (by decide)
  · refine e_aload_n (pc' := 77) dX6_canUniteCounterparts_76 rfl rfl rfl ?_
    refine p_gfr (pc' := 80) (a := 7) (k := 1) (t := 8) dX6_canUniteCounterparts_77 rfl rfl (by decide) (by decide) rfl fl_X6_9 ?_
    refine e_iload_n (pc' := 81) dX6_canUniteCounterparts_80 rfl rfl rfl ?_
    have hi1 : i < 18 := by omega
    have hb1 := hL i hi1
    refine p_iald (pc' := 82) (a := 8) (k := i) (x := nI (((labs2 c (ck c))) i)) dX6_canUniteCounterparts_81 rfl (rfl) (rfl) (by omega) (by decide) (hA _ hi1) ?_
    refine e_aload_n (pc' := 83) dX6_canUniteCounterparts_82 rfl rfl rfl ?_
    refine p_gfr (pc' := 86) (a := 7) (k := 1) (t := 8) dX6_canUniteCounterparts_83 rfl rfl (by decide) (by decide) rfl fl_X6_9 ?_
    refine e_iload_n (pc' := 87) dX6_canUniteCounterparts_86 rfl rfl rfl ?_
    refine e_bipush (pc' := 89) (v := nI 9) dX6_canUniteCounterparts_87 rfl (by decide) ?_
    refine e_iaddN (pc' := 90) dX6_canUniteCounterparts_89 rfl ?_
    have hi2 : i + 9 < 18 := by omega
    have hb2 := hL (i + 9) hi2
    refine p_iald (pc' := 91) (a := 8) (k := i + 9) (x := nI (((labs2 c (ck c))) (i + 9))) dX6_canUniteCounterparts_90 rfl (rfl) (rfl) (by omega) (by decide) (hA _ hi2) ?_
    refine e_icmp_neN (pc' := 94) (tgt := 96) dX6_canUniteCounterparts_91 rfl (by decide) (by omega) (by omega) (fun h1 => ?_) (fun h1 => ?_)
    · refine e_iincN (pc' := 99) (k := 1) (L' := [some (.ref (ad 7)), some (.int (nI (i + 1))), none, none]) dX6_canUniteCounterparts_96 rfl rfl rfl (by decide) rfl ?_
      refine e_goto (tgt := 65) dX6_canUniteCounterparts_99 (by decide) ?_
      exact ih (by omega) (fun j hj2 => by by_cases e : j = i; rw [e]; exact h1; exact hj j (by omega))
    · refine e_iconst (pc' := 95) (v := nI 0) dX6_canUniteCounterparts_94 rfl (by decide) ?_
      exact e_zret (ty := .boolean) dX6_canUniteCounterparts_95 rfl (rfl) (MP.retI (congrArg (fun z => some (Value.int z)) (bI0 (by unfold sep2; rw [fnd_some (by omega) (fun j hj2 => decide_eq_false (hj j hj2)) (decide_eq_true h1)]; rfl))) h2) (by decide) (by decide))
theorem l_cu1 {M0 : Nat → Nat → Int32} (hw : WF c) : ∀ i, i ≤ ck c → ∀ (M : Nat → Nat → Int32), ColAt M 1 c → Arr M 8 18 (labs2 c i) → KP (inR 7 11) M0 M → ER G ad (d + 2) mX6_canUniteCounterparts (0, 0) (PI (some (.int (bI (sep2 c)))) o (fun M' => KP (inR 7 11) M0 M')) (0, 0) 6 [some (.ref (ad 7)), some (.int (nI i)), none, none] [] (M, o) := down (ck c) _ (fun i hi ih M h hA h2 => by
  have hn := hw.n
  have hk := hw.k
  have hw9 := hw.w9
  have hL := labs2_lt hw i hi
  refine e_iload_n (pc' := 7) dX6_canUniteCounterparts_6 rfl rfl rfl ?_
  refine e_aload_n (pc' := 8) dX6_canUniteCounterparts_7 rfl rfl rfl ?_
  refine p_gfr (pc' := 11) (a := 7) (k := 0) (t := 1) dX6_canUniteCounterparts_8 rfl rfl (by decide) (by decide) rfl fl_X6_24 ?_
  refine p_gfi (pc' := 14) (a := 1) (k := 5) (x := nI (ck c)) dX6_canUniteCounterparts_11 rfl (rfl) (by decide) (by decide) rfl fl_X6_37 (h.k) ?_
  refine e_icmp_geN (pc' := 17) (tgt := 63) dX6_canUniteCounterparts_14 rfl (by decide) (by omega) (by omega) (fun hz1 => ?_) (fun hz1 => ?_)
  · refine e_iconst (pc' := 64) (v := nI 0) dX6_canUniteCounterparts_63 rfl (by decide) ?_
    refine e_istore_n (pc' := 65) (L' := [some (.ref (ad 7)), some (.int (nI 0)), none, none]) dX6_canUniteCounterparts_64 rfl rfl (by decide) rfl ?_
    obtain rfl : i = ck c := by omega
    exact l_cu2 h hw hA h2 0 (by omega) (fun j hj => by omega)
  · refine e_aload_n (pc' := 18) dX6_canUniteCounterparts_17 rfl rfl rfl ?_
    refine p_gfr (pc' := 21) (a := 7) (k := 0) (t := 1) dX6_canUniteCounterparts_18 rfl rfl (by decide) (by decide) rfl fl_X6_24 ?_
    refine p_gfr (pc' := 24) (a := 1) (k := 6) (t := 5) dX6_canUniteCounterparts_21 rfl rfl (by decide) (by decide) rfl fl_X6_40 ?_
    refine e_iload_n (pc' := 25) dX6_canUniteCounterparts_24 rfl rfl rfl ?_
    have hi1 : i < ck c := by omega
    have hb1 := hw.f hi1
    refine p_iald (pc' := 26) (a := 5) (k := i) (x := nI (cf c i)) dX6_canUniteCounterparts_25 rfl (rfl) (rfl) (by omega) (by decide) (h.f hi1) ?_
    refine e_istore_n (pc' := 27) (L' := [some (.ref (ad 7)), some (.int (nI i)), some (.int (nI (cf c i))), none]) dX6_canUniteCounterparts_26 rfl rfl (by decide) rfl ?_
    refine e_aload_n (pc' := 28) dX6_canUniteCounterparts_27 rfl rfl rfl ?_
    refine p_gfr (pc' := 31) (a := 7) (k := 0) (t := 1) dX6_canUniteCounterparts_28 rfl rfl (by decide) (by decide) rfl fl_X6_24 ?_
    refine p_gfr (pc' := 34) (a := 1) (k := 7) (t := 6) dX6_canUniteCounterparts_31 rfl rfl (by decide) (by decide) rfl fl_X6_43 ?_
    refine e_iload_n (pc' := 35) dX6_canUniteCounterparts_34 rfl rfl rfl ?_
    have hi2 : i < ck c := by omega
    have hb2 := hw.g hi2
    refine p_iald (pc' := 36) (a := 6) (k := i) (x := nI (cg c i)) dX6_canUniteCounterparts_35 rfl (rfl) (rfl) (by omega) (by decide) (h.g hi2) ?_
    refine e_istore_n (pc' := 37) (L' := [some (.ref (ad 7)), some (.int (nI i)), some (.int (nI (cf c i))), some (.int (nI (cg c i)))]) dX6_canUniteCounterparts_36 rfl rfl (by decide) rfl ?_
    refine e_aload_n (pc' := 38) dX6_canUniteCounterparts_37 rfl rfl rfl ?_
    refine e_iload_n (pc' := 39) dX6_canUniteCounterparts_38 rfl rfl rfl ?_
    refine e_iload_n (pc' := 40) dX6_canUniteCounterparts_39 rfl rfl rfl ?_
    refine e_bipush (pc' := 42) (v := nI 9) dX6_canUniteCounterparts_40 rfl (by decide) ?_
    refine e_iaddN (pc' := 43) dX6_canUniteCounterparts_42 rfl ?_
    refine r_VI (pc' := 46) (m' := mX6_unite) (As := [.int (nI (cf c i)), .int (nI ((cg c i) + 9))]) (st := []) (c_unite (d := d) hA hL (a := cf c i) (b := (cg c i) + 9) (by omega) (by omega)) dX6_canUniteCounterparts_43 rfl rfl (Nat.le_of_ble_eq_true rfl) (fit_of (by omega) (by decide) (by decide) (by decide)) ml_X6_46 okX6_unite rfl rfl (by decide) rfl (fun MU1 ⟨hU1, hV1⟩ => ?_)
    show EV _ _ _ _ _ 46 _ ([.int (bI (!decide (((labs2 c i)) (cf c i) = ((labs2 c i)) ((cg c i) + 9))))]) _
    refine e_pop (pc' := 47) dX6_canUniteCounterparts_46 rfl rfl ?_
    refine e_aload_n (pc' := 48) dX6_canUniteCounterparts_47 rfl rfl rfl ?_
    refine e_iload_n (pc' := 49) dX6_canUniteCounterparts_48 rfl rfl rfl ?_
    refine e_iload_n (pc' := 50) dX6_canUniteCounterparts_49 rfl rfl rfl ?_
    refine e_bipush (pc' := 52) (v := nI 9) dX6_canUniteCounterparts_50 rfl (by decide) ?_
    refine e_iaddN (pc' := 53) dX6_canUniteCounterparts_52 rfl ?_
    refine r_VI (pc' := 56) (m' := mX6_unite) (As := [.int (nI (cg c i)), .int (nI ((cf c i) + 9))]) (st := []) (c_unite (d := d) hU1 (uni_lt hL (a := cf c i) (b := (cg c i) + 9) (by omega)) (a := cg c i) (b := (cf c i) + 9) (by omega) (by omega)) dX6_canUniteCounterparts_53 rfl rfl (Nat.le_of_ble_eq_true rfl) (fit_of (by omega) (by decide) (by decide) (by decide)) ml_X6_46 okX6_unite rfl rfl (by decide) rfl (fun MU2 ⟨hU2, hV2⟩ => ?_)
    show EV _ _ _ _ _ 56 _ ([.int (bI (!decide (((uni ((labs2 c i)) (cf c i) ((cg c i) + 9))) (cg c i) = ((uni ((labs2 c i)) (cf c i) ((cg c i) + 9))) ((cf c i) + 9))))]) _
    refine e_pop (pc' := 57) dX6_canUniteCounterparts_56 rfl rfl ?_
    refine e_iincN (pc' := 60) (k := 1) (L' := [some (.ref (ad 7)), some (.int (nI (i + 1))), some (.int (nI (cf c i))), some (.int (nI (cg c i)))]) dX6_canUniteCounterparts_57 rfl rfl rfl (by decide) rfl ?_
    refine e_goto (tgt := 6) dX6_canUniteCounterparts_60 (by decide) ?_
    refine e_fg (i := 2) (L' := [some (.ref (ad 7)), some (.int (nI (i + 1))), none, some (.int (nI (cg c i)))]) rfl ?_
    refine e_fg (i := 3) (L' := [some (.ref (ad 7)), some (.int (nI (i + 1))), none, none]) rfl ?_
    exact ih (by omega) _ ((h.kp hV1 (fun i hi => inR_f (by omega))).kp hV2 (fun i hi => inR_f (by omega))) hU2 ((h2.trans hV1).trans hV2))
theorem c_canUnite (h : ColAt M 1 c) (hw : WF c) : RETI G ad (d + 2) mX6_canUniteCounterparts [.ref (ad 7)] (M, o) (some (.int (bI (sep2 c)))) (fun M' => KP (inR 7 11) M M') := by
  refine CM_of rfl (by decide) rfl (Nat.le_of_ble_eq_true rfl) rfl ?_
  have hn := hw.n
  have hk := hw.k
  have hw9 := hw.w9
  refine e_aload_n (pc' := 1) dX6_canUniteCounterparts_0 rfl rfl rfl ?_
  refine r_VI (pc' := 4) (m' := mX6_separateLabels) (As := []) (st := []) (c_sep (d := d)) dX6_canUniteCounterparts_1 rfl rfl (Nat.le_of_ble_eq_true rfl) (fit_of (by omega) (by decide) (by decide) (by decide)) ml_X6_28 okX6_separateLabels rfl rfl (by decide) rfl (fun M1 ⟨hA1, hK1⟩ => ?_)
  show EV _ _ _ _ _ 4 _ ([]) _
  refine e_iconst (pc' := 5) (v := nI 0) dX6_canUniteCounterparts_4 rfl (by decide) ?_
  refine e_istore_n (pc' := 6) (L' := [some (.ref (ad 7)), some (.int (nI 0)), none, none]) dX6_canUniteCounterparts_5 rfl rfl (by decide) rfl ?_
  exact l_cu1 hw 0 (by omega) _ (h.kp hK1 (fun i hi => inR_f (by omega))) hA1 hK1
theorem won_le {D : Nat → Option Nat} {B m nx len : Nat} (h : ∀ x i, D x = some i → i ≤ B) (hl : len + 1 ≤ B) : ∀ x i, won D m nx len x = some i → i ≤ B := fun x i e => by
  unfold won at e
  split at e
  · unfold ups at e
    split at e
    · cases e; exact hl
    · exact h x i e
  · exact h x i e
theorem wst_le {D : Nat → Option Nat} {B j len : Nat} (h : ∀ x i, D x = some i → i ≤ B) (hl : len + 1 ≤ B) : ∀ x i, wst c len j D x = some i → i ≤ B := fun x i e => by
  unfold wst at e
  split at e
  · exact h x i e
  · exact won_le (won_le h hl) hl x i e
theorem wit_le {D : Nat → Option Nat} {B len : Nat} (h : ∀ x i, D x = some i → i ≤ B) (hl : len + 1 ≤ B) : ∀ j x i, iter (wst c len) j D x = some i → i ≤ B
  | 0 => h
  | j + 1 => wst_le (wit_le h hl j) hl
theorem wal_le {a : Nat} : ∀ k x i, wal c a k x = some i → i ≤ k
  | 0 => fun x i e => by
    show i ≤ 0
    have e2 : ups (fun _ => none) a (some 0) x = some i := e
    unfold ups at e2
    split at e2 <;> cases e2
    exact Nat.le_refl 0
  | k + 1 => fun x i e => wit_le (fun x i e => Nat.le_succ_of_le (wal_le k x i e)) (Nat.le_refl _) (ck c) x i e
theorem c_walkOn {D : Nat → Option Nat} (hD : OAr M 9 9 D) (hB : ∀ x i, D x = some i → i ≤ 100) {m nx len : Nat} (hm : m < 9) (hx : nx < 9) (hl : len < 100) : RETI G ad d mX6_walkOn [.ref (ad 7), .int (nI m), .int (nI nx), .int (nI len)] (M, o) none (fun M' => OAr M' 9 9 (won D m nx len) ∧ KP (inR 7 11) M M') := by
  refine CM_of rfl (by decide) rfl (Nat.le_of_ble_eq_true rfl) rfl ?_
  refine e_aload_n (pc' := 1) dX6_walkOn_0 rfl rfl rfl ?_
  refine p_gfr (pc' := 4) (a := 7) (k := 2) (t := 9) dX6_walkOn_1 rfl rfl (by decide) (by decide) rfl fl_X6_15 ?_
  refine e_iload_n (pc' := 5) dX6_walkOn_4 rfl rfl rfl ?_
  have hi1 : m < 9 := by omega
  refine p_iald (pc' := 6) (a := 9) (k := m) (x := oI (D m)) dX6_walkOn_5 rfl (rfl) (rfl) (by omega) (by decide) (hD _ hi1) ?_
  refine e_iload_n (pc' := 7) dX6_walkOn_6 rfl rfl rfl ?_
  refine e_icmp_ne (pc' := 10) (tgt := 29) dX6_walkOn_7 rfl (by decide) (fun h1 => ?_) (fun h1 => ?_)
  · exact e_vret dX6_walkOn_29 rfl (MP.retI rfl ⟨by unfold won; rw [if_neg (fun q => by first | exact h1 ((oI_eq (fun i e => Nat.lt_of_le_of_lt (hB _ _ e) (by decide)) (by omega)).mpr q.1) | exact h2 ((oI_ne (fun i e => Nat.lt_of_le_of_lt (hB _ _ e) (by decide))).mpr q.2))]; exact hD, KP.refl⟩) (by decide) (by decide)
  · refine e_aload_n (pc' := 11) dX6_walkOn_10 rfl rfl rfl ?_
    refine p_gfr (pc' := 14) (a := 7) (k := 2) (t := 9) dX6_walkOn_11 rfl rfl (by decide) (by decide) rfl fl_X6_15 ?_
    refine e_iload_n (pc' := 15) dX6_walkOn_14 rfl rfl rfl ?_
    have hi2 : nx < 9 := by omega
    refine p_iald (pc' := 16) (a := 9) (k := nx) (x := oI (D nx)) dX6_walkOn_15 rfl (rfl) (rfl) (by omega) (by decide) (hD _ hi2) ?_
    refine e_iconst (pc' := 17) (v := (-1)) dX6_walkOn_16 rfl (by decide) ?_
    refine e_icmp_ne (pc' := 20) (tgt := 29) dX6_walkOn_17 rfl (by decide) (fun h2 => ?_) (fun h2 => ?_)
    · exact e_vret dX6_walkOn_29 rfl (MP.retI rfl ⟨by unfold won; rw [if_neg (fun q => by first | exact h1 ((oI_eq (fun i e => Nat.lt_of_le_of_lt (hB _ _ e) (by decide)) (by omega)).mpr q.1) | exact h2 ((oI_ne (fun i e => Nat.lt_of_le_of_lt (hB _ _ e) (by decide))).mpr q.2))]; exact hD, KP.refl⟩) (by decide) (by decide)
    · refine e_aload_n (pc' := 21) dX6_walkOn_20 rfl rfl rfl ?_
      refine p_gfr (pc' := 24) (a := 7) (k := 2) (t := 9) dX6_walkOn_21 rfl rfl (by decide) (by decide) rfl fl_X6_15 ?_
      refine e_iload_n (pc' := 25) dX6_walkOn_24 rfl rfl rfl ?_
      refine e_iload_n (pc' := 26) dX6_walkOn_25 rfl rfl rfl ?_
      refine e_iconst (pc' := 27) (v := nI 1) dX6_walkOn_26 rfl (by decide) ?_
      refine e_iaddN (pc' := 28) dX6_walkOn_27 rfl ?_
      refine p_iast (pc' := 29) (a := 9) (k := nx) dX6_walkOn_28 rfl (rfl) (rfl) (by omega) (by decide) ?_
      exact e_vret dX6_walkOn_29 rfl (MP.retI rfl ⟨by unfold won; rw [if_pos ⟨(oI_eq (fun i e => Nat.lt_of_le_of_lt (hB _ _ e) (by decide)) (by omega)).mp h1, (oI_ne (fun i e => Nat.lt_of_le_of_lt (hB _ _ e) (by decide))).mp h2⟩]; exact (hD.set (i := nx) (x := (some (len + 1)))), (KP.refl.up (by decide))⟩) (by decide) (by decide)
theorem l_sw2 {M0 : Nat → Nat → Int32} (hw : WF c) {a b k : Nat} (hkn : k < cn c) (kont : ∀ M, ColAt M 1 c → OAr M 9 9 (wal c a (k + 1)) → KP (inR 7 11) M0 M → ER G ad (d + 2) mX6_shortestWalk (0, 0) (PI (some (.int (oI (wal c a (cn c) b)))) o (fun M' => KP (inR 7 11) M0 M')) (0, 0) 17 [some (.ref (ad 7)), some (.int (nI a)), some (.int (nI b)), some (.int (nI (k + 1))), none] [] (M, o)) : ∀ i, i ≤ ck c → ∀ (M : Nat → Nat → Int32), ColAt M 1 c → OAr M 9 9 (iter (wst c k) i (wal c a k)) → KP (inR 7 11) M0 M → ER G ad (d + 2) mX6_shortestWalk (0, 0) (PI (some (.int (oI (wal c a (cn c) b)))) o (fun M' => KP (inR 7 11) M0 M')) (0, 0) 31 [some (.ref (ad 7)), some (.int (nI a)), some (.int (nI b)), some (.int (nI k)), some (.int (nI i))] [] (M, o) := down (ck c) _ (fun i hi ih M h hD h2 => by
  have hn := hw.n
  have hk := hw.k
  have hw9 := hw.w9
  have hB := wit_le (c := c) (len := k) (B := 100) (fun x i e => Nat.le_trans (wal_le (c := c) (a := a) k x i e) (by omega)) (by omega) i
  refine e_iload (pc' := 33) dX6_shortestWalk_31 rfl rfl ?_
  refine e_aload_n (pc' := 34) dX6_shortestWalk_33 rfl rfl rfl ?_
  refine p_gfr (pc' := 37) (a := 7) (k := 0) (t := 1) dX6_shortestWalk_34 rfl rfl (by decide) (by decide) rfl fl_X6_24 ?_
  refine p_gfi (pc' := 40) (a := 1) (k := 5) (x := nI (ck c)) dX6_shortestWalk_37 rfl (rfl) (by decide) (by decide) rfl fl_X6_37 (h.k) ?_
  refine e_icmp_geN (pc' := 43) (tgt := 111) dX6_shortestWalk_40 rfl (by decide) (by omega) (by omega) (fun hz1 => ?_) (fun hz1 => ?_)
  · refine e_iincN (pc' := 114) (k := 1) (L' := [some (.ref (ad 7)), some (.int (nI a)), some (.int (nI b)), some (.int (nI (k + 1))), some (.int (nI i))]) dX6_shortestWalk_111 rfl rfl rfl (by decide) rfl ?_
    refine e_goto (tgt := 17) dX6_shortestWalk_114 (by decide) ?_
    refine e_fg (i := 4) (L' := [some (.ref (ad 7)), some (.int (nI a)), some (.int (nI b)), some (.int (nI (k + 1))), none]) rfl ?_
    obtain rfl : i = ck c := by omega
    exact kont _ h hD h2
  · refine e_aload_n (pc' := 44) dX6_shortestWalk_43 rfl rfl rfl ?_
    refine p_gfr (pc' := 47) (a := 7) (k := 0) (t := 1) dX6_shortestWalk_44 rfl rfl (by decide) (by decide) rfl fl_X6_24 ?_
    refine e_iload (pc' := 49) dX6_shortestWalk_47 rfl rfl ?_
    refine r_V (pc' := 52) (m' := mX1_hasUnlikePoles) (As := [.int (nI i)]) (st := []) (c_hasUnlikePoles (d := d) h hw (j := i) (by omega)) dX6_shortestWalk_49 rfl rfl (Nat.le_of_ble_eq_true rfl) (fit_of (by omega) (by decide) (by decide) (by decide)) ml_X6_56 okX1_hasUnlikePoles rfl rfl (by decide) rfl ?_
    show EV _ _ _ _ _ 52 _ ([.int (bI (!blk c (cw c) i))]) _
    refine e_if_eqB (pc' := 55) (tgt := 105) dX6_shortestWalk_52 rfl (by decide) (fun hb => ?_) (fun hb => ?_)
    · refine e_iincN (pc' := 108) (k := 1) (L' := [some (.ref (ad 7)), some (.int (nI a)), some (.int (nI b)), some (.int (nI k)), some (.int (nI (i + 1)))]) dX6_shortestWalk_105 rfl rfl rfl (by decide) rfl ?_
      refine e_goto (tgt := 31) dX6_shortestWalk_108 (by decide) ?_
      exact ih (by omega) _ h (by show OAr M 9 9 (wst c k i _); unfold wst; rw [if_pos (by simpa using hb)]; exact hD) h2
    · refine e_aload_n (pc' := 56) dX6_shortestWalk_55 rfl rfl rfl ?_
      refine e_aload_n (pc' := 57) dX6_shortestWalk_56 rfl rfl rfl ?_
      refine p_gfr (pc' := 60) (a := 7) (k := 0) (t := 1) dX6_shortestWalk_57 rfl rfl (by decide) (by decide) rfl fl_X6_24 ?_
      refine p_gfr (pc' := 63) (a := 1) (k := 6) (t := 5) dX6_shortestWalk_60 rfl rfl (by decide) (by decide) rfl fl_X6_40 ?_
      refine e_iload (pc' := 65) dX6_shortestWalk_63 rfl rfl ?_
      have hi1 : i < ck c := by omega
      have hb1 := hw.f hi1
      refine p_iald (pc' := 66) (a := 5) (k := i) (x := nI (cf c i)) dX6_shortestWalk_65 rfl (rfl) (rfl) (by omega) (by decide) (h.f hi1) ?_
      refine e_aload_n (pc' := 67) dX6_shortestWalk_66 rfl rfl rfl ?_
      refine p_gfr (pc' := 70) (a := 7) (k := 0) (t := 1) dX6_shortestWalk_67 rfl rfl (by decide) (by decide) rfl fl_X6_24 ?_
      refine p_gfr (pc' := 73) (a := 1) (k := 7) (t := 6) dX6_shortestWalk_70 rfl rfl (by decide) (by decide) rfl fl_X6_43 ?_
      refine e_iload (pc' := 75) dX6_shortestWalk_73 rfl rfl ?_
      have hi2 : i < ck c := by omega
      have hb2 := hw.g hi2
      refine p_iald (pc' := 76) (a := 6) (k := i) (x := nI (cg c i)) dX6_shortestWalk_75 rfl (rfl) (rfl) (by omega) (by decide) (h.g hi2) ?_
      refine e_iload_n (pc' := 77) dX6_shortestWalk_76 rfl rfl rfl ?_
      refine r_VI (pc' := 80) (m' := mX6_walkOn) (As := [.int (nI (cf c i)), .int (nI (cg c i)), .int (nI k)]) (st := []) (c_walkOn (d := d) hD hB (m := cf c i) (nx := cg c i) (len := k) (by omega) (by omega) (by omega)) dX6_shortestWalk_77 rfl rfl (Nat.le_of_ble_eq_true rfl) (fit_of (by omega) (by decide) (by decide) (by decide)) ml_X6_60 okX6_walkOn rfl rfl (by decide) rfl (fun MU1 ⟨hU1, hV1⟩ => ?_)
      show EV _ _ _ _ _ 80 _ ([]) _
      refine e_aload_n (pc' := 81) dX6_shortestWalk_80 rfl rfl rfl ?_
      refine e_aload_n (pc' := 82) dX6_shortestWalk_81 rfl rfl rfl ?_
      refine p_gfr (pc' := 85) (a := 7) (k := 0) (t := 1) dX6_shortestWalk_82 rfl rfl (by decide) (by decide) rfl fl_X6_24 ?_
      refine p_gfr (pc' := 88) (a := 1) (k := 7) (t := 6) dX6_shortestWalk_85 rfl rfl (by decide) (by decide) rfl fl_X6_43 ?_
      refine e_iload (pc' := 90) dX6_shortestWalk_88 rfl rfl ?_
      have hi3 : i < ck c := by omega
      have hb3 := hw.g hi3
      refine p_iald (pc' := 91) (a := 6) (k := i) (x := nI (cg c i)) dX6_shortestWalk_90 rfl (rfl) (rfl) (by omega) (by decide) ((h.kp hV1 (fun i hi => inR_f (by omega))).g hi3) ?_
      refine e_aload_n (pc' := 92) dX6_shortestWalk_91 rfl rfl rfl ?_
      refine p_gfr (pc' := 95) (a := 7) (k := 0) (t := 1) dX6_shortestWalk_92 rfl rfl (by decide) (by decide) rfl fl_X6_24 ?_
      refine p_gfr (pc' := 98) (a := 1) (k := 6) (t := 5) dX6_shortestWalk_95 rfl rfl (by decide) (by decide) rfl fl_X6_40 ?_
      refine e_iload (pc' := 100) dX6_shortestWalk_98 rfl rfl ?_
      have hi4 : i < ck c := by omega
      have hb4 := hw.f hi4
      refine p_iald (pc' := 101) (a := 5) (k := i) (x := nI (cf c i)) dX6_shortestWalk_100 rfl (rfl) (rfl) (by omega) (by decide) ((h.kp hV1 (fun i hi => inR_f (by omega))).f hi4) ?_
      refine e_iload_n (pc' := 102) dX6_shortestWalk_101 rfl rfl rfl ?_
      refine r_VI (pc' := 105) (m' := mX6_walkOn) (As := [.int (nI (cg c i)), .int (nI (cf c i)), .int (nI k)]) (st := []) (c_walkOn (d := d) hU1 (won_le hB (m := cf c i) (nx := cg c i) (len := k) (by omega)) (m := cg c i) (nx := cf c i) (len := k) (by omega) (by omega) (by omega)) dX6_shortestWalk_102 rfl rfl (Nat.le_of_ble_eq_true rfl) (fit_of (by omega) (by decide) (by decide) (by decide)) ml_X6_60 okX6_walkOn rfl rfl (by decide) rfl (fun MU2 ⟨hU2, hV2⟩ => ?_)
      show EV _ _ _ _ _ 105 _ ([]) _
      refine e_iincN (pc' := 108) (k := 1) (L' := [some (.ref (ad 7)), some (.int (nI a)), some (.int (nI b)), some (.int (nI k)), some (.int (nI (i + 1)))]) dX6_shortestWalk_105 rfl rfl rfl (by decide) rfl ?_
      refine e_goto (tgt := 31) dX6_shortestWalk_108 (by decide) ?_
      exact ih (by omega) _ ((h.kp hV1 (fun i hi => inR_f (by omega))).kp hV2 (fun i hi => inR_f (by omega))) (by show OAr _ 9 9 (wst c k i _); unfold wst; rw [if_neg (by simpa using hb)]; exact hU2) ((h2.trans hV1).trans hV2))
theorem l_sw1 {M0 : Nat → Nat → Int32} (hw : WF c) {a b : Nat} (hb : b < cn c) : ∀ i, i ≤ cn c → ∀ (M : Nat → Nat → Int32), ColAt M 1 c → OAr M 9 9 (wal c a i) → KP (inR 7 11) M0 M → ER G ad (d + 2) mX6_shortestWalk (0, 0) (PI (some (.int (oI (wal c a (cn c) b)))) o (fun M' => KP (inR 7 11) M0 M')) (0, 0) 17 [some (.ref (ad 7)), some (.int (nI a)), some (.int (nI b)), some (.int (nI i)), none] [] (M, o) := down (cn c) _ (fun i hi ih M h hD h2 => by
  have hn := hw.n
  have hk := hw.k
  have hw9 := hw.w9
  refine e_iload_n (pc' := 18) dX6_shortestWalk_17 rfl rfl rfl ?_
  refine e_aload_n (pc' := 19) dX6_shortestWalk_18 rfl rfl rfl ?_
  refine p_gfr (pc' := 22) (a := 7) (k := 0) (t := 1) dX6_shortestWalk_19 rfl rfl (by decide) (by decide) rfl fl_X6_24 ?_
  refine p_gfi (pc' := 25) (a := 1) (k := 0) (x := nI (cn c)) dX6_shortestWalk_22 rfl (rfl) (by decide) (by decide) rfl fl_X6_31 (h.n) ?_
  refine e_icmp_geN (pc' := 28) (tgt := 117) dX6_shortestWalk_25 rfl (by decide) (by omega) (by omega) (fun hz1 => ?_) (fun hz1 => ?_)
  · refine e_aload_n (pc' := 118) dX6_shortestWalk_117 rfl rfl rfl ?_
    refine p_gfr (pc' := 121) (a := 7) (k := 2) (t := 9) dX6_shortestWalk_118 rfl rfl (by decide) (by decide) rfl fl_X6_15 ?_
    refine e_iload_n (pc' := 122) dX6_shortestWalk_121 rfl rfl rfl ?_
    have hi1 : b < 9 := by omega
    refine p_iald (pc' := 123) (a := 9) (k := b) (x := oI (((wal c a i)) b)) dX6_shortestWalk_122 rfl (rfl) (rfl) (by omega) (by decide) (hD _ hi1) ?_
    exact e_iret dX6_shortestWalk_123 rfl (MP.retI (by rw [show i = cn c by omega]) h2) (by decide) (by decide)
  · refine e_iconst (pc' := 29) (v := nI 0) dX6_shortestWalk_28 rfl (by decide) ?_
    refine e_istore (pc' := 31) (L' := [some (.ref (ad 7)), some (.int (nI a)), some (.int (nI b)), some (.int (nI i)), some (.int (nI 0))]) dX6_shortestWalk_29 rfl (by decide) rfl ?_
    exact l_sw2 hw (by omega) (fun M h hD h2 => ih (by omega) M h hD h2) 0 (by omega) M h hD h2)
theorem c_shortestWalk (h : ColAt M 1 c) (hw : WF c) {a b : Nat} (ha : a < cn c) (hb : b < cn c) : RETI G ad (d + 2) mX6_shortestWalk [.ref (ad 7), .int (nI a), .int (nI b)] (M, o) (some (.int (oI (wal c a (cn c) b)))) (fun M' => KP (inR 7 11) M M') := by
  refine CM_of rfl (by decide) rfl (Nat.le_of_ble_eq_true rfl) rfl ?_
  have hn := hw.n
  have hk := hw.k
  have hw9 := hw.w9
  refine e_aload_n (pc' := 1) dX6_shortestWalk_0 rfl rfl rfl ?_
  refine p_gfr (pc' := 4) (a := 7) (k := 2) (t := 9) dX6_shortestWalk_1 rfl rfl (by decide) (by decide) rfl fl_X6_15 ?_
  refine e_iconst (pc' := 5) (v := (-1)) dX6_shortestWalk_4 rfl (by decide) ?_
  refine r_SI (pc' := 8) (m' := mJ7_fill_53178) (As := [.ref (ad 9), .int ((-1))]) (st := []) (c_fill9 (d := d) ((-1))) dX6_shortestWalk_5 rfl rfl (Nat.le_of_ble_eq_true rfl) (fit_of (by omega) (by decide) (by decide) (by decide)) ml_X6_50 okJ7_fill_53178 rfl rfl (fun MU1 ⟨hF1, hG1⟩ => ?_)
  show EV _ _ _ _ _ 8 _ ([]) _
  have hV1 : KP (inR 7 11) M MU1 := hG1.wide (fun a ha => by unfold inR at *; simp at *; omega)
  refine e_aload_n (pc' := 9) dX6_shortestWalk_8 rfl rfl rfl ?_
  refine p_gfr (pc' := 12) (a := 7) (k := 2) (t := 9) dX6_shortestWalk_9 rfl rfl (by decide) (by decide) rfl fl_X6_15 ?_
  refine e_iload_n (pc' := 13) dX6_shortestWalk_12 rfl rfl rfl ?_
  refine e_iconst (pc' := 14) (v := nI 0) dX6_shortestWalk_13 rfl (by decide) ?_
  refine p_iast (pc' := 15) (a := 9) (k := a) dX6_shortestWalk_14 rfl (rfl) (rfl) (by omega) (by decide) ?_
  refine e_iconst (pc' := 16) (v := nI 0) dX6_shortestWalk_15 rfl (by decide) ?_
  refine e_istore_n (pc' := 17) (L' := [some (.ref (ad 7)), some (.int (nI a)), some (.int (nI b)), some (.int (nI 0)), none]) dX6_shortestWalk_16 rfl rfl (by decide) rfl ?_
  exact l_sw1 hw hb 0 (by omega) _ ((h.kp hV1 (fun i hi => inR_f (by omega))).up (by decide)) ((show OAr MU1 9 9 (fun _ => none) from hF1).set (i := a) (x := (some 0))) (hV1.up (by decide))
end T13

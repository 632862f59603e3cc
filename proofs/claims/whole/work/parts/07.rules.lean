/-! RULES OVER NATURAL NUMBERS AND TRUTHS -/
def bI (b : Bool) : Int32 := if b then 1 else 0
theorem bI_t : bI true = 1 := rfl
theorem bI_f : bI false = 0 := rfl
theorem nI_div {a b : Nat} (ha : a < 2 ^ 31) (h0 : 0 < b) (hb : b < 2 ^ 31) : nI a / nI b = nI (a / b) := pk_div ha h0 hb
theorem nI_rem {a b : Nat} (ha : a < 2 ^ 31) (h0 : 0 < b) (hb : b < 2 ^ 31) : nI a - nI a / nI b * nI b = nI (a % b) := pk_rem ha h0 hb
section EVN
variable {G : gC} {R : Room} {m : MD} {Qf : QF} {u : Nat × Nat} {pc pc' : Nat} {L : List (Option Value)} {st : List Value} {w : va_W}
theorem e_iincN {i a k : Nat} {n : Int} {L' : List (Option Value)} (hd : decode m.2.1 pc = .ok (.iinc i n, 3)) (hp : pc + 3 = pc') (hL0 : L[i]? = some (some (.int (nI a)))) (hk : n = (k : Int)) (hn : i < m.2.2.1) (hL : stp L i (.int (nI (a + k))) = L') (kk : EV G R m Qf u pc' L' st w) : EV G R m Qf u pc L st w := by
  subst hk
  exact e_iinc hd hp hL0 (nI_add a k) hn hL kk
theorem e_iaddN {a b : Nat} (hd : decode m.2.1 pc = .ok (.iadd, 1)) (hp : pc + 1 = pc') (k : EV G R m Qf u pc' L (.int (nI (a + b)) :: st) w) : EV G R m Qf u pc L (.int (nI b) :: .int (nI a) :: st) w := e_iadd hd hp (by rw [nI_add]; exact k)
theorem e_imulN {a b : Nat} (hd : decode m.2.1 pc = .ok (.imul, 1)) (hp : pc + 1 = pc') (k : EV G R m Qf u pc' L (.int (nI (a * b)) :: st) w) : EV G R m Qf u pc L (.int (nI b) :: .int (nI a) :: st) w := e_imul hd hp (by rw [pk_mul]; exact k)
theorem e_isubN {a b : Nat} (hd : decode m.2.1 pc = .ok (.isub, 1)) (hp : pc + 1 = pc') (h : b ≤ a) (k : EV G R m Qf u pc' L (.int (nI (a - b)) :: st) w) : EV G R m Qf u pc L (.int (nI b) :: .int (nI a) :: st) w := e_isub hd hp (by rw [pk_sub h]; exact k)
theorem nI_ne0' {b : Nat} (h0 : 0 < b) (hb : b < 2 ^ 31) : ¬ nI b = 0 := nI_ne0 h0 hb
theorem e_idivN {a b : Nat} (hd : decode m.2.1 pc = .ok (.idiv, 1)) (hp : pc + 1 = pc') (ha : a < 2 ^ 31) (h0 : 0 < b) (hb : b < 2 ^ 31) (k : EV G R m Qf u pc' L (.int (nI (a / b)) :: st) w) : EV G R m Qf u pc L (.int (nI b) :: .int (nI a) :: st) w := e_idiv hd hp (nI_ne0 h0 hb) (by rw [pk_div ha h0 hb]; exact k)
theorem e_iremN {a b : Nat} (hd : decode m.2.1 pc = .ok (.irem, 1)) (hp : pc + 1 = pc') (ha : a < 2 ^ 31) (h0 : 0 < b) (hb : b < 2 ^ 31) (k : EV G R m Qf u pc' L (.int (nI (a % b)) :: st) w) : EV G R m Qf u pc L (.int (nI b) :: .int (nI a) :: st) w := e_irem hd hp (nI_ne0 h0 hb) (by rw [pk_rem ha h0 hb]; exact k)
theorem nI0 : nI 0 = (0 : Int32) := rfl
theorem nI_eq0 {a : Nat} (ha : a < 2 ^ 31) : nI a = 0 ↔ a = 0 := by rw [← nI0]; exact nI_eq ha (by decide)

theorem e_if_eqN {a : Nat} {off : Int} {tgt : Nat} (hd : decode m.2.1 pc = .ok (.ifCond .eq off, 3)) (hp : pc + 3 = pc') (ht : (pc : Int) + off = (tgt : Int)) (ha : a < 2 ^ 31) (kt : a = 0 → EV G R m Qf u tgt L st w) (kf : ¬ a = 0 → EV G R m Qf u pc' L st w) : EV G R m Qf u pc L (.int (nI a) :: st) w := e_if_eq hd hp ht (fun h => kt ((nI_eq0 ha).mp h)) (fun h => kf (fun q => h ((nI_eq0 ha).mpr q)))
theorem e_if_neN {a : Nat} {off : Int} {tgt : Nat} (hd : decode m.2.1 pc = .ok (.ifCond .ne off, 3)) (hp : pc + 3 = pc') (ht : (pc : Int) + off = (tgt : Int)) (ha : a < 2 ^ 31) (kt : ¬ a = 0 → EV G R m Qf u tgt L st w) (kf : a = 0 → EV G R m Qf u pc' L st w) : EV G R m Qf u pc L (.int (nI a) :: st) w := e_if_ne hd hp ht (fun h => kt (fun q => h ((nI_eq0 ha).mpr q))) (fun h => kf ((nI_eq0 ha).mp h))
theorem e_if_ltN {a : Nat} {off : Int} {tgt : Nat} (hd : decode m.2.1 pc = .ok (.ifCond .lt off, 3)) (hp : pc + 3 = pc') (ht : (pc : Int) + off = (tgt : Int)) (ha : a < 2 ^ 31) (kt : a < 0 → EV G R m Qf u tgt L st w) (kf : True → EV G R m Qf u pc' L st w) : EV G R m Qf u pc L (.int (nI a) :: st) w := e_if_lt hd hp ht (fun h => kt (absurd h (nI_pos ha))) (fun h => kf (trivial))
theorem e_if_geN {a : Nat} {off : Int} {tgt : Nat} (hd : decode m.2.1 pc = .ok (.ifCond .ge off, 3)) (hp : pc + 3 = pc') (ht : (pc : Int) + off = (tgt : Int)) (ha : a < 2 ^ 31) (kt : True → EV G R m Qf u tgt L st w) (kf : a < 0 → EV G R m Qf u pc' L st w) : EV G R m Qf u pc L (.int (nI a) :: st) w := e_if_ge hd hp ht (fun h => kt (trivial)) (fun h => kf (absurd (nI_pos' ha) h))
theorem e_if_gtN {a : Nat} {off : Int} {tgt : Nat} (hd : decode m.2.1 pc = .ok (.ifCond .gt off, 3)) (hp : pc + 3 = pc') (ht : (pc : Int) + off = (tgt : Int)) (ha : a < 2 ^ 31) (kt : 0 < a → EV G R m Qf u tgt L st w) (kf : a = 0 → EV G R m Qf u pc' L st w) : EV G R m Qf u pc L (.int (nI a) :: st) w := e_if_gt hd hp ht (fun h => kt (Nat.pos_of_ne_zero (fun q => by subst q; exact absurd h (by decide)))) (fun h => kf (Decidable.byContradiction (fun q => h (by rw [← nI0]; exact (nI_ltI (by decide) ha).mpr (Nat.pos_of_ne_zero q)))))
theorem e_if_leN {a : Nat} {off : Int} {tgt : Nat} (hd : decode m.2.1 pc = .ok (.ifCond .le off, 3)) (hp : pc + 3 = pc') (ht : (pc : Int) + off = (tgt : Int)) (ha : a < 2 ^ 31) (kt : a = 0 → EV G R m Qf u tgt L st w) (kf : 0 < a → EV G R m Qf u pc' L st w) : EV G R m Qf u pc L (.int (nI a) :: st) w := e_if_le hd hp ht (fun h => kt (Decidable.byContradiction (fun q => absurd h (nI_nle (Nat.pos_of_ne_zero q) ha)))) (fun h => kf (Nat.pos_of_ne_zero (fun q => h (by subst q; decide))))
theorem e_icmp_eqN {a b : Nat} {off : Int} {tgt : Nat} (hd : decode m.2.1 pc = .ok (.if_icmp .eq off, 3)) (hp : pc + 3 = pc') (ht : (pc : Int) + off = (tgt : Int)) (ha : a < 2 ^ 31) (hb : b < 2 ^ 31) (kt : a = b → EV G R m Qf u tgt L st w) (kf : ¬ a = b → EV G R m Qf u pc' L st w) : EV G R m Qf u pc L (.int (nI b) :: .int (nI a) :: st) w := e_icmp_eq hd hp ht (fun h => kt ((nI_eq ha hb).mp h)) (fun h => kf (fun q => h ((nI_eq ha hb).mpr q)))
theorem e_icmp_neN {a b : Nat} {off : Int} {tgt : Nat} (hd : decode m.2.1 pc = .ok (.if_icmp .ne off, 3)) (hp : pc + 3 = pc') (ht : (pc : Int) + off = (tgt : Int)) (ha : a < 2 ^ 31) (hb : b < 2 ^ 31) (kt : ¬ a = b → EV G R m Qf u tgt L st w) (kf : a = b → EV G R m Qf u pc' L st w) : EV G R m Qf u pc L (.int (nI b) :: .int (nI a) :: st) w := e_icmp_ne hd hp ht (fun h => kt (fun q => h ((nI_eq ha hb).mpr q))) (fun h => kf ((nI_eq ha hb).mp h))
theorem e_icmp_ltN {a b : Nat} {off : Int} {tgt : Nat} (hd : decode m.2.1 pc = .ok (.if_icmp .lt off, 3)) (hp : pc + 3 = pc') (ht : (pc : Int) + off = (tgt : Int)) (ha : a < 2 ^ 31) (hb : b < 2 ^ 31) (kt : a < b → EV G R m Qf u tgt L st w) (kf : b ≤ a → EV G R m Qf u pc' L st w) : EV G R m Qf u pc L (.int (nI b) :: .int (nI a) :: st) w := e_icmp_lt hd hp ht (fun h => kt ((nI_ltI ha hb).mp h)) (fun h => kf (Nat.le_of_not_lt (fun q => h ((nI_ltI ha hb).mpr q))))
theorem e_icmp_geN {a b : Nat} {off : Int} {tgt : Nat} (hd : decode m.2.1 pc = .ok (.if_icmp .ge off, 3)) (hp : pc + 3 = pc') (ht : (pc : Int) + off = (tgt : Int)) (ha : a < 2 ^ 31) (hb : b < 2 ^ 31) (kt : b ≤ a → EV G R m Qf u tgt L st w) (kf : a < b → EV G R m Qf u pc' L st w) : EV G R m Qf u pc L (.int (nI b) :: .int (nI a) :: st) w := e_icmp_ge hd hp ht (fun h => kt ((nI_leI hb ha).mp h)) (fun h => kf (Nat.lt_of_not_le (fun q => h ((nI_leI hb ha).mpr q))))
theorem e_icmp_gtN {a b : Nat} {off : Int} {tgt : Nat} (hd : decode m.2.1 pc = .ok (.if_icmp .gt off, 3)) (hp : pc + 3 = pc') (ht : (pc : Int) + off = (tgt : Int)) (ha : a < 2 ^ 31) (hb : b < 2 ^ 31) (kt : b < a → EV G R m Qf u tgt L st w) (kf : a ≤ b → EV G R m Qf u pc' L st w) : EV G R m Qf u pc L (.int (nI b) :: .int (nI a) :: st) w := e_icmp_gt hd hp ht (fun h => kt ((nI_ltI hb ha).mp h)) (fun h => kf (Nat.le_of_not_lt (fun q => h ((nI_ltI hb ha).mpr q))))
theorem e_icmp_leN {a b : Nat} {off : Int} {tgt : Nat} (hd : decode m.2.1 pc = .ok (.if_icmp .le off, 3)) (hp : pc + 3 = pc') (ht : (pc : Int) + off = (tgt : Int)) (ha : a < 2 ^ 31) (hb : b < 2 ^ 31) (kt : a ≤ b → EV G R m Qf u tgt L st w) (kf : b < a → EV G R m Qf u pc' L st w) : EV G R m Qf u pc L (.int (nI b) :: .int (nI a) :: st) w := e_icmp_le hd hp ht (fun h => kt ((nI_leI ha hb).mp h)) (fun h => kf (Nat.lt_of_not_le (fun q => h ((nI_leI ha hb).mpr q))))
theorem bI_0 {b : Bool} : bI b = 0 ↔ b = false := by cases b <;> decide
theorem bI_n0 {b : Bool} : ¬ bI b = 0 ↔ b = true := by cases b <;> decide
theorem e_if_eqB {b : Bool} {off : Int} {tgt : Nat} (hd : decode m.2.1 pc = .ok (.ifCond .eq off, 3)) (hp : pc + 3 = pc') (ht : (pc : Int) + off = (tgt : Int)) (kt : b = false → EV G R m Qf u tgt L st w) (kf : b = true → EV G R m Qf u pc' L st w) : EV G R m Qf u pc L (.int (bI b) :: st) w := e_if_eq hd hp ht (fun h => kt (bI_0.mp h)) (fun h => kf (bI_n0.mp h))
theorem e_if_neB {b : Bool} {off : Int} {tgt : Nat} (hd : decode m.2.1 pc = .ok (.ifCond .ne off, 3)) (hp : pc + 3 = pc') (ht : (pc : Int) + off = (tgt : Int)) (kt : b = true → EV G R m Qf u tgt L st w) (kf : b = false → EV G R m Qf u pc' L st w) : EV G R m Qf u pc L (.int (bI b) :: st) w := e_if_ne hd hp ht (fun h => kt (bI_n0.mp h)) (fun h => kf (bI_0.mp h))
end EVN
theorem st_X8_314 : (RX8, 314, "there is no such index", 16) ∈ strL := List.mem_of_getElem? (i := 0) rfl
theorem st_X8_316 : (RX8, 316, "an argument is out of range", 17) ∈ strL := List.mem_of_getElem? (i := 1) rfl
theorem st_X8_321 : (RX8, 321, "the call is denied", 18) ∈ strL := List.mem_of_getElem? (i := 2) rfl
theorem st_X8_333 : (RX8, 333, "there is no such magnet", 19) ∈ strL := List.mem_of_getElem? (i := 3) rfl
theorem st_X8_326 : (RX8, 326, "the position is out of range", 20) ∈ strL := List.mem_of_getElem? (i := 4) rfl
theorem st_X8_328 : (RX8, 328, "there is none", 21) ∈ strL := List.mem_of_getElem? (i := 5) rfl
theorem st_X8_338 : (RX8, 338, "there is no such tunnel", 22) ∈ strL := List.mem_of_getElem? (i := 6) rfl
theorem st_X8_169 : (RX8, 169, "there are no magnets", 23) ∈ strL := List.mem_of_getElem? (i := 7) rfl
theorem st_X8_177 : (RX8, 177, "there are no tunnels", 24) ∈ strL := List.mem_of_getElem? (i := 8) rfl
theorem st_X8_193 : (RX8, 193, "the text buffer is full", 25) ∈ strL := List.mem_of_getElem? (i := 9) rfl
theorem st_X7_44 : (RX7, 44, "magnet N NP", 0) ∈ strL := List.mem_of_getElem? (i := 10) rfl
theorem st_X7_46 : (RX7, 46, "strength D=N", 1) ∈ strL := List.mem_of_getElem? (i := 11) rfl
theorem st_X7_48 : (RX7, 48, "turn D", 2) ∈ strL := List.mem_of_getElem? (i := 12) rfl
theorem st_X7_50 : (RX7, 50, "shift N", 3) ∈ strL := List.mem_of_getElem? (i := 13) rfl
theorem st_X7_52 : (RX7, 52, "move", 4) ∈ strL := List.mem_of_getElem? (i := 14) rfl
theorem st_X7_54 : (RX7, 54, "dig D-D", 5) ∈ strL := List.mem_of_getElem? (i := 15) rfl
theorem st_X7_56 : (RX7, 56, "fill N", 6) ∈ strL := List.mem_of_getElem? (i := 16) rfl
theorem st_X7_58 : (RX7, 58, "settle", 7) ∈ strL := List.mem_of_getElem? (i := 17) rfl
theorem st_X8_214 : (RX8, 214, "the text does not match the grammar", 26) ∈ strL := List.mem_of_getElem? (i := 18) rfl
theorem st_X8_251 : (RX8, 251, "a command failed", 27) ∈ strL := List.mem_of_getElem? (i := 19) rfl
theorem st_X8_270 : (RX8, 270, "the output line has no such index", 28) ∈ strL := List.mem_of_getElem? (i := 20) rfl
theorem st_X8_340 : (RX8, 340, "nothing was denied yet", 29) ∈ strL := List.mem_of_getElem? (i := 21) rfl
theorem st_X8_291 : (RX8, 291, "no denial with a cause", 30) ∈ strL := List.mem_of_getElem? (i := 22) rfl
theorem st_X8_297 : (RX8, 297, "no change can be undone", 31) ∈ strL := List.mem_of_getElem? (i := 23) rfl
theorem st_X8_306 : (RX8, 306, "there is no snapshot", 32) ∈ strL := List.mem_of_getElem? (i := 24) rfl
theorem st_X9_182 : (RX9, 182, "urn", 8) ∈ strL := List.mem_of_getElem? (i := 25) rfl
theorem st_X9_191 : (RX9, 191, "ig", 9) ∈ strL := List.mem_of_getElem? (i := 26) rfl
theorem st_X9_193 : (RX9, 193, "ill", 10) ∈ strL := List.mem_of_getElem? (i := 27) rfl
theorem st_X9_195 : (RX9, 195, "ve", 11) ∈ strL := List.mem_of_getElem? (i := 28) rfl
theorem st_X9_197 : (RX9, 197, "agnet", 12) ∈ strL := List.mem_of_getElem? (i := 29) rfl
theorem st_X9_202 : (RX9, 202, "ttle", 13) ∈ strL := List.mem_of_getElem? (i := 30) rfl
theorem st_X9_204 : (RX9, 204, "ift", 14) ∈ strL := List.mem_of_getElem? (i := 31) rfl
theorem st_X9_206 : (RX9, 206, "trength", 15) ∈ strL := List.mem_of_getElem? (i := 32) rfl
/-! bits (the first four: the kit's starting texts) -/
theorem s_l : ∀ n, n < 32 → ((nI n &&& 31).toBitVec.smod 32).toNat = n := by decide +kernel
theorem fa_and (a b : Nat) : nI a &&& nI b = nI (a &&& b) := by
  apply Int32.toBitVec_inj.1
  show BitVec.ofNat 32 a &&& BitVec.ofNat 32 b = BitVec.ofNat 32 (a &&& b)
  apply BitVec.eq_of_getLsbD_eq
  intro i hi
  simp [hi]
theorem fa_or (a b : Nat) : nI a ||| nI b = nI (a ||| b) := by
  apply Int32.toBitVec_inj.1
  show BitVec.ofNat 32 a ||| BitVec.ofNat 32 b = BitVec.ofNat 32 (a ||| b)
  apply BitVec.eq_of_getLsbD_eq
  intro i hi
  simp [hi]
theorem nx_xor (a b : Nat) : nI a ^^^ nI b = nI (a ^^^ b) := by
  apply Int32.toBitVec_inj.1
  show BitVec.ofNat 32 a ^^^ BitVec.ofNat 32 b = BitVec.ofNat 32 (a ^^^ b)
  apply BitVec.eq_of_getLsbD_eq
  intro i hi
  simp [hi]
theorem nI_shr {a k : Nat} (ha : a < 2 ^ 31) (hk : k < 32) : nI a >>> (nI k &&& 31) = nI (a / 2 ^ k) := pk_shrN ha _ k (s_l k hk)
theorem nI_shl {a k : Nat} (hk : k < 32) (h : a * 2 ^ k < 2 ^ 32) : nI a <<< (nI k &&& 31) = nI (a * 2 ^ k) := pk_shlN _ k (s_l k hk) h
theorem nI_and1 (a : Nat) : nI a &&& nI 1 = nI (a % 2) := by rw [fa_and, Nat.and_one_is_mod]
theorem tb_eq (w i : Nat) : w.testBit i = decide (w / 2 ^ i % 2 = 1) := Nat.testBit_eq_decide_div_mod_eq
section EVB
variable {G : gC} {R : Room} {m : MD} {Qf : QF} {u : Nat × Nat} {pc pc' : Nat} {L : List (Option Value)} {st : List Value} {w : va_W}
theorem e_iandN {a b : Nat} (hd : decode m.2.1 pc = .ok (.iand, 1)) (hp : pc + 1 = pc') (k : EV G R m Qf u pc' L (.int (nI (a &&& b)) :: st) w) : EV G R m Qf u pc L (.int (nI b) :: .int (nI a) :: st) w := e_iand hd hp (by rw [fa_and]; exact k)
theorem e_iorN {a b : Nat} (hd : decode m.2.1 pc = .ok (.ior, 1)) (hp : pc + 1 = pc') (k : EV G R m Qf u pc' L (.int (nI (a ||| b)) :: st) w) : EV G R m Qf u pc L (.int (nI b) :: .int (nI a) :: st) w := e_ior hd hp (by rw [fa_or]; exact k)
theorem e_ixorN {a b : Nat} (hd : decode m.2.1 pc = .ok (.ixor, 1)) (hp : pc + 1 = pc') (k : EV G R m Qf u pc' L (.int (nI (a ^^^ b)) :: st) w) : EV G R m Qf u pc L (.int (nI b) :: .int (nI a) :: st) w := e_ixor hd hp (by rw [nx_xor]; exact k)
theorem e_ishrN {a b : Nat} (hd : decode m.2.1 pc = .ok (.ishr, 1)) (hp : pc + 1 = pc') (ha : a < 2 ^ 31) (hb : b < 32) (k : EV G R m Qf u pc' L (.int (nI (a / 2 ^ b)) :: st) w) : EV G R m Qf u pc L (.int (nI b) :: .int (nI a) :: st) w := e_ishr hd hp (by rw [nI_shr ha hb]; exact k)
theorem e_ishlN {a b : Nat} (hd : decode m.2.1 pc = .ok (.ishl, 1)) (hp : pc + 1 = pc') (hb : b < 32) (h : a * 2 ^ b < 2 ^ 32) (k : EV G R m Qf u pc' L (.int (nI (a * 2 ^ b)) :: st) w) : EV G R m Qf u pc L (.int (nI b) :: .int (nI a) :: st) w := e_ishl hd hp (by rw [nI_shl hb h]; exact k)
theorem e_isubJ {a b : Nat} {x : Int32} (hd : decode m.2.1 pc = .ok (.isub, 1)) (hp : pc + 1 = pc') (h : nI a - nI b = x) (k : EV G R m Qf u pc' L (.int x :: st) w) : EV G R m Qf u pc L (.int (nI b) :: .int (nI a) :: st) w := e_isub hd hp (by rw [h]; exact k)
end EVB
theorem dec1 {P : Prop} [Decidable P] (h : P) : (nI 1 : Int32) = bI (decide P) := by rw [decide_eq_true h]; rfl
theorem dec0 {P : Prop} [Decidable P] (h : ¬ P) : (nI 0 : Int32) = bI (decide P) := by rw [decide_eq_false h]; rfl
theorem bI1 {b : Bool} (h : b = true) : (nI 1 : Int32) = bI b := by rw [h]; rfl
theorem bI0 {b : Bool} (h : b = false) : (nI 0 : Int32) = bI b := by rw [h]; rfl
theorem sI {x y : Int32} (h : x = y) : some (Value.int x) = some (Value.int y) := by rw [h]

set_option maxHeartbeats 400000
/-! THE LAW: its loop -/
theorem down4 (N : Nat) (P : Nat → Prop) (step : ∀ i, i ≤ N → (i + 4 ≤ N → P (i + 4)) → P i) : ∀ i, i ≤ N → P i := by
  have h : ∀ k i, i ≤ N → N - i ≤ k → P i := by
    intro k
    induction k with
    | zero => intro i hi hk; exact step i hi (fun h => absurd h (by omega))
    | succ k ih => intro i hi hk; exact step i hi (fun h => ih (i + 4) h (by omega))
  exact fun i hi => h _ i hi (Nat.le_refl _)
theorem lp_in {i n : Nat} (hi : i ≤ 2052) (hn : n ≤ 2048) (h : ¬ nI n - nI 4 < nI i) : i + 4 ≤ n := by
  by_cases h4 : 4 ≤ n
  · rw [nI_sub' h4] at h
    by_cases q : n - 4 < i
    · exact absurd (nI_lt q (by omega)) h
    · omega
  · exfalso
    apply h
    have e : nI n - nI 4 < 0 := by
      have hq : ∀ n, n < 4 → nI n - nI 4 < 0 := by decide
      exact hq n (by omega)
    exact Int32.lt_of_lt_of_le e (nI_pos' (by omega))
theorem and63 (x : Int32) : ∃ n, n < 64 ∧ x &&& nI 63 = nI n := by
  refine ⟨(x.toUInt32 &&& 63).toNat, ?_, ?_⟩
  · rw [UInt32.toNat_and]
    exact Nat.lt_of_le_of_lt Nat.and_le_right (by decide)
  · show (x.toUInt32 &&& 63).toInt32 = _
    generalize x.toUInt32 &&& 63 = y
    have e : y = UInt32.ofNat y.toNat := (UInt32.ofNat_toNat).symm
    unfold nI
    rw [← UInt32.toInt32_ofNat', ← e]
section T68
variable {G : gC} {ad : Nat → Nat} {Qf : QF}
theorem law_sw {u : Nat × Nat} {i : Nat} {M : Nat → Nat → Int32} {o : (Nat → Int64) × (Nat → UInt64)} (hL : LV M) (hi : i + 4 ≤ gL G) (h48 : gL G ≤ 2048) (hu1 : u.1 + 1 ≤ 603072) (hu2 : u.2 + 6 ≤ 7207018) (kk : ∀ M' o', LV M' → EV G room_1 mL_law Qf (u.1 + 1, u.2 + 6) 2358 (LL G ad i) [] (wM G ad (M', o'))) : ∀ n, n < 64 → EV G room_1 mL_law Qf u 44 (LL G ad i) [.int (nI n)] (wM G ad (M, o))
  | 0, _ => e_tableIn (tgt := 256) (off := 212) dL_law_44 (by decide) (by decide) (by decide) (by decide) (by by_cases hz : gx G (i + 3) = 0 <;> first | exact law_0a hL hi h48 hu1 hu2 kk hz | exact law_0b hL hi h48 hu1 hu2 kk hz)
  | 1, _ => e_tableIn (tgt := 352) (off := 308) dL_law_44 (by decide) (by decide) (by decide) (by decide) (law_1 hL hi h48 hu1 hu2 kk)
  | 2, _ => e_tableIn (tgt := 420) (off := 376) dL_law_44 (by decide) (by decide) (by decide) (by decide) (law_2 hL hi h48 hu1 hu2 kk)
  | 3, _ => e_tableIn (tgt := 476) (off := 432) dL_law_44 (by decide) (by decide) (by decide) (by decide) (law_3 hL hi h48 hu1 hu2 kk)
  | 4, _ => e_tableIn (tgt := 532) (off := 488) dL_law_44 (by decide) (by decide) (by decide) (by decide) (law_4 hL hi h48 hu1 hu2 kk)
  | 5, _ => e_tableIn (tgt := 545) (off := 501) dL_law_44 (by decide) (by decide) (by decide) (by decide) (law_5 hL hi h48 hu1 hu2 kk)
  | 6, _ => e_tableIn (tgt := 558) (off := 514) dL_law_44 (by decide) (by decide) (by decide) (by decide) (law_6 hL hi h48 hu1 hu2 kk)
  | 7, _ => e_tableIn (tgt := 614) (off := 570) dL_law_44 (by decide) (by decide) (by decide) (by decide) (law_7 hL hi h48 hu1 hu2 kk)
  | 8, _ => e_tableIn (tgt := 670) (off := 626) dL_law_44 (by decide) (by decide) (by decide) (by decide) (law_8 hL hi h48 hu1 hu2 kk)
  | 9, _ => e_tableIn (tgt := 726) (off := 682) dL_law_44 (by decide) (by decide) (by decide) (by decide) (law_9 hL hi h48 hu1 hu2 kk)
  | 10, _ => e_tableIn (tgt := 782) (off := 738) dL_law_44 (by decide) (by decide) (by decide) (by decide) (law_10 hL hi h48 hu1 hu2 kk)
  | 11, _ => e_tableIn (tgt := 838) (off := 794) dL_law_44 (by decide) (by decide) (by decide) (by decide) (law_11 hL hi h48 hu1 hu2 kk)
  | 12, _ => e_tableIn (tgt := 906) (off := 862) dL_law_44 (by decide) (by decide) (by decide) (by decide) (law_12 hL hi h48 hu1 hu2 kk)
  | 13, _ => e_tableIn (tgt := 962) (off := 918) dL_law_44 (by decide) (by decide) (by decide) (by decide) (law_13 hL hi h48 hu1 hu2 kk)
  | 14, _ => e_tableIn (tgt := 1006) (off := 962) dL_law_44 (by decide) (by decide) (by decide) (by decide) (law_14 hL hi h48 hu1 hu2 kk)
  | 15, _ => e_tableIn (tgt := 1019) (off := 975) dL_law_44 (by decide) (by decide) (by decide) (by decide) (law_15 hL hi h48 hu1 hu2 kk)
  | 16, _ => e_tableIn (tgt := 1082) (off := 1038) dL_law_44 (by decide) (by decide) (by decide) (by decide) (law_16 hL hi h48 hu1 hu2 kk)
  | 17, _ => e_tableIn (tgt := 1095) (off := 1051) dL_law_44 (by decide) (by decide) (by decide) (by decide) (law_17 hL hi h48 hu1 hu2 kk)
  | 18, _ => e_tableIn (tgt := 1108) (off := 1064) dL_law_44 (by decide) (by decide) (by decide) (by decide) (law_18 hL hi h48 hu1 hu2 kk)
  | 19, _ => e_tableIn (tgt := 1176) (off := 1132) dL_law_44 (by decide) (by decide) (by decide) (by decide) (law_19 hL hi h48 hu1 hu2 kk)
  | 20, _ => e_tableIn (tgt := 1189) (off := 1145) dL_law_44 (by decide) (by decide) (by decide) (by decide) (law_20 hL hi h48 hu1 hu2 kk)
  | 21, _ => e_tableIn (tgt := 1202) (off := 1158) dL_law_44 (by decide) (by decide) (by decide) (by decide) (law_21 hL hi h48 hu1 hu2 kk)
  | 22, _ => e_tableIn (tgt := 1215) (off := 1171) dL_law_44 (by decide) (by decide) (by decide) (by decide) (law_22 hL hi h48 hu1 hu2 kk)
  | 23, _ => e_tableIn (tgt := 1228) (off := 1184) dL_law_44 (by decide) (by decide) (by decide) (by decide) (law_23 hL hi h48 hu1 hu2 kk)
  | 24, _ => e_tableIn (tgt := 1272) (off := 1228) dL_law_44 (by decide) (by decide) (by decide) (by decide) (law_24 hL hi h48 hu1 hu2 kk)
  | 25, _ => e_tableIn (tgt := 1316) (off := 1272) dL_law_44 (by decide) (by decide) (by decide) (by decide) (law_25 hL hi h48 hu1 hu2 kk)
  | 26, _ => e_tableIn (tgt := 1329) (off := 1285) dL_law_44 (by decide) (by decide) (by decide) (by decide) (law_26 hL hi h48 hu1 hu2 kk)
  | 27, _ => e_tableIn (tgt := 1342) (off := 1298) dL_law_44 (by decide) (by decide) (by decide) (by decide) (law_27 hL hi h48 hu1 hu2 kk)
  | 28, _ => e_tableIn (tgt := 1420) (off := 1376) dL_law_44 (by decide) (by decide) (by decide) (by decide) (law_28 hL hi h48 hu1 hu2 kk)
  | 29, _ => e_tableIn (tgt := 1476) (off := 1432) dL_law_44 (by decide) (by decide) (by decide) (by decide) (law_29 hL hi h48 hu1 hu2 kk)
  | 30, _ => e_tableIn (tgt := 1553) (off := 1509) dL_law_44 (by decide) (by decide) (by decide) (by decide) (law_30 hL hi h48 hu1 hu2 kk)
  | 31, _ => e_tableIn (tgt := 1597) (off := 1553) dL_law_44 (by decide) (by decide) (by decide) (by decide) (law_31 hL hi h48 hu1 hu2 kk)
  | 32, _ => e_tableIn (tgt := 1641) (off := 1597) dL_law_44 (by decide) (by decide) (by decide) (by decide) (law_32 hL hi h48 hu1 hu2 kk)
  | 33, _ => e_tableIn (tgt := 1706) (off := 1662) dL_law_44 (by decide) (by decide) (by decide) (by decide) (law_33 hL hi h48 hu1 hu2 kk)
  | 34, _ => e_tableIn (tgt := 1772) (off := 1728) dL_law_44 (by decide) (by decide) (by decide) (by decide) (law_34 hL hi h48 hu1 hu2 kk)
  | 35, _ => e_tableIn (tgt := 1785) (off := 1741) dL_law_44 (by decide) (by decide) (by decide) (by decide) (law_35 hL hi h48 hu1 hu2 kk)
  | 36, _ => e_tableIn (tgt := 1841) (off := 1797) dL_law_44 (by decide) (by decide) (by decide) (by decide) (law_36 hL hi h48 hu1 hu2 kk)
  | 37, _ => e_tableIn (tgt := 1854) (off := 1810) dL_law_44 (by decide) (by decide) (by decide) (by decide) (law_37 hL hi h48 hu1 hu2 kk)
  | 38, _ => e_tableIn (tgt := 1912) (off := 1868) dL_law_44 (by decide) (by decide) (by decide) (by decide) (law_38 hL hi h48 hu1 hu2 kk)
  | 39, _ => e_tableIn (tgt := 1956) (off := 1912) dL_law_44 (by decide) (by decide) (by decide) (by decide) (law_39 hL hi h48 hu1 hu2 kk)
  | 40, _ => e_tableIn (tgt := 2000) (off := 1956) dL_law_44 (by decide) (by decide) (by decide) (by decide) (law_40 hL hi h48 hu1 hu2 kk)
  | 41, _ => e_tableIn (tgt := 2056) (off := 2012) dL_law_44 (by decide) (by decide) (by decide) (by decide) (law_41 hL hi h48 hu1 hu2 kk)
  | 42, _ => e_tableIn (tgt := 2112) (off := 2068) dL_law_44 (by decide) (by decide) (by decide) (by decide) (law_42 hL hi h48 hu1 hu2 kk)
  | 43, _ => e_tableIn (tgt := 2156) (off := 2112) dL_law_44 (by decide) (by decide) (by decide) (by decide) (law_43 hL hi h48 hu1 hu2 kk)
  | 44, _ => e_tableIn (tgt := 2200) (off := 2156) dL_law_44 (by decide) (by decide) (by decide) (by decide) (law_44 hL hi h48 hu1 hu2 kk)
  | 45, _ => e_tableIn (tgt := 2244) (off := 2200) dL_law_44 (by decide) (by decide) (by decide) (by decide) (law_45 hL hi h48 hu1 hu2 kk)
  | 46, _ => e_tableIn (tgt := 2288) (off := 2244) dL_law_44 (by decide) (by decide) (by decide) (by decide) (law_46 hL hi h48 hu1 hu2 kk)
  | 47, _ => e_tableIn (tgt := 2301) (off := 2257) dL_law_44 (by decide) (by decide) (by decide) (by decide) (law_47 hL hi h48 hu1 hu2 kk)
  | 48, _ => e_tableIn (tgt := 2314) (off := 2270) dL_law_44 (by decide) (by decide) (by decide) (by decide) (law_48 hL hi h48 hu1 hu2 kk)
  | k + 49, hk => e_tableOut (tgt := 2358) dL_law_44 (Or.inr (by
      have hq : ∀ k, k < 15 → (48 : Int) < (nI (k + 49)).toInt := by decide
      exact hq k (by omega))) (by decide) (e_wide (k := u.1 + 1) (n := u.2 + 6) (by omega) (by omega) (kk M o hL))
theorem law_loop (h48 : gL G ≤ 2048) {C S : Nat} (hC : C + 2100 ≤ 603072) (hS : S + 13000 ≤ 7207018) (hend : ∀ (u : Nat × Nat) (L : List (Option Value)) (M : Nat → Nat → Int32) (o : (Nat → Int64) × (Nat → UInt64)), u.1 ≤ 603072 → u.2 ≤ 7207018 → EV G room_1 mL_law Qf u 2365 L [.int (nI 1)] (wM G ad (M, o))) : ∀ i, i ≤ 2052 → ∀ (M : Nat → Nat → Int32) (o : (Nat → Int64) × (Nat → UInt64)), LV M → EV G room_1 mL_law Qf (C + i, S + 6 * i) 28 (LL G ad i) [] (wM G ad (M, o)) := down4 2052 _ (fun i hi ih M o hL => by
  refine e_iload (pc' := 30) dL_law_28 rfl rfl ?_
  refine e_aload_n (pc' := 31) dL_law_30 rfl rfl rfl ?_
  refine e_slen (pc' := 32) dL_law_31 rfl ?_
  refine e_iconst (pc' := 33) (v := nI 4) dL_law_32 rfl (by decide) ?_
  refine e_isub (pc' := 34) dL_law_33 rfl ?_
  refine e_icmp_gt (pc' := 37) (tgt := 2364) dL_law_34 rfl (by decide) (fun _ => ?_) (fun hz => ?_)
  · refine e_iconst (pc' := 2365) (v := nI 1) dL_law_2364 rfl (by decide) ?_
    exact hend _ _ _ _ (show C + i ≤ 603072 by omega) (show S + 6 * i ≤ 7207018 by omega)
  · have hi4 : i + 4 ≤ gL G := lp_in hi h48 hz
    refine e_aload_n (pc' := 38) dL_law_37 rfl rfl rfl ?_
    refine e_iload (pc' := 40) dL_law_38 rfl rfl ?_
    refine e_sld (pc' := 41) (j := i) dL_law_40 rfl rfl (by omega) ?_
    refine e_bipush (pc' := 43) (v := nI 63) dL_law_41 rfl (by decide) ?_
    refine e_iand (pc' := 44) dL_law_43 rfl ?_
    obtain ⟨n, hn, e⟩ := and63 (gx G i)
    rw [e]
    refine law_sw hL hi4 h48 (show C + i + 1 ≤ 603072 by omega) (show S + 6 * i + 6 ≤ 7207018 by omega) (fun M' o' hL' => ?_) n hn
    refine e_iincN (pc' := 2361) (k := 4) (L' := LL G ad (i + 4)) dL_law_2358 rfl rfl rfl (by decide) rfl ?_
    refine e_goto (tgt := 28) dL_law_2361 (by decide) ?_
    exact e_wide (k := C + (i + 4)) (n := S + 6 * (i + 4)) (show C + i + 1 ≤ _ by omega) (show S + 6 * i + 6 ≤ _ by omega) (ih (by omega) M' o' hL'))
end T68

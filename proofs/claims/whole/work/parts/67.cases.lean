set_option maxHeartbeats 400000
/-! THE LAW: one step of its loop, by cases -/
abbrev mL_law : MD := (yL_law, cL_law, 9, some FieldType.boolean, [])
theorem lgc (x : Int64) : lg_cmp x x = 0 := by unfold lg_cmp; simp
theorem dcs {x : UInt64} (h : FP.Core.dIsNaN x = false) : Op.cmpValue (FP.dcmp x x) .l = 0 := by
  rw [show FP.dcmp x x = some .eq from FP.Core.dcmp_self ((FP.Core.notNaN_iff x).mp h)]; rfl
theorem c16 (x : Int32) : ∃ v, v < 65536 ∧ (x.toUInt32 % 65536).toInt32 = nI v := by
  have h : (x.toUInt32 % 65536).toNat < 65536 := by rw [UInt32.toNat_mod]; exact Nat.mod_lt _ (by decide)
  refine ⟨(x.toUInt32 % 65536).toNat, h, ?_⟩
  generalize x.toUInt32 % 65536 = y at h
  have e : y = UInt32.ofNat y.toNat := (UInt32.ofNat_toNat).symm
  unfold nI
  rw [← UInt32.toInt32_ofNat' , ← e]
section T67
variable {G : gC} {ad : Nat → Nat} {M : Nat → Nat → Int32} {o : (Nat → Int64) × (Nat → UInt64)} {Qf : QF} {u : Nat × Nat} {i : Nat}
abbrev LL (G : gC) (ad : Nat → Nat) (i : Nat) : List (Option Value) := [some (.ref (gb G)), some (.ref (ad 0)), some (.ref (ad 96)), some (.ref (ad 104)), some (.ref (ad 105)), some (.int (nI i)), none, none, none]
theorem law_0a (hL : LV M) (hi : i + 4 ≤ gL G) (h48 : gL G ≤ 2048) (hu1 : u.1 + 1 ≤ 603072) (hu2 : u.2 + 6 ≤ 7207018) (kk : ∀ M' o', LV M' → EV G room_1 mL_law Qf (u.1 + 1, u.2 + 6) 2358 (LL G ad i) [] (wM G ad (M', o'))) (hz : gx G (i + 3) = 0) : EV G room_1 mL_law Qf u 256 (LL G ad i) [] (wM G ad (M, o)) := by
  refine e_aload_n (pc' := 257) dL_law_256 rfl rfl rfl ?_
  refine e_aload_n (pc' := 258) dL_law_257 rfl rfl rfl ?_
  refine e_iload (pc' := 260) dL_law_258 rfl rfl ?_
  refine e_iconst (pc' := 261) (v := nI 1) dL_law_260 rfl (by decide) ?_
  refine e_iaddN (pc' := 262) dL_law_261 rfl ?_
  refine e_sld (pc' := 263) (j := i + 1) dL_law_262 rfl rfl (by omega) ?_
  refine e_aload_n (pc' := 264) dL_law_263 rfl rfl rfl ?_
  refine e_iload (pc' := 266) dL_law_264 rfl rfl ?_
  refine e_iconst (pc' := 267) (v := nI 2) dL_law_266 rfl (by decide) ?_
  refine e_iaddN (pc' := 268) dL_law_267 rfl ?_
  refine e_sld (pc' := 269) (j := i + 2) dL_law_268 rfl rfl (by omega) ?_
  refine e_aload_n (pc' := 270) dL_law_269 rfl rfl rfl ?_
  refine e_iload (pc' := 272) dL_law_270 rfl rfl ?_
  refine e_iconst (pc' := 273) (v := nI 3) dL_law_272 rfl (by decide) ?_
  refine e_iaddN (pc' := 274) dL_law_273 rfl ?_
  refine e_sld (pc' := 275) (j := i + 3) dL_law_274 rfl rfl (by omega) ?_
  refine e_if_eq (pc' := 278) (tgt := 282) dL_law_275 rfl (by decide) (fun hz1 => ?_) (fun hz1 => absurd hz1 (fun q => q hz))
  refine e_iconst (pc' := 283) (v := nI 0) dL_law_282 rfl (by decide) ?_
  refine e_aload_n (pc' := 284) dL_law_283 rfl rfl rfl ?_
  show EV _ _ _ _ _ 284 _ ([.ref (ad 104), .int (bI (false)), .int (gx G (i + 2)), .int (gx G (i + 1)), .ref (ad 0)]) _
  obtain ⟨k, Fo, I, b, hk, hW, hG, hr⟩ := op_addMagnet (G := G) (ad := ad) (o := o) hL (gx G (i + 1)) (gx G (i + 2)) false
  refine c_SX (pc' := 287) (m' := mL_addMagnet) (As := [.ref (ad 0), .int (gx G (i + 1)), .int (gx G (i + 2)), .int (bI (false)), .ref (ad 104)]) (st := []) hW dL_law_284 rfl rfl (Nat.le_of_ble_eq_true rfl) ⟨by decide, by decide, hu1, hu2⟩ ml_L_138 okL_addMagnet (List.cons_ne_nil _ _) rfl (fun v2 S2 h => ?_) (fun E2 S2 h => by cases h.1)
  obtain ⟨h3, M1, o1, rfl, hF, hI⟩ := h
  cases h3
  show EV _ _ _ _ (u.1 + 1, u.2 + 6) 287 _ ([.int (nI k)]) _
  refine e_istore (pc' := 289) (L' := [some (.ref (gb G)), some (.ref (ad 0)), some (.ref (ad 96)), some (.ref (ad 104)), some (.ref (ad 105)), some (.int (nI i)), some (.int (nI k)), none, none]) dL_law_287 rfl (by decide) rfl ?_
  refine e_aload_n (pc' := 290) dL_law_289 rfl rfl rfl ?_
  refine e_aload_n (pc' := 291) dL_law_290 rfl rfl rfl ?_
  refine e_iload (pc' := 293) dL_law_291 rfl rfl ?_
  refine e_iconst (pc' := 294) (v := nI 1) dL_law_293 rfl (by decide) ?_
  refine e_iaddN (pc' := 295) dL_law_294 rfl ?_
  refine e_sld (pc' := 296) (j := i + 1) dL_law_295 rfl rfl (by omega) ?_
  refine e_aload_n (pc' := 297) dL_law_296 rfl rfl rfl ?_
  refine e_iload (pc' := 299) dL_law_297 rfl rfl ?_
  refine e_iconst (pc' := 300) (v := nI 2) dL_law_299 rfl (by decide) ?_
  refine e_iaddN (pc' := 301) dL_law_300 rfl ?_
  refine e_sld (pc' := 302) (j := i + 2) dL_law_301 rfl rfl (by omega) ?_
  refine e_aload_n (pc' := 303) dL_law_302 rfl rfl rfl ?_
  refine e_iload (pc' := 305) dL_law_303 rfl rfl ?_
  refine e_iconst (pc' := 306) (v := nI 3) dL_law_305 rfl (by decide) ?_
  refine e_iaddN (pc' := 307) dL_law_306 rfl ?_
  refine e_sld (pc' := 308) (j := i + 3) dL_law_307 rfl rfl (by omega) ?_
  refine e_if_eq (pc' := 311) (tgt := 315) dL_law_308 rfl (by decide) (fun hz2 => ?_) (fun hz2 => absurd hz2 (fun q => q hz))
  refine e_iconst (pc' := 316) (v := nI 0) dL_law_315 rfl (by decide) ?_
  show EV _ _ _ _ _ 316 _ ([.int (bI (false)), .int (gx G (i + 2)), .int (gx G (i + 1)), .ref (ad 96)]) _
  refine r_VI (pc' := 319) (m' := mX9_addMagnet) (As := [.int (gx G (i + 1)), .int (gx G (i + 2)), .int (bI (false))]) (st := []) (hG M1 o1 hI) dL_law_316 rfl rfl (Nat.le_of_ble_eq_true rfl) ⟨by decide, by decide, hu1, hu2⟩ ml_L_143 okX9_addMagnet rfl rfl (by decide) rfl (fun M2 hJ => ?_)
  obtain ⟨h8, hL2⟩ := hJ
  show EV _ _ _ _ _ 319 _ ([.int (b)]) _
  refine e_istore (pc' := 321) (L' := [some (.ref (gb G)), some (.ref (ad 0)), some (.ref (ad 96)), some (.ref (ad 104)), some (.ref (ad 105)), some (.int (nI i)), some (.int (nI k)), some (.int (b)), none]) dL_law_319 rfl (by decide) rfl ?_
  refine e_aload_n (pc' := 322) dL_law_321 rfl rfl rfl ?_
  refine r_V (pc' := 325) (m' := mX9_thrown) (As := []) (st := []) (g_thrown (d := 19)) dL_law_322 rfl rfl (Nat.le_of_ble_eq_true rfl) ⟨by decide, by decide, hu1, hu2⟩ ml_L_144 okX9_thrown rfl rfl (by decide) rfl ?_
  rw [h8]
  show EV _ _ _ _ _ 325 _ ([.int (nI k)]) _
  refine e_iload (pc' := 327) dL_law_325 rfl rfl ?_
  refine e_icmp_eqN (pc' := 330) (tgt := 332) dL_law_327 rfl (by decide) (by omega) (by omega) (fun hz3 => ?_) (fun hz3 => absurd hz3 (fun q => q rfl))
  refine e_iload (pc' := 334) dL_law_332 rfl rfl ?_
  refine e_if_neN (pc' := 337) (tgt := 349) dL_law_334 rfl (by decide) (by omega) (fun hk0 => ?_) (fun hk0 => ?_)
  · refine e_goto (tgt := 2358) dL_law_349 (by decide) ?_
    refine e_fg (i := 6) (L' := [some (.ref (gb G)), some (.ref (ad 0)), some (.ref (ad 96)), some (.ref (ad 104)), some (.ref (ad 105)), some (.int (nI i)), none, some (.int (b)), none]) rfl ?_
    refine e_fg (i := 7) (L' := [some (.ref (gb G)), some (.ref (ad 0)), some (.ref (ad 96)), some (.ref (ad 104)), some (.ref (ad 105)), some (.int (nI i)), none, none, none]) rfl ?_
    exact kk _ _ hL2
  · have hr0 : o1.1 0 = (b).toInt64 := hr hk0 o1 hF
    refine e_aload_n (pc' := 338) dL_law_337 rfl rfl rfl ?_
    refine e_iconst (pc' := 339) (v := nI 0) dL_law_338 rfl (by decide) ?_
    refine p_lald (pc' := 340) dL_law_339 rfl ?_
    rw [hr0]
    refine e_iload (pc' := 342) dL_law_340 rfl rfl ?_
    refine e_i2l (pc' := 343) dL_law_342 rfl ?_
    refine e_lcmp (pc' := 344) dL_law_343 rfl ?_
    refine e_if_eq (pc' := 347) (tgt := 349) dL_law_344 rfl (by decide) (fun hz5 => ?_) (fun hz5 => absurd hz5 (fun q => q (lgc _)))
    refine e_goto (tgt := 2358) dL_law_349 (by decide) ?_
    refine e_fg (i := 6) (L' := [some (.ref (gb G)), some (.ref (ad 0)), some (.ref (ad 96)), some (.ref (ad 104)), some (.ref (ad 105)), some (.int (nI i)), none, some (.int (b)), none]) rfl ?_
    refine e_fg (i := 7) (L' := [some (.ref (gb G)), some (.ref (ad 0)), some (.ref (ad 96)), some (.ref (ad 104)), some (.ref (ad 105)), some (.int (nI i)), none, none, none]) rfl ?_
    exact kk _ _ hL2
theorem law_0b (hL : LV M) (hi : i + 4 ≤ gL G) (h48 : gL G ≤ 2048) (hu1 : u.1 + 1 ≤ 603072) (hu2 : u.2 + 6 ≤ 7207018) (kk : ∀ M' o', LV M' → EV G room_1 mL_law Qf (u.1 + 1, u.2 + 6) 2358 (LL G ad i) [] (wM G ad (M', o'))) (hz : ¬ gx G (i + 3) = 0) : EV G room_1 mL_law Qf u 256 (LL G ad i) [] (wM G ad (M, o)) := by
  refine e_aload_n (pc' := 257) dL_law_256 rfl rfl rfl ?_
  refine e_aload_n (pc' := 258) dL_law_257 rfl rfl rfl ?_
  refine e_iload (pc' := 260) dL_law_258 rfl rfl ?_
  refine e_iconst (pc' := 261) (v := nI 1) dL_law_260 rfl (by decide) ?_
  refine e_iaddN (pc' := 262) dL_law_261 rfl ?_
  refine e_sld (pc' := 263) (j := i + 1) dL_law_262 rfl rfl (by omega) ?_
  refine e_aload_n (pc' := 264) dL_law_263 rfl rfl rfl ?_
  refine e_iload (pc' := 266) dL_law_264 rfl rfl ?_
  refine e_iconst (pc' := 267) (v := nI 2) dL_law_266 rfl (by decide) ?_
  refine e_iaddN (pc' := 268) dL_law_267 rfl ?_
  refine e_sld (pc' := 269) (j := i + 2) dL_law_268 rfl rfl (by omega) ?_
  refine e_aload_n (pc' := 270) dL_law_269 rfl rfl rfl ?_
  refine e_iload (pc' := 272) dL_law_270 rfl rfl ?_
  refine e_iconst (pc' := 273) (v := nI 3) dL_law_272 rfl (by decide) ?_
  refine e_iaddN (pc' := 274) dL_law_273 rfl ?_
  refine e_sld (pc' := 275) (j := i + 3) dL_law_274 rfl rfl (by omega) ?_
  refine e_if_eq (pc' := 278) (tgt := 282) dL_law_275 rfl (by decide) (fun hz1 => absurd hz1 (hz)) (fun hz1 => ?_)
  refine e_iconst (pc' := 279) (v := nI 1) dL_law_278 rfl (by decide) ?_
  refine e_goto (tgt := 283) dL_law_279 (by decide) ?_
  refine e_aload_n (pc' := 284) dL_law_283 rfl rfl rfl ?_
  show EV _ _ _ _ _ 284 _ ([.ref (ad 104), .int (bI (true)), .int (gx G (i + 2)), .int (gx G (i + 1)), .ref (ad 0)]) _
  obtain ⟨k, Fo, I, b, hk, hW, hG, hr⟩ := op_addMagnet (G := G) (ad := ad) (o := o) hL (gx G (i + 1)) (gx G (i + 2)) true
  refine c_SX (pc' := 287) (m' := mL_addMagnet) (As := [.ref (ad 0), .int (gx G (i + 1)), .int (gx G (i + 2)), .int (bI (true)), .ref (ad 104)]) (st := []) hW dL_law_284 rfl rfl (Nat.le_of_ble_eq_true rfl) ⟨by decide, by decide, hu1, hu2⟩ ml_L_138 okL_addMagnet (List.cons_ne_nil _ _) rfl (fun v2 S2 h => ?_) (fun E2 S2 h => by cases h.1)
  obtain ⟨h3, M1, o1, rfl, hF, hI⟩ := h
  cases h3
  show EV _ _ _ _ (u.1 + 1, u.2 + 6) 287 _ ([.int (nI k)]) _
  refine e_istore (pc' := 289) (L' := [some (.ref (gb G)), some (.ref (ad 0)), some (.ref (ad 96)), some (.ref (ad 104)), some (.ref (ad 105)), some (.int (nI i)), some (.int (nI k)), none, none]) dL_law_287 rfl (by decide) rfl ?_
  refine e_aload_n (pc' := 290) dL_law_289 rfl rfl rfl ?_
  refine e_aload_n (pc' := 291) dL_law_290 rfl rfl rfl ?_
  refine e_iload (pc' := 293) dL_law_291 rfl rfl ?_
  refine e_iconst (pc' := 294) (v := nI 1) dL_law_293 rfl (by decide) ?_
  refine e_iaddN (pc' := 295) dL_law_294 rfl ?_
  refine e_sld (pc' := 296) (j := i + 1) dL_law_295 rfl rfl (by omega) ?_
  refine e_aload_n (pc' := 297) dL_law_296 rfl rfl rfl ?_
  refine e_iload (pc' := 299) dL_law_297 rfl rfl ?_
  refine e_iconst (pc' := 300) (v := nI 2) dL_law_299 rfl (by decide) ?_
  refine e_iaddN (pc' := 301) dL_law_300 rfl ?_
  refine e_sld (pc' := 302) (j := i + 2) dL_law_301 rfl rfl (by omega) ?_
  refine e_aload_n (pc' := 303) dL_law_302 rfl rfl rfl ?_
  refine e_iload (pc' := 305) dL_law_303 rfl rfl ?_
  refine e_iconst (pc' := 306) (v := nI 3) dL_law_305 rfl (by decide) ?_
  refine e_iaddN (pc' := 307) dL_law_306 rfl ?_
  refine e_sld (pc' := 308) (j := i + 3) dL_law_307 rfl rfl (by omega) ?_
  refine e_if_eq (pc' := 311) (tgt := 315) dL_law_308 rfl (by decide) (fun hz2 => absurd hz2 (hz)) (fun hz2 => ?_)
  refine e_iconst (pc' := 312) (v := nI 1) dL_law_311 rfl (by decide) ?_
  refine e_goto (tgt := 316) dL_law_312 (by decide) ?_
  show EV _ _ _ _ _ 316 _ ([.int (bI (true)), .int (gx G (i + 2)), .int (gx G (i + 1)), .ref (ad 96)]) _
  refine r_VI (pc' := 319) (m' := mX9_addMagnet) (As := [.int (gx G (i + 1)), .int (gx G (i + 2)), .int (bI (true))]) (st := []) (hG M1 o1 hI) dL_law_316 rfl rfl (Nat.le_of_ble_eq_true rfl) ⟨by decide, by decide, hu1, hu2⟩ ml_L_143 okX9_addMagnet rfl rfl (by decide) rfl (fun M2 hJ => ?_)
  obtain ⟨h8, hL2⟩ := hJ
  show EV _ _ _ _ _ 319 _ ([.int (b)]) _
  refine e_istore (pc' := 321) (L' := [some (.ref (gb G)), some (.ref (ad 0)), some (.ref (ad 96)), some (.ref (ad 104)), some (.ref (ad 105)), some (.int (nI i)), some (.int (nI k)), some (.int (b)), none]) dL_law_319 rfl (by decide) rfl ?_
  refine e_aload_n (pc' := 322) dL_law_321 rfl rfl rfl ?_
  refine r_V (pc' := 325) (m' := mX9_thrown) (As := []) (st := []) (g_thrown (d := 19)) dL_law_322 rfl rfl (Nat.le_of_ble_eq_true rfl) ⟨by decide, by decide, hu1, hu2⟩ ml_L_144 okX9_thrown rfl rfl (by decide) rfl ?_
  rw [h8]
  show EV _ _ _ _ _ 325 _ ([.int (nI k)]) _
  refine e_iload (pc' := 327) dL_law_325 rfl rfl ?_
  refine e_icmp_eqN (pc' := 330) (tgt := 332) dL_law_327 rfl (by decide) (by omega) (by omega) (fun hz3 => ?_) (fun hz3 => absurd hz3 (fun q => q rfl))
  refine e_iload (pc' := 334) dL_law_332 rfl rfl ?_
  refine e_if_neN (pc' := 337) (tgt := 349) dL_law_334 rfl (by decide) (by omega) (fun hk0 => ?_) (fun hk0 => ?_)
  · refine e_goto (tgt := 2358) dL_law_349 (by decide) ?_
    refine e_fg (i := 6) (L' := [some (.ref (gb G)), some (.ref (ad 0)), some (.ref (ad 96)), some (.ref (ad 104)), some (.ref (ad 105)), some (.int (nI i)), none, some (.int (b)), none]) rfl ?_
    refine e_fg (i := 7) (L' := [some (.ref (gb G)), some (.ref (ad 0)), some (.ref (ad 96)), some (.ref (ad 104)), some (.ref (ad 105)), some (.int (nI i)), none, none, none]) rfl ?_
    exact kk _ _ hL2
  · have hr0 : o1.1 0 = (b).toInt64 := hr hk0 o1 hF
    refine e_aload_n (pc' := 338) dL_law_337 rfl rfl rfl ?_
    refine e_iconst (pc' := 339) (v := nI 0) dL_law_338 rfl (by decide) ?_
    refine p_lald (pc' := 340) dL_law_339 rfl ?_
    rw [hr0]
    refine e_iload (pc' := 342) dL_law_340 rfl rfl ?_
    refine e_i2l (pc' := 343) dL_law_342 rfl ?_
    refine e_lcmp (pc' := 344) dL_law_343 rfl ?_
    refine e_if_eq (pc' := 347) (tgt := 349) dL_law_344 rfl (by decide) (fun hz5 => ?_) (fun hz5 => absurd hz5 (fun q => q (lgc _)))
    refine e_goto (tgt := 2358) dL_law_349 (by decide) ?_
    refine e_fg (i := 6) (L' := [some (.ref (gb G)), some (.ref (ad 0)), some (.ref (ad 96)), some (.ref (ad 104)), some (.ref (ad 105)), some (.int (nI i)), none, some (.int (b)), none]) rfl ?_
    refine e_fg (i := 7) (L' := [some (.ref (gb G)), some (.ref (ad 0)), some (.ref (ad 96)), some (.ref (ad 104)), some (.ref (ad 105)), some (.int (nI i)), none, none, none]) rfl ?_
    exact kk _ _ hL2
theorem law_1 (hL : LV M) (hi : i + 4 ≤ gL G) (h48 : gL G ≤ 2048) (hu1 : u.1 + 1 ≤ 603072) (hu2 : u.2 + 6 ≤ 7207018) (kk : ∀ M' o', LV M' → EV G room_1 mL_law Qf (u.1 + 1, u.2 + 6) 2358 (LL G ad i) [] (wM G ad (M', o'))) : EV G room_1 mL_law Qf u 352 (LL G ad i) [] (wM G ad (M, o)) := by
  refine e_aload_n (pc' := 353) dL_law_352 rfl rfl rfl ?_
  refine e_aload_n (pc' := 354) dL_law_353 rfl rfl rfl ?_
  refine e_iload (pc' := 356) dL_law_354 rfl rfl ?_
  refine e_iconst (pc' := 357) (v := nI 1) dL_law_356 rfl (by decide) ?_
  refine e_iaddN (pc' := 358) dL_law_357 rfl ?_
  refine e_sld (pc' := 359) (j := i + 1) dL_law_358 rfl rfl (by omega) ?_
  refine e_aload_n (pc' := 360) dL_law_359 rfl rfl rfl ?_
  refine e_iload (pc' := 362) dL_law_360 rfl rfl ?_
  refine e_iconst (pc' := 363) (v := nI 2) dL_law_362 rfl (by decide) ?_
  refine e_iaddN (pc' := 364) dL_law_363 rfl ?_
  refine e_sld (pc' := 365) (j := i + 2) dL_law_364 rfl rfl (by omega) ?_
  refine e_aload_n (pc' := 366) dL_law_365 rfl rfl rfl ?_
  obtain ⟨k, Fo, I, b, hk, hW, hG, hr⟩ := op_setStrength (G := G) (ad := ad) (o := o) hL (gx G (i + 1)) (gx G (i + 2))
  refine c_SX (pc' := 369) (m' := mL_setStrength) (As := [.ref (ad 0), .int (gx G (i + 1)), .int (gx G (i + 2)), .ref (ad 104)]) (st := []) hW dL_law_366 rfl rfl (Nat.le_of_ble_eq_true rfl) ⟨by decide, by decide, hu1, hu2⟩ ml_L_147 okL_setStrength (List.cons_ne_nil _ _) rfl (fun v2 S2 h => ?_) (fun E2 S2 h => by cases h.1)
  obtain ⟨h3, M1, o1, rfl, hF, hI⟩ := h
  cases h3
  show EV _ _ _ _ (u.1 + 1, u.2 + 6) 369 _ ([.int (nI k)]) _
  refine e_istore (pc' := 371) (L' := [some (.ref (gb G)), some (.ref (ad 0)), some (.ref (ad 96)), some (.ref (ad 104)), some (.ref (ad 105)), some (.int (nI i)), some (.int (nI k)), none, none]) dL_law_369 rfl (by decide) rfl ?_
  refine e_aload_n (pc' := 372) dL_law_371 rfl rfl rfl ?_
  refine e_aload_n (pc' := 373) dL_law_372 rfl rfl rfl ?_
  refine e_iload (pc' := 375) dL_law_373 rfl rfl ?_
  refine e_iconst (pc' := 376) (v := nI 1) dL_law_375 rfl (by decide) ?_
  refine e_iaddN (pc' := 377) dL_law_376 rfl ?_
  refine e_sld (pc' := 378) (j := i + 1) dL_law_377 rfl rfl (by omega) ?_
  refine e_aload_n (pc' := 379) dL_law_378 rfl rfl rfl ?_
  refine e_iload (pc' := 381) dL_law_379 rfl rfl ?_
  refine e_iconst (pc' := 382) (v := nI 2) dL_law_381 rfl (by decide) ?_
  refine e_iaddN (pc' := 383) dL_law_382 rfl ?_
  refine e_sld (pc' := 384) (j := i + 2) dL_law_383 rfl rfl (by omega) ?_
  refine r_VI (pc' := 387) (m' := mX9_setStrength) (As := [.int (gx G (i + 1)), .int (gx G (i + 2))]) (st := []) (hG M1 o1 hI) dL_law_384 rfl rfl (Nat.le_of_ble_eq_true rfl) ⟨by decide, by decide, hu1, hu2⟩ ml_L_150 okX9_setStrength rfl rfl (by decide) rfl (fun M2 hJ => ?_)
  obtain ⟨h8, hL2⟩ := hJ
  show EV _ _ _ _ _ 387 _ ([.int (b)]) _
  refine e_istore (pc' := 389) (L' := [some (.ref (gb G)), some (.ref (ad 0)), some (.ref (ad 96)), some (.ref (ad 104)), some (.ref (ad 105)), some (.int (nI i)), some (.int (nI k)), some (.int (b)), none]) dL_law_387 rfl (by decide) rfl ?_
  refine e_aload_n (pc' := 390) dL_law_389 rfl rfl rfl ?_
  refine r_V (pc' := 393) (m' := mX9_thrown) (As := []) (st := []) (g_thrown (d := 19)) dL_law_390 rfl rfl (Nat.le_of_ble_eq_true rfl) ⟨by decide, by decide, hu1, hu2⟩ ml_L_144 okX9_thrown rfl rfl (by decide) rfl ?_
  rw [h8]
  show EV _ _ _ _ _ 393 _ ([.int (nI k)]) _
  refine e_iload (pc' := 395) dL_law_393 rfl rfl ?_
  refine e_icmp_eqN (pc' := 398) (tgt := 400) dL_law_395 rfl (by decide) (by omega) (by omega) (fun hz1 => ?_) (fun hz1 => absurd hz1 (fun q => q rfl))
  refine e_iload (pc' := 402) dL_law_400 rfl rfl ?_
  refine e_if_neN (pc' := 405) (tgt := 417) dL_law_402 rfl (by decide) (by omega) (fun hk0 => ?_) (fun hk0 => ?_)
  · refine e_goto (tgt := 2358) dL_law_417 (by decide) ?_
    refine e_fg (i := 6) (L' := [some (.ref (gb G)), some (.ref (ad 0)), some (.ref (ad 96)), some (.ref (ad 104)), some (.ref (ad 105)), some (.int (nI i)), none, some (.int (b)), none]) rfl ?_
    refine e_fg (i := 7) (L' := [some (.ref (gb G)), some (.ref (ad 0)), some (.ref (ad 96)), some (.ref (ad 104)), some (.ref (ad 105)), some (.int (nI i)), none, none, none]) rfl ?_
    exact kk _ _ hL2
  · have hr0 : o1.1 0 = (b).toInt64 := hr hk0 o1 hF
    refine e_aload_n (pc' := 406) dL_law_405 rfl rfl rfl ?_
    refine e_iconst (pc' := 407) (v := nI 0) dL_law_406 rfl (by decide) ?_
    refine p_lald (pc' := 408) dL_law_407 rfl ?_
    rw [hr0]
    refine e_iload (pc' := 410) dL_law_408 rfl rfl ?_
    refine e_i2l (pc' := 411) dL_law_410 rfl ?_
    refine e_lcmp (pc' := 412) dL_law_411 rfl ?_
    refine e_if_eq (pc' := 415) (tgt := 417) dL_law_412 rfl (by decide) (fun hz3 => ?_) (fun hz3 => absurd hz3 (fun q => q (lgc _)))
    refine e_goto (tgt := 2358) dL_law_417 (by decide) ?_
    refine e_fg (i := 6) (L' := [some (.ref (gb G)), some (.ref (ad 0)), some (.ref (ad 96)), some (.ref (ad 104)), some (.ref (ad 105)), some (.int (nI i)), none, some (.int (b)), none]) rfl ?_
    refine e_fg (i := 7) (L' := [some (.ref (gb G)), some (.ref (ad 0)), some (.ref (ad 96)), some (.ref (ad 104)), some (.ref (ad 105)), some (.int (nI i)), none, none, none]) rfl ?_
    exact kk _ _ hL2
theorem law_2 (hL : LV M) (hi : i + 4 ≤ gL G) (h48 : gL G ≤ 2048) (hu1 : u.1 + 1 ≤ 603072) (hu2 : u.2 + 6 ≤ 7207018) (kk : ∀ M' o', LV M' → EV G room_1 mL_law Qf (u.1 + 1, u.2 + 6) 2358 (LL G ad i) [] (wM G ad (M', o'))) : EV G room_1 mL_law Qf u 420 (LL G ad i) [] (wM G ad (M, o)) := by
  refine e_aload_n (pc' := 421) dL_law_420 rfl rfl rfl ?_
  refine e_aload_n (pc' := 422) dL_law_421 rfl rfl rfl ?_
  refine e_iload (pc' := 424) dL_law_422 rfl rfl ?_
  refine e_iconst (pc' := 425) (v := nI 1) dL_law_424 rfl (by decide) ?_
  refine e_iaddN (pc' := 426) dL_law_425 rfl ?_
  refine e_sld (pc' := 427) (j := i + 1) dL_law_426 rfl rfl (by omega) ?_
  refine e_aload_n (pc' := 428) dL_law_427 rfl rfl rfl ?_
  obtain ⟨k, Fo, I, b, hk, hW, hG, hr⟩ := op_turn (G := G) (ad := ad) (o := o) hL (gx G (i + 1))
  refine c_SX (pc' := 431) (m' := mL_turn) (As := [.ref (ad 0), .int (gx G (i + 1)), .ref (ad 104)]) (st := []) hW dL_law_428 rfl rfl (Nat.le_of_ble_eq_true rfl) ⟨by decide, by decide, hu1, hu2⟩ ml_L_151 okL_turn (List.cons_ne_nil _ _) rfl (fun v2 S2 h => ?_) (fun E2 S2 h => by cases h.1)
  obtain ⟨h3, M1, o1, rfl, hF, hI⟩ := h
  cases h3
  show EV _ _ _ _ (u.1 + 1, u.2 + 6) 431 _ ([.int (nI k)]) _
  refine e_istore (pc' := 433) (L' := [some (.ref (gb G)), some (.ref (ad 0)), some (.ref (ad 96)), some (.ref (ad 104)), some (.ref (ad 105)), some (.int (nI i)), some (.int (nI k)), none, none]) dL_law_431 rfl (by decide) rfl ?_
  refine e_aload_n (pc' := 434) dL_law_433 rfl rfl rfl ?_
  refine e_aload_n (pc' := 435) dL_law_434 rfl rfl rfl ?_
  refine e_iload (pc' := 437) dL_law_435 rfl rfl ?_
  refine e_iconst (pc' := 438) (v := nI 1) dL_law_437 rfl (by decide) ?_
  refine e_iaddN (pc' := 439) dL_law_438 rfl ?_
  refine e_sld (pc' := 440) (j := i + 1) dL_law_439 rfl rfl (by omega) ?_
  refine r_VI (pc' := 443) (m' := mX9_turn) (As := [.int (gx G (i + 1))]) (st := []) (hG M1 o1 hI) dL_law_440 rfl rfl (Nat.le_of_ble_eq_true rfl) ⟨by decide, by decide, hu1, hu2⟩ ml_L_154 okX9_turn rfl rfl (by decide) rfl (fun M2 hJ => ?_)
  obtain ⟨h8, hL2⟩ := hJ
  show EV _ _ _ _ _ 443 _ ([.int (b)]) _
  refine e_istore (pc' := 445) (L' := [some (.ref (gb G)), some (.ref (ad 0)), some (.ref (ad 96)), some (.ref (ad 104)), some (.ref (ad 105)), some (.int (nI i)), some (.int (nI k)), some (.int (b)), none]) dL_law_443 rfl (by decide) rfl ?_
  refine e_aload_n (pc' := 446) dL_law_445 rfl rfl rfl ?_
  refine r_V (pc' := 449) (m' := mX9_thrown) (As := []) (st := []) (g_thrown (d := 19)) dL_law_446 rfl rfl (Nat.le_of_ble_eq_true rfl) ⟨by decide, by decide, hu1, hu2⟩ ml_L_144 okX9_thrown rfl rfl (by decide) rfl ?_
  rw [h8]
  show EV _ _ _ _ _ 449 _ ([.int (nI k)]) _
  refine e_iload (pc' := 451) dL_law_449 rfl rfl ?_
  refine e_icmp_eqN (pc' := 454) (tgt := 456) dL_law_451 rfl (by decide) (by omega) (by omega) (fun hz1 => ?_) (fun hz1 => absurd hz1 (fun q => q rfl))
  refine e_iload (pc' := 458) dL_law_456 rfl rfl ?_
  refine e_if_neN (pc' := 461) (tgt := 473) dL_law_458 rfl (by decide) (by omega) (fun hk0 => ?_) (fun hk0 => ?_)
  · refine e_goto (tgt := 2358) dL_law_473 (by decide) ?_
    refine e_fg (i := 6) (L' := [some (.ref (gb G)), some (.ref (ad 0)), some (.ref (ad 96)), some (.ref (ad 104)), some (.ref (ad 105)), some (.int (nI i)), none, some (.int (b)), none]) rfl ?_
    refine e_fg (i := 7) (L' := [some (.ref (gb G)), some (.ref (ad 0)), some (.ref (ad 96)), some (.ref (ad 104)), some (.ref (ad 105)), some (.int (nI i)), none, none, none]) rfl ?_
    exact kk _ _ hL2
  · have hr0 : o1.1 0 = (b).toInt64 := hr hk0 o1 hF
    refine e_aload_n (pc' := 462) dL_law_461 rfl rfl rfl ?_
    refine e_iconst (pc' := 463) (v := nI 0) dL_law_462 rfl (by decide) ?_
    refine p_lald (pc' := 464) dL_law_463 rfl ?_
    rw [hr0]
    refine e_iload (pc' := 466) dL_law_464 rfl rfl ?_
    refine e_i2l (pc' := 467) dL_law_466 rfl ?_
    refine e_lcmp (pc' := 468) dL_law_467 rfl ?_
    refine e_if_eq (pc' := 471) (tgt := 473) dL_law_468 rfl (by decide) (fun hz3 => ?_) (fun hz3 => absurd hz3 (fun q => q (lgc _)))
    refine e_goto (tgt := 2358) dL_law_473 (by decide) ?_
    refine e_fg (i := 6) (L' := [some (.ref (gb G)), some (.ref (ad 0)), some (.ref (ad 96)), some (.ref (ad 104)), some (.ref (ad 105)), some (.int (nI i)), none, some (.int (b)), none]) rfl ?_
    refine e_fg (i := 7) (L' := [some (.ref (gb G)), some (.ref (ad 0)), some (.ref (ad 96)), some (.ref (ad 104)), some (.ref (ad 105)), some (.int (nI i)), none, none, none]) rfl ?_
    exact kk _ _ hL2
theorem law_3 (hL : LV M) (hi : i + 4 ≤ gL G) (h48 : gL G ≤ 2048) (hu1 : u.1 + 1 ≤ 603072) (hu2 : u.2 + 6 ≤ 7207018) (kk : ∀ M' o', LV M' → EV G room_1 mL_law Qf (u.1 + 1, u.2 + 6) 2358 (LL G ad i) [] (wM G ad (M', o'))) : EV G room_1 mL_law Qf u 476 (LL G ad i) [] (wM G ad (M, o)) := by
  refine e_aload_n (pc' := 477) dL_law_476 rfl rfl rfl ?_
  refine e_aload_n (pc' := 478) dL_law_477 rfl rfl rfl ?_
  refine e_iload (pc' := 480) dL_law_478 rfl rfl ?_
  refine e_iconst (pc' := 481) (v := nI 1) dL_law_480 rfl (by decide) ?_
  refine e_iaddN (pc' := 482) dL_law_481 rfl ?_
  refine e_sld (pc' := 483) (j := i + 1) dL_law_482 rfl rfl (by omega) ?_
  refine e_aload_n (pc' := 484) dL_law_483 rfl rfl rfl ?_
  obtain ⟨k, Fo, I, b, hk, hW, hG, hr⟩ := op_shift (G := G) (ad := ad) (o := o) hL (gx G (i + 1))
  refine c_SX (pc' := 487) (m' := mL_shift) (As := [.ref (ad 0), .int (gx G (i + 1)), .ref (ad 104)]) (st := []) hW dL_law_484 rfl rfl (Nat.le_of_ble_eq_true rfl) ⟨by decide, by decide, hu1, hu2⟩ ml_L_155 okL_shift (List.cons_ne_nil _ _) rfl (fun v2 S2 h => ?_) (fun E2 S2 h => by cases h.1)
  obtain ⟨h3, M1, o1, rfl, hF, hI⟩ := h
  cases h3
  show EV _ _ _ _ (u.1 + 1, u.2 + 6) 487 _ ([.int (nI k)]) _
  refine e_istore (pc' := 489) (L' := [some (.ref (gb G)), some (.ref (ad 0)), some (.ref (ad 96)), some (.ref (ad 104)), some (.ref (ad 105)), some (.int (nI i)), some (.int (nI k)), none, none]) dL_law_487 rfl (by decide) rfl ?_
  refine e_aload_n (pc' := 490) dL_law_489 rfl rfl rfl ?_
  refine e_aload_n (pc' := 491) dL_law_490 rfl rfl rfl ?_
  refine e_iload (pc' := 493) dL_law_491 rfl rfl ?_
  refine e_iconst (pc' := 494) (v := nI 1) dL_law_493 rfl (by decide) ?_
  refine e_iaddN (pc' := 495) dL_law_494 rfl ?_
  refine e_sld (pc' := 496) (j := i + 1) dL_law_495 rfl rfl (by omega) ?_
  refine r_VI (pc' := 499) (m' := mX9_shift) (As := [.int (gx G (i + 1))]) (st := []) (hG M1 o1 hI) dL_law_496 rfl rfl (Nat.le_of_ble_eq_true rfl) ⟨by decide, by decide, hu1, hu2⟩ ml_L_157 okX9_shift rfl rfl (by decide) rfl (fun M2 hJ => ?_)
  obtain ⟨h8, hL2⟩ := hJ
  show EV _ _ _ _ _ 499 _ ([.int (b)]) _
  refine e_istore (pc' := 501) (L' := [some (.ref (gb G)), some (.ref (ad 0)), some (.ref (ad 96)), some (.ref (ad 104)), some (.ref (ad 105)), some (.int (nI i)), some (.int (nI k)), some (.int (b)), none]) dL_law_499 rfl (by decide) rfl ?_
  refine e_aload_n (pc' := 502) dL_law_501 rfl rfl rfl ?_
  refine r_V (pc' := 505) (m' := mX9_thrown) (As := []) (st := []) (g_thrown (d := 19)) dL_law_502 rfl rfl (Nat.le_of_ble_eq_true rfl) ⟨by decide, by decide, hu1, hu2⟩ ml_L_144 okX9_thrown rfl rfl (by decide) rfl ?_
  rw [h8]
  show EV _ _ _ _ _ 505 _ ([.int (nI k)]) _
  refine e_iload (pc' := 507) dL_law_505 rfl rfl ?_
  refine e_icmp_eqN (pc' := 510) (tgt := 512) dL_law_507 rfl (by decide) (by omega) (by omega) (fun hz1 => ?_) (fun hz1 => absurd hz1 (fun q => q rfl))
  refine e_iload (pc' := 514) dL_law_512 rfl rfl ?_
  refine e_if_neN (pc' := 517) (tgt := 529) dL_law_514 rfl (by decide) (by omega) (fun hk0 => ?_) (fun hk0 => ?_)
  · refine e_goto (tgt := 2358) dL_law_529 (by decide) ?_
    refine e_fg (i := 6) (L' := [some (.ref (gb G)), some (.ref (ad 0)), some (.ref (ad 96)), some (.ref (ad 104)), some (.ref (ad 105)), some (.int (nI i)), none, some (.int (b)), none]) rfl ?_
    refine e_fg (i := 7) (L' := [some (.ref (gb G)), some (.ref (ad 0)), some (.ref (ad 96)), some (.ref (ad 104)), some (.ref (ad 105)), some (.int (nI i)), none, none, none]) rfl ?_
    exact kk _ _ hL2
  · have hr0 : o1.1 0 = (b).toInt64 := hr hk0 o1 hF
    refine e_aload_n (pc' := 518) dL_law_517 rfl rfl rfl ?_
    refine e_iconst (pc' := 519) (v := nI 0) dL_law_518 rfl (by decide) ?_
    refine p_lald (pc' := 520) dL_law_519 rfl ?_
    rw [hr0]
    refine e_iload (pc' := 522) dL_law_520 rfl rfl ?_
    refine e_i2l (pc' := 523) dL_law_522 rfl ?_
    refine e_lcmp (pc' := 524) dL_law_523 rfl ?_
    refine e_if_eq (pc' := 527) (tgt := 529) dL_law_524 rfl (by decide) (fun hz3 => ?_) (fun hz3 => absurd hz3 (fun q => q (lgc _)))
    refine e_goto (tgt := 2358) dL_law_529 (by decide) ?_
    refine e_fg (i := 6) (L' := [some (.ref (gb G)), some (.ref (ad 0)), some (.ref (ad 96)), some (.ref (ad 104)), some (.ref (ad 105)), some (.int (nI i)), none, some (.int (b)), none]) rfl ?_
    refine e_fg (i := 7) (L' := [some (.ref (gb G)), some (.ref (ad 0)), some (.ref (ad 96)), some (.ref (ad 104)), some (.ref (ad 105)), some (.int (nI i)), none, none, none]) rfl ?_
    exact kk _ _ hL2
theorem law_4 (hL : LV M) (hi : i + 4 ≤ gL G) (h48 : gL G ≤ 2048) (hu1 : u.1 + 1 ≤ 603072) (hu2 : u.2 + 6 ≤ 7207018) (kk : ∀ M' o', LV M' → EV G room_1 mL_law Qf (u.1 + 1, u.2 + 6) 2358 (LL G ad i) [] (wM G ad (M', o'))) : EV G room_1 mL_law Qf u 532 (LL G ad i) [] (wM G ad (M, o)) := by
  refine e_aload_n (pc' := 533) dL_law_532 rfl rfl rfl ?_
  obtain ⟨v, I, hW, hG⟩ := od_move (G := G) (ad := ad) (o := o) hL
  refine r_VI (pc' := 536) (m' := mX8_move) (As := []) (st := []) hW dL_law_533 rfl rfl (Nat.le_of_ble_eq_true rfl) ⟨by decide, by decide, (show u.1 + 0 ≤ 603072 by omega), (show u.2 + 0 ≤ 7207018 by omega)⟩ ml_L_158 okX8_move rfl rfl (by decide) rfl (fun M1 hI => ?_)
  show EV _ _ _ _ _ 536 _ ([.int (v)]) _
  refine e_aload_n (pc' := 537) dL_law_536 rfl rfl rfl ?_
  refine r_VI (pc' := 540) (m' := mX9_move) (As := []) (st := [.int (v)]) (hG M1 hI) dL_law_537 rfl rfl (Nat.le_of_ble_eq_true rfl) ⟨by decide, by decide, (show u.1 + 0 ≤ 603072 by omega), (show u.2 + 0 ≤ 7207018 by omega)⟩ ml_L_161 okX9_move rfl rfl (by decide) rfl (fun M2 hL2 => ?_)
  show EV _ _ _ _ _ 540 _ ([.int (v), .int (v)]) _
  refine e_icmp_eq (pc' := 543) (tgt := 2358) dL_law_540 rfl (by decide) (fun hz1 => ?_) (fun hz1 => absurd hz1 (fun q => q rfl))
  refine e_wide (k := u.1 + 1) (n := u.2 + 6) (by omega) (by omega) ?_
  exact kk _ _ hL2
theorem law_5 (hL : LV M) (hi : i + 4 ≤ gL G) (h48 : gL G ≤ 2048) (hu1 : u.1 + 1 ≤ 603072) (hu2 : u.2 + 6 ≤ 7207018) (kk : ∀ M' o', LV M' → EV G room_1 mL_law Qf (u.1 + 1, u.2 + 6) 2358 (LL G ad i) [] (wM G ad (M', o'))) : EV G room_1 mL_law Qf u 545 (LL G ad i) [] (wM G ad (M, o)) := by
  refine e_aload_n (pc' := 546) dL_law_545 rfl rfl rfl ?_
  obtain ⟨v, I, hW, hG⟩ := od_magnetCount (G := G) (ad := ad) (o := o) hL
  refine r_VI (pc' := 549) (m' := mX8_magnetCount) (As := []) (st := []) hW dL_law_546 rfl rfl (Nat.le_of_ble_eq_true rfl) ⟨by decide, by decide, (show u.1 + 0 ≤ 603072 by omega), (show u.2 + 0 ≤ 7207018 by omega)⟩ ml_L_162 okX8_magnetCount rfl rfl (by decide) rfl (fun M1 hI => ?_)
  show EV _ _ _ _ _ 549 _ ([.int (v)]) _
  refine e_aload_n (pc' := 550) dL_law_549 rfl rfl rfl ?_
  refine r_VI (pc' := 553) (m' := mX9_magnetCount) (As := []) (st := [.int (v)]) (hG M1 hI) dL_law_550 rfl rfl (Nat.le_of_ble_eq_true rfl) ⟨by decide, by decide, (show u.1 + 0 ≤ 603072 by omega), (show u.2 + 0 ≤ 7207018 by omega)⟩ ml_L_165 okX9_magnetCount rfl rfl (by decide) rfl (fun M2 hL2 => ?_)
  show EV _ _ _ _ _ 553 _ ([.int (v), .int (v)]) _
  refine e_icmp_eq (pc' := 556) (tgt := 2358) dL_law_553 rfl (by decide) (fun hz1 => ?_) (fun hz1 => absurd hz1 (fun q => q rfl))
  refine e_wide (k := u.1 + 1) (n := u.2 + 6) (by omega) (by omega) ?_
  exact kk _ _ hL2
theorem law_6 (hL : LV M) (hi : i + 4 ≤ gL G) (h48 : gL G ≤ 2048) (hu1 : u.1 + 1 ≤ 603072) (hu2 : u.2 + 6 ≤ 7207018) (kk : ∀ M' o', LV M' → EV G room_1 mL_law Qf (u.1 + 1, u.2 + 6) 2358 (LL G ad i) [] (wM G ad (M', o'))) : EV G room_1 mL_law Qf u 558 (LL G ad i) [] (wM G ad (M, o)) := by
  refine e_aload_n (pc' := 559) dL_law_558 rfl rfl rfl ?_
  refine e_aload_n (pc' := 560) dL_law_559 rfl rfl rfl ?_
  refine e_iload (pc' := 562) dL_law_560 rfl rfl ?_
  refine e_iconst (pc' := 563) (v := nI 1) dL_law_562 rfl (by decide) ?_
  refine e_iaddN (pc' := 564) dL_law_563 rfl ?_
  refine e_sld (pc' := 565) (j := i + 1) dL_law_564 rfl rfl (by omega) ?_
  refine e_aload_n (pc' := 566) dL_law_565 rfl rfl rfl ?_
  obtain ⟨k, Fo, I, b, hk, hW, hG, hr⟩ := op_position (G := G) (ad := ad) (o := o) hL (gx G (i + 1))
  refine c_SX (pc' := 569) (m' := mL_position) (As := [.ref (ad 0), .int (gx G (i + 1)), .ref (ad 104)]) (st := []) hW dL_law_566 rfl rfl (Nat.le_of_ble_eq_true rfl) ⟨by decide, by decide, hu1, hu2⟩ ml_L_166 okL_position (List.cons_ne_nil _ _) rfl (fun v2 S2 h => ?_) (fun E2 S2 h => by cases h.1)
  obtain ⟨h3, M1, o1, rfl, hF, hI⟩ := h
  cases h3
  show EV _ _ _ _ (u.1 + 1, u.2 + 6) 569 _ ([.int (nI k)]) _
  refine e_istore (pc' := 571) (L' := [some (.ref (gb G)), some (.ref (ad 0)), some (.ref (ad 96)), some (.ref (ad 104)), some (.ref (ad 105)), some (.int (nI i)), some (.int (nI k)), none, none]) dL_law_569 rfl (by decide) rfl ?_
  refine e_aload_n (pc' := 572) dL_law_571 rfl rfl rfl ?_
  refine e_aload_n (pc' := 573) dL_law_572 rfl rfl rfl ?_
  refine e_iload (pc' := 575) dL_law_573 rfl rfl ?_
  refine e_iconst (pc' := 576) (v := nI 1) dL_law_575 rfl (by decide) ?_
  refine e_iaddN (pc' := 577) dL_law_576 rfl ?_
  refine e_sld (pc' := 578) (j := i + 1) dL_law_577 rfl rfl (by omega) ?_
  refine r_VI (pc' := 581) (m' := mX9_position) (As := [.int (gx G (i + 1))]) (st := []) (hG M1 o1 hI) dL_law_578 rfl rfl (Nat.le_of_ble_eq_true rfl) ⟨by decide, by decide, hu1, hu2⟩ ml_L_168 okX9_position rfl rfl (by decide) rfl (fun M2 hJ => ?_)
  obtain ⟨h8, hL2⟩ := hJ
  show EV _ _ _ _ _ 581 _ ([.int (b)]) _
  refine e_istore (pc' := 583) (L' := [some (.ref (gb G)), some (.ref (ad 0)), some (.ref (ad 96)), some (.ref (ad 104)), some (.ref (ad 105)), some (.int (nI i)), some (.int (nI k)), some (.int (b)), none]) dL_law_581 rfl (by decide) rfl ?_
  refine e_aload_n (pc' := 584) dL_law_583 rfl rfl rfl ?_
  refine r_V (pc' := 587) (m' := mX9_thrown) (As := []) (st := []) (g_thrown (d := 19)) dL_law_584 rfl rfl (Nat.le_of_ble_eq_true rfl) ⟨by decide, by decide, hu1, hu2⟩ ml_L_144 okX9_thrown rfl rfl (by decide) rfl ?_
  rw [h8]
  show EV _ _ _ _ _ 587 _ ([.int (nI k)]) _
  refine e_iload (pc' := 589) dL_law_587 rfl rfl ?_
  refine e_icmp_eqN (pc' := 592) (tgt := 594) dL_law_589 rfl (by decide) (by omega) (by omega) (fun hz1 => ?_) (fun hz1 => absurd hz1 (fun q => q rfl))
  refine e_iload (pc' := 596) dL_law_594 rfl rfl ?_
  refine e_if_neN (pc' := 599) (tgt := 611) dL_law_596 rfl (by decide) (by omega) (fun hk0 => ?_) (fun hk0 => ?_)
  · refine e_goto (tgt := 2358) dL_law_611 (by decide) ?_
    refine e_fg (i := 6) (L' := [some (.ref (gb G)), some (.ref (ad 0)), some (.ref (ad 96)), some (.ref (ad 104)), some (.ref (ad 105)), some (.int (nI i)), none, some (.int (b)), none]) rfl ?_
    refine e_fg (i := 7) (L' := [some (.ref (gb G)), some (.ref (ad 0)), some (.ref (ad 96)), some (.ref (ad 104)), some (.ref (ad 105)), some (.int (nI i)), none, none, none]) rfl ?_
    exact kk _ _ hL2
  · have hr0 : o1.1 0 = (b).toInt64 := hr hk0 o1 hF
    refine e_aload_n (pc' := 600) dL_law_599 rfl rfl rfl ?_
    refine e_iconst (pc' := 601) (v := nI 0) dL_law_600 rfl (by decide) ?_
    refine p_lald (pc' := 602) dL_law_601 rfl ?_
    rw [hr0]
    refine e_iload (pc' := 604) dL_law_602 rfl rfl ?_
    refine e_i2l (pc' := 605) dL_law_604 rfl ?_
    refine e_lcmp (pc' := 606) dL_law_605 rfl ?_
    refine e_if_eq (pc' := 609) (tgt := 611) dL_law_606 rfl (by decide) (fun hz3 => ?_) (fun hz3 => absurd hz3 (fun q => q (lgc _)))
    refine e_goto (tgt := 2358) dL_law_611 (by decide) ?_
    refine e_fg (i := 6) (L' := [some (.ref (gb G)), some (.ref (ad 0)), some (.ref (ad 96)), some (.ref (ad 104)), some (.ref (ad 105)), some (.int (nI i)), none, some (.int (b)), none]) rfl ?_
    refine e_fg (i := 7) (L' := [some (.ref (gb G)), some (.ref (ad 0)), some (.ref (ad 96)), some (.ref (ad 104)), some (.ref (ad 105)), some (.int (nI i)), none, none, none]) rfl ?_
    exact kk _ _ hL2
theorem law_7 (hL : LV M) (hi : i + 4 ≤ gL G) (h48 : gL G ≤ 2048) (hu1 : u.1 + 1 ≤ 603072) (hu2 : u.2 + 6 ≤ 7207018) (kk : ∀ M' o', LV M' → EV G room_1 mL_law Qf (u.1 + 1, u.2 + 6) 2358 (LL G ad i) [] (wM G ad (M', o'))) : EV G room_1 mL_law Qf u 614 (LL G ad i) [] (wM G ad (M, o)) := by
  refine e_aload_n (pc' := 615) dL_law_614 rfl rfl rfl ?_
  refine e_aload_n (pc' := 616) dL_law_615 rfl rfl rfl ?_
  refine e_iload (pc' := 618) dL_law_616 rfl rfl ?_
  refine e_iconst (pc' := 619) (v := nI 1) dL_law_618 rfl (by decide) ?_
  refine e_iaddN (pc' := 620) dL_law_619 rfl ?_
  refine e_sld (pc' := 621) (j := i + 1) dL_law_620 rfl rfl (by omega) ?_
  refine e_aload_n (pc' := 622) dL_law_621 rfl rfl rfl ?_
  obtain ⟨k, Fo, I, b, hk, hW, hG, hr⟩ := op_strength (G := G) (ad := ad) (o := o) hL (gx G (i + 1))
  refine c_SX (pc' := 625) (m' := mL_strength) (As := [.ref (ad 0), .int (gx G (i + 1)), .ref (ad 104)]) (st := []) hW dL_law_622 rfl rfl (Nat.le_of_ble_eq_true rfl) ⟨by decide, by decide, hu1, hu2⟩ ml_L_169 okL_strength (List.cons_ne_nil _ _) rfl (fun v2 S2 h => ?_) (fun E2 S2 h => by cases h.1)
  obtain ⟨h3, M1, o1, rfl, hF, hI⟩ := h
  cases h3
  show EV _ _ _ _ (u.1 + 1, u.2 + 6) 625 _ ([.int (nI k)]) _
  refine e_istore (pc' := 627) (L' := [some (.ref (gb G)), some (.ref (ad 0)), some (.ref (ad 96)), some (.ref (ad 104)), some (.ref (ad 105)), some (.int (nI i)), some (.int (nI k)), none, none]) dL_law_625 rfl (by decide) rfl ?_
  refine e_aload_n (pc' := 628) dL_law_627 rfl rfl rfl ?_
  refine e_aload_n (pc' := 629) dL_law_628 rfl rfl rfl ?_
  refine e_iload (pc' := 631) dL_law_629 rfl rfl ?_
  refine e_iconst (pc' := 632) (v := nI 1) dL_law_631 rfl (by decide) ?_
  refine e_iaddN (pc' := 633) dL_law_632 rfl ?_
  refine e_sld (pc' := 634) (j := i + 1) dL_law_633 rfl rfl (by omega) ?_
  refine r_VI (pc' := 637) (m' := mX9_strength) (As := [.int (gx G (i + 1))]) (st := []) (hG M1 o1 hI) dL_law_634 rfl rfl (Nat.le_of_ble_eq_true rfl) ⟨by decide, by decide, hu1, hu2⟩ ml_L_171 okX9_strength rfl rfl (by decide) rfl (fun M2 hJ => ?_)
  obtain ⟨h8, hL2⟩ := hJ
  show EV _ _ _ _ _ 637 _ ([.int (b)]) _
  refine e_istore (pc' := 639) (L' := [some (.ref (gb G)), some (.ref (ad 0)), some (.ref (ad 96)), some (.ref (ad 104)), some (.ref (ad 105)), some (.int (nI i)), some (.int (nI k)), some (.int (b)), none]) dL_law_637 rfl (by decide) rfl ?_
  refine e_aload_n (pc' := 640) dL_law_639 rfl rfl rfl ?_
  refine r_V (pc' := 643) (m' := mX9_thrown) (As := []) (st := []) (g_thrown (d := 19)) dL_law_640 rfl rfl (Nat.le_of_ble_eq_true rfl) ⟨by decide, by decide, hu1, hu2⟩ ml_L_144 okX9_thrown rfl rfl (by decide) rfl ?_
  rw [h8]
  show EV _ _ _ _ _ 643 _ ([.int (nI k)]) _
  refine e_iload (pc' := 645) dL_law_643 rfl rfl ?_
  refine e_icmp_eqN (pc' := 648) (tgt := 650) dL_law_645 rfl (by decide) (by omega) (by omega) (fun hz1 => ?_) (fun hz1 => absurd hz1 (fun q => q rfl))
  refine e_iload (pc' := 652) dL_law_650 rfl rfl ?_
  refine e_if_neN (pc' := 655) (tgt := 667) dL_law_652 rfl (by decide) (by omega) (fun hk0 => ?_) (fun hk0 => ?_)
  · refine e_goto (tgt := 2358) dL_law_667 (by decide) ?_
    refine e_fg (i := 6) (L' := [some (.ref (gb G)), some (.ref (ad 0)), some (.ref (ad 96)), some (.ref (ad 104)), some (.ref (ad 105)), some (.int (nI i)), none, some (.int (b)), none]) rfl ?_
    refine e_fg (i := 7) (L' := [some (.ref (gb G)), some (.ref (ad 0)), some (.ref (ad 96)), some (.ref (ad 104)), some (.ref (ad 105)), some (.int (nI i)), none, none, none]) rfl ?_
    exact kk _ _ hL2
  · have hr0 : o1.1 0 = (b).toInt64 := hr hk0 o1 hF
    refine e_aload_n (pc' := 656) dL_law_655 rfl rfl rfl ?_
    refine e_iconst (pc' := 657) (v := nI 0) dL_law_656 rfl (by decide) ?_
    refine p_lald (pc' := 658) dL_law_657 rfl ?_
    rw [hr0]
    refine e_iload (pc' := 660) dL_law_658 rfl rfl ?_
    refine e_i2l (pc' := 661) dL_law_660 rfl ?_
    refine e_lcmp (pc' := 662) dL_law_661 rfl ?_
    refine e_if_eq (pc' := 665) (tgt := 667) dL_law_662 rfl (by decide) (fun hz3 => ?_) (fun hz3 => absurd hz3 (fun q => q (lgc _)))
    refine e_goto (tgt := 2358) dL_law_667 (by decide) ?_
    refine e_fg (i := 6) (L' := [some (.ref (gb G)), some (.ref (ad 0)), some (.ref (ad 96)), some (.ref (ad 104)), some (.ref (ad 105)), some (.int (nI i)), none, some (.int (b)), none]) rfl ?_
    refine e_fg (i := 7) (L' := [some (.ref (gb G)), some (.ref (ad 0)), some (.ref (ad 96)), some (.ref (ad 104)), some (.ref (ad 105)), some (.int (nI i)), none, none, none]) rfl ?_
    exact kk _ _ hL2
theorem law_8 (hL : LV M) (hi : i + 4 ≤ gL G) (h48 : gL G ≤ 2048) (hu1 : u.1 + 1 ≤ 603072) (hu2 : u.2 + 6 ≤ 7207018) (kk : ∀ M' o', LV M' → EV G room_1 mL_law Qf (u.1 + 1, u.2 + 6) 2358 (LL G ad i) [] (wM G ad (M', o'))) : EV G room_1 mL_law Qf u 670 (LL G ad i) [] (wM G ad (M, o)) := by
  refine e_aload_n (pc' := 671) dL_law_670 rfl rfl rfl ?_
  refine e_aload_n (pc' := 672) dL_law_671 rfl rfl rfl ?_
  refine e_iload (pc' := 674) dL_law_672 rfl rfl ?_
  refine e_iconst (pc' := 675) (v := nI 1) dL_law_674 rfl (by decide) ?_
  refine e_iaddN (pc' := 676) dL_law_675 rfl ?_
  refine e_sld (pc' := 677) (j := i + 1) dL_law_676 rfl rfl (by omega) ?_
  refine e_aload_n (pc' := 678) dL_law_677 rfl rfl rfl ?_
  obtain ⟨k, Fo, I, b, hk, hW, hG, hr⟩ := op_pole (G := G) (ad := ad) (o := o) hL (gx G (i + 1))
  refine c_SX (pc' := 681) (m' := mL_pole) (As := [.ref (ad 0), .int (gx G (i + 1)), .ref (ad 104)]) (st := []) hW dL_law_678 rfl rfl (Nat.le_of_ble_eq_true rfl) ⟨by decide, by decide, hu1, hu2⟩ ml_L_172 okL_pole (List.cons_ne_nil _ _) rfl (fun v2 S2 h => ?_) (fun E2 S2 h => by cases h.1)
  obtain ⟨h3, M1, o1, rfl, hF, hI⟩ := h
  cases h3
  show EV _ _ _ _ (u.1 + 1, u.2 + 6) 681 _ ([.int (nI k)]) _
  refine e_istore (pc' := 683) (L' := [some (.ref (gb G)), some (.ref (ad 0)), some (.ref (ad 96)), some (.ref (ad 104)), some (.ref (ad 105)), some (.int (nI i)), some (.int (nI k)), none, none]) dL_law_681 rfl (by decide) rfl ?_
  refine e_aload_n (pc' := 684) dL_law_683 rfl rfl rfl ?_
  refine e_aload_n (pc' := 685) dL_law_684 rfl rfl rfl ?_
  refine e_iload (pc' := 687) dL_law_685 rfl rfl ?_
  refine e_iconst (pc' := 688) (v := nI 1) dL_law_687 rfl (by decide) ?_
  refine e_iaddN (pc' := 689) dL_law_688 rfl ?_
  refine e_sld (pc' := 690) (j := i + 1) dL_law_689 rfl rfl (by omega) ?_
  refine r_VI (pc' := 693) (m' := mX9_pole) (As := [.int (gx G (i + 1))]) (st := []) (hG M1 o1 hI) dL_law_690 rfl rfl (Nat.le_of_ble_eq_true rfl) ⟨by decide, by decide, hu1, hu2⟩ ml_L_174 okX9_pole rfl rfl (by decide) rfl (fun M2 hJ => ?_)
  obtain ⟨h8, hL2⟩ := hJ
  show EV _ _ _ _ _ 693 _ ([.int (b)]) _
  refine e_istore (pc' := 695) (L' := [some (.ref (gb G)), some (.ref (ad 0)), some (.ref (ad 96)), some (.ref (ad 104)), some (.ref (ad 105)), some (.int (nI i)), some (.int (nI k)), some (.int (b)), none]) dL_law_693 rfl (by decide) rfl ?_
  refine e_aload_n (pc' := 696) dL_law_695 rfl rfl rfl ?_
  refine r_V (pc' := 699) (m' := mX9_thrown) (As := []) (st := []) (g_thrown (d := 19)) dL_law_696 rfl rfl (Nat.le_of_ble_eq_true rfl) ⟨by decide, by decide, hu1, hu2⟩ ml_L_144 okX9_thrown rfl rfl (by decide) rfl ?_
  rw [h8]
  show EV _ _ _ _ _ 699 _ ([.int (nI k)]) _
  refine e_iload (pc' := 701) dL_law_699 rfl rfl ?_
  refine e_icmp_eqN (pc' := 704) (tgt := 706) dL_law_701 rfl (by decide) (by omega) (by omega) (fun hz1 => ?_) (fun hz1 => absurd hz1 (fun q => q rfl))
  refine e_iload (pc' := 708) dL_law_706 rfl rfl ?_
  refine e_if_neN (pc' := 711) (tgt := 723) dL_law_708 rfl (by decide) (by omega) (fun hk0 => ?_) (fun hk0 => ?_)
  · refine e_goto (tgt := 2358) dL_law_723 (by decide) ?_
    refine e_fg (i := 6) (L' := [some (.ref (gb G)), some (.ref (ad 0)), some (.ref (ad 96)), some (.ref (ad 104)), some (.ref (ad 105)), some (.int (nI i)), none, some (.int (b)), none]) rfl ?_
    refine e_fg (i := 7) (L' := [some (.ref (gb G)), some (.ref (ad 0)), some (.ref (ad 96)), some (.ref (ad 104)), some (.ref (ad 105)), some (.int (nI i)), none, none, none]) rfl ?_
    exact kk _ _ hL2
  · have hr0 : o1.1 0 = (b).toInt64 := hr hk0 o1 hF
    refine e_aload_n (pc' := 712) dL_law_711 rfl rfl rfl ?_
    refine e_iconst (pc' := 713) (v := nI 0) dL_law_712 rfl (by decide) ?_
    refine p_lald (pc' := 714) dL_law_713 rfl ?_
    rw [hr0]
    refine e_iload (pc' := 716) dL_law_714 rfl rfl ?_
    refine e_i2l (pc' := 717) dL_law_716 rfl ?_
    refine e_lcmp (pc' := 718) dL_law_717 rfl ?_
    refine e_if_eq (pc' := 721) (tgt := 723) dL_law_718 rfl (by decide) (fun hz3 => ?_) (fun hz3 => absurd hz3 (fun q => q (lgc _)))
    refine e_goto (tgt := 2358) dL_law_723 (by decide) ?_
    refine e_fg (i := 6) (L' := [some (.ref (gb G)), some (.ref (ad 0)), some (.ref (ad 96)), some (.ref (ad 104)), some (.ref (ad 105)), some (.int (nI i)), none, some (.int (b)), none]) rfl ?_
    refine e_fg (i := 7) (L' := [some (.ref (gb G)), some (.ref (ad 0)), some (.ref (ad 96)), some (.ref (ad 104)), some (.ref (ad 105)), some (.int (nI i)), none, none, none]) rfl ?_
    exact kk _ _ hL2
theorem law_9 (hL : LV M) (hi : i + 4 ≤ gL G) (h48 : gL G ≤ 2048) (hu1 : u.1 + 1 ≤ 603072) (hu2 : u.2 + 6 ≤ 7207018) (kk : ∀ M' o', LV M' → EV G room_1 mL_law Qf (u.1 + 1, u.2 + 6) 2358 (LL G ad i) [] (wM G ad (M', o'))) : EV G room_1 mL_law Qf u 726 (LL G ad i) [] (wM G ad (M, o)) := by
  refine e_aload_n (pc' := 727) dL_law_726 rfl rfl rfl ?_
  refine e_aload_n (pc' := 728) dL_law_727 rfl rfl rfl ?_
  refine e_iload (pc' := 730) dL_law_728 rfl rfl ?_
  refine e_iconst (pc' := 731) (v := nI 1) dL_law_730 rfl (by decide) ?_
  refine e_iaddN (pc' := 732) dL_law_731 rfl ?_
  refine e_sld (pc' := 733) (j := i + 1) dL_law_732 rfl rfl (by omega) ?_
  refine e_aload_n (pc' := 734) dL_law_733 rfl rfl rfl ?_
  obtain ⟨k, Fo, I, b, hk, hW, hG, hr⟩ := op_magnetAt (G := G) (ad := ad) (o := o) hL (gx G (i + 1))
  refine c_SX (pc' := 737) (m' := mL_magnetAt) (As := [.ref (ad 0), .int (gx G (i + 1)), .ref (ad 104)]) (st := []) hW dL_law_734 rfl rfl (Nat.le_of_ble_eq_true rfl) ⟨by decide, by decide, hu1, hu2⟩ ml_L_175 okL_magnetAt (List.cons_ne_nil _ _) rfl (fun v2 S2 h => ?_) (fun E2 S2 h => by cases h.1)
  obtain ⟨h3, M1, o1, rfl, hF, hI⟩ := h
  cases h3
  show EV _ _ _ _ (u.1 + 1, u.2 + 6) 737 _ ([.int (nI k)]) _
  refine e_istore (pc' := 739) (L' := [some (.ref (gb G)), some (.ref (ad 0)), some (.ref (ad 96)), some (.ref (ad 104)), some (.ref (ad 105)), some (.int (nI i)), some (.int (nI k)), none, none]) dL_law_737 rfl (by decide) rfl ?_
  refine e_aload_n (pc' := 740) dL_law_739 rfl rfl rfl ?_
  refine e_aload_n (pc' := 741) dL_law_740 rfl rfl rfl ?_
  refine e_iload (pc' := 743) dL_law_741 rfl rfl ?_
  refine e_iconst (pc' := 744) (v := nI 1) dL_law_743 rfl (by decide) ?_
  refine e_iaddN (pc' := 745) dL_law_744 rfl ?_
  refine e_sld (pc' := 746) (j := i + 1) dL_law_745 rfl rfl (by omega) ?_
  refine r_VI (pc' := 749) (m' := mX9_magnetAt) (As := [.int (gx G (i + 1))]) (st := []) (hG M1 o1 hI) dL_law_746 rfl rfl (Nat.le_of_ble_eq_true rfl) ⟨by decide, by decide, hu1, hu2⟩ ml_L_177 okX9_magnetAt rfl rfl (by decide) rfl (fun M2 hJ => ?_)
  obtain ⟨h8, hL2⟩ := hJ
  show EV _ _ _ _ _ 749 _ ([.int (b)]) _
  refine e_istore (pc' := 751) (L' := [some (.ref (gb G)), some (.ref (ad 0)), some (.ref (ad 96)), some (.ref (ad 104)), some (.ref (ad 105)), some (.int (nI i)), some (.int (nI k)), some (.int (b)), none]) dL_law_749 rfl (by decide) rfl ?_
  refine e_aload_n (pc' := 752) dL_law_751 rfl rfl rfl ?_
  refine r_V (pc' := 755) (m' := mX9_thrown) (As := []) (st := []) (g_thrown (d := 19)) dL_law_752 rfl rfl (Nat.le_of_ble_eq_true rfl) ⟨by decide, by decide, hu1, hu2⟩ ml_L_144 okX9_thrown rfl rfl (by decide) rfl ?_
  rw [h8]
  show EV _ _ _ _ _ 755 _ ([.int (nI k)]) _
  refine e_iload (pc' := 757) dL_law_755 rfl rfl ?_
  refine e_icmp_eqN (pc' := 760) (tgt := 762) dL_law_757 rfl (by decide) (by omega) (by omega) (fun hz1 => ?_) (fun hz1 => absurd hz1 (fun q => q rfl))
  refine e_iload (pc' := 764) dL_law_762 rfl rfl ?_
  refine e_if_neN (pc' := 767) (tgt := 779) dL_law_764 rfl (by decide) (by omega) (fun hk0 => ?_) (fun hk0 => ?_)
  · refine e_goto (tgt := 2358) dL_law_779 (by decide) ?_
    refine e_fg (i := 6) (L' := [some (.ref (gb G)), some (.ref (ad 0)), some (.ref (ad 96)), some (.ref (ad 104)), some (.ref (ad 105)), some (.int (nI i)), none, some (.int (b)), none]) rfl ?_
    refine e_fg (i := 7) (L' := [some (.ref (gb G)), some (.ref (ad 0)), some (.ref (ad 96)), some (.ref (ad 104)), some (.ref (ad 105)), some (.int (nI i)), none, none, none]) rfl ?_
    exact kk _ _ hL2
  · have hr0 : o1.1 0 = (b).toInt64 := hr hk0 o1 hF
    refine e_aload_n (pc' := 768) dL_law_767 rfl rfl rfl ?_
    refine e_iconst (pc' := 769) (v := nI 0) dL_law_768 rfl (by decide) ?_
    refine p_lald (pc' := 770) dL_law_769 rfl ?_
    rw [hr0]
    refine e_iload (pc' := 772) dL_law_770 rfl rfl ?_
    refine e_i2l (pc' := 773) dL_law_772 rfl ?_
    refine e_lcmp (pc' := 774) dL_law_773 rfl ?_
    refine e_if_eq (pc' := 777) (tgt := 779) dL_law_774 rfl (by decide) (fun hz3 => ?_) (fun hz3 => absurd hz3 (fun q => q (lgc _)))
    refine e_goto (tgt := 2358) dL_law_779 (by decide) ?_
    refine e_fg (i := 6) (L' := [some (.ref (gb G)), some (.ref (ad 0)), some (.ref (ad 96)), some (.ref (ad 104)), some (.ref (ad 105)), some (.int (nI i)), none, some (.int (b)), none]) rfl ?_
    refine e_fg (i := 7) (L' := [some (.ref (gb G)), some (.ref (ad 0)), some (.ref (ad 96)), some (.ref (ad 104)), some (.ref (ad 105)), some (.int (nI i)), none, none, none]) rfl ?_
    exact kk _ _ hL2
theorem law_10 (hL : LV M) (hi : i + 4 ≤ gL G) (h48 : gL G ≤ 2048) (hu1 : u.1 + 1 ≤ 603072) (hu2 : u.2 + 6 ≤ 7207018) (kk : ∀ M' o', LV M' → EV G room_1 mL_law Qf (u.1 + 1, u.2 + 6) 2358 (LL G ad i) [] (wM G ad (M', o'))) : EV G room_1 mL_law Qf u 782 (LL G ad i) [] (wM G ad (M, o)) := by
  refine e_aload_n (pc' := 783) dL_law_782 rfl rfl rfl ?_
  refine e_aload_n (pc' := 784) dL_law_783 rfl rfl rfl ?_
  refine e_iload (pc' := 786) dL_law_784 rfl rfl ?_
  refine e_iconst (pc' := 787) (v := nI 1) dL_law_786 rfl (by decide) ?_
  refine e_iaddN (pc' := 788) dL_law_787 rfl ?_
  refine e_sld (pc' := 789) (j := i + 1) dL_law_788 rfl rfl (by omega) ?_
  refine e_aload_n (pc' := 790) dL_law_789 rfl rfl rfl ?_
  obtain ⟨k, Fo, I, b, hk, hW, hG, hr⟩ := op_magnetByStrength (G := G) (ad := ad) (o := o) hL (gx G (i + 1))
  refine c_SX (pc' := 793) (m' := mL_magnetByStrength) (As := [.ref (ad 0), .int (gx G (i + 1)), .ref (ad 104)]) (st := []) hW dL_law_790 rfl rfl (Nat.le_of_ble_eq_true rfl) ⟨by decide, by decide, hu1, hu2⟩ ml_L_178 okL_magnetByStrength (List.cons_ne_nil _ _) rfl (fun v2 S2 h => ?_) (fun E2 S2 h => by cases h.1)
  obtain ⟨h3, M1, o1, rfl, hF, hI⟩ := h
  cases h3
  show EV _ _ _ _ (u.1 + 1, u.2 + 6) 793 _ ([.int (nI k)]) _
  refine e_istore (pc' := 795) (L' := [some (.ref (gb G)), some (.ref (ad 0)), some (.ref (ad 96)), some (.ref (ad 104)), some (.ref (ad 105)), some (.int (nI i)), some (.int (nI k)), none, none]) dL_law_793 rfl (by decide) rfl ?_
  refine e_aload_n (pc' := 796) dL_law_795 rfl rfl rfl ?_
  refine e_aload_n (pc' := 797) dL_law_796 rfl rfl rfl ?_
  refine e_iload (pc' := 799) dL_law_797 rfl rfl ?_
  refine e_iconst (pc' := 800) (v := nI 1) dL_law_799 rfl (by decide) ?_
  refine e_iaddN (pc' := 801) dL_law_800 rfl ?_
  refine e_sld (pc' := 802) (j := i + 1) dL_law_801 rfl rfl (by omega) ?_
  refine r_VI (pc' := 805) (m' := mX9_magnetByStrength) (As := [.int (gx G (i + 1))]) (st := []) (hG M1 o1 hI) dL_law_802 rfl rfl (Nat.le_of_ble_eq_true rfl) ⟨by decide, by decide, hu1, hu2⟩ ml_L_180 okX9_magnetByStrength rfl rfl (by decide) rfl (fun M2 hJ => ?_)
  obtain ⟨h8, hL2⟩ := hJ
  show EV _ _ _ _ _ 805 _ ([.int (b)]) _
  refine e_istore (pc' := 807) (L' := [some (.ref (gb G)), some (.ref (ad 0)), some (.ref (ad 96)), some (.ref (ad 104)), some (.ref (ad 105)), some (.int (nI i)), some (.int (nI k)), some (.int (b)), none]) dL_law_805 rfl (by decide) rfl ?_
  refine e_aload_n (pc' := 808) dL_law_807 rfl rfl rfl ?_
  refine r_V (pc' := 811) (m' := mX9_thrown) (As := []) (st := []) (g_thrown (d := 19)) dL_law_808 rfl rfl (Nat.le_of_ble_eq_true rfl) ⟨by decide, by decide, hu1, hu2⟩ ml_L_144 okX9_thrown rfl rfl (by decide) rfl ?_
  rw [h8]
  show EV _ _ _ _ _ 811 _ ([.int (nI k)]) _
  refine e_iload (pc' := 813) dL_law_811 rfl rfl ?_
  refine e_icmp_eqN (pc' := 816) (tgt := 818) dL_law_813 rfl (by decide) (by omega) (by omega) (fun hz1 => ?_) (fun hz1 => absurd hz1 (fun q => q rfl))
  refine e_iload (pc' := 820) dL_law_818 rfl rfl ?_
  refine e_if_neN (pc' := 823) (tgt := 835) dL_law_820 rfl (by decide) (by omega) (fun hk0 => ?_) (fun hk0 => ?_)
  · refine e_goto (tgt := 2358) dL_law_835 (by decide) ?_
    refine e_fg (i := 6) (L' := [some (.ref (gb G)), some (.ref (ad 0)), some (.ref (ad 96)), some (.ref (ad 104)), some (.ref (ad 105)), some (.int (nI i)), none, some (.int (b)), none]) rfl ?_
    refine e_fg (i := 7) (L' := [some (.ref (gb G)), some (.ref (ad 0)), some (.ref (ad 96)), some (.ref (ad 104)), some (.ref (ad 105)), some (.int (nI i)), none, none, none]) rfl ?_
    exact kk _ _ hL2
  · have hr0 : o1.1 0 = (b).toInt64 := hr hk0 o1 hF
    refine e_aload_n (pc' := 824) dL_law_823 rfl rfl rfl ?_
    refine e_iconst (pc' := 825) (v := nI 0) dL_law_824 rfl (by decide) ?_
    refine p_lald (pc' := 826) dL_law_825 rfl ?_
    rw [hr0]
    refine e_iload (pc' := 828) dL_law_826 rfl rfl ?_
    refine e_i2l (pc' := 829) dL_law_828 rfl ?_
    refine e_lcmp (pc' := 830) dL_law_829 rfl ?_
    refine e_if_eq (pc' := 833) (tgt := 835) dL_law_830 rfl (by decide) (fun hz3 => ?_) (fun hz3 => absurd hz3 (fun q => q (lgc _)))
    refine e_goto (tgt := 2358) dL_law_835 (by decide) ?_
    refine e_fg (i := 6) (L' := [some (.ref (gb G)), some (.ref (ad 0)), some (.ref (ad 96)), some (.ref (ad 104)), some (.ref (ad 105)), some (.int (nI i)), none, some (.int (b)), none]) rfl ?_
    refine e_fg (i := 7) (L' := [some (.ref (gb G)), some (.ref (ad 0)), some (.ref (ad 96)), some (.ref (ad 104)), some (.ref (ad 105)), some (.int (nI i)), none, none, none]) rfl ?_
    exact kk _ _ hL2
theorem law_11 (hL : LV M) (hi : i + 4 ≤ gL G) (h48 : gL G ≤ 2048) (hu1 : u.1 + 1 ≤ 603072) (hu2 : u.2 + 6 ≤ 7207018) (kk : ∀ M' o', LV M' → EV G room_1 mL_law Qf (u.1 + 1, u.2 + 6) 2358 (LL G ad i) [] (wM G ad (M', o'))) : EV G room_1 mL_law Qf u 838 (LL G ad i) [] (wM G ad (M, o)) := by
  refine e_aload_n (pc' := 839) dL_law_838 rfl rfl rfl ?_
  refine e_aload_n (pc' := 840) dL_law_839 rfl rfl rfl ?_
  refine e_iload (pc' := 842) dL_law_840 rfl rfl ?_
  refine e_iconst (pc' := 843) (v := nI 1) dL_law_842 rfl (by decide) ?_
  refine e_iaddN (pc' := 844) dL_law_843 rfl ?_
  refine e_sld (pc' := 845) (j := i + 1) dL_law_844 rfl rfl (by omega) ?_
  refine e_aload_n (pc' := 846) dL_law_845 rfl rfl rfl ?_
  refine e_iload (pc' := 848) dL_law_846 rfl rfl ?_
  refine e_iconst (pc' := 849) (v := nI 2) dL_law_848 rfl (by decide) ?_
  refine e_iaddN (pc' := 850) dL_law_849 rfl ?_
  refine e_sld (pc' := 851) (j := i + 2) dL_law_850 rfl rfl (by omega) ?_
  refine e_aload_n (pc' := 852) dL_law_851 rfl rfl rfl ?_
  obtain ⟨k, Fo, I, b, hk, hW, hG, hr⟩ := op_dig (G := G) (ad := ad) (o := o) hL (gx G (i + 1)) (gx G (i + 2))
  refine c_SX (pc' := 855) (m' := mL_dig) (As := [.ref (ad 0), .int (gx G (i + 1)), .int (gx G (i + 2)), .ref (ad 104)]) (st := []) hW dL_law_852 rfl rfl (Nat.le_of_ble_eq_true rfl) ⟨by decide, by decide, hu1, hu2⟩ ml_L_181 okL_dig (List.cons_ne_nil _ _) rfl (fun v2 S2 h => ?_) (fun E2 S2 h => by cases h.1)
  obtain ⟨h3, M1, o1, rfl, hF, hI⟩ := h
  cases h3
  show EV _ _ _ _ (u.1 + 1, u.2 + 6) 855 _ ([.int (nI k)]) _
  refine e_istore (pc' := 857) (L' := [some (.ref (gb G)), some (.ref (ad 0)), some (.ref (ad 96)), some (.ref (ad 104)), some (.ref (ad 105)), some (.int (nI i)), some (.int (nI k)), none, none]) dL_law_855 rfl (by decide) rfl ?_
  refine e_aload_n (pc' := 858) dL_law_857 rfl rfl rfl ?_
  refine e_aload_n (pc' := 859) dL_law_858 rfl rfl rfl ?_
  refine e_iload (pc' := 861) dL_law_859 rfl rfl ?_
  refine e_iconst (pc' := 862) (v := nI 1) dL_law_861 rfl (by decide) ?_
  refine e_iaddN (pc' := 863) dL_law_862 rfl ?_
  refine e_sld (pc' := 864) (j := i + 1) dL_law_863 rfl rfl (by omega) ?_
  refine e_aload_n (pc' := 865) dL_law_864 rfl rfl rfl ?_
  refine e_iload (pc' := 867) dL_law_865 rfl rfl ?_
  refine e_iconst (pc' := 868) (v := nI 2) dL_law_867 rfl (by decide) ?_
  refine e_iaddN (pc' := 869) dL_law_868 rfl ?_
  refine e_sld (pc' := 870) (j := i + 2) dL_law_869 rfl rfl (by omega) ?_
  refine r_VI (pc' := 873) (m' := mX9_dig) (As := [.int (gx G (i + 1)), .int (gx G (i + 2))]) (st := []) (hG M1 o1 hI) dL_law_870 rfl rfl (Nat.le_of_ble_eq_true rfl) ⟨by decide, by decide, hu1, hu2⟩ ml_L_183 okX9_dig rfl rfl (by decide) rfl (fun M2 hJ => ?_)
  obtain ⟨h8, hL2⟩ := hJ
  show EV _ _ _ _ _ 873 _ ([.int (b)]) _
  refine e_istore (pc' := 875) (L' := [some (.ref (gb G)), some (.ref (ad 0)), some (.ref (ad 96)), some (.ref (ad 104)), some (.ref (ad 105)), some (.int (nI i)), some (.int (nI k)), some (.int (b)), none]) dL_law_873 rfl (by decide) rfl ?_
  refine e_aload_n (pc' := 876) dL_law_875 rfl rfl rfl ?_
  refine r_V (pc' := 879) (m' := mX9_thrown) (As := []) (st := []) (g_thrown (d := 19)) dL_law_876 rfl rfl (Nat.le_of_ble_eq_true rfl) ⟨by decide, by decide, hu1, hu2⟩ ml_L_144 okX9_thrown rfl rfl (by decide) rfl ?_
  rw [h8]
  show EV _ _ _ _ _ 879 _ ([.int (nI k)]) _
  refine e_iload (pc' := 881) dL_law_879 rfl rfl ?_
  refine e_icmp_eqN (pc' := 884) (tgt := 886) dL_law_881 rfl (by decide) (by omega) (by omega) (fun hz1 => ?_) (fun hz1 => absurd hz1 (fun q => q rfl))
  refine e_iload (pc' := 888) dL_law_886 rfl rfl ?_
  refine e_if_neN (pc' := 891) (tgt := 903) dL_law_888 rfl (by decide) (by omega) (fun hk0 => ?_) (fun hk0 => ?_)
  · refine e_goto (tgt := 2358) dL_law_903 (by decide) ?_
    refine e_fg (i := 6) (L' := [some (.ref (gb G)), some (.ref (ad 0)), some (.ref (ad 96)), some (.ref (ad 104)), some (.ref (ad 105)), some (.int (nI i)), none, some (.int (b)), none]) rfl ?_
    refine e_fg (i := 7) (L' := [some (.ref (gb G)), some (.ref (ad 0)), some (.ref (ad 96)), some (.ref (ad 104)), some (.ref (ad 105)), some (.int (nI i)), none, none, none]) rfl ?_
    exact kk _ _ hL2
  · have hr0 : o1.1 0 = (b).toInt64 := hr hk0 o1 hF
    refine e_aload_n (pc' := 892) dL_law_891 rfl rfl rfl ?_
    refine e_iconst (pc' := 893) (v := nI 0) dL_law_892 rfl (by decide) ?_
    refine p_lald (pc' := 894) dL_law_893 rfl ?_
    rw [hr0]
    refine e_iload (pc' := 896) dL_law_894 rfl rfl ?_
    refine e_i2l (pc' := 897) dL_law_896 rfl ?_
    refine e_lcmp (pc' := 898) dL_law_897 rfl ?_
    refine e_if_eq (pc' := 901) (tgt := 903) dL_law_898 rfl (by decide) (fun hz3 => ?_) (fun hz3 => absurd hz3 (fun q => q (lgc _)))
    refine e_goto (tgt := 2358) dL_law_903 (by decide) ?_
    refine e_fg (i := 6) (L' := [some (.ref (gb G)), some (.ref (ad 0)), some (.ref (ad 96)), some (.ref (ad 104)), some (.ref (ad 105)), some (.int (nI i)), none, some (.int (b)), none]) rfl ?_
    refine e_fg (i := 7) (L' := [some (.ref (gb G)), some (.ref (ad 0)), some (.ref (ad 96)), some (.ref (ad 104)), some (.ref (ad 105)), some (.int (nI i)), none, none, none]) rfl ?_
    exact kk _ _ hL2
theorem law_12 (hL : LV M) (hi : i + 4 ≤ gL G) (h48 : gL G ≤ 2048) (hu1 : u.1 + 1 ≤ 603072) (hu2 : u.2 + 6 ≤ 7207018) (kk : ∀ M' o', LV M' → EV G room_1 mL_law Qf (u.1 + 1, u.2 + 6) 2358 (LL G ad i) [] (wM G ad (M', o'))) : EV G room_1 mL_law Qf u 906 (LL G ad i) [] (wM G ad (M, o)) := by
  refine e_aload_n (pc' := 907) dL_law_906 rfl rfl rfl ?_
  refine e_aload_n (pc' := 908) dL_law_907 rfl rfl rfl ?_
  refine e_iload (pc' := 910) dL_law_908 rfl rfl ?_
  refine e_iconst (pc' := 911) (v := nI 1) dL_law_910 rfl (by decide) ?_
  refine e_iaddN (pc' := 912) dL_law_911 rfl ?_
  refine e_sld (pc' := 913) (j := i + 1) dL_law_912 rfl rfl (by omega) ?_
  refine e_aload_n (pc' := 914) dL_law_913 rfl rfl rfl ?_
  obtain ⟨k, Fo, I, b, hk, hW, hG, hr⟩ := op_fill (G := G) (ad := ad) (o := o) hL (gx G (i + 1))
  refine c_SX (pc' := 917) (m' := mL_fill) (As := [.ref (ad 0), .int (gx G (i + 1)), .ref (ad 104)]) (st := []) hW dL_law_914 rfl rfl (Nat.le_of_ble_eq_true rfl) ⟨by decide, by decide, hu1, hu2⟩ ml_L_184 okL_fill (List.cons_ne_nil _ _) rfl (fun v2 S2 h => ?_) (fun E2 S2 h => by cases h.1)
  obtain ⟨h3, M1, o1, rfl, hF, hI⟩ := h
  cases h3
  show EV _ _ _ _ (u.1 + 1, u.2 + 6) 917 _ ([.int (nI k)]) _
  refine e_istore (pc' := 919) (L' := [some (.ref (gb G)), some (.ref (ad 0)), some (.ref (ad 96)), some (.ref (ad 104)), some (.ref (ad 105)), some (.int (nI i)), some (.int (nI k)), none, none]) dL_law_917 rfl (by decide) rfl ?_
  refine e_aload_n (pc' := 920) dL_law_919 rfl rfl rfl ?_
  refine e_aload_n (pc' := 921) dL_law_920 rfl rfl rfl ?_
  refine e_iload (pc' := 923) dL_law_921 rfl rfl ?_
  refine e_iconst (pc' := 924) (v := nI 1) dL_law_923 rfl (by decide) ?_
  refine e_iaddN (pc' := 925) dL_law_924 rfl ?_
  refine e_sld (pc' := 926) (j := i + 1) dL_law_925 rfl rfl (by omega) ?_
  refine r_VI (pc' := 929) (m' := mX9_fill) (As := [.int (gx G (i + 1))]) (st := []) (hG M1 o1 hI) dL_law_926 rfl rfl (Nat.le_of_ble_eq_true rfl) ⟨by decide, by decide, hu1, hu2⟩ ml_L_186 okX9_fill rfl rfl (by decide) rfl (fun M2 hJ => ?_)
  obtain ⟨h8, hL2⟩ := hJ
  show EV _ _ _ _ _ 929 _ ([.int (b)]) _
  refine e_istore (pc' := 931) (L' := [some (.ref (gb G)), some (.ref (ad 0)), some (.ref (ad 96)), some (.ref (ad 104)), some (.ref (ad 105)), some (.int (nI i)), some (.int (nI k)), some (.int (b)), none]) dL_law_929 rfl (by decide) rfl ?_
  refine e_aload_n (pc' := 932) dL_law_931 rfl rfl rfl ?_
  refine r_V (pc' := 935) (m' := mX9_thrown) (As := []) (st := []) (g_thrown (d := 19)) dL_law_932 rfl rfl (Nat.le_of_ble_eq_true rfl) ⟨by decide, by decide, hu1, hu2⟩ ml_L_144 okX9_thrown rfl rfl (by decide) rfl ?_
  rw [h8]
  show EV _ _ _ _ _ 935 _ ([.int (nI k)]) _
  refine e_iload (pc' := 937) dL_law_935 rfl rfl ?_
  refine e_icmp_eqN (pc' := 940) (tgt := 942) dL_law_937 rfl (by decide) (by omega) (by omega) (fun hz1 => ?_) (fun hz1 => absurd hz1 (fun q => q rfl))
  refine e_iload (pc' := 944) dL_law_942 rfl rfl ?_
  refine e_if_neN (pc' := 947) (tgt := 959) dL_law_944 rfl (by decide) (by omega) (fun hk0 => ?_) (fun hk0 => ?_)
  · refine e_goto (tgt := 2358) dL_law_959 (by decide) ?_
    refine e_fg (i := 6) (L' := [some (.ref (gb G)), some (.ref (ad 0)), some (.ref (ad 96)), some (.ref (ad 104)), some (.ref (ad 105)), some (.int (nI i)), none, some (.int (b)), none]) rfl ?_
    refine e_fg (i := 7) (L' := [some (.ref (gb G)), some (.ref (ad 0)), some (.ref (ad 96)), some (.ref (ad 104)), some (.ref (ad 105)), some (.int (nI i)), none, none, none]) rfl ?_
    exact kk _ _ hL2
  · have hr0 : o1.1 0 = (b).toInt64 := hr hk0 o1 hF
    refine e_aload_n (pc' := 948) dL_law_947 rfl rfl rfl ?_
    refine e_iconst (pc' := 949) (v := nI 0) dL_law_948 rfl (by decide) ?_
    refine p_lald (pc' := 950) dL_law_949 rfl ?_
    rw [hr0]
    refine e_iload (pc' := 952) dL_law_950 rfl rfl ?_
    refine e_i2l (pc' := 953) dL_law_952 rfl ?_
    refine e_lcmp (pc' := 954) dL_law_953 rfl ?_
    refine e_if_eq (pc' := 957) (tgt := 959) dL_law_954 rfl (by decide) (fun hz3 => ?_) (fun hz3 => absurd hz3 (fun q => q (lgc _)))
    refine e_goto (tgt := 2358) dL_law_959 (by decide) ?_
    refine e_fg (i := 6) (L' := [some (.ref (gb G)), some (.ref (ad 0)), some (.ref (ad 96)), some (.ref (ad 104)), some (.ref (ad 105)), some (.int (nI i)), none, some (.int (b)), none]) rfl ?_
    refine e_fg (i := 7) (L' := [some (.ref (gb G)), some (.ref (ad 0)), some (.ref (ad 96)), some (.ref (ad 104)), some (.ref (ad 105)), some (.int (nI i)), none, none, none]) rfl ?_
    exact kk _ _ hL2
theorem law_13 (hL : LV M) (hi : i + 4 ≤ gL G) (h48 : gL G ≤ 2048) (hu1 : u.1 + 1 ≤ 603072) (hu2 : u.2 + 6 ≤ 7207018) (kk : ∀ M' o', LV M' → EV G room_1 mL_law Qf (u.1 + 1, u.2 + 6) 2358 (LL G ad i) [] (wM G ad (M', o'))) : EV G room_1 mL_law Qf u 962 (LL G ad i) [] (wM G ad (M, o)) := by
  refine e_aload_n (pc' := 963) dL_law_962 rfl rfl rfl ?_
  refine e_aload_n (pc' := 964) dL_law_963 rfl rfl rfl ?_
  obtain ⟨k, Fo, I, b, hk, hW, hG, hr⟩ := op_settle (G := G) (ad := ad) (o := o) hL 
  refine c_SX (pc' := 967) (m' := mL_settle) (As := [.ref (ad 0), .ref (ad 104)]) (st := []) hW dL_law_964 rfl rfl (Nat.le_of_ble_eq_true rfl) ⟨by decide, by decide, hu1, hu2⟩ ml_L_187 okL_settle (List.cons_ne_nil _ _) rfl (fun v2 S2 h => ?_) (fun E2 S2 h => by cases h.1)
  obtain ⟨h3, M1, o1, rfl, hF, hI⟩ := h
  cases h3
  show EV _ _ _ _ (u.1 + 1, u.2 + 6) 967 _ ([.int (nI k)]) _
  refine e_istore (pc' := 969) (L' := [some (.ref (gb G)), some (.ref (ad 0)), some (.ref (ad 96)), some (.ref (ad 104)), some (.ref (ad 105)), some (.int (nI i)), some (.int (nI k)), none, none]) dL_law_967 rfl (by decide) rfl ?_
  refine e_aload_n (pc' := 970) dL_law_969 rfl rfl rfl ?_
  refine r_VI (pc' := 973) (m' := mX9_settle) (As := []) (st := []) (hG M1 o1 hI) dL_law_970 rfl rfl (Nat.le_of_ble_eq_true rfl) ⟨by decide, by decide, hu1, hu2⟩ ml_L_190 okX9_settle rfl rfl (by decide) rfl (fun M2 hJ => ?_)
  obtain ⟨h8, hL2⟩ := hJ
  show EV _ _ _ _ _ 973 _ ([.int (b)]) _
  refine e_istore (pc' := 975) (L' := [some (.ref (gb G)), some (.ref (ad 0)), some (.ref (ad 96)), some (.ref (ad 104)), some (.ref (ad 105)), some (.int (nI i)), some (.int (nI k)), some (.int (b)), none]) dL_law_973 rfl (by decide) rfl ?_
  refine e_aload_n (pc' := 976) dL_law_975 rfl rfl rfl ?_
  refine r_V (pc' := 979) (m' := mX9_thrown) (As := []) (st := []) (g_thrown (d := 19)) dL_law_976 rfl rfl (Nat.le_of_ble_eq_true rfl) ⟨by decide, by decide, hu1, hu2⟩ ml_L_144 okX9_thrown rfl rfl (by decide) rfl ?_
  rw [h8]
  show EV _ _ _ _ _ 979 _ ([.int (nI k)]) _
  refine e_iload (pc' := 981) dL_law_979 rfl rfl ?_
  refine e_icmp_eqN (pc' := 984) (tgt := 986) dL_law_981 rfl (by decide) (by omega) (by omega) (fun hz1 => ?_) (fun hz1 => absurd hz1 (fun q => q rfl))
  refine e_iload (pc' := 988) dL_law_986 rfl rfl ?_
  refine e_if_neN (pc' := 991) (tgt := 1003) dL_law_988 rfl (by decide) (by omega) (fun hk0 => ?_) (fun hk0 => ?_)
  · refine e_goto (tgt := 2358) dL_law_1003 (by decide) ?_
    refine e_fg (i := 6) (L' := [some (.ref (gb G)), some (.ref (ad 0)), some (.ref (ad 96)), some (.ref (ad 104)), some (.ref (ad 105)), some (.int (nI i)), none, some (.int (b)), none]) rfl ?_
    refine e_fg (i := 7) (L' := [some (.ref (gb G)), some (.ref (ad 0)), some (.ref (ad 96)), some (.ref (ad 104)), some (.ref (ad 105)), some (.int (nI i)), none, none, none]) rfl ?_
    exact kk _ _ hL2
  · have hr0 : o1.1 0 = (b).toInt64 := hr hk0 o1 hF
    refine e_aload_n (pc' := 992) dL_law_991 rfl rfl rfl ?_
    refine e_iconst (pc' := 993) (v := nI 0) dL_law_992 rfl (by decide) ?_
    refine p_lald (pc' := 994) dL_law_993 rfl ?_
    rw [hr0]
    refine e_iload (pc' := 996) dL_law_994 rfl rfl ?_
    refine e_i2l (pc' := 997) dL_law_996 rfl ?_
    refine e_lcmp (pc' := 998) dL_law_997 rfl ?_
    refine e_if_eq (pc' := 1001) (tgt := 1003) dL_law_998 rfl (by decide) (fun hz3 => ?_) (fun hz3 => absurd hz3 (fun q => q (lgc _)))
    refine e_goto (tgt := 2358) dL_law_1003 (by decide) ?_
    refine e_fg (i := 6) (L' := [some (.ref (gb G)), some (.ref (ad 0)), some (.ref (ad 96)), some (.ref (ad 104)), some (.ref (ad 105)), some (.int (nI i)), none, some (.int (b)), none]) rfl ?_
    refine e_fg (i := 7) (L' := [some (.ref (gb G)), some (.ref (ad 0)), some (.ref (ad 96)), some (.ref (ad 104)), some (.ref (ad 105)), some (.int (nI i)), none, none, none]) rfl ?_
    exact kk _ _ hL2
theorem law_14 (hL : LV M) (hi : i + 4 ≤ gL G) (h48 : gL G ≤ 2048) (hu1 : u.1 + 1 ≤ 603072) (hu2 : u.2 + 6 ≤ 7207018) (kk : ∀ M' o', LV M' → EV G room_1 mL_law Qf (u.1 + 1, u.2 + 6) 2358 (LL G ad i) [] (wM G ad (M', o'))) : EV G room_1 mL_law Qf u 1006 (LL G ad i) [] (wM G ad (M, o)) := by
  refine e_aload_n (pc' := 1007) dL_law_1006 rfl rfl rfl ?_
  obtain ⟨v, I, hW, hG⟩ := od_tunnelCount (G := G) (ad := ad) (o := o) hL
  refine r_VI (pc' := 1010) (m' := mX8_tunnelCount) (As := []) (st := []) hW dL_law_1007 rfl rfl (Nat.le_of_ble_eq_true rfl) ⟨by decide, by decide, (show u.1 + 0 ≤ 603072 by omega), (show u.2 + 0 ≤ 7207018 by omega)⟩ ml_L_191 okX8_tunnelCount rfl rfl (by decide) rfl (fun M1 hI => ?_)
  show EV _ _ _ _ _ 1010 _ ([.int (v)]) _
  refine e_aload_n (pc' := 1011) dL_law_1010 rfl rfl rfl ?_
  refine r_VI (pc' := 1014) (m' := mX9_tunnelCount) (As := []) (st := [.int (v)]) (hG M1 hI) dL_law_1011 rfl rfl (Nat.le_of_ble_eq_true rfl) ⟨by decide, by decide, (show u.1 + 0 ≤ 603072 by omega), (show u.2 + 0 ≤ 7207018 by omega)⟩ ml_L_194 okX9_tunnelCount rfl rfl (by decide) rfl (fun M2 hL2 => ?_)
  show EV _ _ _ _ _ 1014 _ ([.int (v), .int (v)]) _
  refine e_icmp_eq (pc' := 1017) (tgt := 2358) dL_law_1014 rfl (by decide) (fun hz1 => ?_) (fun hz1 => absurd hz1 (fun q => q rfl))
  refine e_wide (k := u.1 + 1) (n := u.2 + 6) (by omega) (by omega) ?_
  exact kk _ _ hL2
theorem law_15 (hL : LV M) (hi : i + 4 ≤ gL G) (h48 : gL G ≤ 2048) (hu1 : u.1 + 1 ≤ 603072) (hu2 : u.2 + 6 ≤ 7207018) (kk : ∀ M' o', LV M' → EV G room_1 mL_law Qf (u.1 + 1, u.2 + 6) 2358 (LL G ad i) [] (wM G ad (M', o'))) : EV G room_1 mL_law Qf u 1019 (LL G ad i) [] (wM G ad (M, o)) := by
  refine e_aload_n (pc' := 1020) dL_law_1019 rfl rfl rfl ?_
  refine e_aload_n (pc' := 1021) dL_law_1020 rfl rfl rfl ?_
  refine e_iload (pc' := 1023) dL_law_1021 rfl rfl ?_
  refine e_iconst (pc' := 1024) (v := nI 1) dL_law_1023 rfl (by decide) ?_
  refine e_iaddN (pc' := 1025) dL_law_1024 rfl ?_
  refine e_sld (pc' := 1026) (j := i + 1) dL_law_1025 rfl rfl (by omega) ?_
  refine e_aload_n (pc' := 1027) dL_law_1026 rfl rfl rfl ?_
  obtain ⟨k, Fo, I, b, hk, hW, hG, hr⟩ := op_isOpen (G := G) (ad := ad) (o := o) hL (gx G (i + 1))
  refine c_SX (pc' := 1030) (m' := mL_isOpen) (As := [.ref (ad 0), .int (gx G (i + 1)), .ref (ad 104)]) (st := []) hW dL_law_1027 rfl rfl (Nat.le_of_ble_eq_true rfl) ⟨by decide, by decide, hu1, hu2⟩ ml_L_195 okL_isOpen (List.cons_ne_nil _ _) rfl (fun v2 S2 h => ?_) (fun E2 S2 h => by cases h.1)
  obtain ⟨h3, M1, o1, rfl, hF, hI⟩ := h
  cases h3
  show EV _ _ _ _ (u.1 + 1, u.2 + 6) 1030 _ ([.int (nI k)]) _
  refine e_istore (pc' := 1032) (L' := [some (.ref (gb G)), some (.ref (ad 0)), some (.ref (ad 96)), some (.ref (ad 104)), some (.ref (ad 105)), some (.int (nI i)), some (.int (nI k)), none, none]) dL_law_1030 rfl (by decide) rfl ?_
  refine e_aload_n (pc' := 1033) dL_law_1032 rfl rfl rfl ?_
  refine e_aload_n (pc' := 1034) dL_law_1033 rfl rfl rfl ?_
  refine e_iload (pc' := 1036) dL_law_1034 rfl rfl ?_
  refine e_iconst (pc' := 1037) (v := nI 1) dL_law_1036 rfl (by decide) ?_
  refine e_iaddN (pc' := 1038) dL_law_1037 rfl ?_
  refine e_sld (pc' := 1039) (j := i + 1) dL_law_1038 rfl rfl (by omega) ?_
  refine r_VI (pc' := 1042) (m' := mX9_isOpen) (As := [.int (gx G (i + 1))]) (st := []) (hG M1 o1 hI) dL_law_1039 rfl rfl (Nat.le_of_ble_eq_true rfl) ⟨by decide, by decide, hu1, hu2⟩ ml_L_197 okX9_isOpen rfl rfl (by decide) rfl (fun M2 hJ => ?_)
  obtain ⟨h8, hL2⟩ := hJ
  show EV _ _ _ _ _ 1042 _ ([.int (bI (b))]) _
  refine e_istore (pc' := 1044) (L' := [some (.ref (gb G)), some (.ref (ad 0)), some (.ref (ad 96)), some (.ref (ad 104)), some (.ref (ad 105)), some (.int (nI i)), some (.int (nI k)), some (.int (bI (b))), none]) dL_law_1042 rfl (by decide) rfl ?_
  refine e_aload_n (pc' := 1045) dL_law_1044 rfl rfl rfl ?_
  refine r_V (pc' := 1048) (m' := mX9_thrown) (As := []) (st := []) (g_thrown (d := 19)) dL_law_1045 rfl rfl (Nat.le_of_ble_eq_true rfl) ⟨by decide, by decide, hu1, hu2⟩ ml_L_144 okX9_thrown rfl rfl (by decide) rfl ?_
  rw [h8]
  show EV _ _ _ _ _ 1048 _ ([.int (nI k)]) _
  refine e_iload (pc' := 1050) dL_law_1048 rfl rfl ?_
  refine e_icmp_eqN (pc' := 1053) (tgt := 1055) dL_law_1050 rfl (by decide) (by omega) (by omega) (fun hz1 => ?_) (fun hz1 => absurd hz1 (fun q => q rfl))
  refine e_iload (pc' := 1057) dL_law_1055 rfl rfl ?_
  refine e_if_neN (pc' := 1060) (tgt := 1079) dL_law_1057 rfl (by decide) (by omega) (fun hk0 => ?_) (fun hk0 => ?_)
  · refine e_goto (tgt := 2358) dL_law_1079 (by decide) ?_
    refine e_fg (i := 6) (L' := [some (.ref (gb G)), some (.ref (ad 0)), some (.ref (ad 96)), some (.ref (ad 104)), some (.ref (ad 105)), some (.int (nI i)), none, some (.int (bI (b))), none]) rfl ?_
    refine e_fg (i := 7) (L' := [some (.ref (gb G)), some (.ref (ad 0)), some (.ref (ad 96)), some (.ref (ad 104)), some (.ref (ad 105)), some (.int (nI i)), none, none, none]) rfl ?_
    exact kk _ _ hL2
  · have hr0 : o1.1 0 = if b then 1 else 0 := hr hk0 o1 hF
    refine e_aload_n (pc' := 1061) dL_law_1060 rfl rfl rfl ?_
    refine e_iconst (pc' := 1062) (v := nI 0) dL_law_1061 rfl (by decide) ?_
    refine p_lald (pc' := 1063) dL_law_1062 rfl ?_
    rw [hr0]
    refine e_iload (pc' := 1065) dL_law_1063 rfl rfl ?_
    refine e_if_eqB (pc' := 1068) (tgt := 1072) dL_law_1065 rfl (by decide) (fun hbb => ?_) (fun hbb => ?_)
    · refine e_lconst (pc' := 1073) (v := 0) dL_law_1072 rfl (by decide) ?_
      refine e_lcmp (pc' := 1074) dL_law_1073 rfl ?_
      refine e_if_eq (pc' := 1077) (tgt := 1079) dL_law_1074 rfl (by decide) (fun hz4 => ?_) (fun hz4 => absurd hz4 (fun q => q (by rw [hbb]; exact lgc _)))
      refine e_goto (tgt := 2358) dL_law_1079 (by decide) ?_
      refine e_fg (i := 6) (L' := [some (.ref (gb G)), some (.ref (ad 0)), some (.ref (ad 96)), some (.ref (ad 104)), some (.ref (ad 105)), some (.int (nI i)), none, some (.int (bI (b))), none]) rfl ?_
      refine e_fg (i := 7) (L' := [some (.ref (gb G)), some (.ref (ad 0)), some (.ref (ad 96)), some (.ref (ad 104)), some (.ref (ad 105)), some (.int (nI i)), none, none, none]) rfl ?_
      exact kk _ _ hL2
    · refine e_lconst (pc' := 1069) (v := 1) dL_law_1068 rfl (by decide) ?_
      refine e_goto (tgt := 1073) dL_law_1069 (by decide) ?_
      refine e_lcmp (pc' := 1074) dL_law_1073 rfl ?_
      refine e_if_eq (pc' := 1077) (tgt := 1079) dL_law_1074 rfl (by decide) (fun hz5 => ?_) (fun hz5 => absurd hz5 (fun q => q (by rw [hbb]; exact lgc _)))
      refine e_goto (tgt := 2358) dL_law_1079 (by decide) ?_
      refine e_fg (i := 6) (L' := [some (.ref (gb G)), some (.ref (ad 0)), some (.ref (ad 96)), some (.ref (ad 104)), some (.ref (ad 105)), some (.int (nI i)), none, some (.int (bI (b))), none]) rfl ?_
      refine e_fg (i := 7) (L' := [some (.ref (gb G)), some (.ref (ad 0)), some (.ref (ad 96)), some (.ref (ad 104)), some (.ref (ad 105)), some (.int (nI i)), none, none, none]) rfl ?_
      exact kk _ _ hL2
theorem law_16 (hL : LV M) (hi : i + 4 ≤ gL G) (h48 : gL G ≤ 2048) (hu1 : u.1 + 1 ≤ 603072) (hu2 : u.2 + 6 ≤ 7207018) (kk : ∀ M' o', LV M' → EV G room_1 mL_law Qf (u.1 + 1, u.2 + 6) 2358 (LL G ad i) [] (wM G ad (M', o'))) : EV G room_1 mL_law Qf u 1082 (LL G ad i) [] (wM G ad (M, o)) := by
  refine e_aload_n (pc' := 1083) dL_law_1082 rfl rfl rfl ?_
  obtain ⟨v, I, hW, hG⟩ := od_blocked (G := G) (ad := ad) (o := o) hL
  refine r_VI (pc' := 1086) (m' := mX8_blocked) (As := []) (st := []) hW dL_law_1083 rfl rfl (Nat.le_of_ble_eq_true rfl) ⟨by decide, by decide, (show u.1 + 0 ≤ 603072 by omega), (show u.2 + 0 ≤ 7207018 by omega)⟩ ml_L_198 okX8_blocked rfl rfl (by decide) rfl (fun M1 hI => ?_)
  show EV _ _ _ _ _ 1086 _ ([.int (v)]) _
  refine e_aload_n (pc' := 1087) dL_law_1086 rfl rfl rfl ?_
  refine r_VI (pc' := 1090) (m' := mX9_blocked) (As := []) (st := [.int (v)]) (hG M1 hI) dL_law_1087 rfl rfl (Nat.le_of_ble_eq_true rfl) ⟨by decide, by decide, (show u.1 + 0 ≤ 603072 by omega), (show u.2 + 0 ≤ 7207018 by omega)⟩ ml_L_201 okX9_blocked rfl rfl (by decide) rfl (fun M2 hL2 => ?_)
  show EV _ _ _ _ _ 1090 _ ([.int (v), .int (v)]) _
  refine e_icmp_eq (pc' := 1093) (tgt := 2358) dL_law_1090 rfl (by decide) (fun hz1 => ?_) (fun hz1 => absurd hz1 (fun q => q rfl))
  refine e_wide (k := u.1 + 1) (n := u.2 + 6) (by omega) (by omega) ?_
  exact kk _ _ hL2
theorem law_17 (hL : LV M) (hi : i + 4 ≤ gL G) (h48 : gL G ≤ 2048) (hu1 : u.1 + 1 ≤ 603072) (hu2 : u.2 + 6 ≤ 7207018) (kk : ∀ M' o', LV M' → EV G room_1 mL_law Qf (u.1 + 1, u.2 + 6) 2358 (LL G ad i) [] (wM G ad (M', o'))) : EV G room_1 mL_law Qf u 1095 (LL G ad i) [] (wM G ad (M, o)) := by
  refine e_aload_n (pc' := 1096) dL_law_1095 rfl rfl rfl ?_
  obtain ⟨v, I, hW, hG⟩ := od_parts (G := G) (ad := ad) (o := o) hL
  refine r_VI (pc' := 1099) (m' := mX8_parts) (As := []) (st := []) hW dL_law_1096 rfl rfl (Nat.le_of_ble_eq_true rfl) ⟨by decide, by decide, (show u.1 + 0 ≤ 603072 by omega), (show u.2 + 0 ≤ 7207018 by omega)⟩ ml_L_202 okX8_parts rfl rfl (by decide) rfl (fun M1 hI => ?_)
  show EV _ _ _ _ _ 1099 _ ([.int (v)]) _
  refine e_aload_n (pc' := 1100) dL_law_1099 rfl rfl rfl ?_
  refine r_VI (pc' := 1103) (m' := mX9_parts) (As := []) (st := [.int (v)]) (hG M1 hI) dL_law_1100 rfl rfl (Nat.le_of_ble_eq_true rfl) ⟨by decide, by decide, (show u.1 + 0 ≤ 603072 by omega), (show u.2 + 0 ≤ 7207018 by omega)⟩ ml_L_205 okX9_parts rfl rfl (by decide) rfl (fun M2 hL2 => ?_)
  show EV _ _ _ _ _ 1103 _ ([.int (v), .int (v)]) _
  refine e_icmp_eq (pc' := 1106) (tgt := 2358) dL_law_1103 rfl (by decide) (fun hz1 => ?_) (fun hz1 => absurd hz1 (fun q => q rfl))
  refine e_wide (k := u.1 + 1) (n := u.2 + 6) (by omega) (by omega) ?_
  exact kk _ _ hL2
theorem law_18 (hL : LV M) (hi : i + 4 ≤ gL G) (h48 : gL G ≤ 2048) (hu1 : u.1 + 1 ≤ 603072) (hu2 : u.2 + 6 ≤ 7207018) (kk : ∀ M' o', LV M' → EV G room_1 mL_law Qf (u.1 + 1, u.2 + 6) 2358 (LL G ad i) [] (wM G ad (M', o'))) : EV G room_1 mL_law Qf u 1108 (LL G ad i) [] (wM G ad (M, o)) := by
  refine e_aload_n (pc' := 1109) dL_law_1108 rfl rfl rfl ?_
  refine e_aload_n (pc' := 1110) dL_law_1109 rfl rfl rfl ?_
  refine e_iload (pc' := 1112) dL_law_1110 rfl rfl ?_
  refine e_iconst (pc' := 1113) (v := nI 1) dL_law_1112 rfl (by decide) ?_
  refine e_iaddN (pc' := 1114) dL_law_1113 rfl ?_
  refine e_sld (pc' := 1115) (j := i + 1) dL_law_1114 rfl rfl (by omega) ?_
  refine e_aload_n (pc' := 1116) dL_law_1115 rfl rfl rfl ?_
  refine e_iload (pc' := 1118) dL_law_1116 rfl rfl ?_
  refine e_iconst (pc' := 1119) (v := nI 2) dL_law_1118 rfl (by decide) ?_
  refine e_iaddN (pc' := 1120) dL_law_1119 rfl ?_
  refine e_sld (pc' := 1121) (j := i + 2) dL_law_1120 rfl rfl (by omega) ?_
  refine e_aload_n (pc' := 1122) dL_law_1121 rfl rfl rfl ?_
  obtain ⟨k, Fo, I, b, hk, hW, hG, hr⟩ := op_walk (G := G) (ad := ad) (o := o) hL (gx G (i + 1)) (gx G (i + 2))
  refine c_SX (pc' := 1125) (m' := mL_walk) (As := [.ref (ad 0), .int (gx G (i + 1)), .int (gx G (i + 2)), .ref (ad 104)]) (st := []) hW dL_law_1122 rfl rfl (Nat.le_of_ble_eq_true rfl) ⟨by decide, by decide, hu1, hu2⟩ ml_L_206 okL_walk (List.cons_ne_nil _ _) rfl (fun v2 S2 h => ?_) (fun E2 S2 h => by cases h.1)
  obtain ⟨h3, M1, o1, rfl, hF, hI⟩ := h
  cases h3
  show EV _ _ _ _ (u.1 + 1, u.2 + 6) 1125 _ ([.int (nI k)]) _
  refine e_istore (pc' := 1127) (L' := [some (.ref (gb G)), some (.ref (ad 0)), some (.ref (ad 96)), some (.ref (ad 104)), some (.ref (ad 105)), some (.int (nI i)), some (.int (nI k)), none, none]) dL_law_1125 rfl (by decide) rfl ?_
  refine e_aload_n (pc' := 1128) dL_law_1127 rfl rfl rfl ?_
  refine e_aload_n (pc' := 1129) dL_law_1128 rfl rfl rfl ?_
  refine e_iload (pc' := 1131) dL_law_1129 rfl rfl ?_
  refine e_iconst (pc' := 1132) (v := nI 1) dL_law_1131 rfl (by decide) ?_
  refine e_iaddN (pc' := 1133) dL_law_1132 rfl ?_
  refine e_sld (pc' := 1134) (j := i + 1) dL_law_1133 rfl rfl (by omega) ?_
  refine e_aload_n (pc' := 1135) dL_law_1134 rfl rfl rfl ?_
  refine e_iload (pc' := 1137) dL_law_1135 rfl rfl ?_
  refine e_iconst (pc' := 1138) (v := nI 2) dL_law_1137 rfl (by decide) ?_
  refine e_iaddN (pc' := 1139) dL_law_1138 rfl ?_
  refine e_sld (pc' := 1140) (j := i + 2) dL_law_1139 rfl rfl (by omega) ?_
  refine r_VI (pc' := 1143) (m' := mX9_walk) (As := [.int (gx G (i + 1)), .int (gx G (i + 2))]) (st := []) (hG M1 o1 hI) dL_law_1140 rfl rfl (Nat.le_of_ble_eq_true rfl) ⟨by decide, by decide, hu1, hu2⟩ ml_L_208 okX9_walk rfl rfl (by decide) rfl (fun M2 hJ => ?_)
  obtain ⟨h8, hL2⟩ := hJ
  show EV _ _ _ _ _ 1143 _ ([.int (b)]) _
  refine e_istore (pc' := 1145) (L' := [some (.ref (gb G)), some (.ref (ad 0)), some (.ref (ad 96)), some (.ref (ad 104)), some (.ref (ad 105)), some (.int (nI i)), some (.int (nI k)), some (.int (b)), none]) dL_law_1143 rfl (by decide) rfl ?_
  refine e_aload_n (pc' := 1146) dL_law_1145 rfl rfl rfl ?_
  refine r_V (pc' := 1149) (m' := mX9_thrown) (As := []) (st := []) (g_thrown (d := 19)) dL_law_1146 rfl rfl (Nat.le_of_ble_eq_true rfl) ⟨by decide, by decide, hu1, hu2⟩ ml_L_144 okX9_thrown rfl rfl (by decide) rfl ?_
  rw [h8]
  show EV _ _ _ _ _ 1149 _ ([.int (nI k)]) _
  refine e_iload (pc' := 1151) dL_law_1149 rfl rfl ?_
  refine e_icmp_eqN (pc' := 1154) (tgt := 1156) dL_law_1151 rfl (by decide) (by omega) (by omega) (fun hz1 => ?_) (fun hz1 => absurd hz1 (fun q => q rfl))
  refine e_iload (pc' := 1158) dL_law_1156 rfl rfl ?_
  refine e_if_neN (pc' := 1161) (tgt := 1173) dL_law_1158 rfl (by decide) (by omega) (fun hk0 => ?_) (fun hk0 => ?_)
  · refine e_goto (tgt := 2358) dL_law_1173 (by decide) ?_
    refine e_fg (i := 6) (L' := [some (.ref (gb G)), some (.ref (ad 0)), some (.ref (ad 96)), some (.ref (ad 104)), some (.ref (ad 105)), some (.int (nI i)), none, some (.int (b)), none]) rfl ?_
    refine e_fg (i := 7) (L' := [some (.ref (gb G)), some (.ref (ad 0)), some (.ref (ad 96)), some (.ref (ad 104)), some (.ref (ad 105)), some (.int (nI i)), none, none, none]) rfl ?_
    exact kk _ _ hL2
  · have hr0 : o1.1 0 = (b).toInt64 := hr hk0 o1 hF
    refine e_aload_n (pc' := 1162) dL_law_1161 rfl rfl rfl ?_
    refine e_iconst (pc' := 1163) (v := nI 0) dL_law_1162 rfl (by decide) ?_
    refine p_lald (pc' := 1164) dL_law_1163 rfl ?_
    rw [hr0]
    refine e_iload (pc' := 1166) dL_law_1164 rfl rfl ?_
    refine e_i2l (pc' := 1167) dL_law_1166 rfl ?_
    refine e_lcmp (pc' := 1168) dL_law_1167 rfl ?_
    refine e_if_eq (pc' := 1171) (tgt := 1173) dL_law_1168 rfl (by decide) (fun hz3 => ?_) (fun hz3 => absurd hz3 (fun q => q (lgc _)))
    refine e_goto (tgt := 2358) dL_law_1173 (by decide) ?_
    refine e_fg (i := 6) (L' := [some (.ref (gb G)), some (.ref (ad 0)), some (.ref (ad 96)), some (.ref (ad 104)), some (.ref (ad 105)), some (.int (nI i)), none, some (.int (b)), none]) rfl ?_
    refine e_fg (i := 7) (L' := [some (.ref (gb G)), some (.ref (ad 0)), some (.ref (ad 96)), some (.ref (ad 104)), some (.ref (ad 105)), some (.int (nI i)), none, none, none]) rfl ?_
    exact kk _ _ hL2
theorem law_19 (hL : LV M) (hi : i + 4 ≤ gL G) (h48 : gL G ≤ 2048) (hu1 : u.1 + 1 ≤ 603072) (hu2 : u.2 + 6 ≤ 7207018) (kk : ∀ M' o', LV M' → EV G room_1 mL_law Qf (u.1 + 1, u.2 + 6) 2358 (LL G ad i) [] (wM G ad (M', o'))) : EV G room_1 mL_law Qf u 1176 (LL G ad i) [] (wM G ad (M, o)) := by
  refine e_aload_n (pc' := 1177) dL_law_1176 rfl rfl rfl ?_
  obtain ⟨v, I, hW, hG⟩ := od_bridges (G := G) (ad := ad) (o := o) hL
  refine r_VI (pc' := 1180) (m' := mX8_bridges) (As := []) (st := []) hW dL_law_1177 rfl rfl (Nat.le_of_ble_eq_true rfl) ⟨by decide, by decide, (show u.1 + 0 ≤ 603072 by omega), (show u.2 + 0 ≤ 7207018 by omega)⟩ ml_L_209 okX8_bridges rfl rfl (by decide) rfl (fun M1 hI => ?_)
  show EV _ _ _ _ _ 1180 _ ([.int (v)]) _
  refine e_aload_n (pc' := 1181) dL_law_1180 rfl rfl rfl ?_
  refine r_VI (pc' := 1184) (m' := mX9_bridges) (As := []) (st := [.int (v)]) (hG M1 hI) dL_law_1181 rfl rfl (Nat.le_of_ble_eq_true rfl) ⟨by decide, by decide, (show u.1 + 0 ≤ 603072 by omega), (show u.2 + 0 ≤ 7207018 by omega)⟩ ml_L_212 okX9_bridges rfl rfl (by decide) rfl (fun M2 hL2 => ?_)
  show EV _ _ _ _ _ 1184 _ ([.int (v), .int (v)]) _
  refine e_icmp_eq (pc' := 1187) (tgt := 2358) dL_law_1184 rfl (by decide) (fun hz1 => ?_) (fun hz1 => absurd hz1 (fun q => q rfl))
  refine e_wide (k := u.1 + 1) (n := u.2 + 6) (by omega) (by omega) ?_
  exact kk _ _ hL2
theorem law_20 (hL : LV M) (hi : i + 4 ≤ gL G) (h48 : gL G ≤ 2048) (hu1 : u.1 + 1 ≤ 603072) (hu2 : u.2 + 6 ≤ 7207018) (kk : ∀ M' o', LV M' → EV G room_1 mL_law Qf (u.1 + 1, u.2 + 6) 2358 (LL G ad i) [] (wM G ad (M', o'))) : EV G room_1 mL_law Qf u 1189 (LL G ad i) [] (wM G ad (M, o)) := by
  refine e_aload_n (pc' := 1190) dL_law_1189 rfl rfl rfl ?_
  obtain ⟨v, I, hW, hG⟩ := od_bridgesByFilling (G := G) (ad := ad) (o := o) hL
  refine r_VI (pc' := 1193) (m' := mX8_bridgesByFilling) (As := []) (st := []) hW dL_law_1190 rfl rfl (Nat.le_of_ble_eq_true rfl) ⟨by decide, by decide, (show u.1 + 0 ≤ 603072 by omega), (show u.2 + 0 ≤ 7207018 by omega)⟩ ml_L_213 okX8_bridgesByFilling rfl rfl (by decide) rfl (fun M1 hI => ?_)
  show EV _ _ _ _ _ 1193 _ ([.int (v)]) _
  refine e_aload_n (pc' := 1194) dL_law_1193 rfl rfl rfl ?_
  refine r_VI (pc' := 1197) (m' := mX9_bridgesByFilling) (As := []) (st := [.int (v)]) (hG M1 hI) dL_law_1194 rfl rfl (Nat.le_of_ble_eq_true rfl) ⟨by decide, by decide, (show u.1 + 0 ≤ 603072 by omega), (show u.2 + 0 ≤ 7207018 by omega)⟩ ml_L_216 okX9_bridgesByFilling rfl rfl (by decide) rfl (fun M2 hL2 => ?_)
  show EV _ _ _ _ _ 1197 _ ([.int (v), .int (v)]) _
  refine e_icmp_eq (pc' := 1200) (tgt := 2358) dL_law_1197 rfl (by decide) (fun hz1 => ?_) (fun hz1 => absurd hz1 (fun q => q rfl))
  refine e_wide (k := u.1 + 1) (n := u.2 + 6) (by omega) (by omega) ?_
  exact kk _ _ hL2
theorem law_21 (hL : LV M) (hi : i + 4 ≤ gL G) (h48 : gL G ≤ 2048) (hu1 : u.1 + 1 ≤ 603072) (hu2 : u.2 + 6 ≤ 7207018) (kk : ∀ M' o', LV M' → EV G room_1 mL_law Qf (u.1 + 1, u.2 + 6) 2358 (LL G ad i) [] (wM G ad (M', o'))) : EV G room_1 mL_law Qf u 1202 (LL G ad i) [] (wM G ad (M, o)) := by
  refine e_aload_n (pc' := 1203) dL_law_1202 rfl rfl rfl ?_
  obtain ⟨v, I, hW, hG⟩ := od_canSettle (G := G) (ad := ad) (o := o) hL
  refine r_VI (pc' := 1206) (m' := mX8_canSettle) (As := []) (st := []) hW dL_law_1203 rfl rfl (Nat.le_of_ble_eq_true rfl) ⟨by decide, by decide, (show u.1 + 0 ≤ 603072 by omega), (show u.2 + 0 ≤ 7207018 by omega)⟩ ml_L_217 okX8_canSettle rfl rfl (by decide) rfl (fun M1 hI => ?_)
  show EV _ _ _ _ _ 1206 _ ([.int (v)]) _
  refine e_aload_n (pc' := 1207) dL_law_1206 rfl rfl rfl ?_
  refine r_VI (pc' := 1210) (m' := mX9_canSettle) (As := []) (st := [.int (v)]) (hG M1 hI) dL_law_1207 rfl rfl (Nat.le_of_ble_eq_true rfl) ⟨by decide, by decide, (show u.1 + 0 ≤ 603072 by omega), (show u.2 + 0 ≤ 7207018 by omega)⟩ ml_L_221 okX9_canSettle rfl rfl (by decide) rfl (fun M2 hL2 => ?_)
  show EV _ _ _ _ _ 1210 _ ([.int (v), .int (v)]) _
  refine e_icmp_eq (pc' := 1213) (tgt := 2358) dL_law_1210 rfl (by decide) (fun hz1 => ?_) (fun hz1 => absurd hz1 (fun q => q rfl))
  refine e_wide (k := u.1 + 1) (n := u.2 + 6) (by omega) (by omega) ?_
  exact kk _ _ hL2
theorem law_22 (hL : LV M) (hi : i + 4 ≤ gL G) (h48 : gL G ≤ 2048) (hu1 : u.1 + 1 ≤ 603072) (hu2 : u.2 + 6 ≤ 7207018) (kk : ∀ M' o', LV M' → EV G room_1 mL_law Qf (u.1 + 1, u.2 + 6) 2358 (LL G ad i) [] (wM G ad (M', o'))) : EV G room_1 mL_law Qf u 1215 (LL G ad i) [] (wM G ad (M, o)) := by
  refine e_aload_n (pc' := 1216) dL_law_1215 rfl rfl rfl ?_
  obtain ⟨v, I, hW, hG⟩ := od_canSettleByUnions (G := G) (ad := ad) (o := o) hL
  refine r_VI (pc' := 1219) (m' := mX8_canSettleByUnions) (As := []) (st := []) hW dL_law_1216 rfl rfl (Nat.le_of_ble_eq_true rfl) ⟨by decide, by decide, (show u.1 + 0 ≤ 603072 by omega), (show u.2 + 0 ≤ 7207018 by omega)⟩ ml_L_222 okX8_canSettleByUnions rfl rfl (by decide) rfl (fun M1 hI => ?_)
  show EV _ _ _ _ _ 1219 _ ([.int (v)]) _
  refine e_aload_n (pc' := 1220) dL_law_1219 rfl rfl rfl ?_
  refine r_VI (pc' := 1223) (m' := mX9_canSettleByUnions) (As := []) (st := [.int (v)]) (hG M1 hI) dL_law_1220 rfl rfl (Nat.le_of_ble_eq_true rfl) ⟨by decide, by decide, (show u.1 + 0 ≤ 603072 by omega), (show u.2 + 0 ≤ 7207018 by omega)⟩ ml_L_225 okX9_canSettleByUnions rfl rfl (by decide) rfl (fun M2 hL2 => ?_)
  show EV _ _ _ _ _ 1223 _ ([.int (v), .int (v)]) _
  refine e_icmp_eq (pc' := 1226) (tgt := 2358) dL_law_1223 rfl (by decide) (fun hz1 => ?_) (fun hz1 => absurd hz1 (fun q => q rfl))
  refine e_wide (k := u.1 + 1) (n := u.2 + 6) (by omega) (by omega) ?_
  exact kk _ _ hL2
theorem law_23 (hL : LV M) (hi : i + 4 ≤ gL G) (h48 : gL G ≤ 2048) (hu1 : u.1 + 1 ≤ 603072) (hu2 : u.2 + 6 ≤ 7207018) (kk : ∀ M' o', LV M' → EV G room_1 mL_law Qf (u.1 + 1, u.2 + 6) 2358 (LL G ad i) [] (wM G ad (M', o'))) : EV G room_1 mL_law Qf u 1228 (LL G ad i) [] (wM G ad (M, o)) := by
  refine e_aload_n (pc' := 1229) dL_law_1228 rfl rfl rfl ?_
  refine e_aload_n (pc' := 1230) dL_law_1229 rfl rfl rfl ?_
  obtain ⟨k, Fo, I, b, hk, hW, hG, hr⟩ := op_fewestTurns (G := G) (ad := ad) (o := o) hL 
  refine c_SX (pc' := 1233) (m' := mL_fewestTurns) (As := [.ref (ad 0), .ref (ad 104)]) (st := []) hW dL_law_1230 rfl rfl (Nat.le_of_ble_eq_true rfl) ⟨by decide, by decide, hu1, hu2⟩ ml_L_226 okL_fewestTurns (List.cons_ne_nil _ _) rfl (fun v2 S2 h => ?_) (fun E2 S2 h => by cases h.1)
  obtain ⟨h3, M1, o1, rfl, hF, hI⟩ := h
  cases h3
  show EV _ _ _ _ (u.1 + 1, u.2 + 6) 1233 _ ([.int (nI k)]) _
  refine e_istore (pc' := 1235) (L' := [some (.ref (gb G)), some (.ref (ad 0)), some (.ref (ad 96)), some (.ref (ad 104)), some (.ref (ad 105)), some (.int (nI i)), some (.int (nI k)), none, none]) dL_law_1233 rfl (by decide) rfl ?_
  refine e_aload_n (pc' := 1236) dL_law_1235 rfl rfl rfl ?_
  refine r_VI (pc' := 1239) (m' := mX9_fewestTurns) (As := []) (st := []) (hG M1 o1 hI) dL_law_1236 rfl rfl (Nat.le_of_ble_eq_true rfl) ⟨by decide, by decide, hu1, hu2⟩ ml_L_228 okX9_fewestTurns rfl rfl (by decide) rfl (fun M2 hJ => ?_)
  obtain ⟨h8, hL2⟩ := hJ
  show EV _ _ _ _ _ 1239 _ ([.int (b)]) _
  refine e_istore (pc' := 1241) (L' := [some (.ref (gb G)), some (.ref (ad 0)), some (.ref (ad 96)), some (.ref (ad 104)), some (.ref (ad 105)), some (.int (nI i)), some (.int (nI k)), some (.int (b)), none]) dL_law_1239 rfl (by decide) rfl ?_
  refine e_aload_n (pc' := 1242) dL_law_1241 rfl rfl rfl ?_
  refine r_V (pc' := 1245) (m' := mX9_thrown) (As := []) (st := []) (g_thrown (d := 19)) dL_law_1242 rfl rfl (Nat.le_of_ble_eq_true rfl) ⟨by decide, by decide, hu1, hu2⟩ ml_L_144 okX9_thrown rfl rfl (by decide) rfl ?_
  rw [h8]
  show EV _ _ _ _ _ 1245 _ ([.int (nI k)]) _
  refine e_iload (pc' := 1247) dL_law_1245 rfl rfl ?_
  refine e_icmp_eqN (pc' := 1250) (tgt := 1252) dL_law_1247 rfl (by decide) (by omega) (by omega) (fun hz1 => ?_) (fun hz1 => absurd hz1 (fun q => q rfl))
  refine e_iload (pc' := 1254) dL_law_1252 rfl rfl ?_
  refine e_if_neN (pc' := 1257) (tgt := 1269) dL_law_1254 rfl (by decide) (by omega) (fun hk0 => ?_) (fun hk0 => ?_)
  · refine e_goto (tgt := 2358) dL_law_1269 (by decide) ?_
    refine e_fg (i := 6) (L' := [some (.ref (gb G)), some (.ref (ad 0)), some (.ref (ad 96)), some (.ref (ad 104)), some (.ref (ad 105)), some (.int (nI i)), none, some (.int (b)), none]) rfl ?_
    refine e_fg (i := 7) (L' := [some (.ref (gb G)), some (.ref (ad 0)), some (.ref (ad 96)), some (.ref (ad 104)), some (.ref (ad 105)), some (.int (nI i)), none, none, none]) rfl ?_
    exact kk _ _ hL2
  · have hr0 : o1.1 0 = (b).toInt64 := hr hk0 o1 hF
    refine e_aload_n (pc' := 1258) dL_law_1257 rfl rfl rfl ?_
    refine e_iconst (pc' := 1259) (v := nI 0) dL_law_1258 rfl (by decide) ?_
    refine p_lald (pc' := 1260) dL_law_1259 rfl ?_
    rw [hr0]
    refine e_iload (pc' := 1262) dL_law_1260 rfl rfl ?_
    refine e_i2l (pc' := 1263) dL_law_1262 rfl ?_
    refine e_lcmp (pc' := 1264) dL_law_1263 rfl ?_
    refine e_if_eq (pc' := 1267) (tgt := 1269) dL_law_1264 rfl (by decide) (fun hz3 => ?_) (fun hz3 => absurd hz3 (fun q => q (lgc _)))
    refine e_goto (tgt := 2358) dL_law_1269 (by decide) ?_
    refine e_fg (i := 6) (L' := [some (.ref (gb G)), some (.ref (ad 0)), some (.ref (ad 96)), some (.ref (ad 104)), some (.ref (ad 105)), some (.int (nI i)), none, some (.int (b)), none]) rfl ?_
    refine e_fg (i := 7) (L' := [some (.ref (gb G)), some (.ref (ad 0)), some (.ref (ad 96)), some (.ref (ad 104)), some (.ref (ad 105)), some (.int (nI i)), none, none, none]) rfl ?_
    exact kk _ _ hL2
theorem law_24 (hL : LV M) (hi : i + 4 ≤ gL G) (h48 : gL G ≤ 2048) (hu1 : u.1 + 1 ≤ 603072) (hu2 : u.2 + 6 ≤ 7207018) (kk : ∀ M' o', LV M' → EV G room_1 mL_law Qf (u.1 + 1, u.2 + 6) 2358 (LL G ad i) [] (wM G ad (M', o'))) : EV G room_1 mL_law Qf u 1272 (LL G ad i) [] (wM G ad (M, o)) := by
  refine e_aload_n (pc' := 1273) dL_law_1272 rfl rfl rfl ?_
  refine e_aload_n (pc' := 1274) dL_law_1273 rfl rfl rfl ?_
  obtain ⟨k, Fo, I, b, hk, hW, hG, hr⟩ := op_fewestTurnsBySets (G := G) (ad := ad) (o := o) hL 
  refine c_SX (pc' := 1277) (m' := mL_fewestTurnsBySets) (As := [.ref (ad 0), .ref (ad 104)]) (st := []) hW dL_law_1274 rfl rfl (Nat.le_of_ble_eq_true rfl) ⟨by decide, by decide, hu1, hu2⟩ ml_L_229 okL_fewestTurnsBySets (List.cons_ne_nil _ _) rfl (fun v2 S2 h => ?_) (fun E2 S2 h => by cases h.1)
  obtain ⟨h3, M1, o1, rfl, hF, hI⟩ := h
  cases h3
  show EV _ _ _ _ (u.1 + 1, u.2 + 6) 1277 _ ([.int (nI k)]) _
  refine e_istore (pc' := 1279) (L' := [some (.ref (gb G)), some (.ref (ad 0)), some (.ref (ad 96)), some (.ref (ad 104)), some (.ref (ad 105)), some (.int (nI i)), some (.int (nI k)), none, none]) dL_law_1277 rfl (by decide) rfl ?_
  refine e_aload_n (pc' := 1280) dL_law_1279 rfl rfl rfl ?_
  refine r_VI (pc' := 1283) (m' := mX9_fewestTurnsBySets) (As := []) (st := []) (hG M1 o1 hI) dL_law_1280 rfl rfl (Nat.le_of_ble_eq_true rfl) ⟨by decide, by decide, hu1, hu2⟩ ml_L_231 okX9_fewestTurnsBySets rfl rfl (by decide) rfl (fun M2 hJ => ?_)
  obtain ⟨h8, hL2⟩ := hJ
  show EV _ _ _ _ _ 1283 _ ([.int (b)]) _
  refine e_istore (pc' := 1285) (L' := [some (.ref (gb G)), some (.ref (ad 0)), some (.ref (ad 96)), some (.ref (ad 104)), some (.ref (ad 105)), some (.int (nI i)), some (.int (nI k)), some (.int (b)), none]) dL_law_1283 rfl (by decide) rfl ?_
  refine e_aload_n (pc' := 1286) dL_law_1285 rfl rfl rfl ?_
  refine r_V (pc' := 1289) (m' := mX9_thrown) (As := []) (st := []) (g_thrown (d := 19)) dL_law_1286 rfl rfl (Nat.le_of_ble_eq_true rfl) ⟨by decide, by decide, hu1, hu2⟩ ml_L_144 okX9_thrown rfl rfl (by decide) rfl ?_
  rw [h8]
  show EV _ _ _ _ _ 1289 _ ([.int (nI k)]) _
  refine e_iload (pc' := 1291) dL_law_1289 rfl rfl ?_
  refine e_icmp_eqN (pc' := 1294) (tgt := 1296) dL_law_1291 rfl (by decide) (by omega) (by omega) (fun hz1 => ?_) (fun hz1 => absurd hz1 (fun q => q rfl))
  refine e_iload (pc' := 1298) dL_law_1296 rfl rfl ?_
  refine e_if_neN (pc' := 1301) (tgt := 1313) dL_law_1298 rfl (by decide) (by omega) (fun hk0 => ?_) (fun hk0 => ?_)
  · refine e_goto (tgt := 2358) dL_law_1313 (by decide) ?_
    refine e_fg (i := 6) (L' := [some (.ref (gb G)), some (.ref (ad 0)), some (.ref (ad 96)), some (.ref (ad 104)), some (.ref (ad 105)), some (.int (nI i)), none, some (.int (b)), none]) rfl ?_
    refine e_fg (i := 7) (L' := [some (.ref (gb G)), some (.ref (ad 0)), some (.ref (ad 96)), some (.ref (ad 104)), some (.ref (ad 105)), some (.int (nI i)), none, none, none]) rfl ?_
    exact kk _ _ hL2
  · have hr0 : o1.1 0 = (b).toInt64 := hr hk0 o1 hF
    refine e_aload_n (pc' := 1302) dL_law_1301 rfl rfl rfl ?_
    refine e_iconst (pc' := 1303) (v := nI 0) dL_law_1302 rfl (by decide) ?_
    refine p_lald (pc' := 1304) dL_law_1303 rfl ?_
    rw [hr0]
    refine e_iload (pc' := 1306) dL_law_1304 rfl rfl ?_
    refine e_i2l (pc' := 1307) dL_law_1306 rfl ?_
    refine e_lcmp (pc' := 1308) dL_law_1307 rfl ?_
    refine e_if_eq (pc' := 1311) (tgt := 1313) dL_law_1308 rfl (by decide) (fun hz3 => ?_) (fun hz3 => absurd hz3 (fun q => q (lgc _)))
    refine e_goto (tgt := 2358) dL_law_1313 (by decide) ?_
    refine e_fg (i := 6) (L' := [some (.ref (gb G)), some (.ref (ad 0)), some (.ref (ad 96)), some (.ref (ad 104)), some (.ref (ad 105)), some (.int (nI i)), none, some (.int (b)), none]) rfl ?_
    refine e_fg (i := 7) (L' := [some (.ref (gb G)), some (.ref (ad 0)), some (.ref (ad 96)), some (.ref (ad 104)), some (.ref (ad 105)), some (.int (nI i)), none, none, none]) rfl ?_
    exact kk _ _ hL2
theorem law_25 (hL : LV M) (hi : i + 4 ≤ gL G) (h48 : gL G ≤ 2048) (hu1 : u.1 + 1 ≤ 603072) (hu2 : u.2 + 6 ≤ 7207018) (kk : ∀ M' o', LV M' → EV G room_1 mL_law Qf (u.1 + 1, u.2 + 6) 2358 (LL G ad i) [] (wM G ad (M', o'))) : EV G room_1 mL_law Qf u 1316 (LL G ad i) [] (wM G ad (M, o)) := by
  refine e_aload_n (pc' := 1317) dL_law_1316 rfl rfl rfl ?_
  obtain ⟨v, I, hW, hG⟩ := od_leastBlocked (G := G) (ad := ad) (o := o) hL
  refine r_VI (pc' := 1320) (m' := mX8_leastBlocked) (As := []) (st := []) hW dL_law_1317 rfl rfl (Nat.le_of_ble_eq_true rfl) ⟨by decide, by decide, (show u.1 + 0 ≤ 603072 by omega), (show u.2 + 0 ≤ 7207018 by omega)⟩ ml_L_232 okX8_leastBlocked rfl rfl (by decide) rfl (fun M1 hI => ?_)
  show EV _ _ _ _ _ 1320 _ ([.int (v)]) _
  refine e_aload_n (pc' := 1321) dL_law_1320 rfl rfl rfl ?_
  refine r_VI (pc' := 1324) (m' := mX9_leastBlocked) (As := []) (st := [.int (v)]) (hG M1 hI) dL_law_1321 rfl rfl (Nat.le_of_ble_eq_true rfl) ⟨by decide, by decide, (show u.1 + 0 ≤ 603072 by omega), (show u.2 + 0 ≤ 7207018 by omega)⟩ ml_L_235 okX9_leastBlocked rfl rfl (by decide) rfl (fun M2 hL2 => ?_)
  show EV _ _ _ _ _ 1324 _ ([.int (v), .int (v)]) _
  refine e_icmp_eq (pc' := 1327) (tgt := 2358) dL_law_1324 rfl (by decide) (fun hz1 => ?_) (fun hz1 => absurd hz1 (fun q => q rfl))
  refine e_wide (k := u.1 + 1) (n := u.2 + 6) (by omega) (by omega) ?_
  exact kk _ _ hL2
theorem law_26 (hL : LV M) (hi : i + 4 ≤ gL G) (h48 : gL G ≤ 2048) (hu1 : u.1 + 1 ≤ 603072) (hu2 : u.2 + 6 ≤ 7207018) (kk : ∀ M' o', LV M' → EV G room_1 mL_law Qf (u.1 + 1, u.2 + 6) 2358 (LL G ad i) [] (wM G ad (M', o'))) : EV G room_1 mL_law Qf u 1329 (LL G ad i) [] (wM G ad (M, o)) := by
  refine e_aload_n (pc' := 1330) dL_law_1329 rfl rfl rfl ?_
  obtain ⟨v, I, hW, hG⟩ := od_leastBlockedByBounds (G := G) (ad := ad) (o := o) hL
  refine r_VI (pc' := 1333) (m' := mX8_leastBlockedByBounds) (As := []) (st := []) hW dL_law_1330 rfl rfl (Nat.le_of_ble_eq_true rfl) ⟨by decide, by decide, (show u.1 + 0 ≤ 603072 by omega), (show u.2 + 0 ≤ 7207018 by omega)⟩ ml_L_236 okX8_leastBlockedByBounds rfl rfl (by decide) rfl (fun M1 hI => ?_)
  show EV _ _ _ _ _ 1333 _ ([.int (v)]) _
  refine e_aload_n (pc' := 1334) dL_law_1333 rfl rfl rfl ?_
  refine r_VI (pc' := 1337) (m' := mX9_leastBlockedByBounds) (As := []) (st := [.int (v)]) (hG M1 hI) dL_law_1334 rfl rfl (Nat.le_of_ble_eq_true rfl) ⟨by decide, by decide, (show u.1 + 0 ≤ 603072 by omega), (show u.2 + 0 ≤ 7207018 by omega)⟩ ml_L_239 okX9_leastBlockedByBounds rfl rfl (by decide) rfl (fun M2 hL2 => ?_)
  show EV _ _ _ _ _ 1337 _ ([.int (v), .int (v)]) _
  refine e_icmp_eq (pc' := 1340) (tgt := 2358) dL_law_1337 rfl (by decide) (fun hz1 => ?_) (fun hz1 => absurd hz1 (fun q => q rfl))
  refine e_wide (k := u.1 + 1) (n := u.2 + 6) (by omega) (by omega) ?_
  exact kk _ _ hL2
theorem law_27 (hL : LV M) (hi : i + 4 ≤ gL G) (h48 : gL G ≤ 2048) (hu1 : u.1 + 1 ≤ 603072) (hu2 : u.2 + 6 ≤ 7207018) (kk : ∀ M' o', LV M' → EV G room_1 mL_law Qf (u.1 + 1, u.2 + 6) 2358 (LL G ad i) [] (wM G ad (M', o'))) : EV G room_1 mL_law Qf u 1342 (LL G ad i) [] (wM G ad (M, o)) := by
  refine e_aload_n (pc' := 1343) dL_law_1342 rfl rfl rfl ?_
  refine e_aload_n (pc' := 1344) dL_law_1343 rfl rfl rfl ?_
  refine e_iload (pc' := 1346) dL_law_1344 rfl rfl ?_
  refine e_iconst (pc' := 1347) (v := nI 1) dL_law_1346 rfl (by decide) ?_
  refine e_iaddN (pc' := 1348) dL_law_1347 rfl ?_
  refine e_sld (pc' := 1349) (j := i + 1) dL_law_1348 rfl rfl (by omega) ?_
  refine e_aload (pc' := 1351) dL_law_1349 rfl rfl ?_
  obtain ⟨k, Fo, I, b, hk, hW, hG, hr⟩ := op_force (G := G) (ad := ad) (o := o) hL (gx G (i + 1))
  refine c_SX (pc' := 1354) (m' := mL_force) (As := [.ref (ad 0), .int (gx G (i + 1)), .ref (ad 105)]) (st := []) hW dL_law_1351 rfl rfl (Nat.le_of_ble_eq_true rfl) ⟨by decide, by decide, hu1, hu2⟩ ml_L_240 okL_force (List.cons_ne_nil _ _) rfl (fun v2 S2 h => ?_) (fun E2 S2 h => by cases h.1)
  obtain ⟨h3, M1, o1, rfl, hF, hI⟩ := h
  cases h3
  show EV _ _ _ _ (u.1 + 1, u.2 + 6) 1354 _ ([.int (nI k)]) _
  refine e_istore (pc' := 1356) (L' := [some (.ref (gb G)), some (.ref (ad 0)), some (.ref (ad 96)), some (.ref (ad 104)), some (.ref (ad 105)), some (.int (nI i)), some (.int (nI k)), none, none]) dL_law_1354 rfl (by decide) rfl ?_
  refine e_aload_n (pc' := 1357) dL_law_1356 rfl rfl rfl ?_
  refine e_aload_n (pc' := 1358) dL_law_1357 rfl rfl rfl ?_
  refine e_iload (pc' := 1360) dL_law_1358 rfl rfl ?_
  refine e_iconst (pc' := 1361) (v := nI 1) dL_law_1360 rfl (by decide) ?_
  refine e_iaddN (pc' := 1362) dL_law_1361 rfl ?_
  refine e_sld (pc' := 1363) (j := i + 1) dL_law_1362 rfl rfl (by omega) ?_
  refine r_VI (pc' := 1366) (m' := mX9_force) (As := [.int (gx G (i + 1))]) (st := []) (hG M1 o1 hI) dL_law_1363 rfl rfl (Nat.le_of_ble_eq_true rfl) ⟨by decide, by decide, hu1, hu2⟩ ml_L_243 okX9_force rfl rfl (by decide) rfl (fun M2 hJ => ?_)
  obtain ⟨h8, hL2⟩ := hJ
  show EV _ _ _ _ _ 1366 _ ([.float (b)]) _
  refine e_fstore (pc' := 1368) (L' := [some (.ref (gb G)), some (.ref (ad 0)), some (.ref (ad 96)), some (.ref (ad 104)), some (.ref (ad 105)), some (.int (nI i)), some (.int (nI k)), some (.float (b)), none]) dL_law_1366 rfl (by decide) rfl ?_
  refine e_aload_n (pc' := 1369) dL_law_1368 rfl rfl rfl ?_
  refine r_V (pc' := 1372) (m' := mX9_thrown) (As := []) (st := []) (g_thrown (d := 19)) dL_law_1369 rfl rfl (Nat.le_of_ble_eq_true rfl) ⟨by decide, by decide, hu1, hu2⟩ ml_L_144 okX9_thrown rfl rfl (by decide) rfl ?_
  rw [h8]
  show EV _ _ _ _ _ 1372 _ ([.int (nI k)]) _
  refine e_iload (pc' := 1374) dL_law_1372 rfl rfl ?_
  refine e_icmp_eqN (pc' := 1377) (tgt := 1379) dL_law_1374 rfl (by decide) (by omega) (by omega) (fun hz1 => ?_) (fun hz1 => absurd hz1 (fun q => q rfl))
  refine e_iload (pc' := 1381) dL_law_1379 rfl rfl ?_
  refine e_if_neN (pc' := 1384) (tgt := 1417) dL_law_1381 rfl (by decide) (by omega) (fun hk0 => ?_) (fun hk0 => ?_)
  · refine e_goto (tgt := 2358) dL_law_1417 (by decide) ?_
    refine e_fg (i := 6) (L' := [some (.ref (gb G)), some (.ref (ad 0)), some (.ref (ad 96)), some (.ref (ad 104)), some (.ref (ad 105)), some (.int (nI i)), none, some (.float (b)), none]) rfl ?_
    refine e_fg (i := 7) (L' := [some (.ref (gb G)), some (.ref (ad 0)), some (.ref (ad 96)), some (.ref (ad 104)), some (.ref (ad 105)), some (.int (nI i)), none, none, none]) rfl ?_
    exact kk _ _ hL2
  · have hr0 : o1.2 0 = FP.f2d b ∧ FP.Core.dIsNaN (FP.f2d b) = false := hr hk0 o1 hF
    refine e_aload (pc' := 1386) dL_law_1384 rfl rfl ?_
    refine e_iconst (pc' := 1387) (v := nI 0) dL_law_1386 rfl (by decide) ?_
    refine p_dald (pc' := 1388) dL_law_1387 rfl ?_
    rw [hr0.1]
    refine e_fload (pc' := 1390) dL_law_1388 rfl rfl ?_
    refine e_f2d (pc' := 1391) dL_law_1390 rfl (vf64_of hr0.2) ?_
    refine e_dcmp (pc' := 1392) dL_law_1391 rfl ?_
    refine e_if_eq (pc' := 1395) (tgt := 1417) dL_law_1392 rfl (by decide) (fun hz3 => ?_) (fun hz3 => absurd hz3 (fun q => q (dcs hr0.2)))
    refine e_goto (tgt := 2358) dL_law_1417 (by decide) ?_
    refine e_fg (i := 6) (L' := [some (.ref (gb G)), some (.ref (ad 0)), some (.ref (ad 96)), some (.ref (ad 104)), some (.ref (ad 105)), some (.int (nI i)), none, some (.float (b)), none]) rfl ?_
    refine e_fg (i := 7) (L' := [some (.ref (gb G)), some (.ref (ad 0)), some (.ref (ad 96)), some (.ref (ad 104)), some (.ref (ad 105)), some (.int (nI i)), none, none, none]) rfl ?_
    exact kk _ _ hL2
theorem law_28 (hL : LV M) (hi : i + 4 ≤ gL G) (h48 : gL G ≤ 2048) (hu1 : u.1 + 1 ≤ 603072) (hu2 : u.2 + 6 ≤ 7207018) (kk : ∀ M' o', LV M' → EV G room_1 mL_law Qf (u.1 + 1, u.2 + 6) 2358 (LL G ad i) [] (wM G ad (M', o'))) : EV G room_1 mL_law Qf u 1420 (LL G ad i) [] (wM G ad (M, o)) := by
  refine e_aload_n (pc' := 1421) dL_law_1420 rfl rfl rfl ?_
  refine e_aload_n (pc' := 1422) dL_law_1421 rfl rfl rfl ?_
  refine e_iload (pc' := 1424) dL_law_1422 rfl rfl ?_
  refine e_iconst (pc' := 1425) (v := nI 1) dL_law_1424 rfl (by decide) ?_
  refine e_iaddN (pc' := 1426) dL_law_1425 rfl ?_
  refine e_sld (pc' := 1427) (j := i + 1) dL_law_1426 rfl rfl (by omega) ?_
  refine e_aload_n (pc' := 1428) dL_law_1427 rfl rfl rfl ?_
  obtain ⟨k, Fo, I, b, hk, hW, hG, hr⟩ := op_wholeForce (G := G) (ad := ad) (o := o) hL (gx G (i + 1))
  refine c_SX (pc' := 1431) (m' := mL_wholeForce) (As := [.ref (ad 0), .int (gx G (i + 1)), .ref (ad 104)]) (st := []) hW dL_law_1428 rfl rfl (Nat.le_of_ble_eq_true rfl) ⟨by decide, by decide, hu1, hu2⟩ ml_L_244 okL_wholeForce (List.cons_ne_nil _ _) rfl (fun v2 S2 h => ?_) (fun E2 S2 h => by cases h.1)
  obtain ⟨h3, M1, o1, rfl, hF, hI⟩ := h
  cases h3
  show EV _ _ _ _ (u.1 + 1, u.2 + 6) 1431 _ ([.int (nI k)]) _
  refine e_istore (pc' := 1433) (L' := [some (.ref (gb G)), some (.ref (ad 0)), some (.ref (ad 96)), some (.ref (ad 104)), some (.ref (ad 105)), some (.int (nI i)), some (.int (nI k)), none, none]) dL_law_1431 rfl (by decide) rfl ?_
  refine e_aload_n (pc' := 1434) dL_law_1433 rfl rfl rfl ?_
  refine e_aload_n (pc' := 1435) dL_law_1434 rfl rfl rfl ?_
  refine e_iload (pc' := 1437) dL_law_1435 rfl rfl ?_
  refine e_iconst (pc' := 1438) (v := nI 1) dL_law_1437 rfl (by decide) ?_
  refine e_iaddN (pc' := 1439) dL_law_1438 rfl ?_
  refine e_sld (pc' := 1440) (j := i + 1) dL_law_1439 rfl rfl (by omega) ?_
  refine r_VI (pc' := 1443) (m' := mX9_wholeForce) (As := [.int (gx G (i + 1))]) (st := []) (hG M1 o1 hI) dL_law_1440 rfl rfl (Nat.le_of_ble_eq_true rfl) ⟨by decide, by decide, hu1, hu2⟩ ml_L_246 okX9_wholeForce rfl rfl (by decide) rfl (fun M2 hJ => ?_)
  obtain ⟨h8, hL2⟩ := hJ
  show EV _ _ _ _ _ 1443 _ ([.int (b)]) _
  refine e_istore (pc' := 1445) (L' := [some (.ref (gb G)), some (.ref (ad 0)), some (.ref (ad 96)), some (.ref (ad 104)), some (.ref (ad 105)), some (.int (nI i)), some (.int (nI k)), some (.int (b)), none]) dL_law_1443 rfl (by decide) rfl ?_
  refine e_aload_n (pc' := 1446) dL_law_1445 rfl rfl rfl ?_
  refine r_V (pc' := 1449) (m' := mX9_thrown) (As := []) (st := []) (g_thrown (d := 19)) dL_law_1446 rfl rfl (Nat.le_of_ble_eq_true rfl) ⟨by decide, by decide, hu1, hu2⟩ ml_L_144 okX9_thrown rfl rfl (by decide) rfl ?_
  rw [h8]
  show EV _ _ _ _ _ 1449 _ ([.int (nI k)]) _
  refine e_iload (pc' := 1451) dL_law_1449 rfl rfl ?_
  refine e_icmp_eqN (pc' := 1454) (tgt := 1456) dL_law_1451 rfl (by decide) (by omega) (by omega) (fun hz1 => ?_) (fun hz1 => absurd hz1 (fun q => q rfl))
  refine e_iload (pc' := 1458) dL_law_1456 rfl rfl ?_
  refine e_if_neN (pc' := 1461) (tgt := 1473) dL_law_1458 rfl (by decide) (by omega) (fun hk0 => ?_) (fun hk0 => ?_)
  · refine e_goto (tgt := 2358) dL_law_1473 (by decide) ?_
    refine e_fg (i := 6) (L' := [some (.ref (gb G)), some (.ref (ad 0)), some (.ref (ad 96)), some (.ref (ad 104)), some (.ref (ad 105)), some (.int (nI i)), none, some (.int (b)), none]) rfl ?_
    refine e_fg (i := 7) (L' := [some (.ref (gb G)), some (.ref (ad 0)), some (.ref (ad 96)), some (.ref (ad 104)), some (.ref (ad 105)), some (.int (nI i)), none, none, none]) rfl ?_
    exact kk _ _ hL2
  · have hr0 : o1.1 0 = (b).toInt64 := hr hk0 o1 hF
    refine e_aload_n (pc' := 1462) dL_law_1461 rfl rfl rfl ?_
    refine e_iconst (pc' := 1463) (v := nI 0) dL_law_1462 rfl (by decide) ?_
    refine p_lald (pc' := 1464) dL_law_1463 rfl ?_
    rw [hr0]
    refine e_iload (pc' := 1466) dL_law_1464 rfl rfl ?_
    refine e_i2l (pc' := 1467) dL_law_1466 rfl ?_
    refine e_lcmp (pc' := 1468) dL_law_1467 rfl ?_
    refine e_if_eq (pc' := 1471) (tgt := 1473) dL_law_1468 rfl (by decide) (fun hz3 => ?_) (fun hz3 => absurd hz3 (fun q => q (lgc _)))
    refine e_goto (tgt := 2358) dL_law_1473 (by decide) ?_
    refine e_fg (i := 6) (L' := [some (.ref (gb G)), some (.ref (ad 0)), some (.ref (ad 96)), some (.ref (ad 104)), some (.ref (ad 105)), some (.int (nI i)), none, some (.int (b)), none]) rfl ?_
    refine e_fg (i := 7) (L' := [some (.ref (gb G)), some (.ref (ad 0)), some (.ref (ad 96)), some (.ref (ad 104)), some (.ref (ad 105)), some (.int (nI i)), none, none, none]) rfl ?_
    exact kk _ _ hL2
theorem law_29 (hL : LV M) (hi : i + 4 ≤ gL G) (h48 : gL G ≤ 2048) (hu1 : u.1 + 1 ≤ 603072) (hu2 : u.2 + 6 ≤ 7207018) (kk : ∀ M' o', LV M' → EV G room_1 mL_law Qf (u.1 + 1, u.2 + 6) 2358 (LL G ad i) [] (wM G ad (M', o'))) : EV G room_1 mL_law Qf u 1476 (LL G ad i) [] (wM G ad (M, o)) := by
  refine e_aload_n (pc' := 1477) dL_law_1476 rfl rfl rfl ?_
  refine e_aload_n (pc' := 1478) dL_law_1477 rfl rfl rfl ?_
  refine e_iload (pc' := 1480) dL_law_1478 rfl rfl ?_
  refine e_iconst (pc' := 1481) (v := nI 1) dL_law_1480 rfl (by decide) ?_
  refine e_iaddN (pc' := 1482) dL_law_1481 rfl ?_
  refine e_sld (pc' := 1483) (j := i + 1) dL_law_1482 rfl rfl (by omega) ?_
  refine e_aload (pc' := 1485) dL_law_1483 rfl rfl ?_
  obtain ⟨k, Fo, I, b, hk, hW, hG, hr⟩ := op_field (G := G) (ad := ad) (o := o) hL (gx G (i + 1))
  refine c_SX (pc' := 1488) (m' := mL_field) (As := [.ref (ad 0), .int (gx G (i + 1)), .ref (ad 105)]) (st := []) hW dL_law_1485 rfl rfl (Nat.le_of_ble_eq_true rfl) ⟨by decide, by decide, hu1, hu2⟩ ml_L_247 okL_field (List.cons_ne_nil _ _) rfl (fun v2 S2 h => ?_) (fun E2 S2 h => by cases h.1)
  obtain ⟨h3, M1, o1, rfl, hF, hI⟩ := h
  cases h3
  show EV _ _ _ _ (u.1 + 1, u.2 + 6) 1488 _ ([.int (nI k)]) _
  refine e_istore (pc' := 1490) (L' := [some (.ref (gb G)), some (.ref (ad 0)), some (.ref (ad 96)), some (.ref (ad 104)), some (.ref (ad 105)), some (.int (nI i)), some (.int (nI k)), none, none]) dL_law_1488 rfl (by decide) rfl ?_
  refine e_aload_n (pc' := 1491) dL_law_1490 rfl rfl rfl ?_
  refine e_aload_n (pc' := 1492) dL_law_1491 rfl rfl rfl ?_
  refine e_iload (pc' := 1494) dL_law_1492 rfl rfl ?_
  refine e_iconst (pc' := 1495) (v := nI 1) dL_law_1494 rfl (by decide) ?_
  refine e_iaddN (pc' := 1496) dL_law_1495 rfl ?_
  refine e_sld (pc' := 1497) (j := i + 1) dL_law_1496 rfl rfl (by omega) ?_
  refine r_VI (pc' := 1500) (m' := mX9_field) (As := [.int (gx G (i + 1))]) (st := []) (hG M1 o1 hI) dL_law_1497 rfl rfl (Nat.le_of_ble_eq_true rfl) ⟨by decide, by decide, hu1, hu2⟩ ml_L_249 okX9_field rfl rfl (by decide) rfl (fun M2 hJ => ?_)
  obtain ⟨h8, hL2⟩ := hJ
  show EV _ _ _ _ _ 1500 _ ([.double (b)]) _
  refine e_dstore (pc' := 1502) (L' := [some (.ref (gb G)), some (.ref (ad 0)), some (.ref (ad 96)), some (.ref (ad 104)), some (.ref (ad 105)), some (.int (nI i)), some (.int (nI k)), some (.double (b)), none]) dL_law_1500 rfl (by decide) rfl ?_
  refine e_aload_n (pc' := 1503) dL_law_1502 rfl rfl rfl ?_
  refine r_V (pc' := 1506) (m' := mX9_thrown) (As := []) (st := []) (g_thrown (d := 19)) dL_law_1503 rfl rfl (Nat.le_of_ble_eq_true rfl) ⟨by decide, by decide, hu1, hu2⟩ ml_L_144 okX9_thrown rfl rfl (by decide) rfl ?_
  rw [h8]
  show EV _ _ _ _ _ 1506 _ ([.int (nI k)]) _
  refine e_iload (pc' := 1508) dL_law_1506 rfl rfl ?_
  refine e_icmp_eqN (pc' := 1511) (tgt := 1513) dL_law_1508 rfl (by decide) (by omega) (by omega) (fun hz1 => ?_) (fun hz1 => absurd hz1 (fun q => q rfl))
  refine e_iload (pc' := 1515) dL_law_1513 rfl rfl ?_
  refine e_if_neN (pc' := 1518) (tgt := 1550) dL_law_1515 rfl (by decide) (by omega) (fun hk0 => ?_) (fun hk0 => ?_)
  · refine e_goto (tgt := 2358) dL_law_1550 (by decide) ?_
    refine e_fg (i := 6) (L' := [some (.ref (gb G)), some (.ref (ad 0)), some (.ref (ad 96)), some (.ref (ad 104)), some (.ref (ad 105)), some (.int (nI i)), none, some (.double (b)), none]) rfl ?_
    refine e_fg (i := 7) (L' := [some (.ref (gb G)), some (.ref (ad 0)), some (.ref (ad 96)), some (.ref (ad 104)), some (.ref (ad 105)), some (.int (nI i)), none, none, none]) rfl ?_
    exact kk _ _ hL2
  · have hr0 : o1.2 0 = b ∧ FP.Core.dIsNaN b = false := hr hk0 o1 hF
    refine e_aload (pc' := 1520) dL_law_1518 rfl rfl ?_
    refine e_iconst (pc' := 1521) (v := nI 0) dL_law_1520 rfl (by decide) ?_
    refine p_dald (pc' := 1522) dL_law_1521 rfl ?_
    rw [hr0.1]
    refine e_dload (pc' := 1524) dL_law_1522 rfl rfl ?_
    refine e_dcmp (pc' := 1525) dL_law_1524 rfl ?_
    refine e_if_eq (pc' := 1528) (tgt := 1550) dL_law_1525 rfl (by decide) (fun hz3 => ?_) (fun hz3 => absurd hz3 (fun q => q (dcs hr0.2)))
    refine e_goto (tgt := 2358) dL_law_1550 (by decide) ?_
    refine e_fg (i := 6) (L' := [some (.ref (gb G)), some (.ref (ad 0)), some (.ref (ad 96)), some (.ref (ad 104)), some (.ref (ad 105)), some (.int (nI i)), none, some (.double (b)), none]) rfl ?_
    refine e_fg (i := 7) (L' := [some (.ref (gb G)), some (.ref (ad 0)), some (.ref (ad 96)), some (.ref (ad 104)), some (.ref (ad 105)), some (.int (nI i)), none, none, none]) rfl ?_
    exact kk _ _ hL2
theorem law_30 (hL : LV M) (hi : i + 4 ≤ gL G) (h48 : gL G ≤ 2048) (hu1 : u.1 + 1 ≤ 603072) (hu2 : u.2 + 6 ≤ 7207018) (kk : ∀ M' o', LV M' → EV G room_1 mL_law Qf (u.1 + 1, u.2 + 6) 2358 (LL G ad i) [] (wM G ad (M', o'))) : EV G room_1 mL_law Qf u 1553 (LL G ad i) [] (wM G ad (M, o)) := by
  refine e_aload_n (pc' := 1554) dL_law_1553 rfl rfl rfl ?_
  refine e_aload_n (pc' := 1555) dL_law_1554 rfl rfl rfl ?_
  obtain ⟨k, Fo, I, b, hk, hW, hG, hr⟩ := op_strongestPosition (G := G) (ad := ad) (o := o) hL 
  refine c_SX (pc' := 1558) (m' := mL_strongestPosition) (As := [.ref (ad 0), .ref (ad 104)]) (st := []) hW dL_law_1555 rfl rfl (Nat.le_of_ble_eq_true rfl) ⟨by decide, by decide, hu1, hu2⟩ ml_L_250 okL_strongestPosition (List.cons_ne_nil _ _) rfl (fun v2 S2 h => ?_) (fun E2 S2 h => by cases h.1)
  obtain ⟨h3, M1, o1, rfl, hF, hI⟩ := h
  cases h3
  show EV _ _ _ _ (u.1 + 1, u.2 + 6) 1558 _ ([.int (nI k)]) _
  refine e_istore (pc' := 1560) (L' := [some (.ref (gb G)), some (.ref (ad 0)), some (.ref (ad 96)), some (.ref (ad 104)), some (.ref (ad 105)), some (.int (nI i)), some (.int (nI k)), none, none]) dL_law_1558 rfl (by decide) rfl ?_
  refine e_aload_n (pc' := 1561) dL_law_1560 rfl rfl rfl ?_
  refine r_VI (pc' := 1564) (m' := mX9_strongestPosition) (As := []) (st := []) (hG M1 o1 hI) dL_law_1561 rfl rfl (Nat.le_of_ble_eq_true rfl) ⟨by decide, by decide, hu1, hu2⟩ ml_L_252 okX9_strongestPosition rfl rfl (by decide) rfl (fun M2 hJ => ?_)
  obtain ⟨h8, hL2⟩ := hJ
  show EV _ _ _ _ _ 1564 _ ([.int (b)]) _
  refine e_istore (pc' := 1566) (L' := [some (.ref (gb G)), some (.ref (ad 0)), some (.ref (ad 96)), some (.ref (ad 104)), some (.ref (ad 105)), some (.int (nI i)), some (.int (nI k)), some (.int (b)), none]) dL_law_1564 rfl (by decide) rfl ?_
  refine e_aload_n (pc' := 1567) dL_law_1566 rfl rfl rfl ?_
  refine r_V (pc' := 1570) (m' := mX9_thrown) (As := []) (st := []) (g_thrown (d := 19)) dL_law_1567 rfl rfl (Nat.le_of_ble_eq_true rfl) ⟨by decide, by decide, hu1, hu2⟩ ml_L_144 okX9_thrown rfl rfl (by decide) rfl ?_
  rw [h8]
  show EV _ _ _ _ _ 1570 _ ([.int (nI k)]) _
  refine e_iload (pc' := 1572) dL_law_1570 rfl rfl ?_
  refine e_icmp_eqN (pc' := 1575) (tgt := 1577) dL_law_1572 rfl (by decide) (by omega) (by omega) (fun hz1 => ?_) (fun hz1 => absurd hz1 (fun q => q rfl))
  refine e_iload (pc' := 1579) dL_law_1577 rfl rfl ?_
  refine e_if_neN (pc' := 1582) (tgt := 1594) dL_law_1579 rfl (by decide) (by omega) (fun hk0 => ?_) (fun hk0 => ?_)
  · refine e_goto (tgt := 2358) dL_law_1594 (by decide) ?_
    refine e_fg (i := 6) (L' := [some (.ref (gb G)), some (.ref (ad 0)), some (.ref (ad 96)), some (.ref (ad 104)), some (.ref (ad 105)), some (.int (nI i)), none, some (.int (b)), none]) rfl ?_
    refine e_fg (i := 7) (L' := [some (.ref (gb G)), some (.ref (ad 0)), some (.ref (ad 96)), some (.ref (ad 104)), some (.ref (ad 105)), some (.int (nI i)), none, none, none]) rfl ?_
    exact kk _ _ hL2
  · have hr0 : o1.1 0 = (b).toInt64 := hr hk0 o1 hF
    refine e_aload_n (pc' := 1583) dL_law_1582 rfl rfl rfl ?_
    refine e_iconst (pc' := 1584) (v := nI 0) dL_law_1583 rfl (by decide) ?_
    refine p_lald (pc' := 1585) dL_law_1584 rfl ?_
    rw [hr0]
    refine e_iload (pc' := 1587) dL_law_1585 rfl rfl ?_
    refine e_i2l (pc' := 1588) dL_law_1587 rfl ?_
    refine e_lcmp (pc' := 1589) dL_law_1588 rfl ?_
    refine e_if_eq (pc' := 1592) (tgt := 1594) dL_law_1589 rfl (by decide) (fun hz3 => ?_) (fun hz3 => absurd hz3 (fun q => q (lgc _)))
    refine e_goto (tgt := 2358) dL_law_1594 (by decide) ?_
    refine e_fg (i := 6) (L' := [some (.ref (gb G)), some (.ref (ad 0)), some (.ref (ad 96)), some (.ref (ad 104)), some (.ref (ad 105)), some (.int (nI i)), none, some (.int (b)), none]) rfl ?_
    refine e_fg (i := 7) (L' := [some (.ref (gb G)), some (.ref (ad 0)), some (.ref (ad 96)), some (.ref (ad 104)), some (.ref (ad 105)), some (.int (nI i)), none, none, none]) rfl ?_
    exact kk _ _ hL2
theorem law_31 (hL : LV M) (hi : i + 4 ≤ gL G) (h48 : gL G ≤ 2048) (hu1 : u.1 + 1 ≤ 603072) (hu2 : u.2 + 6 ≤ 7207018) (kk : ∀ M' o', LV M' → EV G room_1 mL_law Qf (u.1 + 1, u.2 + 6) 2358 (LL G ad i) [] (wM G ad (M', o'))) : EV G room_1 mL_law Qf u 1597 (LL G ad i) [] (wM G ad (M, o)) := by
  refine e_aload_n (pc' := 1598) dL_law_1597 rfl rfl rfl ?_
  refine e_aload_n (pc' := 1599) dL_law_1598 rfl rfl rfl ?_
  obtain ⟨k, Fo, I, b, hk, hW, hG, hr⟩ := op_queen (G := G) (ad := ad) (o := o) hL 
  refine c_SX (pc' := 1602) (m' := mL_queen) (As := [.ref (ad 0), .ref (ad 104)]) (st := []) hW dL_law_1599 rfl rfl (Nat.le_of_ble_eq_true rfl) ⟨by decide, by decide, hu1, hu2⟩ ml_L_253 okL_queen (List.cons_ne_nil _ _) rfl (fun v2 S2 h => ?_) (fun E2 S2 h => by cases h.1)
  obtain ⟨h3, M1, o1, rfl, hF, hI⟩ := h
  cases h3
  show EV _ _ _ _ (u.1 + 1, u.2 + 6) 1602 _ ([.int (nI k)]) _
  refine e_istore (pc' := 1604) (L' := [some (.ref (gb G)), some (.ref (ad 0)), some (.ref (ad 96)), some (.ref (ad 104)), some (.ref (ad 105)), some (.int (nI i)), some (.int (nI k)), none, none]) dL_law_1602 rfl (by decide) rfl ?_
  refine e_aload_n (pc' := 1605) dL_law_1604 rfl rfl rfl ?_
  refine r_VI (pc' := 1608) (m' := mX9_queen) (As := []) (st := []) (hG M1 o1 hI) dL_law_1605 rfl rfl (Nat.le_of_ble_eq_true rfl) ⟨by decide, by decide, hu1, hu2⟩ ml_L_255 okX9_queen rfl rfl (by decide) rfl (fun M2 hJ => ?_)
  obtain ⟨h8, hL2⟩ := hJ
  show EV _ _ _ _ _ 1608 _ ([.int (b)]) _
  refine e_istore (pc' := 1610) (L' := [some (.ref (gb G)), some (.ref (ad 0)), some (.ref (ad 96)), some (.ref (ad 104)), some (.ref (ad 105)), some (.int (nI i)), some (.int (nI k)), some (.int (b)), none]) dL_law_1608 rfl (by decide) rfl ?_
  refine e_aload_n (pc' := 1611) dL_law_1610 rfl rfl rfl ?_
  refine r_V (pc' := 1614) (m' := mX9_thrown) (As := []) (st := []) (g_thrown (d := 19)) dL_law_1611 rfl rfl (Nat.le_of_ble_eq_true rfl) ⟨by decide, by decide, hu1, hu2⟩ ml_L_144 okX9_thrown rfl rfl (by decide) rfl ?_
  rw [h8]
  show EV _ _ _ _ _ 1614 _ ([.int (nI k)]) _
  refine e_iload (pc' := 1616) dL_law_1614 rfl rfl ?_
  refine e_icmp_eqN (pc' := 1619) (tgt := 1621) dL_law_1616 rfl (by decide) (by omega) (by omega) (fun hz1 => ?_) (fun hz1 => absurd hz1 (fun q => q rfl))
  refine e_iload (pc' := 1623) dL_law_1621 rfl rfl ?_
  refine e_if_neN (pc' := 1626) (tgt := 1638) dL_law_1623 rfl (by decide) (by omega) (fun hk0 => ?_) (fun hk0 => ?_)
  · refine e_goto (tgt := 2358) dL_law_1638 (by decide) ?_
    refine e_fg (i := 6) (L' := [some (.ref (gb G)), some (.ref (ad 0)), some (.ref (ad 96)), some (.ref (ad 104)), some (.ref (ad 105)), some (.int (nI i)), none, some (.int (b)), none]) rfl ?_
    refine e_fg (i := 7) (L' := [some (.ref (gb G)), some (.ref (ad 0)), some (.ref (ad 96)), some (.ref (ad 104)), some (.ref (ad 105)), some (.int (nI i)), none, none, none]) rfl ?_
    exact kk _ _ hL2
  · have hr0 : o1.1 0 = (b).toInt64 := hr hk0 o1 hF
    refine e_aload_n (pc' := 1627) dL_law_1626 rfl rfl rfl ?_
    refine e_iconst (pc' := 1628) (v := nI 0) dL_law_1627 rfl (by decide) ?_
    refine p_lald (pc' := 1629) dL_law_1628 rfl ?_
    rw [hr0]
    refine e_iload (pc' := 1631) dL_law_1629 rfl rfl ?_
    refine e_i2l (pc' := 1632) dL_law_1631 rfl ?_
    refine e_lcmp (pc' := 1633) dL_law_1632 rfl ?_
    refine e_if_eq (pc' := 1636) (tgt := 1638) dL_law_1633 rfl (by decide) (fun hz3 => ?_) (fun hz3 => absurd hz3 (fun q => q (lgc _)))
    refine e_goto (tgt := 2358) dL_law_1638 (by decide) ?_
    refine e_fg (i := 6) (L' := [some (.ref (gb G)), some (.ref (ad 0)), some (.ref (ad 96)), some (.ref (ad 104)), some (.ref (ad 105)), some (.int (nI i)), none, some (.int (b)), none]) rfl ?_
    refine e_fg (i := 7) (L' := [some (.ref (gb G)), some (.ref (ad 0)), some (.ref (ad 96)), some (.ref (ad 104)), some (.ref (ad 105)), some (.int (nI i)), none, none, none]) rfl ?_
    exact kk _ _ hL2
theorem law_32 (hL : LV M) (hi : i + 4 ≤ gL G) (h48 : gL G ≤ 2048) (hu1 : u.1 + 1 ≤ 603072) (hu2 : u.2 + 6 ≤ 7207018) (kk : ∀ M' o', LV M' → EV G room_1 mL_law Qf (u.1 + 1, u.2 + 6) 2358 (LL G ad i) [] (wM G ad (M', o'))) : EV G room_1 mL_law Qf u 1641 (LL G ad i) [] (wM G ad (M, o)) := by
  refine e_aload_n (pc' := 1642) dL_law_1641 rfl rfl rfl ?_
  refine e_aload (pc' := 1644) dL_law_1642 rfl rfl ?_
  obtain ⟨k, Fo, I, b, hk, hW, hG, hr⟩ := op_meanStrength (G := G) (ad := ad) (o := o) hL 
  refine c_SX (pc' := 1647) (m' := mL_meanStrength) (As := [.ref (ad 0), .ref (ad 105)]) (st := []) hW dL_law_1644 rfl rfl (Nat.le_of_ble_eq_true rfl) ⟨by decide, by decide, hu1, hu2⟩ ml_L_256 okL_meanStrength (List.cons_ne_nil _ _) rfl (fun v2 S2 h => ?_) (fun E2 S2 h => by cases h.1)
  obtain ⟨h3, M1, o1, rfl, hF, hI⟩ := h
  cases h3
  show EV _ _ _ _ (u.1 + 1, u.2 + 6) 1647 _ ([.int (nI k)]) _
  refine e_istore (pc' := 1649) (L' := [some (.ref (gb G)), some (.ref (ad 0)), some (.ref (ad 96)), some (.ref (ad 104)), some (.ref (ad 105)), some (.int (nI i)), some (.int (nI k)), none, none]) dL_law_1647 rfl (by decide) rfl ?_
  refine e_aload_n (pc' := 1650) dL_law_1649 rfl rfl rfl ?_
  refine r_VI (pc' := 1653) (m' := mX9_meanStrength) (As := []) (st := []) (hG M1 o1 hI) dL_law_1650 rfl rfl (Nat.le_of_ble_eq_true rfl) ⟨by decide, by decide, hu1, hu2⟩ ml_L_259 okX9_meanStrength rfl rfl (by decide) rfl (fun M2 hJ => ?_)
  obtain ⟨h8, hL2⟩ := hJ
  show EV _ _ _ _ _ 1653 _ ([.double (b)]) _
  refine e_dstore (pc' := 1655) (L' := [some (.ref (gb G)), some (.ref (ad 0)), some (.ref (ad 96)), some (.ref (ad 104)), some (.ref (ad 105)), some (.int (nI i)), some (.int (nI k)), some (.double (b)), none]) dL_law_1653 rfl (by decide) rfl ?_
  refine e_aload_n (pc' := 1656) dL_law_1655 rfl rfl rfl ?_
  refine r_V (pc' := 1659) (m' := mX9_thrown) (As := []) (st := []) (g_thrown (d := 19)) dL_law_1656 rfl rfl (Nat.le_of_ble_eq_true rfl) ⟨by decide, by decide, hu1, hu2⟩ ml_L_144 okX9_thrown rfl rfl (by decide) rfl ?_
  rw [h8]
  show EV _ _ _ _ _ 1659 _ ([.int (nI k)]) _
  refine e_iload (pc' := 1661) dL_law_1659 rfl rfl ?_
  refine e_icmp_eqN (pc' := 1664) (tgt := 1666) dL_law_1661 rfl (by decide) (by omega) (by omega) (fun hz1 => ?_) (fun hz1 => absurd hz1 (fun q => q rfl))
  refine e_iload (pc' := 1668) dL_law_1666 rfl rfl ?_
  refine e_if_neN (pc' := 1671) (tgt := 1703) dL_law_1668 rfl (by decide) (by omega) (fun hk0 => ?_) (fun hk0 => ?_)
  · refine e_goto (tgt := 2358) dL_law_1703 (by decide) ?_
    refine e_fg (i := 6) (L' := [some (.ref (gb G)), some (.ref (ad 0)), some (.ref (ad 96)), some (.ref (ad 104)), some (.ref (ad 105)), some (.int (nI i)), none, some (.double (b)), none]) rfl ?_
    refine e_fg (i := 7) (L' := [some (.ref (gb G)), some (.ref (ad 0)), some (.ref (ad 96)), some (.ref (ad 104)), some (.ref (ad 105)), some (.int (nI i)), none, none, none]) rfl ?_
    exact kk _ _ hL2
  · have hr0 : o1.2 0 = b ∧ FP.Core.dIsNaN b = false := hr hk0 o1 hF
    refine e_aload (pc' := 1673) dL_law_1671 rfl rfl ?_
    refine e_iconst (pc' := 1674) (v := nI 0) dL_law_1673 rfl (by decide) ?_
    refine p_dald (pc' := 1675) dL_law_1674 rfl ?_
    rw [hr0.1]
    refine e_dload (pc' := 1677) dL_law_1675 rfl rfl ?_
    refine e_dcmp (pc' := 1678) dL_law_1677 rfl ?_
    refine e_if_eq (pc' := 1681) (tgt := 1703) dL_law_1678 rfl (by decide) (fun hz3 => ?_) (fun hz3 => absurd hz3 (fun q => q (dcs hr0.2)))
    refine e_goto (tgt := 2358) dL_law_1703 (by decide) ?_
    refine e_fg (i := 6) (L' := [some (.ref (gb G)), some (.ref (ad 0)), some (.ref (ad 96)), some (.ref (ad 104)), some (.ref (ad 105)), some (.int (nI i)), none, some (.double (b)), none]) rfl ?_
    refine e_fg (i := 7) (L' := [some (.ref (gb G)), some (.ref (ad 0)), some (.ref (ad 96)), some (.ref (ad 104)), some (.ref (ad 105)), some (.int (nI i)), none, none, none]) rfl ?_
    exact kk _ _ hL2
theorem law_33 (hL : LV M) (hi : i + 4 ≤ gL G) (h48 : gL G ≤ 2048) (hu1 : u.1 + 1 ≤ 603072) (hu2 : u.2 + 6 ≤ 7207018) (kk : ∀ M' o', LV M' → EV G room_1 mL_law Qf (u.1 + 1, u.2 + 6) 2358 (LL G ad i) [] (wM G ad (M', o'))) : EV G room_1 mL_law Qf u 1706 (LL G ad i) [] (wM G ad (M, o)) := by
  refine e_aload_n (pc' := 1707) dL_law_1706 rfl rfl rfl ?_
  refine e_aload (pc' := 1709) dL_law_1707 rfl rfl ?_
  obtain ⟨k, Fo, I, b, hk, hW, hG, hr⟩ := op_openShare (G := G) (ad := ad) (o := o) hL 
  refine c_SX (pc' := 1712) (m' := mL_openShare) (As := [.ref (ad 0), .ref (ad 105)]) (st := []) hW dL_law_1709 rfl rfl (Nat.le_of_ble_eq_true rfl) ⟨by decide, by decide, hu1, hu2⟩ ml_L_260 okL_openShare (List.cons_ne_nil _ _) rfl (fun v2 S2 h => ?_) (fun E2 S2 h => by cases h.1)
  obtain ⟨h3, M1, o1, rfl, hF, hI⟩ := h
  cases h3
  show EV _ _ _ _ (u.1 + 1, u.2 + 6) 1712 _ ([.int (nI k)]) _
  refine e_istore (pc' := 1714) (L' := [some (.ref (gb G)), some (.ref (ad 0)), some (.ref (ad 96)), some (.ref (ad 104)), some (.ref (ad 105)), some (.int (nI i)), some (.int (nI k)), none, none]) dL_law_1712 rfl (by decide) rfl ?_
  refine e_aload_n (pc' := 1715) dL_law_1714 rfl rfl rfl ?_
  refine r_VI (pc' := 1718) (m' := mX9_openShare) (As := []) (st := []) (hG M1 o1 hI) dL_law_1715 rfl rfl (Nat.le_of_ble_eq_true rfl) ⟨by decide, by decide, hu1, hu2⟩ ml_L_262 okX9_openShare rfl rfl (by decide) rfl (fun M2 hJ => ?_)
  obtain ⟨h8, hL2⟩ := hJ
  show EV _ _ _ _ _ 1718 _ ([.float (b)]) _
  refine e_fstore (pc' := 1720) (L' := [some (.ref (gb G)), some (.ref (ad 0)), some (.ref (ad 96)), some (.ref (ad 104)), some (.ref (ad 105)), some (.int (nI i)), some (.int (nI k)), some (.float (b)), none]) dL_law_1718 rfl (by decide) rfl ?_
  refine e_aload_n (pc' := 1721) dL_law_1720 rfl rfl rfl ?_
  refine r_V (pc' := 1724) (m' := mX9_thrown) (As := []) (st := []) (g_thrown (d := 19)) dL_law_1721 rfl rfl (Nat.le_of_ble_eq_true rfl) ⟨by decide, by decide, hu1, hu2⟩ ml_L_144 okX9_thrown rfl rfl (by decide) rfl ?_
  rw [h8]
  show EV _ _ _ _ _ 1724 _ ([.int (nI k)]) _
  refine e_iload (pc' := 1726) dL_law_1724 rfl rfl ?_
  refine e_icmp_eqN (pc' := 1729) (tgt := 1731) dL_law_1726 rfl (by decide) (by omega) (by omega) (fun hz1 => ?_) (fun hz1 => absurd hz1 (fun q => q rfl))
  refine e_iload (pc' := 1733) dL_law_1731 rfl rfl ?_
  refine e_if_neN (pc' := 1736) (tgt := 1769) dL_law_1733 rfl (by decide) (by omega) (fun hk0 => ?_) (fun hk0 => ?_)
  · refine e_goto (tgt := 2358) dL_law_1769 (by decide) ?_
    refine e_fg (i := 6) (L' := [some (.ref (gb G)), some (.ref (ad 0)), some (.ref (ad 96)), some (.ref (ad 104)), some (.ref (ad 105)), some (.int (nI i)), none, some (.float (b)), none]) rfl ?_
    refine e_fg (i := 7) (L' := [some (.ref (gb G)), some (.ref (ad 0)), some (.ref (ad 96)), some (.ref (ad 104)), some (.ref (ad 105)), some (.int (nI i)), none, none, none]) rfl ?_
    exact kk _ _ hL2
  · have hr0 : o1.2 0 = FP.f2d b ∧ FP.Core.dIsNaN (FP.f2d b) = false := hr hk0 o1 hF
    refine e_aload (pc' := 1738) dL_law_1736 rfl rfl ?_
    refine e_iconst (pc' := 1739) (v := nI 0) dL_law_1738 rfl (by decide) ?_
    refine p_dald (pc' := 1740) dL_law_1739 rfl ?_
    rw [hr0.1]
    refine e_fload (pc' := 1742) dL_law_1740 rfl rfl ?_
    refine e_f2d (pc' := 1743) dL_law_1742 rfl (vf64_of hr0.2) ?_
    refine e_dcmp (pc' := 1744) dL_law_1743 rfl ?_
    refine e_if_eq (pc' := 1747) (tgt := 1769) dL_law_1744 rfl (by decide) (fun hz3 => ?_) (fun hz3 => absurd hz3 (fun q => q (dcs hr0.2)))
    refine e_goto (tgt := 2358) dL_law_1769 (by decide) ?_
    refine e_fg (i := 6) (L' := [some (.ref (gb G)), some (.ref (ad 0)), some (.ref (ad 96)), some (.ref (ad 104)), some (.ref (ad 105)), some (.int (nI i)), none, some (.float (b)), none]) rfl ?_
    refine e_fg (i := 7) (L' := [some (.ref (gb G)), some (.ref (ad 0)), some (.ref (ad 96)), some (.ref (ad 104)), some (.ref (ad 105)), some (.int (nI i)), none, none, none]) rfl ?_
    exact kk _ _ hL2
theorem law_34 (hL : LV M) (hi : i + 4 ≤ gL G) (h48 : gL G ≤ 2048) (hu1 : u.1 + 1 ≤ 603072) (hu2 : u.2 + 6 ≤ 7207018) (kk : ∀ M' o', LV M' → EV G room_1 mL_law Qf (u.1 + 1, u.2 + 6) 2358 (LL G ad i) [] (wM G ad (M', o'))) : EV G room_1 mL_law Qf u 1772 (LL G ad i) [] (wM G ad (M, o)) := by
  refine e_aload_n (pc' := 1773) dL_law_1772 rfl rfl rfl ?_
  obtain ⟨v, I, hW, hG⟩ := od_turnTotal (G := G) (ad := ad) (o := o) hL
  refine r_VI (pc' := 1776) (m' := mX8_turnTotal) (As := []) (st := []) hW dL_law_1773 rfl rfl (Nat.le_of_ble_eq_true rfl) ⟨by decide, by decide, (show u.1 + 0 ≤ 603072 by omega), (show u.2 + 0 ≤ 7207018 by omega)⟩ ml_L_263 okX8_turnTotal rfl rfl (by decide) rfl (fun M1 hI => ?_)
  show EV _ _ _ _ _ 1776 _ ([.int (v)]) _
  refine e_aload_n (pc' := 1777) dL_law_1776 rfl rfl rfl ?_
  refine r_VI (pc' := 1780) (m' := mX9_turnTotal) (As := []) (st := [.int (v)]) (hG M1 hI) dL_law_1777 rfl rfl (Nat.le_of_ble_eq_true rfl) ⟨by decide, by decide, (show u.1 + 0 ≤ 603072 by omega), (show u.2 + 0 ≤ 7207018 by omega)⟩ ml_L_266 okX9_turnTotal rfl rfl (by decide) rfl (fun M2 hL2 => ?_)
  show EV _ _ _ _ _ 1780 _ ([.int (v), .int (v)]) _
  refine e_icmp_eq (pc' := 1783) (tgt := 2358) dL_law_1780 rfl (by decide) (fun hz1 => ?_) (fun hz1 => absurd hz1 (fun q => q rfl))
  refine e_wide (k := u.1 + 1) (n := u.2 + 6) (by omega) (by omega) ?_
  exact kk _ _ hL2
theorem law_35 (hL : LV M) (hi : i + 4 ≤ gL G) (h48 : gL G ≤ 2048) (hu1 : u.1 + 1 ≤ 603072) (hu2 : u.2 + 6 ≤ 7207018) (kk : ∀ M' o', LV M' → EV G room_1 mL_law Qf (u.1 + 1, u.2 + 6) 2358 (LL G ad i) [] (wM G ad (M', o'))) : EV G room_1 mL_law Qf u 1785 (LL G ad i) [] (wM G ad (M, o)) := by
  refine e_aload_n (pc' := 1786) dL_law_1785 rfl rfl rfl ?_
  refine e_aload_n (pc' := 1787) dL_law_1786 rfl rfl rfl ?_
  refine e_iload (pc' := 1789) dL_law_1787 rfl rfl ?_
  refine e_iconst (pc' := 1790) (v := nI 1) dL_law_1789 rfl (by decide) ?_
  refine e_iaddN (pc' := 1791) dL_law_1790 rfl ?_
  refine e_sld (pc' := 1792) (j := i + 1) dL_law_1791 rfl rfl (by omega) ?_
  refine e_aload_n (pc' := 1793) dL_law_1792 rfl rfl rfl ?_
  obtain ⟨k, Fo, I, b, hk, hW, hG, hr⟩ := op_turnsOf (G := G) (ad := ad) (o := o) hL (gx G (i + 1))
  refine c_SX (pc' := 1796) (m' := mL_turnsOf) (As := [.ref (ad 0), .int (gx G (i + 1)), .ref (ad 104)]) (st := []) hW dL_law_1793 rfl rfl (Nat.le_of_ble_eq_true rfl) ⟨by decide, by decide, hu1, hu2⟩ ml_L_267 okL_turnsOf (List.cons_ne_nil _ _) rfl (fun v2 S2 h => ?_) (fun E2 S2 h => by cases h.1)
  obtain ⟨h3, M1, o1, rfl, hF, hI⟩ := h
  cases h3
  show EV _ _ _ _ (u.1 + 1, u.2 + 6) 1796 _ ([.int (nI k)]) _
  refine e_istore (pc' := 1798) (L' := [some (.ref (gb G)), some (.ref (ad 0)), some (.ref (ad 96)), some (.ref (ad 104)), some (.ref (ad 105)), some (.int (nI i)), some (.int (nI k)), none, none]) dL_law_1796 rfl (by decide) rfl ?_
  refine e_aload_n (pc' := 1799) dL_law_1798 rfl rfl rfl ?_
  refine e_aload_n (pc' := 1800) dL_law_1799 rfl rfl rfl ?_
  refine e_iload (pc' := 1802) dL_law_1800 rfl rfl ?_
  refine e_iconst (pc' := 1803) (v := nI 1) dL_law_1802 rfl (by decide) ?_
  refine e_iaddN (pc' := 1804) dL_law_1803 rfl ?_
  refine e_sld (pc' := 1805) (j := i + 1) dL_law_1804 rfl rfl (by omega) ?_
  refine r_VI (pc' := 1808) (m' := mX9_turnsOf) (As := [.int (gx G (i + 1))]) (st := []) (hG M1 o1 hI) dL_law_1805 rfl rfl (Nat.le_of_ble_eq_true rfl) ⟨by decide, by decide, hu1, hu2⟩ ml_L_269 okX9_turnsOf rfl rfl (by decide) rfl (fun M2 hJ => ?_)
  obtain ⟨h8, hL2⟩ := hJ
  show EV _ _ _ _ _ 1808 _ ([.int (b)]) _
  refine e_istore (pc' := 1810) (L' := [some (.ref (gb G)), some (.ref (ad 0)), some (.ref (ad 96)), some (.ref (ad 104)), some (.ref (ad 105)), some (.int (nI i)), some (.int (nI k)), some (.int (b)), none]) dL_law_1808 rfl (by decide) rfl ?_
  refine e_aload_n (pc' := 1811) dL_law_1810 rfl rfl rfl ?_
  refine r_V (pc' := 1814) (m' := mX9_thrown) (As := []) (st := []) (g_thrown (d := 19)) dL_law_1811 rfl rfl (Nat.le_of_ble_eq_true rfl) ⟨by decide, by decide, hu1, hu2⟩ ml_L_144 okX9_thrown rfl rfl (by decide) rfl ?_
  rw [h8]
  show EV _ _ _ _ _ 1814 _ ([.int (nI k)]) _
  refine e_iload (pc' := 1816) dL_law_1814 rfl rfl ?_
  refine e_icmp_eqN (pc' := 1819) (tgt := 1821) dL_law_1816 rfl (by decide) (by omega) (by omega) (fun hz1 => ?_) (fun hz1 => absurd hz1 (fun q => q rfl))
  refine e_iload (pc' := 1823) dL_law_1821 rfl rfl ?_
  refine e_if_neN (pc' := 1826) (tgt := 1838) dL_law_1823 rfl (by decide) (by omega) (fun hk0 => ?_) (fun hk0 => ?_)
  · refine e_goto (tgt := 2358) dL_law_1838 (by decide) ?_
    refine e_fg (i := 6) (L' := [some (.ref (gb G)), some (.ref (ad 0)), some (.ref (ad 96)), some (.ref (ad 104)), some (.ref (ad 105)), some (.int (nI i)), none, some (.int (b)), none]) rfl ?_
    refine e_fg (i := 7) (L' := [some (.ref (gb G)), some (.ref (ad 0)), some (.ref (ad 96)), some (.ref (ad 104)), some (.ref (ad 105)), some (.int (nI i)), none, none, none]) rfl ?_
    exact kk _ _ hL2
  · have hr0 : o1.1 0 = (b).toInt64 := hr hk0 o1 hF
    refine e_aload_n (pc' := 1827) dL_law_1826 rfl rfl rfl ?_
    refine e_iconst (pc' := 1828) (v := nI 0) dL_law_1827 rfl (by decide) ?_
    refine p_lald (pc' := 1829) dL_law_1828 rfl ?_
    rw [hr0]
    refine e_iload (pc' := 1831) dL_law_1829 rfl rfl ?_
    refine e_i2l (pc' := 1832) dL_law_1831 rfl ?_
    refine e_lcmp (pc' := 1833) dL_law_1832 rfl ?_
    refine e_if_eq (pc' := 1836) (tgt := 1838) dL_law_1833 rfl (by decide) (fun hz3 => ?_) (fun hz3 => absurd hz3 (fun q => q (lgc _)))
    refine e_goto (tgt := 2358) dL_law_1838 (by decide) ?_
    refine e_fg (i := 6) (L' := [some (.ref (gb G)), some (.ref (ad 0)), some (.ref (ad 96)), some (.ref (ad 104)), some (.ref (ad 105)), some (.int (nI i)), none, some (.int (b)), none]) rfl ?_
    refine e_fg (i := 7) (L' := [some (.ref (gb G)), some (.ref (ad 0)), some (.ref (ad 96)), some (.ref (ad 104)), some (.ref (ad 105)), some (.int (nI i)), none, none, none]) rfl ?_
    exact kk _ _ hL2
theorem law_36 (hL : LV M) (hi : i + 4 ≤ gL G) (h48 : gL G ≤ 2048) (hu1 : u.1 + 1 ≤ 603072) (hu2 : u.2 + 6 ≤ 7207018) (kk : ∀ M' o', LV M' → EV G room_1 mL_law Qf (u.1 + 1, u.2 + 6) 2358 (LL G ad i) [] (wM G ad (M', o'))) : EV G room_1 mL_law Qf u 1841 (LL G ad i) [] (wM G ad (M, o)) := by
  refine e_aload_n (pc' := 1842) dL_law_1841 rfl rfl rfl ?_
  obtain ⟨v, I, hW, hG⟩ := od_moved (G := G) (ad := ad) (o := o) hL
  refine r_VI (pc' := 1845) (m' := mX8_moved) (As := []) (st := []) hW dL_law_1842 rfl rfl (Nat.le_of_ble_eq_true rfl) ⟨by decide, by decide, (show u.1 + 0 ≤ 603072 by omega), (show u.2 + 0 ≤ 7207018 by omega)⟩ ml_L_270 okX8_moved rfl rfl (by decide) rfl (fun M1 hI => ?_)
  show EV _ _ _ _ _ 1845 _ ([.int (v)]) _
  refine e_aload_n (pc' := 1846) dL_law_1845 rfl rfl rfl ?_
  refine r_VI (pc' := 1849) (m' := mX9_moved) (As := []) (st := [.int (v)]) (hG M1 hI) dL_law_1846 rfl rfl (Nat.le_of_ble_eq_true rfl) ⟨by decide, by decide, (show u.1 + 0 ≤ 603072 by omega), (show u.2 + 0 ≤ 7207018 by omega)⟩ ml_L_273 okX9_moved rfl rfl (by decide) rfl (fun M2 hL2 => ?_)
  show EV _ _ _ _ _ 1849 _ ([.int (v), .int (v)]) _
  refine e_icmp_eq (pc' := 1852) (tgt := 2358) dL_law_1849 rfl (by decide) (fun hz1 => ?_) (fun hz1 => absurd hz1 (fun q => q rfl))
  refine e_wide (k := u.1 + 1) (n := u.2 + 6) (by omega) (by omega) ?_
  exact kk _ _ hL2
theorem law_37 (hL : LV M) (hi : i + 4 ≤ gL G) (h48 : gL G ≤ 2048) (hu1 : u.1 + 1 ≤ 603072) (hu2 : u.2 + 6 ≤ 7207018) (kk : ∀ M' o', LV M' → EV G room_1 mL_law Qf (u.1 + 1, u.2 + 6) 2358 (LL G ad i) [] (wM G ad (M', o'))) : EV G room_1 mL_law Qf u 1854 (LL G ad i) [] (wM G ad (M, o)) := by
  obtain ⟨v, hv, hve⟩ := c16 (gx G (i + 1))
  refine e_aload_n (pc' := 1855) dL_law_1854 rfl rfl rfl ?_
  refine e_aload_n (pc' := 1856) dL_law_1855 rfl rfl rfl ?_
  refine e_iload (pc' := 1858) dL_law_1856 rfl rfl ?_
  refine e_iconst (pc' := 1859) (v := nI 1) dL_law_1858 rfl (by decide) ?_
  refine e_iaddN (pc' := 1860) dL_law_1859 rfl ?_
  refine e_sld (pc' := 1861) (j := i + 1) dL_law_1860 rfl rfl (by omega) ?_
  refine e_i2c (pc' := 1862) dL_law_1861 rfl ?_
  rw [show (((gx G (i + 1)).toUInt32 % 65536).toInt32) = nI v from hve]
  refine e_aload_n (pc' := 1863) dL_law_1862 rfl rfl rfl ?_
  obtain ⟨k, Fo, I, b, hk, hW, hG, hr⟩ := op_feed (G := G) (ad := ad) (o := o) hL hv
  refine c_SX (pc' := 1866) (m' := mL_feed) (As := [.ref (ad 0), .int (nI v), .ref (ad 104)]) (st := []) hW dL_law_1863 rfl rfl (Nat.le_of_ble_eq_true rfl) ⟨by decide, by decide, hu1, hu2⟩ ml_L_274 okL_feed (List.cons_ne_nil _ _) rfl (fun v2 S2 h => ?_) (fun E2 S2 h => by cases h.1)
  obtain ⟨h3, M1, o1, rfl, hF, hI⟩ := h
  cases h3
  show EV _ _ _ _ (u.1 + 1, u.2 + 6) 1866 _ ([.int (nI k)]) _
  refine e_istore (pc' := 1868) (L' := [some (.ref (gb G)), some (.ref (ad 0)), some (.ref (ad 96)), some (.ref (ad 104)), some (.ref (ad 105)), some (.int (nI i)), some (.int (nI k)), none, none]) dL_law_1866 rfl (by decide) rfl ?_
  refine e_aload_n (pc' := 1869) dL_law_1868 rfl rfl rfl ?_
  refine e_aload_n (pc' := 1870) dL_law_1869 rfl rfl rfl ?_
  refine e_iload (pc' := 1872) dL_law_1870 rfl rfl ?_
  refine e_iconst (pc' := 1873) (v := nI 1) dL_law_1872 rfl (by decide) ?_
  refine e_iaddN (pc' := 1874) dL_law_1873 rfl ?_
  refine e_sld (pc' := 1875) (j := i + 1) dL_law_1874 rfl rfl (by omega) ?_
  refine e_i2c (pc' := 1876) dL_law_1875 rfl ?_
  rw [show (((gx G (i + 1)).toUInt32 % 65536).toInt32) = nI v from hve]
  refine r_VI (pc' := 1879) (m' := mX9_feed) (As := [.int (nI v)]) (st := []) (hG M1 o1 hI) dL_law_1876 rfl rfl (Nat.le_of_ble_eq_true rfl) ⟨by decide, by decide, hu1, hu2⟩ ml_L_277 okX9_feed rfl rfl (by decide) rfl (fun M2 hJ => ?_)
  obtain ⟨h8, hL2⟩ := hJ
  show EV _ _ _ _ _ 1879 _ ([.int (b)]) _
  refine e_istore (pc' := 1881) (L' := [some (.ref (gb G)), some (.ref (ad 0)), some (.ref (ad 96)), some (.ref (ad 104)), some (.ref (ad 105)), some (.int (nI i)), some (.int (nI k)), some (.int (b)), none]) dL_law_1879 rfl (by decide) rfl ?_
  refine e_aload_n (pc' := 1882) dL_law_1881 rfl rfl rfl ?_
  refine r_V (pc' := 1885) (m' := mX9_thrown) (As := []) (st := []) (g_thrown (d := 19)) dL_law_1882 rfl rfl (Nat.le_of_ble_eq_true rfl) ⟨by decide, by decide, hu1, hu2⟩ ml_L_144 okX9_thrown rfl rfl (by decide) rfl ?_
  rw [h8]
  show EV _ _ _ _ _ 1885 _ ([.int (nI k)]) _
  refine e_iload (pc' := 1887) dL_law_1885 rfl rfl ?_
  refine e_icmp_eqN (pc' := 1890) (tgt := 1892) dL_law_1887 rfl (by decide) (by omega) (by omega) (fun hz1 => ?_) (fun hz1 => absurd hz1 (fun q => q rfl))
  refine e_iload (pc' := 1894) dL_law_1892 rfl rfl ?_
  refine e_if_neN (pc' := 1897) (tgt := 1909) dL_law_1894 rfl (by decide) (by omega) (fun hk0 => ?_) (fun hk0 => ?_)
  · refine e_goto (tgt := 2358) dL_law_1909 (by decide) ?_
    refine e_fg (i := 6) (L' := [some (.ref (gb G)), some (.ref (ad 0)), some (.ref (ad 96)), some (.ref (ad 104)), some (.ref (ad 105)), some (.int (nI i)), none, some (.int (b)), none]) rfl ?_
    refine e_fg (i := 7) (L' := [some (.ref (gb G)), some (.ref (ad 0)), some (.ref (ad 96)), some (.ref (ad 104)), some (.ref (ad 105)), some (.int (nI i)), none, none, none]) rfl ?_
    exact kk _ _ hL2
  · have hr0 : o1.1 0 = (b).toInt64 := hr hk0 o1 hF
    refine e_aload_n (pc' := 1898) dL_law_1897 rfl rfl rfl ?_
    refine e_iconst (pc' := 1899) (v := nI 0) dL_law_1898 rfl (by decide) ?_
    refine p_lald (pc' := 1900) dL_law_1899 rfl ?_
    rw [hr0]
    refine e_iload (pc' := 1902) dL_law_1900 rfl rfl ?_
    refine e_i2l (pc' := 1903) dL_law_1902 rfl ?_
    refine e_lcmp (pc' := 1904) dL_law_1903 rfl ?_
    refine e_if_eq (pc' := 1907) (tgt := 1909) dL_law_1904 rfl (by decide) (fun hz3 => ?_) (fun hz3 => absurd hz3 (fun q => q (lgc _)))
    refine e_goto (tgt := 2358) dL_law_1909 (by decide) ?_
    refine e_fg (i := 6) (L' := [some (.ref (gb G)), some (.ref (ad 0)), some (.ref (ad 96)), some (.ref (ad 104)), some (.ref (ad 105)), some (.int (nI i)), none, some (.int (b)), none]) rfl ?_
    refine e_fg (i := 7) (L' := [some (.ref (gb G)), some (.ref (ad 0)), some (.ref (ad 96)), some (.ref (ad 104)), some (.ref (ad 105)), some (.int (nI i)), none, none, none]) rfl ?_
    exact kk _ _ hL2
theorem law_38 (hL : LV M) (hi : i + 4 ≤ gL G) (h48 : gL G ≤ 2048) (hu1 : u.1 + 1 ≤ 603072) (hu2 : u.2 + 6 ≤ 7207018) (kk : ∀ M' o', LV M' → EV G room_1 mL_law Qf (u.1 + 1, u.2 + 6) 2358 (LL G ad i) [] (wM G ad (M', o'))) : EV G room_1 mL_law Qf u 1912 (LL G ad i) [] (wM G ad (M, o)) := by
  refine e_aload_n (pc' := 1913) dL_law_1912 rfl rfl rfl ?_
  refine e_aload_n (pc' := 1914) dL_law_1913 rfl rfl rfl ?_
  obtain ⟨k, Fo, I, b, hk, hW, hG, hr⟩ := op_execute (G := G) (ad := ad) (o := o) hL 
  refine c_SX (pc' := 1917) (m' := mL_execute) (As := [.ref (ad 0), .ref (ad 104)]) (st := []) hW dL_law_1914 rfl rfl (Nat.le_of_ble_eq_true rfl) ⟨by decide, by decide, hu1, hu2⟩ ml_L_278 okL_execute (List.cons_ne_nil _ _) rfl (fun v2 S2 h => ?_) (fun E2 S2 h => by cases h.1)
  obtain ⟨h3, M1, o1, rfl, hF, hI⟩ := h
  cases h3
  show EV _ _ _ _ (u.1 + 1, u.2 + 6) 1917 _ ([.int (nI k)]) _
  refine e_istore (pc' := 1919) (L' := [some (.ref (gb G)), some (.ref (ad 0)), some (.ref (ad 96)), some (.ref (ad 104)), some (.ref (ad 105)), some (.int (nI i)), some (.int (nI k)), none, none]) dL_law_1917 rfl (by decide) rfl ?_
  refine e_aload_n (pc' := 1920) dL_law_1919 rfl rfl rfl ?_
  refine r_VI (pc' := 1923) (m' := mX9_execute) (As := []) (st := []) (hG M1 o1 hI) dL_law_1920 rfl rfl (Nat.le_of_ble_eq_true rfl) ⟨by decide, by decide, hu1, hu2⟩ ml_L_280 okX9_execute rfl rfl (by decide) rfl (fun M2 hJ => ?_)
  obtain ⟨h8, hL2⟩ := hJ
  show EV _ _ _ _ _ 1923 _ ([.int (b)]) _
  refine e_istore (pc' := 1925) (L' := [some (.ref (gb G)), some (.ref (ad 0)), some (.ref (ad 96)), some (.ref (ad 104)), some (.ref (ad 105)), some (.int (nI i)), some (.int (nI k)), some (.int (b)), none]) dL_law_1923 rfl (by decide) rfl ?_
  refine e_aload_n (pc' := 1926) dL_law_1925 rfl rfl rfl ?_
  refine r_V (pc' := 1929) (m' := mX9_thrown) (As := []) (st := []) (g_thrown (d := 19)) dL_law_1926 rfl rfl (Nat.le_of_ble_eq_true rfl) ⟨by decide, by decide, hu1, hu2⟩ ml_L_144 okX9_thrown rfl rfl (by decide) rfl ?_
  rw [h8]
  show EV _ _ _ _ _ 1929 _ ([.int (nI k)]) _
  refine e_iload (pc' := 1931) dL_law_1929 rfl rfl ?_
  refine e_icmp_eqN (pc' := 1934) (tgt := 1936) dL_law_1931 rfl (by decide) (by omega) (by omega) (fun hz1 => ?_) (fun hz1 => absurd hz1 (fun q => q rfl))
  refine e_iload (pc' := 1938) dL_law_1936 rfl rfl ?_
  refine e_if_neN (pc' := 1941) (tgt := 1953) dL_law_1938 rfl (by decide) (by omega) (fun hk0 => ?_) (fun hk0 => ?_)
  · refine e_goto (tgt := 2358) dL_law_1953 (by decide) ?_
    refine e_fg (i := 6) (L' := [some (.ref (gb G)), some (.ref (ad 0)), some (.ref (ad 96)), some (.ref (ad 104)), some (.ref (ad 105)), some (.int (nI i)), none, some (.int (b)), none]) rfl ?_
    refine e_fg (i := 7) (L' := [some (.ref (gb G)), some (.ref (ad 0)), some (.ref (ad 96)), some (.ref (ad 104)), some (.ref (ad 105)), some (.int (nI i)), none, none, none]) rfl ?_
    exact kk _ _ hL2
  · have hr0 : o1.1 0 = (b).toInt64 := hr hk0 o1 hF
    refine e_aload_n (pc' := 1942) dL_law_1941 rfl rfl rfl ?_
    refine e_iconst (pc' := 1943) (v := nI 0) dL_law_1942 rfl (by decide) ?_
    refine p_lald (pc' := 1944) dL_law_1943 rfl ?_
    rw [hr0]
    refine e_iload (pc' := 1946) dL_law_1944 rfl rfl ?_
    refine e_i2l (pc' := 1947) dL_law_1946 rfl ?_
    refine e_lcmp (pc' := 1948) dL_law_1947 rfl ?_
    refine e_if_eq (pc' := 1951) (tgt := 1953) dL_law_1948 rfl (by decide) (fun hz3 => ?_) (fun hz3 => absurd hz3 (fun q => q (lgc _)))
    refine e_goto (tgt := 2358) dL_law_1953 (by decide) ?_
    refine e_fg (i := 6) (L' := [some (.ref (gb G)), some (.ref (ad 0)), some (.ref (ad 96)), some (.ref (ad 104)), some (.ref (ad 105)), some (.int (nI i)), none, some (.int (b)), none]) rfl ?_
    refine e_fg (i := 7) (L' := [some (.ref (gb G)), some (.ref (ad 0)), some (.ref (ad 96)), some (.ref (ad 104)), some (.ref (ad 105)), some (.int (nI i)), none, none, none]) rfl ?_
    exact kk _ _ hL2
theorem law_39 (hL : LV M) (hi : i + 4 ≤ gL G) (h48 : gL G ≤ 2048) (hu1 : u.1 + 1 ≤ 603072) (hu2 : u.2 + 6 ≤ 7207018) (kk : ∀ M' o', LV M' → EV G room_1 mL_law Qf (u.1 + 1, u.2 + 6) 2358 (LL G ad i) [] (wM G ad (M', o'))) : EV G room_1 mL_law Qf u 1956 (LL G ad i) [] (wM G ad (M, o)) := by
  refine e_aload_n (pc' := 1957) dL_law_1956 rfl rfl rfl ?_
  refine e_aload_n (pc' := 1958) dL_law_1957 rfl rfl rfl ?_
  obtain ⟨k, Fo, I, b, hk, hW, hG, hr⟩ := op_faultPosition (G := G) (ad := ad) (o := o) hL 
  refine c_SX (pc' := 1961) (m' := mL_faultPosition) (As := [.ref (ad 0), .ref (ad 104)]) (st := []) hW dL_law_1958 rfl rfl (Nat.le_of_ble_eq_true rfl) ⟨by decide, by decide, hu1, hu2⟩ ml_L_281 okL_faultPosition (List.cons_ne_nil _ _) rfl (fun v2 S2 h => ?_) (fun E2 S2 h => by cases h.1)
  obtain ⟨h3, M1, o1, rfl, hF, hI⟩ := h
  cases h3
  show EV _ _ _ _ (u.1 + 1, u.2 + 6) 1961 _ ([.int (nI k)]) _
  refine e_istore (pc' := 1963) (L' := [some (.ref (gb G)), some (.ref (ad 0)), some (.ref (ad 96)), some (.ref (ad 104)), some (.ref (ad 105)), some (.int (nI i)), some (.int (nI k)), none, none]) dL_law_1961 rfl (by decide) rfl ?_
  refine e_aload_n (pc' := 1964) dL_law_1963 rfl rfl rfl ?_
  refine r_VI (pc' := 1967) (m' := mX9_faultPosition) (As := []) (st := []) (hG M1 o1 hI) dL_law_1964 rfl rfl (Nat.le_of_ble_eq_true rfl) ⟨by decide, by decide, hu1, hu2⟩ ml_L_283 okX9_faultPosition rfl rfl (by decide) rfl (fun M2 hJ => ?_)
  obtain ⟨h8, hL2⟩ := hJ
  show EV _ _ _ _ _ 1967 _ ([.int (b)]) _
  refine e_istore (pc' := 1969) (L' := [some (.ref (gb G)), some (.ref (ad 0)), some (.ref (ad 96)), some (.ref (ad 104)), some (.ref (ad 105)), some (.int (nI i)), some (.int (nI k)), some (.int (b)), none]) dL_law_1967 rfl (by decide) rfl ?_
  refine e_aload_n (pc' := 1970) dL_law_1969 rfl rfl rfl ?_
  refine r_V (pc' := 1973) (m' := mX9_thrown) (As := []) (st := []) (g_thrown (d := 19)) dL_law_1970 rfl rfl (Nat.le_of_ble_eq_true rfl) ⟨by decide, by decide, hu1, hu2⟩ ml_L_144 okX9_thrown rfl rfl (by decide) rfl ?_
  rw [h8]
  show EV _ _ _ _ _ 1973 _ ([.int (nI k)]) _
  refine e_iload (pc' := 1975) dL_law_1973 rfl rfl ?_
  refine e_icmp_eqN (pc' := 1978) (tgt := 1980) dL_law_1975 rfl (by decide) (by omega) (by omega) (fun hz1 => ?_) (fun hz1 => absurd hz1 (fun q => q rfl))
  refine e_iload (pc' := 1982) dL_law_1980 rfl rfl ?_
  refine e_if_neN (pc' := 1985) (tgt := 1997) dL_law_1982 rfl (by decide) (by omega) (fun hk0 => ?_) (fun hk0 => ?_)
  · refine e_goto (tgt := 2358) dL_law_1997 (by decide) ?_
    refine e_fg (i := 6) (L' := [some (.ref (gb G)), some (.ref (ad 0)), some (.ref (ad 96)), some (.ref (ad 104)), some (.ref (ad 105)), some (.int (nI i)), none, some (.int (b)), none]) rfl ?_
    refine e_fg (i := 7) (L' := [some (.ref (gb G)), some (.ref (ad 0)), some (.ref (ad 96)), some (.ref (ad 104)), some (.ref (ad 105)), some (.int (nI i)), none, none, none]) rfl ?_
    exact kk _ _ hL2
  · have hr0 : o1.1 0 = (b).toInt64 := hr hk0 o1 hF
    refine e_aload_n (pc' := 1986) dL_law_1985 rfl rfl rfl ?_
    refine e_iconst (pc' := 1987) (v := nI 0) dL_law_1986 rfl (by decide) ?_
    refine p_lald (pc' := 1988) dL_law_1987 rfl ?_
    rw [hr0]
    refine e_iload (pc' := 1990) dL_law_1988 rfl rfl ?_
    refine e_i2l (pc' := 1991) dL_law_1990 rfl ?_
    refine e_lcmp (pc' := 1992) dL_law_1991 rfl ?_
    refine e_if_eq (pc' := 1995) (tgt := 1997) dL_law_1992 rfl (by decide) (fun hz3 => ?_) (fun hz3 => absurd hz3 (fun q => q (lgc _)))
    refine e_goto (tgt := 2358) dL_law_1997 (by decide) ?_
    refine e_fg (i := 6) (L' := [some (.ref (gb G)), some (.ref (ad 0)), some (.ref (ad 96)), some (.ref (ad 104)), some (.ref (ad 105)), some (.int (nI i)), none, some (.int (b)), none]) rfl ?_
    refine e_fg (i := 7) (L' := [some (.ref (gb G)), some (.ref (ad 0)), some (.ref (ad 96)), some (.ref (ad 104)), some (.ref (ad 105)), some (.int (nI i)), none, none, none]) rfl ?_
    exact kk _ _ hL2
theorem law_40 (hL : LV M) (hi : i + 4 ≤ gL G) (h48 : gL G ≤ 2048) (hu1 : u.1 + 1 ≤ 603072) (hu2 : u.2 + 6 ≤ 7207018) (kk : ∀ M' o', LV M' → EV G room_1 mL_law Qf (u.1 + 1, u.2 + 6) 2358 (LL G ad i) [] (wM G ad (M', o'))) : EV G room_1 mL_law Qf u 2000 (LL G ad i) [] (wM G ad (M, o)) := by
  refine e_aload_n (pc' := 2001) dL_law_2000 rfl rfl rfl ?_
  refine e_aload_n (pc' := 2002) dL_law_2001 rfl rfl rfl ?_
  refine e_iload (pc' := 2004) dL_law_2002 rfl rfl ?_
  refine e_iconst (pc' := 2005) (v := nI 1) dL_law_2004 rfl (by decide) ?_
  refine e_iaddN (pc' := 2006) dL_law_2005 rfl ?_
  refine e_sld (pc' := 2007) (j := i + 1) dL_law_2006 rfl rfl (by omega) ?_
  refine e_aload_n (pc' := 2008) dL_law_2007 rfl rfl rfl ?_
  obtain ⟨k, Fo, I, b, hk, hW, hG, hr⟩ := op_writeMagnet (G := G) (ad := ad) (o := o) hL (gx G (i + 1))
  refine c_SX (pc' := 2011) (m' := mL_writeMagnet) (As := [.ref (ad 0), .int (gx G (i + 1)), .ref (ad 104)]) (st := []) hW dL_law_2008 rfl rfl (Nat.le_of_ble_eq_true rfl) ⟨by decide, by decide, hu1, hu2⟩ ml_L_284 okL_writeMagnet (List.cons_ne_nil _ _) rfl (fun v2 S2 h => ?_) (fun E2 S2 h => by cases h.1)
  obtain ⟨h3, M1, o1, rfl, hF, hI⟩ := h
  cases h3
  show EV _ _ _ _ (u.1 + 1, u.2 + 6) 2011 _ ([.int (nI k)]) _
  refine e_istore (pc' := 2013) (L' := [some (.ref (gb G)), some (.ref (ad 0)), some (.ref (ad 96)), some (.ref (ad 104)), some (.ref (ad 105)), some (.int (nI i)), some (.int (nI k)), none, none]) dL_law_2011 rfl (by decide) rfl ?_
  refine e_aload_n (pc' := 2014) dL_law_2013 rfl rfl rfl ?_
  refine e_aload_n (pc' := 2015) dL_law_2014 rfl rfl rfl ?_
  refine e_iload (pc' := 2017) dL_law_2015 rfl rfl ?_
  refine e_iconst (pc' := 2018) (v := nI 1) dL_law_2017 rfl (by decide) ?_
  refine e_iaddN (pc' := 2019) dL_law_2018 rfl ?_
  refine e_sld (pc' := 2020) (j := i + 1) dL_law_2019 rfl rfl (by omega) ?_
  refine r_VI (pc' := 2023) (m' := mX9_writeMagnet) (As := [.int (gx G (i + 1))]) (st := []) (hG M1 o1 hI) dL_law_2020 rfl rfl (Nat.le_of_ble_eq_true rfl) ⟨by decide, by decide, hu1, hu2⟩ ml_L_286 okX9_writeMagnet rfl rfl (by decide) rfl (fun M2 hJ => ?_)
  obtain ⟨h8, hL2⟩ := hJ
  show EV _ _ _ _ _ 2023 _ ([.int (b)]) _
  refine e_istore (pc' := 2025) (L' := [some (.ref (gb G)), some (.ref (ad 0)), some (.ref (ad 96)), some (.ref (ad 104)), some (.ref (ad 105)), some (.int (nI i)), some (.int (nI k)), some (.int (b)), none]) dL_law_2023 rfl (by decide) rfl ?_
  refine e_aload_n (pc' := 2026) dL_law_2025 rfl rfl rfl ?_
  refine r_V (pc' := 2029) (m' := mX9_thrown) (As := []) (st := []) (g_thrown (d := 19)) dL_law_2026 rfl rfl (Nat.le_of_ble_eq_true rfl) ⟨by decide, by decide, hu1, hu2⟩ ml_L_144 okX9_thrown rfl rfl (by decide) rfl ?_
  rw [h8]
  show EV _ _ _ _ _ 2029 _ ([.int (nI k)]) _
  refine e_iload (pc' := 2031) dL_law_2029 rfl rfl ?_
  refine e_icmp_eqN (pc' := 2034) (tgt := 2036) dL_law_2031 rfl (by decide) (by omega) (by omega) (fun hz1 => ?_) (fun hz1 => absurd hz1 (fun q => q rfl))
  refine e_iload (pc' := 2038) dL_law_2036 rfl rfl ?_
  refine e_if_neN (pc' := 2041) (tgt := 2053) dL_law_2038 rfl (by decide) (by omega) (fun hk0 => ?_) (fun hk0 => ?_)
  · refine e_goto (tgt := 2358) dL_law_2053 (by decide) ?_
    refine e_fg (i := 6) (L' := [some (.ref (gb G)), some (.ref (ad 0)), some (.ref (ad 96)), some (.ref (ad 104)), some (.ref (ad 105)), some (.int (nI i)), none, some (.int (b)), none]) rfl ?_
    refine e_fg (i := 7) (L' := [some (.ref (gb G)), some (.ref (ad 0)), some (.ref (ad 96)), some (.ref (ad 104)), some (.ref (ad 105)), some (.int (nI i)), none, none, none]) rfl ?_
    exact kk _ _ hL2
  · have hr0 : o1.1 0 = (b).toInt64 := hr hk0 o1 hF
    refine e_aload_n (pc' := 2042) dL_law_2041 rfl rfl rfl ?_
    refine e_iconst (pc' := 2043) (v := nI 0) dL_law_2042 rfl (by decide) ?_
    refine p_lald (pc' := 2044) dL_law_2043 rfl ?_
    rw [hr0]
    refine e_iload (pc' := 2046) dL_law_2044 rfl rfl ?_
    refine e_i2l (pc' := 2047) dL_law_2046 rfl ?_
    refine e_lcmp (pc' := 2048) dL_law_2047 rfl ?_
    refine e_if_eq (pc' := 2051) (tgt := 2053) dL_law_2048 rfl (by decide) (fun hz3 => ?_) (fun hz3 => absurd hz3 (fun q => q (lgc _)))
    refine e_goto (tgt := 2358) dL_law_2053 (by decide) ?_
    refine e_fg (i := 6) (L' := [some (.ref (gb G)), some (.ref (ad 0)), some (.ref (ad 96)), some (.ref (ad 104)), some (.ref (ad 105)), some (.int (nI i)), none, some (.int (b)), none]) rfl ?_
    refine e_fg (i := 7) (L' := [some (.ref (gb G)), some (.ref (ad 0)), some (.ref (ad 96)), some (.ref (ad 104)), some (.ref (ad 105)), some (.int (nI i)), none, none, none]) rfl ?_
    exact kk _ _ hL2
theorem law_41 (hL : LV M) (hi : i + 4 ≤ gL G) (h48 : gL G ≤ 2048) (hu1 : u.1 + 1 ≤ 603072) (hu2 : u.2 + 6 ≤ 7207018) (kk : ∀ M' o', LV M' → EV G room_1 mL_law Qf (u.1 + 1, u.2 + 6) 2358 (LL G ad i) [] (wM G ad (M', o'))) : EV G room_1 mL_law Qf u 2056 (LL G ad i) [] (wM G ad (M, o)) := by
  refine e_aload_n (pc' := 2057) dL_law_2056 rfl rfl rfl ?_
  refine e_aload_n (pc' := 2058) dL_law_2057 rfl rfl rfl ?_
  refine e_iload (pc' := 2060) dL_law_2058 rfl rfl ?_
  refine e_iconst (pc' := 2061) (v := nI 1) dL_law_2060 rfl (by decide) ?_
  refine e_iaddN (pc' := 2062) dL_law_2061 rfl ?_
  refine e_sld (pc' := 2063) (j := i + 1) dL_law_2062 rfl rfl (by omega) ?_
  refine e_aload_n (pc' := 2064) dL_law_2063 rfl rfl rfl ?_
  obtain ⟨k, Fo, I, b, hk, hW, hG, hr⟩ := op_lineCharacter (G := G) (ad := ad) (o := o) hL (gx G (i + 1))
  refine c_SX (pc' := 2067) (m' := mL_lineCharacter) (As := [.ref (ad 0), .int (gx G (i + 1)), .ref (ad 104)]) (st := []) hW dL_law_2064 rfl rfl (Nat.le_of_ble_eq_true rfl) ⟨by decide, by decide, hu1, hu2⟩ ml_L_287 okL_lineCharacter (List.cons_ne_nil _ _) rfl (fun v2 S2 h => ?_) (fun E2 S2 h => by cases h.1)
  obtain ⟨h3, M1, o1, rfl, hF, hI⟩ := h
  cases h3
  show EV _ _ _ _ (u.1 + 1, u.2 + 6) 2067 _ ([.int (nI k)]) _
  refine e_istore (pc' := 2069) (L' := [some (.ref (gb G)), some (.ref (ad 0)), some (.ref (ad 96)), some (.ref (ad 104)), some (.ref (ad 105)), some (.int (nI i)), some (.int (nI k)), none, none]) dL_law_2067 rfl (by decide) rfl ?_
  refine e_aload_n (pc' := 2070) dL_law_2069 rfl rfl rfl ?_
  refine e_aload_n (pc' := 2071) dL_law_2070 rfl rfl rfl ?_
  refine e_iload (pc' := 2073) dL_law_2071 rfl rfl ?_
  refine e_iconst (pc' := 2074) (v := nI 1) dL_law_2073 rfl (by decide) ?_
  refine e_iaddN (pc' := 2075) dL_law_2074 rfl ?_
  refine e_sld (pc' := 2076) (j := i + 1) dL_law_2075 rfl rfl (by omega) ?_
  refine r_VI (pc' := 2079) (m' := mX9_lineCharacter) (As := [.int (gx G (i + 1))]) (st := []) (hG M1 o1 hI) dL_law_2076 rfl rfl (Nat.le_of_ble_eq_true rfl) ⟨by decide, by decide, hu1, hu2⟩ ml_L_289 okX9_lineCharacter rfl rfl (by decide) rfl (fun M2 hJ => ?_)
  obtain ⟨h8, hL2⟩ := hJ
  show EV _ _ _ _ _ 2079 _ ([.int (b)]) _
  refine e_istore (pc' := 2081) (L' := [some (.ref (gb G)), some (.ref (ad 0)), some (.ref (ad 96)), some (.ref (ad 104)), some (.ref (ad 105)), some (.int (nI i)), some (.int (nI k)), some (.int (b)), none]) dL_law_2079 rfl (by decide) rfl ?_
  refine e_aload_n (pc' := 2082) dL_law_2081 rfl rfl rfl ?_
  refine r_V (pc' := 2085) (m' := mX9_thrown) (As := []) (st := []) (g_thrown (d := 19)) dL_law_2082 rfl rfl (Nat.le_of_ble_eq_true rfl) ⟨by decide, by decide, hu1, hu2⟩ ml_L_144 okX9_thrown rfl rfl (by decide) rfl ?_
  rw [h8]
  show EV _ _ _ _ _ 2085 _ ([.int (nI k)]) _
  refine e_iload (pc' := 2087) dL_law_2085 rfl rfl ?_
  refine e_icmp_eqN (pc' := 2090) (tgt := 2092) dL_law_2087 rfl (by decide) (by omega) (by omega) (fun hz1 => ?_) (fun hz1 => absurd hz1 (fun q => q rfl))
  refine e_iload (pc' := 2094) dL_law_2092 rfl rfl ?_
  refine e_if_neN (pc' := 2097) (tgt := 2109) dL_law_2094 rfl (by decide) (by omega) (fun hk0 => ?_) (fun hk0 => ?_)
  · refine e_goto (tgt := 2358) dL_law_2109 (by decide) ?_
    refine e_fg (i := 6) (L' := [some (.ref (gb G)), some (.ref (ad 0)), some (.ref (ad 96)), some (.ref (ad 104)), some (.ref (ad 105)), some (.int (nI i)), none, some (.int (b)), none]) rfl ?_
    refine e_fg (i := 7) (L' := [some (.ref (gb G)), some (.ref (ad 0)), some (.ref (ad 96)), some (.ref (ad 104)), some (.ref (ad 105)), some (.int (nI i)), none, none, none]) rfl ?_
    exact kk _ _ hL2
  · have hr0 : o1.1 0 = (b).toInt64 := hr hk0 o1 hF
    refine e_aload_n (pc' := 2098) dL_law_2097 rfl rfl rfl ?_
    refine e_iconst (pc' := 2099) (v := nI 0) dL_law_2098 rfl (by decide) ?_
    refine p_lald (pc' := 2100) dL_law_2099 rfl ?_
    rw [hr0]
    refine e_iload (pc' := 2102) dL_law_2100 rfl rfl ?_
    refine e_i2l (pc' := 2103) dL_law_2102 rfl ?_
    refine e_lcmp (pc' := 2104) dL_law_2103 rfl ?_
    refine e_if_eq (pc' := 2107) (tgt := 2109) dL_law_2104 rfl (by decide) (fun hz3 => ?_) (fun hz3 => absurd hz3 (fun q => q (lgc _)))
    refine e_goto (tgt := 2358) dL_law_2109 (by decide) ?_
    refine e_fg (i := 6) (L' := [some (.ref (gb G)), some (.ref (ad 0)), some (.ref (ad 96)), some (.ref (ad 104)), some (.ref (ad 105)), some (.int (nI i)), none, some (.int (b)), none]) rfl ?_
    refine e_fg (i := 7) (L' := [some (.ref (gb G)), some (.ref (ad 0)), some (.ref (ad 96)), some (.ref (ad 104)), some (.ref (ad 105)), some (.int (nI i)), none, none, none]) rfl ?_
    exact kk _ _ hL2
theorem law_42 (hL : LV M) (hi : i + 4 ≤ gL G) (h48 : gL G ≤ 2048) (hu1 : u.1 + 1 ≤ 603072) (hu2 : u.2 + 6 ≤ 7207018) (kk : ∀ M' o', LV M' → EV G room_1 mL_law Qf (u.1 + 1, u.2 + 6) 2358 (LL G ad i) [] (wM G ad (M', o'))) : EV G room_1 mL_law Qf u 2112 (LL G ad i) [] (wM G ad (M, o)) := by
  refine e_aload_n (pc' := 2113) dL_law_2112 rfl rfl rfl ?_
  refine e_aload_n (pc' := 2114) dL_law_2113 rfl rfl rfl ?_
  obtain ⟨k, Fo, I, b, hk, hW, hG, hr⟩ := op_denial (G := G) (ad := ad) (o := o) hL 
  refine c_SX (pc' := 2117) (m' := mL_denial) (As := [.ref (ad 0), .ref (ad 104)]) (st := []) hW dL_law_2114 rfl rfl (Nat.le_of_ble_eq_true rfl) ⟨by decide, by decide, hu1, hu2⟩ ml_L_290 okL_denial (List.cons_ne_nil _ _) rfl (fun v2 S2 h => ?_) (fun E2 S2 h => by cases h.1)
  obtain ⟨h3, M1, o1, rfl, hF, hI⟩ := h
  cases h3
  show EV _ _ _ _ (u.1 + 1, u.2 + 6) 2117 _ ([.int (nI k)]) _
  refine e_istore (pc' := 2119) (L' := [some (.ref (gb G)), some (.ref (ad 0)), some (.ref (ad 96)), some (.ref (ad 104)), some (.ref (ad 105)), some (.int (nI i)), some (.int (nI k)), none, none]) dL_law_2117 rfl (by decide) rfl ?_
  refine e_aload_n (pc' := 2120) dL_law_2119 rfl rfl rfl ?_
  refine r_VI (pc' := 2123) (m' := mX9_denial) (As := []) (st := []) (hG M1 o1 hI) dL_law_2120 rfl rfl (Nat.le_of_ble_eq_true rfl) ⟨by decide, by decide, hu1, hu2⟩ ml_L_292 okX9_denial rfl rfl (by decide) rfl (fun M2 hJ => ?_)
  obtain ⟨h8, hL2⟩ := hJ
  show EV _ _ _ _ _ 2123 _ ([.int (b)]) _
  refine e_istore (pc' := 2125) (L' := [some (.ref (gb G)), some (.ref (ad 0)), some (.ref (ad 96)), some (.ref (ad 104)), some (.ref (ad 105)), some (.int (nI i)), some (.int (nI k)), some (.int (b)), none]) dL_law_2123 rfl (by decide) rfl ?_
  refine e_aload_n (pc' := 2126) dL_law_2125 rfl rfl rfl ?_
  refine r_V (pc' := 2129) (m' := mX9_thrown) (As := []) (st := []) (g_thrown (d := 19)) dL_law_2126 rfl rfl (Nat.le_of_ble_eq_true rfl) ⟨by decide, by decide, hu1, hu2⟩ ml_L_144 okX9_thrown rfl rfl (by decide) rfl ?_
  rw [h8]
  show EV _ _ _ _ _ 2129 _ ([.int (nI k)]) _
  refine e_iload (pc' := 2131) dL_law_2129 rfl rfl ?_
  refine e_icmp_eqN (pc' := 2134) (tgt := 2136) dL_law_2131 rfl (by decide) (by omega) (by omega) (fun hz1 => ?_) (fun hz1 => absurd hz1 (fun q => q rfl))
  refine e_iload (pc' := 2138) dL_law_2136 rfl rfl ?_
  refine e_if_neN (pc' := 2141) (tgt := 2153) dL_law_2138 rfl (by decide) (by omega) (fun hk0 => ?_) (fun hk0 => ?_)
  · refine e_goto (tgt := 2358) dL_law_2153 (by decide) ?_
    refine e_fg (i := 6) (L' := [some (.ref (gb G)), some (.ref (ad 0)), some (.ref (ad 96)), some (.ref (ad 104)), some (.ref (ad 105)), some (.int (nI i)), none, some (.int (b)), none]) rfl ?_
    refine e_fg (i := 7) (L' := [some (.ref (gb G)), some (.ref (ad 0)), some (.ref (ad 96)), some (.ref (ad 104)), some (.ref (ad 105)), some (.int (nI i)), none, none, none]) rfl ?_
    exact kk _ _ hL2
  · have hr0 : o1.1 0 = (b).toInt64 := hr hk0 o1 hF
    refine e_aload_n (pc' := 2142) dL_law_2141 rfl rfl rfl ?_
    refine e_iconst (pc' := 2143) (v := nI 0) dL_law_2142 rfl (by decide) ?_
    refine p_lald (pc' := 2144) dL_law_2143 rfl ?_
    rw [hr0]
    refine e_iload (pc' := 2146) dL_law_2144 rfl rfl ?_
    refine e_i2l (pc' := 2147) dL_law_2146 rfl ?_
    refine e_lcmp (pc' := 2148) dL_law_2147 rfl ?_
    refine e_if_eq (pc' := 2151) (tgt := 2153) dL_law_2148 rfl (by decide) (fun hz3 => ?_) (fun hz3 => absurd hz3 (fun q => q (lgc _)))
    refine e_goto (tgt := 2358) dL_law_2153 (by decide) ?_
    refine e_fg (i := 6) (L' := [some (.ref (gb G)), some (.ref (ad 0)), some (.ref (ad 96)), some (.ref (ad 104)), some (.ref (ad 105)), some (.int (nI i)), none, some (.int (b)), none]) rfl ?_
    refine e_fg (i := 7) (L' := [some (.ref (gb G)), some (.ref (ad 0)), some (.ref (ad 96)), some (.ref (ad 104)), some (.ref (ad 105)), some (.int (nI i)), none, none, none]) rfl ?_
    exact kk _ _ hL2
theorem law_43 (hL : LV M) (hi : i + 4 ≤ gL G) (h48 : gL G ≤ 2048) (hu1 : u.1 + 1 ≤ 603072) (hu2 : u.2 + 6 ≤ 7207018) (kk : ∀ M' o', LV M' → EV G room_1 mL_law Qf (u.1 + 1, u.2 + 6) 2358 (LL G ad i) [] (wM G ad (M', o'))) : EV G room_1 mL_law Qf u 2156 (LL G ad i) [] (wM G ad (M, o)) := by
  refine e_aload_n (pc' := 2157) dL_law_2156 rfl rfl rfl ?_
  refine e_aload_n (pc' := 2158) dL_law_2157 rfl rfl rfl ?_
  obtain ⟨k, Fo, I, b, hk, hW, hG, hr⟩ := op_denialDetail (G := G) (ad := ad) (o := o) hL 
  refine c_SX (pc' := 2161) (m' := mL_denialDetail) (As := [.ref (ad 0), .ref (ad 104)]) (st := []) hW dL_law_2158 rfl rfl (Nat.le_of_ble_eq_true rfl) ⟨by decide, by decide, hu1, hu2⟩ ml_L_293 okL_denialDetail (List.cons_ne_nil _ _) rfl (fun v2 S2 h => ?_) (fun E2 S2 h => by cases h.1)
  obtain ⟨h3, M1, o1, rfl, hF, hI⟩ := h
  cases h3
  show EV _ _ _ _ (u.1 + 1, u.2 + 6) 2161 _ ([.int (nI k)]) _
  refine e_istore (pc' := 2163) (L' := [some (.ref (gb G)), some (.ref (ad 0)), some (.ref (ad 96)), some (.ref (ad 104)), some (.ref (ad 105)), some (.int (nI i)), some (.int (nI k)), none, none]) dL_law_2161 rfl (by decide) rfl ?_
  refine e_aload_n (pc' := 2164) dL_law_2163 rfl rfl rfl ?_
  refine r_VI (pc' := 2167) (m' := mX9_denialDetail) (As := []) (st := []) (hG M1 o1 hI) dL_law_2164 rfl rfl (Nat.le_of_ble_eq_true rfl) ⟨by decide, by decide, hu1, hu2⟩ ml_L_295 okX9_denialDetail rfl rfl (by decide) rfl (fun M2 hJ => ?_)
  obtain ⟨h8, hL2⟩ := hJ
  show EV _ _ _ _ _ 2167 _ ([.int (b)]) _
  refine e_istore (pc' := 2169) (L' := [some (.ref (gb G)), some (.ref (ad 0)), some (.ref (ad 96)), some (.ref (ad 104)), some (.ref (ad 105)), some (.int (nI i)), some (.int (nI k)), some (.int (b)), none]) dL_law_2167 rfl (by decide) rfl ?_
  refine e_aload_n (pc' := 2170) dL_law_2169 rfl rfl rfl ?_
  refine r_V (pc' := 2173) (m' := mX9_thrown) (As := []) (st := []) (g_thrown (d := 19)) dL_law_2170 rfl rfl (Nat.le_of_ble_eq_true rfl) ⟨by decide, by decide, hu1, hu2⟩ ml_L_144 okX9_thrown rfl rfl (by decide) rfl ?_
  rw [h8]
  show EV _ _ _ _ _ 2173 _ ([.int (nI k)]) _
  refine e_iload (pc' := 2175) dL_law_2173 rfl rfl ?_
  refine e_icmp_eqN (pc' := 2178) (tgt := 2180) dL_law_2175 rfl (by decide) (by omega) (by omega) (fun hz1 => ?_) (fun hz1 => absurd hz1 (fun q => q rfl))
  refine e_iload (pc' := 2182) dL_law_2180 rfl rfl ?_
  refine e_if_neN (pc' := 2185) (tgt := 2197) dL_law_2182 rfl (by decide) (by omega) (fun hk0 => ?_) (fun hk0 => ?_)
  · refine e_goto (tgt := 2358) dL_law_2197 (by decide) ?_
    refine e_fg (i := 6) (L' := [some (.ref (gb G)), some (.ref (ad 0)), some (.ref (ad 96)), some (.ref (ad 104)), some (.ref (ad 105)), some (.int (nI i)), none, some (.int (b)), none]) rfl ?_
    refine e_fg (i := 7) (L' := [some (.ref (gb G)), some (.ref (ad 0)), some (.ref (ad 96)), some (.ref (ad 104)), some (.ref (ad 105)), some (.int (nI i)), none, none, none]) rfl ?_
    exact kk _ _ hL2
  · have hr0 : o1.1 0 = (b).toInt64 := hr hk0 o1 hF
    refine e_aload_n (pc' := 2186) dL_law_2185 rfl rfl rfl ?_
    refine e_iconst (pc' := 2187) (v := nI 0) dL_law_2186 rfl (by decide) ?_
    refine p_lald (pc' := 2188) dL_law_2187 rfl ?_
    rw [hr0]
    refine e_iload (pc' := 2190) dL_law_2188 rfl rfl ?_
    refine e_i2l (pc' := 2191) dL_law_2190 rfl ?_
    refine e_lcmp (pc' := 2192) dL_law_2191 rfl ?_
    refine e_if_eq (pc' := 2195) (tgt := 2197) dL_law_2192 rfl (by decide) (fun hz3 => ?_) (fun hz3 => absurd hz3 (fun q => q (lgc _)))
    refine e_goto (tgt := 2358) dL_law_2197 (by decide) ?_
    refine e_fg (i := 6) (L' := [some (.ref (gb G)), some (.ref (ad 0)), some (.ref (ad 96)), some (.ref (ad 104)), some (.ref (ad 105)), some (.int (nI i)), none, some (.int (b)), none]) rfl ?_
    refine e_fg (i := 7) (L' := [some (.ref (gb G)), some (.ref (ad 0)), some (.ref (ad 96)), some (.ref (ad 104)), some (.ref (ad 105)), some (.int (nI i)), none, none, none]) rfl ?_
    exact kk _ _ hL2
theorem law_44 (hL : LV M) (hi : i + 4 ≤ gL G) (h48 : gL G ≤ 2048) (hu1 : u.1 + 1 ≤ 603072) (hu2 : u.2 + 6 ≤ 7207018) (kk : ∀ M' o', LV M' → EV G room_1 mL_law Qf (u.1 + 1, u.2 + 6) 2358 (LL G ad i) [] (wM G ad (M', o'))) : EV G room_1 mL_law Qf u 2200 (LL G ad i) [] (wM G ad (M, o)) := by
  refine e_aload_n (pc' := 2201) dL_law_2200 rfl rfl rfl ?_
  refine e_aload_n (pc' := 2202) dL_law_2201 rfl rfl rfl ?_
  obtain ⟨k, Fo, I, b, hk, hW, hG, hr⟩ := op_denialCause (G := G) (ad := ad) (o := o) hL 
  refine c_SX (pc' := 2205) (m' := mL_denialCause) (As := [.ref (ad 0), .ref (ad 104)]) (st := []) hW dL_law_2202 rfl rfl (Nat.le_of_ble_eq_true rfl) ⟨by decide, by decide, hu1, hu2⟩ ml_L_296 okL_denialCause (List.cons_ne_nil _ _) rfl (fun v2 S2 h => ?_) (fun E2 S2 h => by cases h.1)
  obtain ⟨h3, M1, o1, rfl, hF, hI⟩ := h
  cases h3
  show EV _ _ _ _ (u.1 + 1, u.2 + 6) 2205 _ ([.int (nI k)]) _
  refine e_istore (pc' := 2207) (L' := [some (.ref (gb G)), some (.ref (ad 0)), some (.ref (ad 96)), some (.ref (ad 104)), some (.ref (ad 105)), some (.int (nI i)), some (.int (nI k)), none, none]) dL_law_2205 rfl (by decide) rfl ?_
  refine e_aload_n (pc' := 2208) dL_law_2207 rfl rfl rfl ?_
  refine r_VI (pc' := 2211) (m' := mX9_denialCause) (As := []) (st := []) (hG M1 o1 hI) dL_law_2208 rfl rfl (Nat.le_of_ble_eq_true rfl) ⟨by decide, by decide, hu1, hu2⟩ ml_L_298 okX9_denialCause rfl rfl (by decide) rfl (fun M2 hJ => ?_)
  obtain ⟨h8, hL2⟩ := hJ
  show EV _ _ _ _ _ 2211 _ ([.int (b)]) _
  refine e_istore (pc' := 2213) (L' := [some (.ref (gb G)), some (.ref (ad 0)), some (.ref (ad 96)), some (.ref (ad 104)), some (.ref (ad 105)), some (.int (nI i)), some (.int (nI k)), some (.int (b)), none]) dL_law_2211 rfl (by decide) rfl ?_
  refine e_aload_n (pc' := 2214) dL_law_2213 rfl rfl rfl ?_
  refine r_V (pc' := 2217) (m' := mX9_thrown) (As := []) (st := []) (g_thrown (d := 19)) dL_law_2214 rfl rfl (Nat.le_of_ble_eq_true rfl) ⟨by decide, by decide, hu1, hu2⟩ ml_L_144 okX9_thrown rfl rfl (by decide) rfl ?_
  rw [h8]
  show EV _ _ _ _ _ 2217 _ ([.int (nI k)]) _
  refine e_iload (pc' := 2219) dL_law_2217 rfl rfl ?_
  refine e_icmp_eqN (pc' := 2222) (tgt := 2224) dL_law_2219 rfl (by decide) (by omega) (by omega) (fun hz1 => ?_) (fun hz1 => absurd hz1 (fun q => q rfl))
  refine e_iload (pc' := 2226) dL_law_2224 rfl rfl ?_
  refine e_if_neN (pc' := 2229) (tgt := 2241) dL_law_2226 rfl (by decide) (by omega) (fun hk0 => ?_) (fun hk0 => ?_)
  · refine e_goto (tgt := 2358) dL_law_2241 (by decide) ?_
    refine e_fg (i := 6) (L' := [some (.ref (gb G)), some (.ref (ad 0)), some (.ref (ad 96)), some (.ref (ad 104)), some (.ref (ad 105)), some (.int (nI i)), none, some (.int (b)), none]) rfl ?_
    refine e_fg (i := 7) (L' := [some (.ref (gb G)), some (.ref (ad 0)), some (.ref (ad 96)), some (.ref (ad 104)), some (.ref (ad 105)), some (.int (nI i)), none, none, none]) rfl ?_
    exact kk _ _ hL2
  · have hr0 : o1.1 0 = (b).toInt64 := hr hk0 o1 hF
    refine e_aload_n (pc' := 2230) dL_law_2229 rfl rfl rfl ?_
    refine e_iconst (pc' := 2231) (v := nI 0) dL_law_2230 rfl (by decide) ?_
    refine p_lald (pc' := 2232) dL_law_2231 rfl ?_
    rw [hr0]
    refine e_iload (pc' := 2234) dL_law_2232 rfl rfl ?_
    refine e_i2l (pc' := 2235) dL_law_2234 rfl ?_
    refine e_lcmp (pc' := 2236) dL_law_2235 rfl ?_
    refine e_if_eq (pc' := 2239) (tgt := 2241) dL_law_2236 rfl (by decide) (fun hz3 => ?_) (fun hz3 => absurd hz3 (fun q => q (lgc _)))
    refine e_goto (tgt := 2358) dL_law_2241 (by decide) ?_
    refine e_fg (i := 6) (L' := [some (.ref (gb G)), some (.ref (ad 0)), some (.ref (ad 96)), some (.ref (ad 104)), some (.ref (ad 105)), some (.int (nI i)), none, some (.int (b)), none]) rfl ?_
    refine e_fg (i := 7) (L' := [some (.ref (gb G)), some (.ref (ad 0)), some (.ref (ad 96)), some (.ref (ad 104)), some (.ref (ad 105)), some (.int (nI i)), none, none, none]) rfl ?_
    exact kk _ _ hL2
theorem law_45 (hL : LV M) (hi : i + 4 ≤ gL G) (h48 : gL G ≤ 2048) (hu1 : u.1 + 1 ≤ 603072) (hu2 : u.2 + 6 ≤ 7207018) (kk : ∀ M' o', LV M' → EV G room_1 mL_law Qf (u.1 + 1, u.2 + 6) 2358 (LL G ad i) [] (wM G ad (M', o'))) : EV G room_1 mL_law Qf u 2244 (LL G ad i) [] (wM G ad (M, o)) := by
  refine e_aload_n (pc' := 2245) dL_law_2244 rfl rfl rfl ?_
  refine e_aload_n (pc' := 2246) dL_law_2245 rfl rfl rfl ?_
  obtain ⟨k, Fo, I, b, hk, hW, hG, hr⟩ := op_undo (G := G) (ad := ad) (o := o) hL 
  refine c_SX (pc' := 2249) (m' := mL_undo) (As := [.ref (ad 0), .ref (ad 104)]) (st := []) hW dL_law_2246 rfl rfl (Nat.le_of_ble_eq_true rfl) ⟨by decide, by decide, hu1, hu2⟩ ml_L_299 okL_undo (List.cons_ne_nil _ _) rfl (fun v2 S2 h => ?_) (fun E2 S2 h => by cases h.1)
  obtain ⟨h3, M1, o1, rfl, hF, hI⟩ := h
  cases h3
  show EV _ _ _ _ (u.1 + 1, u.2 + 6) 2249 _ ([.int (nI k)]) _
  refine e_istore (pc' := 2251) (L' := [some (.ref (gb G)), some (.ref (ad 0)), some (.ref (ad 96)), some (.ref (ad 104)), some (.ref (ad 105)), some (.int (nI i)), some (.int (nI k)), none, none]) dL_law_2249 rfl (by decide) rfl ?_
  refine e_aload_n (pc' := 2252) dL_law_2251 rfl rfl rfl ?_
  refine r_VI (pc' := 2255) (m' := mX9_undo) (As := []) (st := []) (hG M1 o1 hI) dL_law_2252 rfl rfl (Nat.le_of_ble_eq_true rfl) ⟨by decide, by decide, hu1, hu2⟩ ml_L_301 okX9_undo rfl rfl (by decide) rfl (fun M2 hJ => ?_)
  obtain ⟨h8, hL2⟩ := hJ
  show EV _ _ _ _ _ 2255 _ ([.int (b)]) _
  refine e_istore (pc' := 2257) (L' := [some (.ref (gb G)), some (.ref (ad 0)), some (.ref (ad 96)), some (.ref (ad 104)), some (.ref (ad 105)), some (.int (nI i)), some (.int (nI k)), some (.int (b)), none]) dL_law_2255 rfl (by decide) rfl ?_
  refine e_aload_n (pc' := 2258) dL_law_2257 rfl rfl rfl ?_
  refine r_V (pc' := 2261) (m' := mX9_thrown) (As := []) (st := []) (g_thrown (d := 19)) dL_law_2258 rfl rfl (Nat.le_of_ble_eq_true rfl) ⟨by decide, by decide, hu1, hu2⟩ ml_L_144 okX9_thrown rfl rfl (by decide) rfl ?_
  rw [h8]
  show EV _ _ _ _ _ 2261 _ ([.int (nI k)]) _
  refine e_iload (pc' := 2263) dL_law_2261 rfl rfl ?_
  refine e_icmp_eqN (pc' := 2266) (tgt := 2268) dL_law_2263 rfl (by decide) (by omega) (by omega) (fun hz1 => ?_) (fun hz1 => absurd hz1 (fun q => q rfl))
  refine e_iload (pc' := 2270) dL_law_2268 rfl rfl ?_
  refine e_if_neN (pc' := 2273) (tgt := 2285) dL_law_2270 rfl (by decide) (by omega) (fun hk0 => ?_) (fun hk0 => ?_)
  · refine e_goto (tgt := 2358) dL_law_2285 (by decide) ?_
    refine e_fg (i := 6) (L' := [some (.ref (gb G)), some (.ref (ad 0)), some (.ref (ad 96)), some (.ref (ad 104)), some (.ref (ad 105)), some (.int (nI i)), none, some (.int (b)), none]) rfl ?_
    refine e_fg (i := 7) (L' := [some (.ref (gb G)), some (.ref (ad 0)), some (.ref (ad 96)), some (.ref (ad 104)), some (.ref (ad 105)), some (.int (nI i)), none, none, none]) rfl ?_
    exact kk _ _ hL2
  · have hr0 : o1.1 0 = (b).toInt64 := hr hk0 o1 hF
    refine e_aload_n (pc' := 2274) dL_law_2273 rfl rfl rfl ?_
    refine e_iconst (pc' := 2275) (v := nI 0) dL_law_2274 rfl (by decide) ?_
    refine p_lald (pc' := 2276) dL_law_2275 rfl ?_
    rw [hr0]
    refine e_iload (pc' := 2278) dL_law_2276 rfl rfl ?_
    refine e_i2l (pc' := 2279) dL_law_2278 rfl ?_
    refine e_lcmp (pc' := 2280) dL_law_2279 rfl ?_
    refine e_if_eq (pc' := 2283) (tgt := 2285) dL_law_2280 rfl (by decide) (fun hz3 => ?_) (fun hz3 => absurd hz3 (fun q => q (lgc _)))
    refine e_goto (tgt := 2358) dL_law_2285 (by decide) ?_
    refine e_fg (i := 6) (L' := [some (.ref (gb G)), some (.ref (ad 0)), some (.ref (ad 96)), some (.ref (ad 104)), some (.ref (ad 105)), some (.int (nI i)), none, some (.int (b)), none]) rfl ?_
    refine e_fg (i := 7) (L' := [some (.ref (gb G)), some (.ref (ad 0)), some (.ref (ad 96)), some (.ref (ad 104)), some (.ref (ad 105)), some (.int (nI i)), none, none, none]) rfl ?_
    exact kk _ _ hL2
theorem law_46 (hL : LV M) (hi : i + 4 ≤ gL G) (h48 : gL G ≤ 2048) (hu1 : u.1 + 1 ≤ 603072) (hu2 : u.2 + 6 ≤ 7207018) (kk : ∀ M' o', LV M' → EV G room_1 mL_law Qf (u.1 + 1, u.2 + 6) 2358 (LL G ad i) [] (wM G ad (M', o'))) : EV G room_1 mL_law Qf u 2288 (LL G ad i) [] (wM G ad (M, o)) := by
  refine e_aload_n (pc' := 2289) dL_law_2288 rfl rfl rfl ?_
  obtain ⟨v, I, hW, hG⟩ := od_undoCount (G := G) (ad := ad) (o := o) hL
  refine r_VI (pc' := 2292) (m' := mX8_undoCount) (As := []) (st := []) hW dL_law_2289 rfl rfl (Nat.le_of_ble_eq_true rfl) ⟨by decide, by decide, (show u.1 + 0 ≤ 603072 by omega), (show u.2 + 0 ≤ 7207018 by omega)⟩ ml_L_302 okX8_undoCount rfl rfl (by decide) rfl (fun M1 hI => ?_)
  show EV _ _ _ _ _ 2292 _ ([.int (v)]) _
  refine e_aload_n (pc' := 2293) dL_law_2292 rfl rfl rfl ?_
  refine r_VI (pc' := 2296) (m' := mX9_undoCount) (As := []) (st := [.int (v)]) (hG M1 hI) dL_law_2293 rfl rfl (Nat.le_of_ble_eq_true rfl) ⟨by decide, by decide, (show u.1 + 0 ≤ 603072 by omega), (show u.2 + 0 ≤ 7207018 by omega)⟩ ml_L_305 okX9_undoCount rfl rfl (by decide) rfl (fun M2 hL2 => ?_)
  show EV _ _ _ _ _ 2296 _ ([.int (v), .int (v)]) _
  refine e_icmp_eq (pc' := 2299) (tgt := 2358) dL_law_2296 rfl (by decide) (fun hz1 => ?_) (fun hz1 => absurd hz1 (fun q => q rfl))
  refine e_wide (k := u.1 + 1) (n := u.2 + 6) (by omega) (by omega) ?_
  exact kk _ _ hL2
theorem law_47 (hL : LV M) (hi : i + 4 ≤ gL G) (h48 : gL G ≤ 2048) (hu1 : u.1 + 1 ≤ 603072) (hu2 : u.2 + 6 ≤ 7207018) (kk : ∀ M' o', LV M' → EV G room_1 mL_law Qf (u.1 + 1, u.2 + 6) 2358 (LL G ad i) [] (wM G ad (M', o'))) : EV G room_1 mL_law Qf u 2301 (LL G ad i) [] (wM G ad (M, o)) := by
  refine e_aload_n (pc' := 2302) dL_law_2301 rfl rfl rfl ?_
  obtain ⟨v, I, hW, hG⟩ := od_save (G := G) (ad := ad) (o := o) hL
  refine r_VI (pc' := 2305) (m' := mX8_saveSnapshot) (As := []) (st := []) hW dL_law_2302 rfl rfl (Nat.le_of_ble_eq_true rfl) ⟨by decide, by decide, (show u.1 + 0 ≤ 603072 by omega), (show u.2 + 0 ≤ 7207018 by omega)⟩ ml_L_306 okX8_saveSnapshot rfl rfl (by decide) rfl (fun M1 hI => ?_)
  show EV _ _ _ _ _ 2305 _ ([.int (v)]) _
  refine e_aload_n (pc' := 2306) dL_law_2305 rfl rfl rfl ?_
  refine r_VI (pc' := 2309) (m' := mX9_saveSnapshot) (As := []) (st := [.int (v)]) (hG M1 hI) dL_law_2306 rfl rfl (Nat.le_of_ble_eq_true rfl) ⟨by decide, by decide, (show u.1 + 0 ≤ 603072 by omega), (show u.2 + 0 ≤ 7207018 by omega)⟩ ml_L_309 okX9_saveSnapshot rfl rfl (by decide) rfl (fun M2 hL2 => ?_)
  show EV _ _ _ _ _ 2309 _ ([.int (v), .int (v)]) _
  refine e_icmp_eq (pc' := 2312) (tgt := 2358) dL_law_2309 rfl (by decide) (fun hz1 => ?_) (fun hz1 => absurd hz1 (fun q => q rfl))
  refine e_wide (k := u.1 + 1) (n := u.2 + 6) (by omega) (by omega) ?_
  exact kk _ _ hL2
theorem law_48 (hL : LV M) (hi : i + 4 ≤ gL G) (h48 : gL G ≤ 2048) (hu1 : u.1 + 1 ≤ 603072) (hu2 : u.2 + 6 ≤ 7207018) (kk : ∀ M' o', LV M' → EV G room_1 mL_law Qf (u.1 + 1, u.2 + 6) 2358 (LL G ad i) [] (wM G ad (M', o'))) : EV G room_1 mL_law Qf u 2314 (LL G ad i) [] (wM G ad (M, o)) := by
  refine e_aload_n (pc' := 2315) dL_law_2314 rfl rfl rfl ?_
  refine e_aload_n (pc' := 2316) dL_law_2315 rfl rfl rfl ?_
  obtain ⟨k, Fo, I, b, hk, hW, hG, hr⟩ := op_restoreSnapshot (G := G) (ad := ad) (o := o) hL 
  refine c_SX (pc' := 2319) (m' := mL_restoreSnapshot) (As := [.ref (ad 0), .ref (ad 104)]) (st := []) hW dL_law_2316 rfl rfl (Nat.le_of_ble_eq_true rfl) ⟨by decide, by decide, hu1, hu2⟩ ml_L_310 okL_restoreSnapshot (List.cons_ne_nil _ _) rfl (fun v2 S2 h => ?_) (fun E2 S2 h => by cases h.1)
  obtain ⟨h3, M1, o1, rfl, hF, hI⟩ := h
  cases h3
  show EV _ _ _ _ (u.1 + 1, u.2 + 6) 2319 _ ([.int (nI k)]) _
  refine e_istore (pc' := 2321) (L' := [some (.ref (gb G)), some (.ref (ad 0)), some (.ref (ad 96)), some (.ref (ad 104)), some (.ref (ad 105)), some (.int (nI i)), some (.int (nI k)), none, none]) dL_law_2319 rfl (by decide) rfl ?_
  refine e_aload_n (pc' := 2322) dL_law_2321 rfl rfl rfl ?_
  refine r_VI (pc' := 2325) (m' := mX9_restoreSnapshot) (As := []) (st := []) (hG M1 o1 hI) dL_law_2322 rfl rfl (Nat.le_of_ble_eq_true rfl) ⟨by decide, by decide, hu1, hu2⟩ ml_L_312 okX9_restoreSnapshot rfl rfl (by decide) rfl (fun M2 hJ => ?_)
  obtain ⟨h8, hL2⟩ := hJ
  show EV _ _ _ _ _ 2325 _ ([.int (b)]) _
  refine e_istore (pc' := 2327) (L' := [some (.ref (gb G)), some (.ref (ad 0)), some (.ref (ad 96)), some (.ref (ad 104)), some (.ref (ad 105)), some (.int (nI i)), some (.int (nI k)), some (.int (b)), none]) dL_law_2325 rfl (by decide) rfl ?_
  refine e_aload_n (pc' := 2328) dL_law_2327 rfl rfl rfl ?_
  refine r_V (pc' := 2331) (m' := mX9_thrown) (As := []) (st := []) (g_thrown (d := 19)) dL_law_2328 rfl rfl (Nat.le_of_ble_eq_true rfl) ⟨by decide, by decide, hu1, hu2⟩ ml_L_144 okX9_thrown rfl rfl (by decide) rfl ?_
  rw [h8]
  show EV _ _ _ _ _ 2331 _ ([.int (nI k)]) _
  refine e_iload (pc' := 2333) dL_law_2331 rfl rfl ?_
  refine e_icmp_eqN (pc' := 2336) (tgt := 2338) dL_law_2333 rfl (by decide) (by omega) (by omega) (fun hz1 => ?_) (fun hz1 => absurd hz1 (fun q => q rfl))
  refine e_iload (pc' := 2340) dL_law_2338 rfl rfl ?_
  refine e_if_neN (pc' := 2343) (tgt := 2355) dL_law_2340 rfl (by decide) (by omega) (fun hk0 => ?_) (fun hk0 => ?_)
  · refine e_goto (tgt := 2358) dL_law_2355 (by decide) ?_
    refine e_fg (i := 6) (L' := [some (.ref (gb G)), some (.ref (ad 0)), some (.ref (ad 96)), some (.ref (ad 104)), some (.ref (ad 105)), some (.int (nI i)), none, some (.int (b)), none]) rfl ?_
    refine e_fg (i := 7) (L' := [some (.ref (gb G)), some (.ref (ad 0)), some (.ref (ad 96)), some (.ref (ad 104)), some (.ref (ad 105)), some (.int (nI i)), none, none, none]) rfl ?_
    exact kk _ _ hL2
  · have hr0 : o1.1 0 = (b).toInt64 := hr hk0 o1 hF
    refine e_aload_n (pc' := 2344) dL_law_2343 rfl rfl rfl ?_
    refine e_iconst (pc' := 2345) (v := nI 0) dL_law_2344 rfl (by decide) ?_
    refine p_lald (pc' := 2346) dL_law_2345 rfl ?_
    rw [hr0]
    refine e_iload (pc' := 2348) dL_law_2346 rfl rfl ?_
    refine e_i2l (pc' := 2349) dL_law_2348 rfl ?_
    refine e_lcmp (pc' := 2350) dL_law_2349 rfl ?_
    refine e_if_eq (pc' := 2353) (tgt := 2355) dL_law_2350 rfl (by decide) (fun hz3 => ?_) (fun hz3 => absurd hz3 (fun q => q (lgc _)))
    refine e_goto (tgt := 2358) dL_law_2355 (by decide) ?_
    refine e_fg (i := 6) (L' := [some (.ref (gb G)), some (.ref (ad 0)), some (.ref (ad 96)), some (.ref (ad 104)), some (.ref (ad 105)), some (.int (nI i)), none, some (.int (b)), none]) rfl ?_
    refine e_fg (i := 7) (L' := [some (.ref (gb G)), some (.ref (ad 0)), some (.ref (ad 96)), some (.ref (ad 104)), some (.ref (ad 105)), some (.int (nI i)), none, none, none]) rfl ?_
    exact kk _ _ hL2
end T67

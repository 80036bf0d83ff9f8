/-! ===== the law's cases ===== -/
theorem zCn.sc {m : zMem} {w : Int} : zCn m w 1001 = m 1001 := zu_row (by decide)
theorem zAn.sc {m m1 : zMem} {r y v : Int} (h : zAn m m1 r y v) : m1 1001 = m 1001 := by
  rcases h with ⟨-, -, h⟩ | ⟨-, -, h⟩
  · rw [h]; exact zCn.sc
  · exact h 1001 (by decide)
theorem zAJ.sc {m m1 : zMem} {r y v : Int} (h : zAJ m m1 r y v) : m1 1001 = m 1001 := by
  rcases h with ⟨-, -, h⟩ | ⟨-, -, h⟩
  · rw [h]; exact zCn.sc
  · exact h 1001 (by decide)
theorem zFq.sc {m m1 : zMem} {q : Int} (h : zFq m m1 q) (hq : 0 ≤ q ∧ q < 6) : m1 1001 = m 1001 := h.o hq (Or.inr (Or.inr (by decide)))
theorem lg_self (x : Int64) : (lg_cmp x x).toInt = 0 := by
  rw [(lg_cmp_eq x x).mpr rfl]; rfl

set_option maxRecDepth 100000 in
set_option maxHeartbeats 4000000 in
theorem lc_letter {l : Launch} {L : Nat} {mem : zMem} {Q : zQ} (i : Int) (hL : L ≤ 4096) (h0 : 0 ≤ i) (h1 : i + 8 ≤ (L : Int)) (hI : zInv mem) (ih1789 : ∀ mm : zMem, zInv mm → (0 : Int) < 1 → zw_Wp l mm_L_law (zS L) 1789 [some (zR 1001), some (zR 0), some (zR 67), some (zI i)] [] mm 0 0 Q) : zw_Wp l mm_L_law (zS L) 204 [some (zR 1001), some (zR 0), some (zR 67), some (zI i)] [] mem 0 0 Q := by
  refine wp_aload_n dd_L_law_204 rfl ?_
  refine wp_aload_n dd_L_law_205 rfl ?_
  refine wp_iload_n dd_L_law_206 rfl ?_
  refine wp_iconst dd_L_law_207 (zr_lit rfl) ?_
  refine wp_iaddC dd_L_law_208 (by omega) ?_
  refine wp_ialdR dd_L_law_209 kk_1001 (by decide) (by omega) (by omega) ?_
  refine wp_callV (M' := mm_X10_letter) (As := [zI (mem 1001 (i + 1))]) (rest := []) dd_L_law_210 lk_L_13 mV_X10_letter kk_0 (zlt rfl) ⟨_, _, rfl⟩ rfl (by decide) (by decide) (Nat.le_of_ble_eq_true rfl) rfl (sp_X10_letter  (mem 1001 (i + 1)) hI (fun r m1 hf => ?_))
  show zw_Wp l mm_L_law (zS L) 213 [some (zR 1001), some (zR 0), some (zR 67), some (zI i)] [zI r] m1 0 0 Q
  have hs : m1 1001 = mem 1001 := by
    rcases hf with ⟨-, -, z⟩ | ⟨-, -, -, z⟩ | ⟨-, -, -, -, z⟩
    · rw [z]; exact zCn.sc
    · rw [z]; exact zCn.sc
    · rw [z, zu_row (by decide)]; exact zu_row (by decide)
  refine wp_aload_n dd_L_law_213 rfl ?_
  refine wp_aload_n dd_L_law_214 rfl ?_
  refine wp_iload_n dd_L_law_215 rfl ?_
  refine wp_iconst dd_L_law_216 (zr_lit rfl) ?_
  refine wp_iaddC dd_L_law_217 (by omega) ?_
  refine wp_ialdR dd_L_law_218 kk_1001 (by decide) (by omega) (by omega) ?_
  rw [show (m1 1001 (i + 1) : Int) = mem 1001 (i + 1) from by rw [hs]]
  refine wp_callV (M' := mm_X11_letter) (As := [zI (mem 1001 (i + 1))]) (rest := [zI r]) dd_L_law_219 lk_L_17 mV_X11_letter kk_67 (zlt rfl) ⟨_, _, rfl⟩ rfl (by decide) (by decide) (Nat.le_of_ble_eq_true rfl) rfl (rf_letter  (mem 1001 (i + 1)) r hI hf (fun m2 hI2 => ?_))
  show zw_Wp l mm_L_law (zS L) 222 [some (zR 1001), some (zR 0), some (zR 67), some (zI i)] [zI r, zI r] m2 0 0 Q
  refine wp_icmp_eq (tgt := 1789) dd_L_law_222 (by decide) (fun c222_1 => ?_) (fun c222_1 => ?_)
  · skip
    refine ih1789 m2 ?_ ?_
    · assumption
    · omega
  · skip
    exfalso; omega

set_option maxRecDepth 100000 in
set_option maxHeartbeats 4000000 in
theorem lc_poly {l : Launch} {L : Nat} {mem : zMem} {Q : zQ} (i : Int) (hL : L ≤ 4096) (h0 : 0 ≤ i) (h1 : i + 8 ≤ (L : Int)) (hI : zInv mem) (ih1789 : ∀ mm : zMem, zInv mm → (0 : Int) < 1 → zw_Wp l mm_L_law (zS L) 1789 [some (zR 1001), some (zR 0), some (zR 67), some (zI i)] [] mm 0 0 Q) : zw_Wp l mm_L_law (zS L) 227 [some (zR 1001), some (zR 0), some (zR 67), some (zI i)] [] mem 0 0 Q := by
  refine wp_aload_n dd_L_law_227 rfl ?_
  refine wp_callV (M' := mm_X10_poly) (As := []) (rest := []) dd_L_law_228 lk_L_18 mV_X10_poly kk_0 (zlt rfl) ⟨_, _, rfl⟩ rfl (by decide) (by decide) (Nat.le_of_ble_eq_true rfl) rfl (sp_X10_poly   hI (fun r m1 hf => ?_))
  show zw_Wp l mm_L_law (zS L) 231 [some (zR 1001), some (zR 0), some (zR 67), some (zI i)] [zI r] m1 0 0 Q
  refine wp_aload_n dd_L_law_231 rfl ?_
  refine wp_callV (M' := mm_X11_poly) (As := []) (rest := [zI r]) dd_L_law_232 lk_L_22 mV_X11_poly kk_67 (zlt rfl) ⟨_, _, rfl⟩ rfl (by decide) (by decide) (Nat.le_of_ble_eq_true rfl) rfl (rf_poly   r hI hf (fun m2 hI2 => ?_))
  show zw_Wp l mm_L_law (zS L) 235 [some (zR 1001), some (zR 0), some (zR 67), some (zI i)] [zI r, zI r] m2 0 0 Q
  refine wp_icmp_eq (tgt := 1789) dd_L_law_235 (by decide) (fun c235_1 => ?_) (fun c235_1 => ?_)
  · skip
    refine ih1789 m2 ?_ ?_
    · assumption
    · omega
  · skip
    exfalso; omega

set_option maxRecDepth 100000 in
set_option maxHeartbeats 4000000 in
theorem lc_drop {l : Launch} {L : Nat} {mem : zMem} {Q : zQ} (i : Int) (hL : L ≤ 4096) (h0 : 0 ≤ i) (h1 : i + 8 ≤ (L : Int)) (hI : zInv mem) (ih1789 : ∀ mm : zMem, zInv mm → (0 : Int) < 1 → zw_Wp l mm_L_law (zS L) 1789 [some (zR 1001), some (zR 0), some (zR 67), some (zI i)] [] mm 0 0 Q) : zw_Wp l mm_L_law (zS L) 240 [some (zR 1001), some (zR 0), some (zR 67), some (zI i)] [] mem 0 0 Q := by
  refine wp_aload_n dd_L_law_240 rfl ?_
  refine wp_callV (M' := mm_X10_drop) (As := []) (rest := []) dd_L_law_241 lk_L_23 mV_X10_drop kk_0 (zlt rfl) ⟨_, _, rfl⟩ rfl (by decide) (by decide) (Nat.le_of_ble_eq_true rfl) rfl (sp_X10_drop   hI (fun r m1 hf => ?_))
  show zw_Wp l mm_L_law (zS L) 244 [some (zR 1001), some (zR 0), some (zR 67), some (zI i)] [zI r] m1 0 0 Q
  refine wp_aload_n dd_L_law_244 rfl ?_
  refine wp_callV (M' := mm_X11_drop) (As := []) (rest := [zI r]) dd_L_law_245 lk_L_26 mV_X11_drop kk_67 (zlt rfl) ⟨_, _, rfl⟩ rfl (by decide) (by decide) (Nat.le_of_ble_eq_true rfl) rfl (rf_drop   r hI hf (fun m2 hI2 => ?_))
  show zw_Wp l mm_L_law (zS L) 248 [some (zR 1001), some (zR 0), some (zR 67), some (zI i)] [zI r, zI r] m2 0 0 Q
  refine wp_icmp_eq (tgt := 1789) dd_L_law_248 (by decide) (fun c248_1 => ?_) (fun c248_1 => ?_)
  · skip
    refine ih1789 m2 ?_ ?_
    · assumption
    · omega
  · skip
    exfalso; omega

set_option maxRecDepth 100000 in
set_option maxHeartbeats 4000000 in
theorem lc_prime {l : Launch} {L : Nat} {mem : zMem} {Q : zQ} (i : Int) (hL : L ≤ 4096) (h0 : 0 ≤ i) (h1 : i + 8 ≤ (L : Int)) (hI : zInv mem) (ih1789 : ∀ mm : zMem, zInv mm → (0 : Int) < 1 → zw_Wp l mm_L_law (zS L) 1789 [some (zR 1001), some (zR 0), some (zR 67), some (zI i)] [] mm 0 0 Q) : zw_Wp l mm_L_law (zS L) 253 [some (zR 1001), some (zR 0), some (zR 67), some (zI i)] [] mem 0 0 Q := by
  refine wp_aload_n dd_L_law_253 rfl ?_
  refine wp_aload_n dd_L_law_254 rfl ?_
  refine wp_iload_n dd_L_law_255 rfl ?_
  refine wp_iconst dd_L_law_256 (zr_lit rfl) ?_
  refine wp_iaddC dd_L_law_257 (by omega) ?_
  refine wp_ialdR dd_L_law_258 kk_1001 (by decide) (by omega) (by omega) ?_
  refine wp_callV (M' := mm_X10_prime) (As := [zI (mem 1001 (i + 1))]) (rest := []) dd_L_law_259 lk_L_27 mV_X10_prime kk_0 (zlt rfl) ⟨_, _, rfl⟩ rfl (by decide) (by decide) (Nat.le_of_ble_eq_true rfl) rfl (sp_X10_prime  (mem 1001 (i + 1)) hI (fun r m1 hf => ?_))
  show zw_Wp l mm_L_law (zS L) 262 [some (zR 1001), some (zR 0), some (zR 67), some (zI i)] [zI r] m1 0 0 Q
  have hs : m1 1001 = mem 1001 := by
    rcases hf with ⟨-, -, z⟩ | ⟨-, -, -, -, -, -, z⟩
    · rw [z]; exact zCn.sc
    · exact z 1001 (by decide) (by decide) (by decide)
  refine wp_aload_n dd_L_law_262 rfl ?_
  refine wp_aload_n dd_L_law_263 rfl ?_
  refine wp_iload_n dd_L_law_264 rfl ?_
  refine wp_iconst dd_L_law_265 (zr_lit rfl) ?_
  refine wp_iaddC dd_L_law_266 (by omega) ?_
  refine wp_ialdR dd_L_law_267 kk_1001 (by decide) (by omega) (by omega) ?_
  rw [show (m1 1001 (i + 1) : Int) = mem 1001 (i + 1) from by rw [hs]]
  refine wp_callV (M' := mm_X11_prime) (As := [zI (mem 1001 (i + 1))]) (rest := [zI r]) dd_L_law_268 lk_L_30 mV_X11_prime kk_67 (zlt rfl) ⟨_, _, rfl⟩ rfl (by decide) (by decide) (Nat.le_of_ble_eq_true rfl) rfl (rf_prime  (mem 1001 (i + 1)) r hI hf (fun m2 hI2 => ?_))
  show zw_Wp l mm_L_law (zS L) 271 [some (zR 1001), some (zR 0), some (zR 67), some (zI i)] [zI r, zI r] m2 0 0 Q
  refine wp_icmp_eq (tgt := 1789) dd_L_law_271 (by decide) (fun c271_1 => ?_) (fun c271_1 => ?_)
  · skip
    refine ih1789 m2 ?_ ?_
    · assumption
    · omega
  · skip
    exfalso; omega

set_option maxRecDepth 100000 in
set_option maxHeartbeats 4000000 in
theorem lc_turn {l : Launch} {L : Nat} {mem : zMem} {Q : zQ} (i : Int) (hL : L ≤ 4096) (h0 : 0 ≤ i) (h1 : i + 8 ≤ (L : Int)) (hI : zInv mem) (ih1789 : ∀ mm : zMem, zInv mm → (0 : Int) < 1 → zw_Wp l mm_L_law (zS L) 1789 [some (zR 1001), some (zR 0), some (zR 67), some (zI i)] [] mm 0 0 Q) : zw_Wp l mm_L_law (zS L) 276 [some (zR 1001), some (zR 0), some (zR 67), some (zI i)] [] mem 0 0 Q := by
  refine wp_aload_n dd_L_law_276 rfl ?_
  refine wp_aload_n dd_L_law_277 rfl ?_
  refine wp_iload_n dd_L_law_278 rfl ?_
  refine wp_iconst dd_L_law_279 (zr_lit rfl) ?_
  refine wp_iaddC dd_L_law_280 (by omega) ?_
  refine wp_ialdR dd_L_law_281 kk_1001 (by decide) (by omega) (by omega) ?_
  refine wp_aload_n dd_L_law_282 rfl ?_
  refine wp_iload_n dd_L_law_283 rfl ?_
  refine wp_iconst dd_L_law_284 (zr_lit rfl) ?_
  refine wp_iaddC dd_L_law_285 (by omega) ?_
  refine wp_ialdR dd_L_law_286 kk_1001 (by decide) (by omega) (by omega) ?_
  refine wp_aload_n dd_L_law_287 rfl ?_
  refine wp_iload_n dd_L_law_288 rfl ?_
  refine wp_iconst dd_L_law_289 (zr_lit rfl) ?_
  refine wp_iaddC dd_L_law_290 (by omega) ?_
  refine wp_ialdR dd_L_law_291 kk_1001 (by decide) (by omega) (by omega) ?_
  refine wp_callV (M' := mm_X10_turn) (As := [zI (mem 1001 (i + 1)), zI (mem 1001 (i + 2)), zI (mem 1001 (i + 3))]) (rest := []) dd_L_law_292 lk_L_31 mV_X10_turn kk_0 (zlt rfl) ⟨_, _, rfl⟩ rfl (by decide) (by decide) (Nat.le_of_ble_eq_true rfl) rfl (sp_X10_turn  (mem 1001 (i + 1)) (mem 1001 (i + 2)) (mem 1001 (i + 3)) hI (fun r m1 hf => ?_))
  show zw_Wp l mm_L_law (zS L) 295 [some (zR 1001), some (zR 0), some (zR 67), some (zI i)] [zI r] m1 0 0 Q
  have hs : m1 1001 = mem 1001 := by
    rcases hf with ⟨-, -, z⟩ | ⟨z0, -, -, -, z⟩
    · rw [z]; exact zCn.sc
    · exact z.sc (by have := hI.1.2.2.1; unfold zyT at z0; omega)
  refine wp_aload_n dd_L_law_295 rfl ?_
  refine wp_aload_n dd_L_law_296 rfl ?_
  refine wp_iload_n dd_L_law_297 rfl ?_
  refine wp_iconst dd_L_law_298 (zr_lit rfl) ?_
  refine wp_iaddC dd_L_law_299 (by omega) ?_
  refine wp_ialdR dd_L_law_300 kk_1001 (by decide) (by omega) (by omega) ?_
  refine wp_aload_n dd_L_law_301 rfl ?_
  refine wp_iload_n dd_L_law_302 rfl ?_
  refine wp_iconst dd_L_law_303 (zr_lit rfl) ?_
  refine wp_iaddC dd_L_law_304 (by omega) ?_
  refine wp_ialdR dd_L_law_305 kk_1001 (by decide) (by omega) (by omega) ?_
  refine wp_aload_n dd_L_law_306 rfl ?_
  refine wp_iload_n dd_L_law_307 rfl ?_
  refine wp_iconst dd_L_law_308 (zr_lit rfl) ?_
  refine wp_iaddC dd_L_law_309 (by omega) ?_
  refine wp_ialdR dd_L_law_310 kk_1001 (by decide) (by omega) (by omega) ?_
  rw [show (m1 1001 (i + 1) : Int) = mem 1001 (i + 1) from by rw [hs]]
  rw [show (m1 1001 (i + 2) : Int) = mem 1001 (i + 2) from by rw [hs]]
  rw [show (m1 1001 (i + 3) : Int) = mem 1001 (i + 3) from by rw [hs]]
  refine wp_callV (M' := mm_X11_turn) (As := [zI (mem 1001 (i + 1)), zI (mem 1001 (i + 2)), zI (mem 1001 (i + 3))]) (rest := [zI r]) dd_L_law_311 lk_L_35 mV_X11_turn kk_67 (zlt rfl) ⟨_, _, rfl⟩ rfl (by decide) (by decide) (Nat.le_of_ble_eq_true rfl) rfl (rf_turn  (mem 1001 (i + 1)) (mem 1001 (i + 2)) (mem 1001 (i + 3)) r hI hf (fun m2 hI2 => ?_))
  show zw_Wp l mm_L_law (zS L) 314 [some (zR 1001), some (zR 0), some (zR 67), some (zI i)] [zI r, zI r] m2 0 0 Q
  refine wp_icmp_eq (tgt := 1789) dd_L_law_314 (by decide) (fun c314_1 => ?_) (fun c314_1 => ?_)
  · skip
    refine ih1789 m2 ?_ ?_
    · assumption
    · omega
  · skip
    exfalso; omega

set_option maxRecDepth 100000 in
set_option maxHeartbeats 4000000 in
theorem lc_change {l : Launch} {L : Nat} {mem : zMem} {Q : zQ} (i : Int) (hL : L ≤ 4096) (h0 : 0 ≤ i) (h1 : i + 8 ≤ (L : Int)) (hI : zInv mem) (ih1789 : ∀ mm : zMem, zInv mm → (0 : Int) < 1 → zw_Wp l mm_L_law (zS L) 1789 [some (zR 1001), some (zR 0), some (zR 67), some (zI i)] [] mm 0 0 Q) : zw_Wp l mm_L_law (zS L) 319 [some (zR 1001), some (zR 0), some (zR 67), some (zI i)] [] mem 0 0 Q := by
  refine wp_aload_n dd_L_law_319 rfl ?_
  refine wp_aload_n dd_L_law_320 rfl ?_
  refine wp_iload_n dd_L_law_321 rfl ?_
  refine wp_iconst dd_L_law_322 (zr_lit rfl) ?_
  refine wp_iaddC dd_L_law_323 (by omega) ?_
  refine wp_ialdR dd_L_law_324 kk_1001 (by decide) (by omega) (by omega) ?_
  refine wp_aload_n dd_L_law_325 rfl ?_
  refine wp_iload_n dd_L_law_326 rfl ?_
  refine wp_iconst dd_L_law_327 (zr_lit rfl) ?_
  refine wp_iaddC dd_L_law_328 (by omega) ?_
  refine wp_ialdR dd_L_law_329 kk_1001 (by decide) (by omega) (by omega) ?_
  refine wp_aload_n dd_L_law_330 rfl ?_
  refine wp_iload_n dd_L_law_331 rfl ?_
  refine wp_iconst dd_L_law_332 (zr_lit rfl) ?_
  refine wp_iaddC dd_L_law_333 (by omega) ?_
  refine wp_ialdR dd_L_law_334 kk_1001 (by decide) (by omega) (by omega) ?_
  refine wp_aload_n dd_L_law_335 rfl ?_
  refine wp_iload_n dd_L_law_336 rfl ?_
  refine wp_iconst dd_L_law_337 (zr_lit rfl) ?_
  refine wp_iaddC dd_L_law_338 (by omega) ?_
  refine wp_ialdR dd_L_law_339 kk_1001 (by decide) (by omega) (by omega) ?_
  refine wp_callV (M' := mm_X10_change) (As := [zI (mem 1001 (i + 1)), zI (mem 1001 (i + 2)), zI (mem 1001 (i + 3)), zI (mem 1001 (i + 4))]) (rest := []) dd_L_law_340 lk_L_36 mV_X10_change kk_0 (zlt rfl) ⟨_, _, rfl⟩ rfl (by decide) (by decide) (Nat.le_of_ble_eq_true rfl) rfl (sp_X10_change  (mem 1001 (i + 1)) (mem 1001 (i + 2)) (mem 1001 (i + 3)) (mem 1001 (i + 4)) hI (fun r m1 hf => ?_))
  show zw_Wp l mm_L_law (zS L) 343 [some (zR 1001), some (zR 0), some (zR 67), some (zI i)] [zI r] m1 0 0 Q
  have hs : m1 1001 = mem 1001 := by
    rcases hf with ⟨-, -, z⟩ | ⟨z0, -, -, -, z⟩
    · rw [z]; exact zCn.sc
    · exact z.sc (by have := hI.1.2.2.1; unfold zyP at z0; omega)
  refine wp_aload_n dd_L_law_343 rfl ?_
  refine wp_aload_n dd_L_law_344 rfl ?_
  refine wp_iload_n dd_L_law_345 rfl ?_
  refine wp_iconst dd_L_law_346 (zr_lit rfl) ?_
  refine wp_iaddC dd_L_law_347 (by omega) ?_
  refine wp_ialdR dd_L_law_348 kk_1001 (by decide) (by omega) (by omega) ?_
  refine wp_aload_n dd_L_law_349 rfl ?_
  refine wp_iload_n dd_L_law_350 rfl ?_
  refine wp_iconst dd_L_law_351 (zr_lit rfl) ?_
  refine wp_iaddC dd_L_law_352 (by omega) ?_
  refine wp_ialdR dd_L_law_353 kk_1001 (by decide) (by omega) (by omega) ?_
  refine wp_aload_n dd_L_law_354 rfl ?_
  refine wp_iload_n dd_L_law_355 rfl ?_
  refine wp_iconst dd_L_law_356 (zr_lit rfl) ?_
  refine wp_iaddC dd_L_law_357 (by omega) ?_
  refine wp_ialdR dd_L_law_358 kk_1001 (by decide) (by omega) (by omega) ?_
  refine wp_aload_n dd_L_law_359 rfl ?_
  refine wp_iload_n dd_L_law_360 rfl ?_
  refine wp_iconst dd_L_law_361 (zr_lit rfl) ?_
  refine wp_iaddC dd_L_law_362 (by omega) ?_
  refine wp_ialdR dd_L_law_363 kk_1001 (by decide) (by omega) (by omega) ?_
  rw [show (m1 1001 (i + 1) : Int) = mem 1001 (i + 1) from by rw [hs]]
  rw [show (m1 1001 (i + 2) : Int) = mem 1001 (i + 2) from by rw [hs]]
  rw [show (m1 1001 (i + 3) : Int) = mem 1001 (i + 3) from by rw [hs]]
  rw [show (m1 1001 (i + 4) : Int) = mem 1001 (i + 4) from by rw [hs]]
  refine wp_callV (M' := mm_X11_change) (As := [zI (mem 1001 (i + 1)), zI (mem 1001 (i + 2)), zI (mem 1001 (i + 3)), zI (mem 1001 (i + 4))]) (rest := [zI r]) dd_L_law_364 lk_L_40 mV_X11_change kk_67 (zlt rfl) ⟨_, _, rfl⟩ rfl (by decide) (by decide) (Nat.le_of_ble_eq_true rfl) rfl (rf_change  (mem 1001 (i + 1)) (mem 1001 (i + 2)) (mem 1001 (i + 3)) (mem 1001 (i + 4)) r hI hf (fun m2 hI2 => ?_))
  show zw_Wp l mm_L_law (zS L) 367 [some (zR 1001), some (zR 0), some (zR 67), some (zI i)] [zI r, zI r] m2 0 0 Q
  refine wp_icmp_eq (tgt := 1789) dd_L_law_367 (by decide) (fun c367_1 => ?_) (fun c367_1 => ?_)
  · skip
    refine ih1789 m2 ?_ ?_
    · assumption
    · omega
  · skip
    exfalso; omega

set_option maxRecDepth 100000 in
set_option maxHeartbeats 4000000 in
theorem lc_coefficient {l : Launch} {L : Nat} {mem : zMem} {Q : zQ} (i : Int) (hL : L ≤ 4096) (h0 : 0 ≤ i) (h1 : i + 8 ≤ (L : Int)) (hI : zInv mem) (ih1789 : ∀ mm : zMem, zInv mm → (0 : Int) < 1 → zw_Wp l mm_L_law (zS L) 1789 [some (zR 1001), some (zR 0), some (zR 67), some (zI i)] [] mm 0 0 Q) : zw_Wp l mm_L_law (zS L) 372 [some (zR 1001), some (zR 0), some (zR 67), some (zI i)] [] mem 0 0 Q := by
  refine wp_aload_n dd_L_law_372 rfl ?_
  refine wp_aload_n dd_L_law_373 rfl ?_
  refine wp_iload_n dd_L_law_374 rfl ?_
  refine wp_iconst dd_L_law_375 (zr_lit rfl) ?_
  refine wp_iaddC dd_L_law_376 (by omega) ?_
  refine wp_ialdR dd_L_law_377 kk_1001 (by decide) (by omega) (by omega) ?_
  refine wp_aload_n dd_L_law_378 rfl ?_
  refine wp_iload_n dd_L_law_379 rfl ?_
  refine wp_iconst dd_L_law_380 (zr_lit rfl) ?_
  refine wp_iaddC dd_L_law_381 (by omega) ?_
  refine wp_ialdR dd_L_law_382 kk_1001 (by decide) (by omega) (by omega) ?_
  refine wp_aload_n dd_L_law_383 rfl ?_
  refine wp_iload_n dd_L_law_384 rfl ?_
  refine wp_iconst dd_L_law_385 (zr_lit rfl) ?_
  refine wp_iaddC dd_L_law_386 (by omega) ?_
  refine wp_ialdR dd_L_law_387 kk_1001 (by decide) (by omega) (by omega) ?_
  refine wp_callV (M' := mm_X10_coefficient) (As := [zI (mem 1001 (i + 1)), zI (mem 1001 (i + 2)), zI (mem 1001 (i + 3))]) (rest := []) dd_L_law_388 lk_L_41 mV_X10_coefficient kk_0 (zlt rfl) ⟨_, _, rfl⟩ rfl (by decide) (by decide) (Nat.le_of_ble_eq_true rfl) rfl (sp_X10_coefficient  (mem 1001 (i + 1)) (mem 1001 (i + 2)) (mem 1001 (i + 3)) hI (fun r m1 hf => ?_))
  show zw_Wp l mm_L_law (zS L) 391 [some (zR 1001), some (zR 0), some (zR 67), some (zI i)] [zI r] m1 0 0 Q
  have hs : m1 1001 = mem 1001 := hf.sc
  refine wp_aload_n dd_L_law_391 rfl ?_
  refine wp_aload_n dd_L_law_392 rfl ?_
  refine wp_iload_n dd_L_law_393 rfl ?_
  refine wp_iconst dd_L_law_394 (zr_lit rfl) ?_
  refine wp_iaddC dd_L_law_395 (by omega) ?_
  refine wp_ialdR dd_L_law_396 kk_1001 (by decide) (by omega) (by omega) ?_
  refine wp_aload_n dd_L_law_397 rfl ?_
  refine wp_iload_n dd_L_law_398 rfl ?_
  refine wp_iconst dd_L_law_399 (zr_lit rfl) ?_
  refine wp_iaddC dd_L_law_400 (by omega) ?_
  refine wp_ialdR dd_L_law_401 kk_1001 (by decide) (by omega) (by omega) ?_
  refine wp_aload_n dd_L_law_402 rfl ?_
  refine wp_iload_n dd_L_law_403 rfl ?_
  refine wp_iconst dd_L_law_404 (zr_lit rfl) ?_
  refine wp_iaddC dd_L_law_405 (by omega) ?_
  refine wp_ialdR dd_L_law_406 kk_1001 (by decide) (by omega) (by omega) ?_
  rw [show (m1 1001 (i + 1) : Int) = mem 1001 (i + 1) from by rw [hs]]
  rw [show (m1 1001 (i + 2) : Int) = mem 1001 (i + 2) from by rw [hs]]
  rw [show (m1 1001 (i + 3) : Int) = mem 1001 (i + 3) from by rw [hs]]
  refine wp_callV (M' := mm_X11_coefficient) (As := [zI (mem 1001 (i + 1)), zI (mem 1001 (i + 2)), zI (mem 1001 (i + 3))]) (rest := [zI r]) dd_L_law_407 lk_L_44 mV_X11_coefficient kk_67 (zlt rfl) ⟨_, _, rfl⟩ rfl (by decide) (by decide) (Nat.le_of_ble_eq_true rfl) rfl (rf_coefficient  (mem 1001 (i + 1)) (mem 1001 (i + 2)) (mem 1001 (i + 3)) r hI hf (fun m2 hI2 => ?_))
  show zw_Wp l mm_L_law (zS L) 410 [some (zR 1001), some (zR 0), some (zR 67), some (zI i)] [zI r, zI r] m2 0 0 Q
  refine wp_icmp_eq (tgt := 1789) dd_L_law_410 (by decide) (fun c410_1 => ?_) (fun c410_1 => ?_)
  · skip
    refine ih1789 m2 ?_ ?_
    · assumption
    · omega
  · skip
    exfalso; omega

set_option maxRecDepth 100000 in
set_option maxHeartbeats 4000000 in
theorem lc_of {l : Launch} {L : Nat} {mem : zMem} {Q : zQ} (i : Int) (hL : L ≤ 4096) (h0 : 0 ≤ i) (h1 : i + 8 ≤ (L : Int)) (hI : zInv mem) (ih1789 : ∀ mm : zMem, zInv mm → (0 : Int) < 1 → zw_Wp l mm_L_law (zS L) 1789 [some (zR 1001), some (zR 0), some (zR 67), some (zI i)] [] mm 0 0 Q) : zw_Wp l mm_L_law (zS L) 415 [some (zR 1001), some (zR 0), some (zR 67), some (zI i)] [] mem 0 0 Q := by
  refine wp_aload_n dd_L_law_415 rfl ?_
  refine wp_aload_n dd_L_law_416 rfl ?_
  refine wp_iload_n dd_L_law_417 rfl ?_
  refine wp_iconst dd_L_law_418 (zr_lit rfl) ?_
  refine wp_iaddC dd_L_law_419 (by omega) ?_
  refine wp_ialdR dd_L_law_420 kk_1001 (by decide) (by omega) (by omega) ?_
  refine wp_aload_n dd_L_law_421 rfl ?_
  refine wp_iload_n dd_L_law_422 rfl ?_
  refine wp_iconst dd_L_law_423 (zr_lit rfl) ?_
  refine wp_iaddC dd_L_law_424 (by omega) ?_
  refine wp_ialdR dd_L_law_425 kk_1001 (by decide) (by omega) (by omega) ?_
  refine wp_callV (M' := mm_X10_of) (As := [zI (mem 1001 (i + 1)), zI (mem 1001 (i + 2))]) (rest := []) dd_L_law_426 lk_L_45 mV_X10_of kk_0 (zlt rfl) ⟨_, _, rfl⟩ rfl (by decide) (by decide) (Nat.le_of_ble_eq_true rfl) rfl (sp_X10_of  (mem 1001 (i + 1)) (mem 1001 (i + 2)) hI (fun r m1 hf => ?_))
  show zw_Wp l mm_L_law (zS L) 429 [some (zR 1001), some (zR 0), some (zR 67), some (zI i)] [zI r] m1 0 0 Q
  have hs : m1 1001 = mem 1001 := hf.sc
  refine wp_aload_n dd_L_law_429 rfl ?_
  refine wp_aload_n dd_L_law_430 rfl ?_
  refine wp_iload_n dd_L_law_431 rfl ?_
  refine wp_iconst dd_L_law_432 (zr_lit rfl) ?_
  refine wp_iaddC dd_L_law_433 (by omega) ?_
  refine wp_ialdR dd_L_law_434 kk_1001 (by decide) (by omega) (by omega) ?_
  refine wp_aload_n dd_L_law_435 rfl ?_
  refine wp_iload_n dd_L_law_436 rfl ?_
  refine wp_iconst dd_L_law_437 (zr_lit rfl) ?_
  refine wp_iaddC dd_L_law_438 (by omega) ?_
  refine wp_ialdR dd_L_law_439 kk_1001 (by decide) (by omega) (by omega) ?_
  rw [show (m1 1001 (i + 1) : Int) = mem 1001 (i + 1) from by rw [hs]]
  rw [show (m1 1001 (i + 2) : Int) = mem 1001 (i + 2) from by rw [hs]]
  refine wp_callV (M' := mm_X11_of) (As := [zI (mem 1001 (i + 1)), zI (mem 1001 (i + 2))]) (rest := [zI r]) dd_L_law_440 lk_L_49 mV_X11_of kk_67 (zlt rfl) ⟨_, _, rfl⟩ rfl (by decide) (by decide) (Nat.le_of_ble_eq_true rfl) rfl (rf_of  (mem 1001 (i + 1)) (mem 1001 (i + 2)) r hI hf (fun m2 hI2 => ?_))
  show zw_Wp l mm_L_law (zS L) 443 [some (zR 1001), some (zR 0), some (zR 67), some (zI i)] [zI r, zI r] m2 0 0 Q
  refine wp_icmp_eq (tgt := 1789) dd_L_law_443 (by decide) (fun c443_1 => ?_) (fun c443_1 => ?_)
  · skip
    refine ih1789 m2 ?_ ?_
    · assumption
    · omega
  · skip
    exfalso; omega

set_option maxRecDepth 100000 in
set_option maxHeartbeats 4000000 in
theorem lc_term {l : Launch} {L : Nat} {mem : zMem} {Q : zQ} (i : Int) (hL : L ≤ 4096) (h0 : 0 ≤ i) (h1 : i + 8 ≤ (L : Int)) (hI : zInv mem) (ih1789 : ∀ mm : zMem, zInv mm → (0 : Int) < 1 → zw_Wp l mm_L_law (zS L) 1789 [some (zR 1001), some (zR 0), some (zR 67), some (zI i)] [] mm 0 0 Q) : zw_Wp l mm_L_law (zS L) 448 [some (zR 1001), some (zR 0), some (zR 67), some (zI i)] [] mem 0 0 Q := by
  refine wp_aload_n dd_L_law_448 rfl ?_
  refine wp_aload_n dd_L_law_449 rfl ?_
  refine wp_iload_n dd_L_law_450 rfl ?_
  refine wp_iconst dd_L_law_451 (zr_lit rfl) ?_
  refine wp_iaddC dd_L_law_452 (by omega) ?_
  refine wp_ialdR dd_L_law_453 kk_1001 (by decide) (by omega) (by omega) ?_
  refine wp_aload_n dd_L_law_454 rfl ?_
  refine wp_iload_n dd_L_law_455 rfl ?_
  refine wp_iconst dd_L_law_456 (zr_lit rfl) ?_
  refine wp_iaddC dd_L_law_457 (by omega) ?_
  refine wp_ialdR dd_L_law_458 kk_1001 (by decide) (by omega) (by omega) ?_
  refine wp_aload_n dd_L_law_459 rfl ?_
  refine wp_iload_n dd_L_law_460 rfl ?_
  refine wp_iconst dd_L_law_461 (zr_lit rfl) ?_
  refine wp_iaddC dd_L_law_462 (by omega) ?_
  refine wp_ialdR dd_L_law_463 kk_1001 (by decide) (by omega) (by omega) ?_
  refine wp_callV (M' := mm_X10_term) (As := [zI (mem 1001 (i + 1)), zI (mem 1001 (i + 2)), zI (mem 1001 (i + 3))]) (rest := []) dd_L_law_464 lk_L_50 mV_X10_term kk_0 (zlt rfl) ⟨_, _, rfl⟩ rfl (by decide) (by decide) (Nat.le_of_ble_eq_true rfl) rfl (sp_X10_term  (mem 1001 (i + 1)) (mem 1001 (i + 2)) (mem 1001 (i + 3)) hI (fun r m1 hf => ?_))
  show zw_Wp l mm_L_law (zS L) 467 [some (zR 1001), some (zR 0), some (zR 67), some (zI i)] [zI r] m1 0 0 Q
  have hs : m1 1001 = mem 1001 := hf.sc
  refine wp_aload_n dd_L_law_467 rfl ?_
  refine wp_aload_n dd_L_law_468 rfl ?_
  refine wp_iload_n dd_L_law_469 rfl ?_
  refine wp_iconst dd_L_law_470 (zr_lit rfl) ?_
  refine wp_iaddC dd_L_law_471 (by omega) ?_
  refine wp_ialdR dd_L_law_472 kk_1001 (by decide) (by omega) (by omega) ?_
  refine wp_aload_n dd_L_law_473 rfl ?_
  refine wp_iload_n dd_L_law_474 rfl ?_
  refine wp_iconst dd_L_law_475 (zr_lit rfl) ?_
  refine wp_iaddC dd_L_law_476 (by omega) ?_
  refine wp_ialdR dd_L_law_477 kk_1001 (by decide) (by omega) (by omega) ?_
  refine wp_aload_n dd_L_law_478 rfl ?_
  refine wp_iload_n dd_L_law_479 rfl ?_
  refine wp_iconst dd_L_law_480 (zr_lit rfl) ?_
  refine wp_iaddC dd_L_law_481 (by omega) ?_
  refine wp_ialdR dd_L_law_482 kk_1001 (by decide) (by omega) (by omega) ?_
  rw [show (m1 1001 (i + 1) : Int) = mem 1001 (i + 1) from by rw [hs]]
  rw [show (m1 1001 (i + 2) : Int) = mem 1001 (i + 2) from by rw [hs]]
  rw [show (m1 1001 (i + 3) : Int) = mem 1001 (i + 3) from by rw [hs]]
  refine wp_callV (M' := mm_X11_term) (As := [zI (mem 1001 (i + 1)), zI (mem 1001 (i + 2)), zI (mem 1001 (i + 3))]) (rest := [zI r]) dd_L_law_483 lk_L_53 mV_X11_term kk_67 (zlt rfl) ⟨_, _, rfl⟩ rfl (by decide) (by decide) (Nat.le_of_ble_eq_true rfl) rfl (rf_term  (mem 1001 (i + 1)) (mem 1001 (i + 2)) (mem 1001 (i + 3)) r hI hf (fun m2 hI2 => ?_))
  show zw_Wp l mm_L_law (zS L) 486 [some (zR 1001), some (zR 0), some (zR 67), some (zI i)] [zI r, zI r] m2 0 0 Q
  refine wp_icmp_eq (tgt := 1789) dd_L_law_486 (by decide) (fun c486_1 => ?_) (fun c486_1 => ?_)
  · skip
    refine ih1789 m2 ?_ ?_
    · assumption
    · omega
  · skip
    exfalso; omega

set_option maxRecDepth 100000 in
set_option maxHeartbeats 4000000 in
theorem lc_value {l : Launch} {L : Nat} {mem : zMem} {Q : zQ} (i : Int) (hL : L ≤ 4096) (h0 : 0 ≤ i) (h1 : i + 8 ≤ (L : Int)) (hI : zInv mem) (ih1789 : ∀ mm : zMem, zInv mm → (0 : Int) < 1 → zw_Wp l mm_L_law (zS L) 1789 [some (zR 1001), some (zR 0), some (zR 67), some (zI i)] [] mm 0 0 Q) : zw_Wp l mm_L_law (zS L) 491 [some (zR 1001), some (zR 0), some (zR 67), some (zI i)] [] mem 0 0 Q := by
  refine wp_aload_n dd_L_law_491 rfl ?_
  refine wp_aload_n dd_L_law_492 rfl ?_
  refine wp_iload_n dd_L_law_493 rfl ?_
  refine wp_iconst dd_L_law_494 (zr_lit rfl) ?_
  refine wp_iaddC dd_L_law_495 (by omega) ?_
  refine wp_ialdR dd_L_law_496 kk_1001 (by decide) (by omega) (by omega) ?_
  refine wp_aload_n dd_L_law_497 rfl ?_
  refine wp_iload_n dd_L_law_498 rfl ?_
  refine wp_iconst dd_L_law_499 (zr_lit rfl) ?_
  refine wp_iaddC dd_L_law_500 (by omega) ?_
  refine wp_ialdR dd_L_law_501 kk_1001 (by decide) (by omega) (by omega) ?_
  refine wp_aload_n dd_L_law_502 rfl ?_
  refine wp_iload_n dd_L_law_503 rfl ?_
  refine wp_iconst dd_L_law_504 (zr_lit rfl) ?_
  refine wp_iaddC dd_L_law_505 (by omega) ?_
  refine wp_ialdR dd_L_law_506 kk_1001 (by decide) (by omega) (by omega) ?_
  refine wp_callV (M' := mm_X10_value) (As := [zI (mem 1001 (i + 1)), zI (mem 1001 (i + 2)), zI (mem 1001 (i + 3))]) (rest := []) dd_L_law_507 lk_L_54 mV_X10_value kk_0 (zlt rfl) ⟨_, _, rfl⟩ rfl (by decide) (by decide) (Nat.le_of_ble_eq_true rfl) rfl (sp_X10_value  (mem 1001 (i + 1)) (mem 1001 (i + 2)) (mem 1001 (i + 3)) hI (fun r m1 hf => ?_))
  show zw_Wp l mm_L_law (zS L) 510 [some (zR 1001), some (zR 0), some (zR 67), some (zI i)] [zI r] m1 0 0 Q
  have hs : m1 1001 = mem 1001 := hf.sc
  refine wp_aload_n dd_L_law_510 rfl ?_
  refine wp_aload_n dd_L_law_511 rfl ?_
  refine wp_iload_n dd_L_law_512 rfl ?_
  refine wp_iconst dd_L_law_513 (zr_lit rfl) ?_
  refine wp_iaddC dd_L_law_514 (by omega) ?_
  refine wp_ialdR dd_L_law_515 kk_1001 (by decide) (by omega) (by omega) ?_
  refine wp_aload_n dd_L_law_516 rfl ?_
  refine wp_iload_n dd_L_law_517 rfl ?_
  refine wp_iconst dd_L_law_518 (zr_lit rfl) ?_
  refine wp_iaddC dd_L_law_519 (by omega) ?_
  refine wp_ialdR dd_L_law_520 kk_1001 (by decide) (by omega) (by omega) ?_
  refine wp_aload_n dd_L_law_521 rfl ?_
  refine wp_iload_n dd_L_law_522 rfl ?_
  refine wp_iconst dd_L_law_523 (zr_lit rfl) ?_
  refine wp_iaddC dd_L_law_524 (by omega) ?_
  refine wp_ialdR dd_L_law_525 kk_1001 (by decide) (by omega) (by omega) ?_
  rw [show (m1 1001 (i + 1) : Int) = mem 1001 (i + 1) from by rw [hs]]
  rw [show (m1 1001 (i + 2) : Int) = mem 1001 (i + 2) from by rw [hs]]
  rw [show (m1 1001 (i + 3) : Int) = mem 1001 (i + 3) from by rw [hs]]
  refine wp_callV (M' := mm_X11_value) (As := [zI (mem 1001 (i + 1)), zI (mem 1001 (i + 2)), zI (mem 1001 (i + 3))]) (rest := [zI r]) dd_L_law_526 lk_L_57 mV_X11_value kk_67 (zlt rfl) ⟨_, _, rfl⟩ rfl (by decide) (by decide) (Nat.le_of_ble_eq_true rfl) rfl (rf_value  (mem 1001 (i + 1)) (mem 1001 (i + 2)) (mem 1001 (i + 3)) r hI hf (fun m2 hI2 => ?_))
  show zw_Wp l mm_L_law (zS L) 529 [some (zR 1001), some (zR 0), some (zR 67), some (zI i)] [zI r, zI r] m2 0 0 Q
  refine wp_icmp_eq (tgt := 1789) dd_L_law_529 (by decide) (fun c529_1 => ?_) (fun c529_1 => ?_)
  · skip
    refine ih1789 m2 ?_ ?_
    · assumption
    · omega
  · skip
    exfalso; omega

set_option maxRecDepth 100000 in
set_option maxHeartbeats 4000000 in
theorem lc_rows {l : Launch} {L : Nat} {mem : zMem} {Q : zQ} (i : Int) (hL : L ≤ 4096) (h0 : 0 ≤ i) (h1 : i + 8 ≤ (L : Int)) (hI : zInv mem) (ih1789 : ∀ mm : zMem, zInv mm → (0 : Int) < 1 → zw_Wp l mm_L_law (zS L) 1789 [some (zR 1001), some (zR 0), some (zR 67), some (zI i)] [] mm 0 0 Q) : zw_Wp l mm_L_law (zS L) 534 [some (zR 1001), some (zR 0), some (zR 67), some (zI i)] [] mem 0 0 Q := by
  refine wp_aload_n dd_L_law_534 rfl ?_
  refine wp_aload_n dd_L_law_535 rfl ?_
  refine wp_iload_n dd_L_law_536 rfl ?_
  refine wp_iconst dd_L_law_537 (zr_lit rfl) ?_
  refine wp_iaddC dd_L_law_538 (by omega) ?_
  refine wp_ialdR dd_L_law_539 kk_1001 (by decide) (by omega) (by omega) ?_
  refine wp_aload_n dd_L_law_540 rfl ?_
  refine wp_iload_n dd_L_law_541 rfl ?_
  refine wp_iconst dd_L_law_542 (zr_lit rfl) ?_
  refine wp_iaddC dd_L_law_543 (by omega) ?_
  refine wp_ialdR dd_L_law_544 kk_1001 (by decide) (by omega) (by omega) ?_
  refine wp_aload_n dd_L_law_545 rfl ?_
  refine wp_iload_n dd_L_law_546 rfl ?_
  refine wp_iconst dd_L_law_547 (zr_lit rfl) ?_
  refine wp_iaddC dd_L_law_548 (by omega) ?_
  refine wp_ialdR dd_L_law_549 kk_1001 (by decide) (by omega) (by omega) ?_
  refine wp_aload_n dd_L_law_550 rfl ?_
  refine wp_iload_n dd_L_law_551 rfl ?_
  refine wp_iconst dd_L_law_552 (zr_lit rfl) ?_
  refine wp_iaddC dd_L_law_553 (by omega) ?_
  refine wp_ialdR dd_L_law_554 kk_1001 (by decide) (by omega) (by omega) ?_
  refine wp_callV (M' := mm_X10_rows) (As := [zI (mem 1001 (i + 1)), zI (mem 1001 (i + 2)), zI (mem 1001 (i + 3)), zI (mem 1001 (i + 4))]) (rest := []) dd_L_law_555 lk_L_58 mV_X10_rows kk_0 (zlt rfl) ⟨_, _, rfl⟩ rfl (by decide) (by decide) (Nat.le_of_ble_eq_true rfl) rfl (sp_X10_rows  (mem 1001 (i + 1)) (mem 1001 (i + 2)) (mem 1001 (i + 3)) (mem 1001 (i + 4)) hI (fun r m1 hf => ?_))
  show zw_Wp l mm_L_law (zS L) 558 [some (zR 1001), some (zR 0), some (zR 67), some (zI i)] [zI r] m1 0 0 Q
  have hs : m1 1001 = mem 1001 := hf.sc
  refine wp_aload_n dd_L_law_558 rfl ?_
  refine wp_aload_n dd_L_law_559 rfl ?_
  refine wp_iload_n dd_L_law_560 rfl ?_
  refine wp_iconst dd_L_law_561 (zr_lit rfl) ?_
  refine wp_iaddC dd_L_law_562 (by omega) ?_
  refine wp_ialdR dd_L_law_563 kk_1001 (by decide) (by omega) (by omega) ?_
  refine wp_aload_n dd_L_law_564 rfl ?_
  refine wp_iload_n dd_L_law_565 rfl ?_
  refine wp_iconst dd_L_law_566 (zr_lit rfl) ?_
  refine wp_iaddC dd_L_law_567 (by omega) ?_
  refine wp_ialdR dd_L_law_568 kk_1001 (by decide) (by omega) (by omega) ?_
  refine wp_aload_n dd_L_law_569 rfl ?_
  refine wp_iload_n dd_L_law_570 rfl ?_
  refine wp_iconst dd_L_law_571 (zr_lit rfl) ?_
  refine wp_iaddC dd_L_law_572 (by omega) ?_
  refine wp_ialdR dd_L_law_573 kk_1001 (by decide) (by omega) (by omega) ?_
  refine wp_aload_n dd_L_law_574 rfl ?_
  refine wp_iload_n dd_L_law_575 rfl ?_
  refine wp_iconst dd_L_law_576 (zr_lit rfl) ?_
  refine wp_iaddC dd_L_law_577 (by omega) ?_
  refine wp_ialdR dd_L_law_578 kk_1001 (by decide) (by omega) (by omega) ?_
  rw [show (m1 1001 (i + 1) : Int) = mem 1001 (i + 1) from by rw [hs]]
  rw [show (m1 1001 (i + 2) : Int) = mem 1001 (i + 2) from by rw [hs]]
  rw [show (m1 1001 (i + 3) : Int) = mem 1001 (i + 3) from by rw [hs]]
  rw [show (m1 1001 (i + 4) : Int) = mem 1001 (i + 4) from by rw [hs]]
  refine wp_callV (M' := mm_X11_rows) (As := [zI (mem 1001 (i + 1)), zI (mem 1001 (i + 2)), zI (mem 1001 (i + 3)), zI (mem 1001 (i + 4))]) (rest := [zI r]) dd_L_law_579 lk_L_61 mV_X11_rows kk_67 (zlt rfl) ⟨_, _, rfl⟩ rfl (by decide) (by decide) (Nat.le_of_ble_eq_true rfl) rfl (rf_rows  (mem 1001 (i + 1)) (mem 1001 (i + 2)) (mem 1001 (i + 3)) (mem 1001 (i + 4)) r hI hf (fun m2 hI2 => ?_))
  show zw_Wp l mm_L_law (zS L) 582 [some (zR 1001), some (zR 0), some (zR 67), some (zI i)] [zI r, zI r] m2 0 0 Q
  refine wp_icmp_eq (tgt := 1789) dd_L_law_582 (by decide) (fun c582_1 => ?_) (fun c582_1 => ?_)
  · skip
    refine ih1789 m2 ?_ ?_
    · assumption
    · omega
  · skip
    exfalso; omega

set_option maxRecDepth 100000 in
set_option maxHeartbeats 4000000 in
theorem lc_entry {l : Launch} {L : Nat} {mem : zMem} {Q : zQ} (i : Int) (hL : L ≤ 4096) (h0 : 0 ≤ i) (h1 : i + 8 ≤ (L : Int)) (hI : zInv mem) (ih1789 : ∀ mm : zMem, zInv mm → (0 : Int) < 1 → zw_Wp l mm_L_law (zS L) 1789 [some (zR 1001), some (zR 0), some (zR 67), some (zI i)] [] mm 0 0 Q) : zw_Wp l mm_L_law (zS L) 587 [some (zR 1001), some (zR 0), some (zR 67), some (zI i)] [] mem 0 0 Q := by
  refine wp_aload_n dd_L_law_587 rfl ?_
  refine wp_aload_n dd_L_law_588 rfl ?_
  refine wp_iload_n dd_L_law_589 rfl ?_
  refine wp_iconst dd_L_law_590 (zr_lit rfl) ?_
  refine wp_iaddC dd_L_law_591 (by omega) ?_
  refine wp_ialdR dd_L_law_592 kk_1001 (by decide) (by omega) (by omega) ?_
  refine wp_aload_n dd_L_law_593 rfl ?_
  refine wp_iload_n dd_L_law_594 rfl ?_
  refine wp_iconst dd_L_law_595 (zr_lit rfl) ?_
  refine wp_iaddC dd_L_law_596 (by omega) ?_
  refine wp_ialdR dd_L_law_597 kk_1001 (by decide) (by omega) (by omega) ?_
  refine wp_aload_n dd_L_law_598 rfl ?_
  refine wp_iload_n dd_L_law_599 rfl ?_
  refine wp_iconst dd_L_law_600 (zr_lit rfl) ?_
  refine wp_iaddC dd_L_law_601 (by omega) ?_
  refine wp_ialdR dd_L_law_602 kk_1001 (by decide) (by omega) (by omega) ?_
  refine wp_aload_n dd_L_law_603 rfl ?_
  refine wp_iload_n dd_L_law_604 rfl ?_
  refine wp_iconst dd_L_law_605 (zr_lit rfl) ?_
  refine wp_iaddC dd_L_law_606 (by omega) ?_
  refine wp_ialdR dd_L_law_607 kk_1001 (by decide) (by omega) (by omega) ?_
  refine wp_aload_n dd_L_law_608 rfl ?_
  refine wp_iload_n dd_L_law_609 rfl ?_
  refine wp_iconst dd_L_law_610 (zr_lit rfl) ?_
  refine wp_iaddC dd_L_law_611 (by omega) ?_
  refine wp_ialdR dd_L_law_612 kk_1001 (by decide) (by omega) (by omega) ?_
  refine wp_aload_n dd_L_law_613 rfl ?_
  refine wp_iload_n dd_L_law_614 rfl ?_
  refine wp_bipush dd_L_law_615 (by decide) ?_
  refine wp_iaddC dd_L_law_617 (by omega) ?_
  refine wp_ialdR dd_L_law_618 kk_1001 (by decide) (by omega) (by omega) ?_
  refine wp_aload_n dd_L_law_619 rfl ?_
  refine wp_iload_n dd_L_law_620 rfl ?_
  refine wp_bipush dd_L_law_621 (by decide) ?_
  refine wp_iaddC dd_L_law_623 (by omega) ?_
  refine wp_ialdR dd_L_law_624 kk_1001 (by decide) (by omega) (by omega) ?_
  refine wp_callV (M' := mm_X10_entry) (As := [zI (mem 1001 (i + 1)), zI (mem 1001 (i + 2)), zI (mem 1001 (i + 3)), zI (mem 1001 (i + 4)), zI (mem 1001 (i + 5)), zI (mem 1001 (i + 6)), zI (mem 1001 (i + 7))]) (rest := []) dd_L_law_625 lk_L_62 mV_X10_entry kk_0 (zlt rfl) ⟨_, _, rfl⟩ rfl (by decide) (by decide) (Nat.le_of_ble_eq_true rfl) rfl (sp_X10_entry  (mem 1001 (i + 1)) (mem 1001 (i + 2)) (mem 1001 (i + 3)) (mem 1001 (i + 4)) (mem 1001 (i + 5)) (mem 1001 (i + 6)) (mem 1001 (i + 7)) hI (fun r m1 hf => ?_))
  show zw_Wp l mm_L_law (zS L) 628 [some (zR 1001), some (zR 0), some (zR 67), some (zI i)] [zI r] m1 0 0 Q
  have hs : m1 1001 = mem 1001 := hf.sc
  refine wp_aload_n dd_L_law_628 rfl ?_
  refine wp_aload_n dd_L_law_629 rfl ?_
  refine wp_iload_n dd_L_law_630 rfl ?_
  refine wp_iconst dd_L_law_631 (zr_lit rfl) ?_
  refine wp_iaddC dd_L_law_632 (by omega) ?_
  refine wp_ialdR dd_L_law_633 kk_1001 (by decide) (by omega) (by omega) ?_
  refine wp_aload_n dd_L_law_634 rfl ?_
  refine wp_iload_n dd_L_law_635 rfl ?_
  refine wp_iconst dd_L_law_636 (zr_lit rfl) ?_
  refine wp_iaddC dd_L_law_637 (by omega) ?_
  refine wp_ialdR dd_L_law_638 kk_1001 (by decide) (by omega) (by omega) ?_
  refine wp_aload_n dd_L_law_639 rfl ?_
  refine wp_iload_n dd_L_law_640 rfl ?_
  refine wp_iconst dd_L_law_641 (zr_lit rfl) ?_
  refine wp_iaddC dd_L_law_642 (by omega) ?_
  refine wp_ialdR dd_L_law_643 kk_1001 (by decide) (by omega) (by omega) ?_
  refine wp_aload_n dd_L_law_644 rfl ?_
  refine wp_iload_n dd_L_law_645 rfl ?_
  refine wp_iconst dd_L_law_646 (zr_lit rfl) ?_
  refine wp_iaddC dd_L_law_647 (by omega) ?_
  refine wp_ialdR dd_L_law_648 kk_1001 (by decide) (by omega) (by omega) ?_
  refine wp_aload_n dd_L_law_649 rfl ?_
  refine wp_iload_n dd_L_law_650 rfl ?_
  refine wp_iconst dd_L_law_651 (zr_lit rfl) ?_
  refine wp_iaddC dd_L_law_652 (by omega) ?_
  refine wp_ialdR dd_L_law_653 kk_1001 (by decide) (by omega) (by omega) ?_
  refine wp_aload_n dd_L_law_654 rfl ?_
  refine wp_iload_n dd_L_law_655 rfl ?_
  refine wp_bipush dd_L_law_656 (by decide) ?_
  refine wp_iaddC dd_L_law_658 (by omega) ?_
  refine wp_ialdR dd_L_law_659 kk_1001 (by decide) (by omega) (by omega) ?_
  refine wp_aload_n dd_L_law_660 rfl ?_
  refine wp_iload_n dd_L_law_661 rfl ?_
  refine wp_bipush dd_L_law_662 (by decide) ?_
  refine wp_iaddC dd_L_law_664 (by omega) ?_
  refine wp_ialdR dd_L_law_665 kk_1001 (by decide) (by omega) (by omega) ?_
  rw [show (m1 1001 (i + 1) : Int) = mem 1001 (i + 1) from by rw [hs]]
  rw [show (m1 1001 (i + 2) : Int) = mem 1001 (i + 2) from by rw [hs]]
  rw [show (m1 1001 (i + 3) : Int) = mem 1001 (i + 3) from by rw [hs]]
  rw [show (m1 1001 (i + 4) : Int) = mem 1001 (i + 4) from by rw [hs]]
  rw [show (m1 1001 (i + 5) : Int) = mem 1001 (i + 5) from by rw [hs]]
  rw [show (m1 1001 (i + 6) : Int) = mem 1001 (i + 6) from by rw [hs]]
  rw [show (m1 1001 (i + 7) : Int) = mem 1001 (i + 7) from by rw [hs]]
  refine wp_callV (M' := mm_X11_entry) (As := [zI (mem 1001 (i + 1)), zI (mem 1001 (i + 2)), zI (mem 1001 (i + 3)), zI (mem 1001 (i + 4)), zI (mem 1001 (i + 5)), zI (mem 1001 (i + 6)), zI (mem 1001 (i + 7))]) (rest := [zI r]) dd_L_law_666 lk_L_66 mV_X11_entry kk_67 (zlt rfl) ⟨_, _, rfl⟩ rfl (by decide) (by decide) (Nat.le_of_ble_eq_true rfl) rfl (rf_entry  (mem 1001 (i + 1)) (mem 1001 (i + 2)) (mem 1001 (i + 3)) (mem 1001 (i + 4)) (mem 1001 (i + 5)) (mem 1001 (i + 6)) (mem 1001 (i + 7)) r hI hf (fun m2 hI2 => ?_))
  show zw_Wp l mm_L_law (zS L) 669 [some (zR 1001), some (zR 0), some (zR 67), some (zI i)] [zI r, zI r] m2 0 0 Q
  refine wp_icmp_eq (tgt := 1789) dd_L_law_669 (by decide) (fun c669_1 => ?_) (fun c669_1 => ?_)
  · skip
    refine ih1789 m2 ?_ ?_
    · assumption
    · omega
  · skip
    exfalso; omega

set_option maxRecDepth 100000 in
set_option maxHeartbeats 4000000 in
theorem lc_result {l : Launch} {L : Nat} {mem : zMem} {Q : zQ} (i : Int) (hL : L ≤ 4096) (h0 : 0 ≤ i) (h1 : i + 8 ≤ (L : Int)) (hI : zInv mem) (ih1789 : ∀ mm : zMem, zInv mm → (0 : Int) < 1 → zw_Wp l mm_L_law (zS L) 1789 [some (zR 1001), some (zR 0), some (zR 67), some (zI i)] [] mm 0 0 Q) : zw_Wp l mm_L_law (zS L) 674 [some (zR 1001), some (zR 0), some (zR 67), some (zI i)] [] mem 0 0 Q := by
  refine wp_aload_n dd_L_law_674 rfl ?_
  refine wp_aload_n dd_L_law_675 rfl ?_
  refine wp_iload_n dd_L_law_676 rfl ?_
  refine wp_iconst dd_L_law_677 (zr_lit rfl) ?_
  refine wp_iaddC dd_L_law_678 (by omega) ?_
  refine wp_ialdR dd_L_law_679 kk_1001 (by decide) (by omega) (by omega) ?_
  refine wp_aload_n dd_L_law_680 rfl ?_
  refine wp_iload_n dd_L_law_681 rfl ?_
  refine wp_iconst dd_L_law_682 (zr_lit rfl) ?_
  refine wp_iaddC dd_L_law_683 (by omega) ?_
  refine wp_ialdR dd_L_law_684 kk_1001 (by decide) (by omega) (by omega) ?_
  refine wp_aload_n dd_L_law_685 rfl ?_
  refine wp_iload_n dd_L_law_686 rfl ?_
  refine wp_iconst dd_L_law_687 (zr_lit rfl) ?_
  refine wp_iaddC dd_L_law_688 (by omega) ?_
  refine wp_ialdR dd_L_law_689 kk_1001 (by decide) (by omega) (by omega) ?_
  refine wp_aload_n dd_L_law_690 rfl ?_
  refine wp_iload_n dd_L_law_691 rfl ?_
  refine wp_iconst dd_L_law_692 (zr_lit rfl) ?_
  refine wp_iaddC dd_L_law_693 (by omega) ?_
  refine wp_ialdR dd_L_law_694 kk_1001 (by decide) (by omega) (by omega) ?_
  refine wp_aload_n dd_L_law_695 rfl ?_
  refine wp_iload_n dd_L_law_696 rfl ?_
  refine wp_iconst dd_L_law_697 (zr_lit rfl) ?_
  refine wp_iaddC dd_L_law_698 (by omega) ?_
  refine wp_ialdR dd_L_law_699 kk_1001 (by decide) (by omega) (by omega) ?_
  refine wp_callV (M' := mm_X10_result) (As := [zI (mem 1001 (i + 1)), zI (mem 1001 (i + 2)), zI (mem 1001 (i + 3)), zI (mem 1001 (i + 4)), zI (mem 1001 (i + 5))]) (rest := []) dd_L_law_700 lk_L_67 mV_X10_result kk_0 (zlt rfl) ⟨_, _, rfl⟩ rfl (by decide) (by decide) (Nat.le_of_ble_eq_true rfl) rfl (sp_X10_result  (mem 1001 (i + 1)) (mem 1001 (i + 2)) (mem 1001 (i + 3)) (mem 1001 (i + 4)) (mem 1001 (i + 5)) hI (fun r m1 hf => ?_))
  show zw_Wp l mm_L_law (zS L) 703 [some (zR 1001), some (zR 0), some (zR 67), some (zI i)] [zI r] m1 0 0 Q
  have hs : m1 1001 = mem 1001 := hf.sc
  refine wp_aload_n dd_L_law_703 rfl ?_
  refine wp_aload_n dd_L_law_704 rfl ?_
  refine wp_iload_n dd_L_law_705 rfl ?_
  refine wp_iconst dd_L_law_706 (zr_lit rfl) ?_
  refine wp_iaddC dd_L_law_707 (by omega) ?_
  refine wp_ialdR dd_L_law_708 kk_1001 (by decide) (by omega) (by omega) ?_
  refine wp_aload_n dd_L_law_709 rfl ?_
  refine wp_iload_n dd_L_law_710 rfl ?_
  refine wp_iconst dd_L_law_711 (zr_lit rfl) ?_
  refine wp_iaddC dd_L_law_712 (by omega) ?_
  refine wp_ialdR dd_L_law_713 kk_1001 (by decide) (by omega) (by omega) ?_
  refine wp_aload_n dd_L_law_714 rfl ?_
  refine wp_iload_n dd_L_law_715 rfl ?_
  refine wp_iconst dd_L_law_716 (zr_lit rfl) ?_
  refine wp_iaddC dd_L_law_717 (by omega) ?_
  refine wp_ialdR dd_L_law_718 kk_1001 (by decide) (by omega) (by omega) ?_
  refine wp_aload_n dd_L_law_719 rfl ?_
  refine wp_iload_n dd_L_law_720 rfl ?_
  refine wp_iconst dd_L_law_721 (zr_lit rfl) ?_
  refine wp_iaddC dd_L_law_722 (by omega) ?_
  refine wp_ialdR dd_L_law_723 kk_1001 (by decide) (by omega) (by omega) ?_
  refine wp_aload_n dd_L_law_724 rfl ?_
  refine wp_iload_n dd_L_law_725 rfl ?_
  refine wp_iconst dd_L_law_726 (zr_lit rfl) ?_
  refine wp_iaddC dd_L_law_727 (by omega) ?_
  refine wp_ialdR dd_L_law_728 kk_1001 (by decide) (by omega) (by omega) ?_
  rw [show (m1 1001 (i + 1) : Int) = mem 1001 (i + 1) from by rw [hs]]
  rw [show (m1 1001 (i + 2) : Int) = mem 1001 (i + 2) from by rw [hs]]
  rw [show (m1 1001 (i + 3) : Int) = mem 1001 (i + 3) from by rw [hs]]
  rw [show (m1 1001 (i + 4) : Int) = mem 1001 (i + 4) from by rw [hs]]
  rw [show (m1 1001 (i + 5) : Int) = mem 1001 (i + 5) from by rw [hs]]
  refine wp_callV (M' := mm_X11_result) (As := [zI (mem 1001 (i + 1)), zI (mem 1001 (i + 2)), zI (mem 1001 (i + 3)), zI (mem 1001 (i + 4)), zI (mem 1001 (i + 5))]) (rest := [zI r]) dd_L_law_729 lk_L_71 mV_X11_result kk_67 (zlt rfl) ⟨_, _, rfl⟩ rfl (by decide) (by decide) (Nat.le_of_ble_eq_true rfl) rfl (rf_result  (mem 1001 (i + 1)) (mem 1001 (i + 2)) (mem 1001 (i + 3)) (mem 1001 (i + 4)) (mem 1001 (i + 5)) r hI hf (fun m2 hI2 => ?_))
  show zw_Wp l mm_L_law (zS L) 732 [some (zR 1001), some (zR 0), some (zR 67), some (zI i)] [zI r, zI r] m2 0 0 Q
  refine wp_icmp_eq (tgt := 1789) dd_L_law_732 (by decide) (fun c732_1 => ?_) (fun c732_1 => ?_)
  · skip
    refine ih1789 m2 ?_ ?_
    · assumption
    · omega
  · skip
    exfalso; omega


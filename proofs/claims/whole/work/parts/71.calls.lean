/-! the law's cases -/
def wl_S (V : wj_V) (X : wj_X) (b L : Nat) (xs : Nat → Int32) : Prop := match X with
  | (_, _, _, s, _, _, _, _, _, _, _, _) => va_X b L xs s s.heap ∧ b < s.heap.size ∧ ¬ wj_A V s.heap.size b
section WL
variable {l : Launch} {V : wj_V} {X : wj_X} {cc : ByteArray} {nL : Nat} {own : String} {fr lo : Nat} {pc : Nat} {lv : List (Option Value)} {st : List Value} {σ : wj_St}
theorem wl_sld (C : wj_C l V X cc nL own fr lo) {b L : Nat} {xs : Nat → Int32} (h9 : wl_S V X b L xs) {i : Int32} (hin : vp_in i L) (hd : decode cc pc = .ok (.iaload, 1)) (kk : wj_J l V X (pc + 1) lv (.int (xs i.toNatClampNeg) :: st) σ) : wj_J l V X pc lv (.int i :: .ref b :: st) σ := by
  obtain ⟨p, e, R, s, m, args, below, meth, c, cells, slots, Q⟩ := X
  obtain ⟨hx, hb, hn, hown, hE, hZ, hi, hf, hlo, hc, hsl⟩ := C
  obtain ⟨h1, h2, h3⟩ := h9
  intro H locs ls hP hS hl
  exact va_sld hx hb h1 h2 h3 hS hin hd (kk H locs ls hP hS hl)
theorem wl_slen (C : wj_C l V X cc nL own fr lo) {b L : Nat} {xs : Nat → Int32} (h9 : wl_S V X b L xs) (hd : decode cc pc = .ok (.arraylength, 1)) (kk : wj_J l V X (pc + 1) lv (.int (nI L) :: st) σ) : wj_J l V X pc lv (.ref b :: st) σ := by
  obtain ⟨p, e, R, s, m, args, below, meth, c, cells, slots, Q⟩ := X
  obtain ⟨hx, hb, hn, hown, hE, hZ, hi, hf, hlo, hc, hsl⟩ := C
  obtain ⟨h1, h2, h3⟩ := h9
  intro H locs ls hP hS hl
  exact va_slen hx hb h1 h2 h3 hS hd (kk H locs ls hP hS hl)
end WL
theorem wl_in {c L : Nat} (h : 6 * c + 6 ≤ L) (hL : L ≤ 3072) (d : Nat) (hd : d < 6) {x : Int32} (hx : x = nI d) : vp_in (nI (6 * c) + x) L := by
  rw [hx, nI_add]
  exact vp_in_nI (by omega) (by omega)
theorem wl_cmp (x : Int64) : lg_cmp x x = 0 := by simp [lg_cmp]
section WLC
variable {l : Launch} {V : wj_V} {X : wj_X} {b L c : Nat} {xs : Nat → Int32} {σ : wj_St}
set_option maxHeartbeats 4000000 in
theorem wl_hurdles (C : wj_C l V X cL_law 4 RL 13 508) (hS : wl_S V X b L xs) (hc : 6 * c + 6 ≤ L) (hL : L ≤ 3072) (h : ws_A c σ) (K : ∀ u, ws_A (c + 1) u → wj_J l V X 1443 [some (.ref b), some (.ref (V.2.2.1 0)), some (.ref (V.2.2.1 48)), some (.int (nI (6 * c)))] [] u) : wj_J l V X 216 [some (.ref b), some (.ref (V.2.2.1 0)), some (.ref (V.2.2.1 48)), some (.int (nI (6 * c)))] [] σ := by
  obtain ⟨v, P, Q1, hM1, hQ1, hM2⟩ := st_hurdles l V h (by omega) (xs (nI (6 * c) + 1).toNatClampNeg)
  refine wj_aload_n C 1 dL_law_216 rfl rfl ?_
  refine wj_aload_n C 0 dL_law_217 rfl rfl ?_
  refine wj_iload_n C 3 dL_law_218 rfl rfl ?_
  refine wj_iconst C (v := 1) dL_law_219 (by decide +kernel) ?_
  refine wj_iadd C dL_law_220 ?_
  refine wl_sld C hS (wl_in hc hL 1 (by decide) (by decide +kernel)) dL_law_221 ?_
  refine wj_ci C (wj_rV C dL_law_222 km_X4_hurdles kl_L_13 is_X4 rfl rfl hM1 (As := [.int (xs (nI (6 * c) + 1).toNatClampNeg)]) (rest := []) rfl rfl (Nat.le_of_ble_eq_true rfl) ⟨by decide, by decide⟩) (fun r u hq => ?_)
  obtain ⟨rfl, hu⟩ := hQ1 r u hq
  obtain ⟨Q2, hM3, hQ2⟩ := hM2 u hu
  refine wj_aload_n C 2 dL_law_225 rfl rfl ?_
  refine wj_aload_n C 0 dL_law_226 rfl rfl ?_
  refine wj_iload_n C 3 dL_law_227 rfl rfl ?_
  refine wj_iconst C (v := 1) dL_law_228 (by decide +kernel) ?_
  refine wj_iadd C dL_law_229 ?_
  refine wl_sld C hS (wl_in hc hL 1 (by decide) (by decide +kernel)) dL_law_230 ?_
  refine wj_ci C (wj_rV C dL_law_231 km_X5_hurdles kl_L_17 is_X5 rfl rfl hM3 (As := [.int (xs (nI (6 * c) + 1).toNatClampNeg)]) (rest := [.int r]) rfl rfl (Nat.le_of_ble_eq_true rfl) ⟨by decide, by decide⟩) (fun r2 u2 hq2 => ?_)
  obtain ⟨rfl, hA⟩ := hQ2 r2 u2 hq2
  exact wj_icmp_eq C 1443 dL_law_234 (by decide) (fun _ => K u2 hA) (fun h => absurd rfl h)
set_option maxHeartbeats 4000000 in
theorem wl_place (C : wj_C l V X cL_law 4 RL 13 508) (hS : wl_S V X b L xs) (hc : 6 * c + 6 ≤ L) (hL : L ≤ 3072) (h : ws_A c σ) (K : ∀ u, ws_A (c + 1) u → wj_J l V X 1443 [some (.ref b), some (.ref (V.2.2.1 0)), some (.ref (V.2.2.1 48)), some (.int (nI (6 * c)))] [] u) : wj_J l V X 239 [some (.ref b), some (.ref (V.2.2.1 0)), some (.ref (V.2.2.1 48)), some (.int (nI (6 * c)))] [] σ := by
  obtain ⟨v, P, Q1, hM1, hQ1, hM2⟩ := st_place l V h (by omega) (xs (nI (6 * c) + 1).toNatClampNeg) (xs (nI (6 * c) + 2).toNatClampNeg)
  refine wj_aload_n C 1 dL_law_239 rfl rfl ?_
  refine wj_aload_n C 0 dL_law_240 rfl rfl ?_
  refine wj_iload_n C 3 dL_law_241 rfl rfl ?_
  refine wj_iconst C (v := 1) dL_law_242 (by decide +kernel) ?_
  refine wj_iadd C dL_law_243 ?_
  refine wl_sld C hS (wl_in hc hL 1 (by decide) (by decide +kernel)) dL_law_244 ?_
  refine wj_aload_n C 0 dL_law_245 rfl rfl ?_
  refine wj_iload_n C 3 dL_law_246 rfl rfl ?_
  refine wj_iconst C (v := 2) dL_law_247 (by decide +kernel) ?_
  refine wj_iadd C dL_law_248 ?_
  refine wl_sld C hS (wl_in hc hL 2 (by decide) (by decide +kernel)) dL_law_249 ?_
  refine wj_ci C (wj_rV C dL_law_250 km_X4_place kl_L_18 is_X4 rfl rfl hM1 (As := [.int (xs (nI (6 * c) + 1).toNatClampNeg), .int (xs (nI (6 * c) + 2).toNatClampNeg)]) (rest := []) rfl rfl (Nat.le_of_ble_eq_true rfl) ⟨by decide, by decide⟩) (fun r u hq => ?_)
  obtain ⟨rfl, hu⟩ := hQ1 r u hq
  obtain ⟨Q2, hM3, hQ2⟩ := hM2 u hu
  refine wj_aload_n C 2 dL_law_253 rfl rfl ?_
  refine wj_aload_n C 0 dL_law_254 rfl rfl ?_
  refine wj_iload_n C 3 dL_law_255 rfl rfl ?_
  refine wj_iconst C (v := 1) dL_law_256 (by decide +kernel) ?_
  refine wj_iadd C dL_law_257 ?_
  refine wl_sld C hS (wl_in hc hL 1 (by decide) (by decide +kernel)) dL_law_258 ?_
  refine wj_aload_n C 0 dL_law_259 rfl rfl ?_
  refine wj_iload_n C 3 dL_law_260 rfl rfl ?_
  refine wj_iconst C (v := 2) dL_law_261 (by decide +kernel) ?_
  refine wj_iadd C dL_law_262 ?_
  refine wl_sld C hS (wl_in hc hL 2 (by decide) (by decide +kernel)) dL_law_263 ?_
  refine wj_ci C (wj_rV C dL_law_264 km_X5_place kl_L_22 is_X5 rfl rfl hM3 (As := [.int (xs (nI (6 * c) + 1).toNatClampNeg), .int (xs (nI (6 * c) + 2).toNatClampNeg)]) (rest := [.int r]) rfl rfl (Nat.le_of_ble_eq_true rfl) ⟨by decide, by decide⟩) (fun r2 u2 hq2 => ?_)
  obtain ⟨rfl, hA⟩ := hQ2 r2 u2 hq2
  exact wj_icmp_eq C 1443 dL_law_267 (by decide) (fun _ => K u2 hA) (fun h => absurd rfl h)
set_option maxHeartbeats 4000000 in
theorem wl_lean (C : wj_C l V X cL_law 4 RL 13 508) (hS : wl_S V X b L xs) (hc : 6 * c + 6 ≤ L) (hL : L ≤ 3072) (h : ws_A c σ) (K : ∀ u, ws_A (c + 1) u → wj_J l V X 1443 [some (.ref b), some (.ref (V.2.2.1 0)), some (.ref (V.2.2.1 48)), some (.int (nI (6 * c)))] [] u) : wj_J l V X 272 [some (.ref b), some (.ref (V.2.2.1 0)), some (.ref (V.2.2.1 48)), some (.int (nI (6 * c)))] [] σ := by
  obtain ⟨v, P, Q1, hM1, hQ1, hM2⟩ := st_lean l V h (by omega) (xs (nI (6 * c) + 1).toNatClampNeg) (xs (nI (6 * c) + 2).toNatClampNeg) (xs (nI (6 * c) + 3).toNatClampNeg)
  refine wj_aload_n C 1 dL_law_272 rfl rfl ?_
  refine wj_aload_n C 0 dL_law_273 rfl rfl ?_
  refine wj_iload_n C 3 dL_law_274 rfl rfl ?_
  refine wj_iconst C (v := 1) dL_law_275 (by decide +kernel) ?_
  refine wj_iadd C dL_law_276 ?_
  refine wl_sld C hS (wl_in hc hL 1 (by decide) (by decide +kernel)) dL_law_277 ?_
  refine wj_aload_n C 0 dL_law_278 rfl rfl ?_
  refine wj_iload_n C 3 dL_law_279 rfl rfl ?_
  refine wj_iconst C (v := 2) dL_law_280 (by decide +kernel) ?_
  refine wj_iadd C dL_law_281 ?_
  refine wl_sld C hS (wl_in hc hL 2 (by decide) (by decide +kernel)) dL_law_282 ?_
  refine wj_aload_n C 0 dL_law_283 rfl rfl ?_
  refine wj_iload_n C 3 dL_law_284 rfl rfl ?_
  refine wj_iconst C (v := 3) dL_law_285 (by decide +kernel) ?_
  refine wj_iadd C dL_law_286 ?_
  refine wl_sld C hS (wl_in hc hL 3 (by decide) (by decide +kernel)) dL_law_287 ?_
  refine wj_ci C (wj_rV C dL_law_288 km_X4_lean kl_L_23 is_X4 rfl rfl hM1 (As := [.int (xs (nI (6 * c) + 1).toNatClampNeg), .int (xs (nI (6 * c) + 2).toNatClampNeg), .int (xs (nI (6 * c) + 3).toNatClampNeg)]) (rest := []) rfl rfl (Nat.le_of_ble_eq_true rfl) ⟨by decide, by decide⟩) (fun r u hq => ?_)
  obtain ⟨rfl, hu⟩ := hQ1 r u hq
  obtain ⟨Q2, hM3, hQ2⟩ := hM2 u hu
  refine wj_aload_n C 2 dL_law_291 rfl rfl ?_
  refine wj_aload_n C 0 dL_law_292 rfl rfl ?_
  refine wj_iload_n C 3 dL_law_293 rfl rfl ?_
  refine wj_iconst C (v := 1) dL_law_294 (by decide +kernel) ?_
  refine wj_iadd C dL_law_295 ?_
  refine wl_sld C hS (wl_in hc hL 1 (by decide) (by decide +kernel)) dL_law_296 ?_
  refine wj_aload_n C 0 dL_law_297 rfl rfl ?_
  refine wj_iload_n C 3 dL_law_298 rfl rfl ?_
  refine wj_iconst C (v := 2) dL_law_299 (by decide +kernel) ?_
  refine wj_iadd C dL_law_300 ?_
  refine wl_sld C hS (wl_in hc hL 2 (by decide) (by decide +kernel)) dL_law_301 ?_
  refine wj_aload_n C 0 dL_law_302 rfl rfl ?_
  refine wj_iload_n C 3 dL_law_303 rfl rfl ?_
  refine wj_iconst C (v := 3) dL_law_304 (by decide +kernel) ?_
  refine wj_iadd C dL_law_305 ?_
  refine wl_sld C hS (wl_in hc hL 3 (by decide) (by decide +kernel)) dL_law_306 ?_
  refine wj_ci C (wj_rV C dL_law_307 km_X5_lean kl_L_27 is_X5 rfl rfl hM3 (As := [.int (xs (nI (6 * c) + 1).toNatClampNeg), .int (xs (nI (6 * c) + 2).toNatClampNeg), .int (xs (nI (6 * c) + 3).toNatClampNeg)]) (rest := [.int r]) rfl rfl (Nat.le_of_ble_eq_true rfl) ⟨by decide, by decide⟩) (fun r2 u2 hq2 => ?_)
  obtain ⟨rfl, hA⟩ := hQ2 r2 u2 hq2
  exact wj_icmp_eq C 1443 dL_law_310 (by decide) (fun _ => K u2 hA) (fun h => absurd rfl h)
set_option maxHeartbeats 4000000 in
theorem wl_leaning (C : wj_C l V X cL_law 4 RL 13 508) (hS : wl_S V X b L xs) (hc : 6 * c + 6 ≤ L) (hL : L ≤ 3072) (h : ws_A c σ) (K : ∀ u, ws_A (c + 1) u → wj_J l V X 1443 [some (.ref b), some (.ref (V.2.2.1 0)), some (.ref (V.2.2.1 48)), some (.int (nI (6 * c)))] [] u) : wj_J l V X 315 [some (.ref b), some (.ref (V.2.2.1 0)), some (.ref (V.2.2.1 48)), some (.int (nI (6 * c)))] [] σ := by
  obtain ⟨v, P, Q1, hM1, hQ1, hM2⟩ := st_leaning l V h (by omega) (xs (nI (6 * c) + 1).toNatClampNeg)
  refine wj_aload_n C 1 dL_law_315 rfl rfl ?_
  refine wj_aload_n C 0 dL_law_316 rfl rfl ?_
  refine wj_iload_n C 3 dL_law_317 rfl rfl ?_
  refine wj_iconst C (v := 1) dL_law_318 (by decide +kernel) ?_
  refine wj_iadd C dL_law_319 ?_
  refine wl_sld C hS (wl_in hc hL 1 (by decide) (by decide +kernel)) dL_law_320 ?_
  refine wj_ci C (wj_rV C dL_law_321 km_X4_leaning kl_L_28 is_X4 rfl rfl hM1 (As := [.int (xs (nI (6 * c) + 1).toNatClampNeg)]) (rest := []) rfl rfl (Nat.le_of_ble_eq_true rfl) ⟨by decide, by decide⟩) (fun r u hq => ?_)
  obtain ⟨rfl, hu⟩ := hQ1 r u hq
  obtain ⟨Q2, hM3, hQ2⟩ := hM2 u hu
  refine wj_aload_n C 2 dL_law_324 rfl rfl ?_
  refine wj_aload_n C 0 dL_law_325 rfl rfl ?_
  refine wj_iload_n C 3 dL_law_326 rfl rfl ?_
  refine wj_iconst C (v := 1) dL_law_327 (by decide +kernel) ?_
  refine wj_iadd C dL_law_328 ?_
  refine wl_sld C hS (wl_in hc hL 1 (by decide) (by decide +kernel)) dL_law_329 ?_
  refine wj_ci C (wj_rV C dL_law_330 km_X5_leaning kl_L_31 is_X5 rfl rfl hM3 (As := [.int (xs (nI (6 * c) + 1).toNatClampNeg)]) (rest := [.int r]) rfl rfl (Nat.le_of_ble_eq_true rfl) ⟨by decide, by decide⟩) (fun r2 u2 hq2 => ?_)
  obtain ⟨rfl, hA⟩ := hQ2 r2 u2 hq2
  exact wj_icmp_eq C 1443 dL_law_333 (by decide) (fun _ => K u2 hA) (fun h => absurd rfl h)
set_option maxHeartbeats 4000000 in
theorem wl_slip (C : wj_C l V X cL_law 4 RL 13 508) (hS : wl_S V X b L xs) (hc : 6 * c + 6 ≤ L) (hL : L ≤ 3072) (h : ws_A c σ) (K : ∀ u, ws_A (c + 1) u → wj_J l V X 1443 [some (.ref b), some (.ref (V.2.2.1 0)), some (.ref (V.2.2.1 48)), some (.int (nI (6 * c)))] [] u) : wj_J l V X 338 [some (.ref b), some (.ref (V.2.2.1 0)), some (.ref (V.2.2.1 48)), some (.int (nI (6 * c)))] [] σ := by
  obtain ⟨v, P, Q1, hM1, hQ1, hM2⟩ := st_slip l V h (by omega) (xs (nI (6 * c) + 1).toNatClampNeg) (xs (nI (6 * c) + 2).toNatClampNeg) (xs (nI (6 * c) + 3).toNatClampNeg)
  refine wj_aload_n C 1 dL_law_338 rfl rfl ?_
  refine wj_aload_n C 0 dL_law_339 rfl rfl ?_
  refine wj_iload_n C 3 dL_law_340 rfl rfl ?_
  refine wj_iconst C (v := 1) dL_law_341 (by decide +kernel) ?_
  refine wj_iadd C dL_law_342 ?_
  refine wl_sld C hS (wl_in hc hL 1 (by decide) (by decide +kernel)) dL_law_343 ?_
  refine wj_aload_n C 0 dL_law_344 rfl rfl ?_
  refine wj_iload_n C 3 dL_law_345 rfl rfl ?_
  refine wj_iconst C (v := 2) dL_law_346 (by decide +kernel) ?_
  refine wj_iadd C dL_law_347 ?_
  refine wl_sld C hS (wl_in hc hL 2 (by decide) (by decide +kernel)) dL_law_348 ?_
  refine wj_aload_n C 0 dL_law_349 rfl rfl ?_
  refine wj_iload_n C 3 dL_law_350 rfl rfl ?_
  refine wj_iconst C (v := 3) dL_law_351 (by decide +kernel) ?_
  refine wj_iadd C dL_law_352 ?_
  refine wl_sld C hS (wl_in hc hL 3 (by decide) (by decide +kernel)) dL_law_353 ?_
  refine wj_ci C (wj_rV C dL_law_354 km_X4_slip kl_L_32 is_X4 rfl rfl hM1 (As := [.int (xs (nI (6 * c) + 1).toNatClampNeg), .int (xs (nI (6 * c) + 2).toNatClampNeg), .int (xs (nI (6 * c) + 3).toNatClampNeg)]) (rest := []) rfl rfl (Nat.le_of_ble_eq_true rfl) ⟨by decide, by decide⟩) (fun r u hq => ?_)
  obtain ⟨rfl, hu⟩ := hQ1 r u hq
  obtain ⟨Q2, hM3, hQ2⟩ := hM2 u hu
  refine wj_aload_n C 2 dL_law_357 rfl rfl ?_
  refine wj_aload_n C 0 dL_law_358 rfl rfl ?_
  refine wj_iload_n C 3 dL_law_359 rfl rfl ?_
  refine wj_iconst C (v := 1) dL_law_360 (by decide +kernel) ?_
  refine wj_iadd C dL_law_361 ?_
  refine wl_sld C hS (wl_in hc hL 1 (by decide) (by decide +kernel)) dL_law_362 ?_
  refine wj_aload_n C 0 dL_law_363 rfl rfl ?_
  refine wj_iload_n C 3 dL_law_364 rfl rfl ?_
  refine wj_iconst C (v := 2) dL_law_365 (by decide +kernel) ?_
  refine wj_iadd C dL_law_366 ?_
  refine wl_sld C hS (wl_in hc hL 2 (by decide) (by decide +kernel)) dL_law_367 ?_
  refine wj_aload_n C 0 dL_law_368 rfl rfl ?_
  refine wj_iload_n C 3 dL_law_369 rfl rfl ?_
  refine wj_iconst C (v := 3) dL_law_370 (by decide +kernel) ?_
  refine wj_iadd C dL_law_371 ?_
  refine wl_sld C hS (wl_in hc hL 3 (by decide) (by decide +kernel)) dL_law_372 ?_
  refine wj_ci C (wj_rV C dL_law_373 km_X5_slip kl_L_35 is_X5 rfl rfl hM3 (As := [.int (xs (nI (6 * c) + 1).toNatClampNeg), .int (xs (nI (6 * c) + 2).toNatClampNeg), .int (xs (nI (6 * c) + 3).toNatClampNeg)]) (rest := [.int r]) rfl rfl (Nat.le_of_ble_eq_true rfl) ⟨by decide, by decide⟩) (fun r2 u2 hq2 => ?_)
  obtain ⟨rfl, hA⟩ := hQ2 r2 u2 hq2
  exact wj_icmp_eq C 1443 dL_law_376 (by decide) (fun _ => K u2 hA) (fun h => absurd rfl h)
set_option maxHeartbeats 4000000 in
theorem wl_of (C : wj_C l V X cL_law 4 RL 13 508) (hS : wl_S V X b L xs) (hc : 6 * c + 6 ≤ L) (hL : L ≤ 3072) (h : ws_A c σ) (K : ∀ u, ws_A (c + 1) u → wj_J l V X 1443 [some (.ref b), some (.ref (V.2.2.1 0)), some (.ref (V.2.2.1 48)), some (.int (nI (6 * c)))] [] u) : wj_J l V X 381 [some (.ref b), some (.ref (V.2.2.1 0)), some (.ref (V.2.2.1 48)), some (.int (nI (6 * c)))] [] σ := by
  obtain ⟨v, P, Q1, hM1, hQ1, hM2⟩ := st_of l V h (by omega) (xs (nI (6 * c) + 1).toNatClampNeg) (xs (nI (6 * c) + 2).toNatClampNeg)
  refine wj_aload_n C 1 dL_law_381 rfl rfl ?_
  refine wj_aload_n C 0 dL_law_382 rfl rfl ?_
  refine wj_iload_n C 3 dL_law_383 rfl rfl ?_
  refine wj_iconst C (v := 1) dL_law_384 (by decide +kernel) ?_
  refine wj_iadd C dL_law_385 ?_
  refine wl_sld C hS (wl_in hc hL 1 (by decide) (by decide +kernel)) dL_law_386 ?_
  refine wj_aload_n C 0 dL_law_387 rfl rfl ?_
  refine wj_iload_n C 3 dL_law_388 rfl rfl ?_
  refine wj_iconst C (v := 2) dL_law_389 (by decide +kernel) ?_
  refine wj_iadd C dL_law_390 ?_
  refine wl_sld C hS (wl_in hc hL 2 (by decide) (by decide +kernel)) dL_law_391 ?_
  refine wj_ci C (wj_rV C dL_law_392 km_X4_of kl_L_36 is_X4 rfl rfl hM1 (As := [.int (xs (nI (6 * c) + 1).toNatClampNeg), .int (xs (nI (6 * c) + 2).toNatClampNeg)]) (rest := []) rfl rfl (Nat.le_of_ble_eq_true rfl) ⟨by decide, by decide⟩) (fun r u hq => ?_)
  obtain ⟨rfl, hu⟩ := hQ1 r u hq
  obtain ⟨Q2, hM3, hQ2⟩ := hM2 u hu
  refine wj_aload_n C 2 dL_law_395 rfl rfl ?_
  refine wj_aload_n C 0 dL_law_396 rfl rfl ?_
  refine wj_iload_n C 3 dL_law_397 rfl rfl ?_
  refine wj_iconst C (v := 1) dL_law_398 (by decide +kernel) ?_
  refine wj_iadd C dL_law_399 ?_
  refine wl_sld C hS (wl_in hc hL 1 (by decide) (by decide +kernel)) dL_law_400 ?_
  refine wj_aload_n C 0 dL_law_401 rfl rfl ?_
  refine wj_iload_n C 3 dL_law_402 rfl rfl ?_
  refine wj_iconst C (v := 2) dL_law_403 (by decide +kernel) ?_
  refine wj_iadd C dL_law_404 ?_
  refine wl_sld C hS (wl_in hc hL 2 (by decide) (by decide +kernel)) dL_law_405 ?_
  refine wj_ci C (wj_rV C dL_law_406 km_X5_of kl_L_39 is_X5 rfl rfl hM3 (As := [.int (xs (nI (6 * c) + 1).toNatClampNeg), .int (xs (nI (6 * c) + 2).toNatClampNeg)]) (rest := [.int r]) rfl rfl (Nat.le_of_ble_eq_true rfl) ⟨by decide, by decide⟩) (fun r2 u2 hq2 => ?_)
  obtain ⟨rfl, hA⟩ := hQ2 r2 u2 hq2
  exact wj_icmp_eq C 1443 dL_law_409 (by decide) (fun _ => K u2 hA) (fun h => absurd rfl h)
set_option maxHeartbeats 4000000 in
theorem wl_change (C : wj_C l V X cL_law 4 RL 13 508) (hS : wl_S V X b L xs) (hc : 6 * c + 6 ≤ L) (hL : L ≤ 3072) (h : ws_A c σ) (K : ∀ u, ws_A (c + 1) u → wj_J l V X 1443 [some (.ref b), some (.ref (V.2.2.1 0)), some (.ref (V.2.2.1 48)), some (.int (nI (6 * c)))] [] u) : wj_J l V X 414 [some (.ref b), some (.ref (V.2.2.1 0)), some (.ref (V.2.2.1 48)), some (.int (nI (6 * c)))] [] σ := by
  obtain ⟨v, P, Q1, hM1, hQ1, hM2⟩ := st_change l V h (by omega) (xs (nI (6 * c) + 1).toNatClampNeg) (xs (nI (6 * c) + 2).toNatClampNeg) (xs (nI (6 * c) + 3).toNatClampNeg)
  refine wj_aload_n C 1 dL_law_414 rfl rfl ?_
  refine wj_aload_n C 0 dL_law_415 rfl rfl ?_
  refine wj_iload_n C 3 dL_law_416 rfl rfl ?_
  refine wj_iconst C (v := 1) dL_law_417 (by decide +kernel) ?_
  refine wj_iadd C dL_law_418 ?_
  refine wl_sld C hS (wl_in hc hL 1 (by decide) (by decide +kernel)) dL_law_419 ?_
  refine wj_aload_n C 0 dL_law_420 rfl rfl ?_
  refine wj_iload_n C 3 dL_law_421 rfl rfl ?_
  refine wj_iconst C (v := 2) dL_law_422 (by decide +kernel) ?_
  refine wj_iadd C dL_law_423 ?_
  refine wl_sld C hS (wl_in hc hL 2 (by decide) (by decide +kernel)) dL_law_424 ?_
  refine wj_aload_n C 0 dL_law_425 rfl rfl ?_
  refine wj_iload_n C 3 dL_law_426 rfl rfl ?_
  refine wj_iconst C (v := 3) dL_law_427 (by decide +kernel) ?_
  refine wj_iadd C dL_law_428 ?_
  refine wl_sld C hS (wl_in hc hL 3 (by decide) (by decide +kernel)) dL_law_429 ?_
  refine wj_ci C (wj_rV C dL_law_430 km_X4_change kl_L_40 is_X4 rfl rfl hM1 (As := [.int (xs (nI (6 * c) + 1).toNatClampNeg), .int (xs (nI (6 * c) + 2).toNatClampNeg), .int (xs (nI (6 * c) + 3).toNatClampNeg)]) (rest := []) rfl rfl (Nat.le_of_ble_eq_true rfl) ⟨by decide, by decide⟩) (fun r u hq => ?_)
  obtain ⟨rfl, hu⟩ := hQ1 r u hq
  obtain ⟨Q2, hM3, hQ2⟩ := hM2 u hu
  refine wj_aload_n C 2 dL_law_433 rfl rfl ?_
  refine wj_aload_n C 0 dL_law_434 rfl rfl ?_
  refine wj_iload_n C 3 dL_law_435 rfl rfl ?_
  refine wj_iconst C (v := 1) dL_law_436 (by decide +kernel) ?_
  refine wj_iadd C dL_law_437 ?_
  refine wl_sld C hS (wl_in hc hL 1 (by decide) (by decide +kernel)) dL_law_438 ?_
  refine wj_aload_n C 0 dL_law_439 rfl rfl ?_
  refine wj_iload_n C 3 dL_law_440 rfl rfl ?_
  refine wj_iconst C (v := 2) dL_law_441 (by decide +kernel) ?_
  refine wj_iadd C dL_law_442 ?_
  refine wl_sld C hS (wl_in hc hL 2 (by decide) (by decide +kernel)) dL_law_443 ?_
  refine wj_aload_n C 0 dL_law_444 rfl rfl ?_
  refine wj_iload_n C 3 dL_law_445 rfl rfl ?_
  refine wj_iconst C (v := 3) dL_law_446 (by decide +kernel) ?_
  refine wj_iadd C dL_law_447 ?_
  refine wl_sld C hS (wl_in hc hL 3 (by decide) (by decide +kernel)) dL_law_448 ?_
  refine wj_ci C (wj_rV C dL_law_449 km_X5_change kl_L_43 is_X5 rfl rfl hM3 (As := [.int (xs (nI (6 * c) + 1).toNatClampNeg), .int (xs (nI (6 * c) + 2).toNatClampNeg), .int (xs (nI (6 * c) + 3).toNatClampNeg)]) (rest := [.int r]) rfl rfl (Nat.le_of_ble_eq_true rfl) ⟨by decide, by decide⟩) (fun r2 u2 hq2 => ?_)
  obtain ⟨rfl, hA⟩ := hQ2 r2 u2 hq2
  exact wj_icmp_eq C 1443 dL_law_452 (by decide) (fun _ => K u2 hA) (fun h => absurd rfl h)
set_option maxHeartbeats 4000000 in
theorem wl_cut (C : wj_C l V X cL_law 4 RL 13 508) (hS : wl_S V X b L xs) (hc : 6 * c + 6 ≤ L) (hL : L ≤ 3072) (h : ws_A c σ) (K : ∀ u, ws_A (c + 1) u → wj_J l V X 1443 [some (.ref b), some (.ref (V.2.2.1 0)), some (.ref (V.2.2.1 48)), some (.int (nI (6 * c)))] [] u) : wj_J l V X 457 [some (.ref b), some (.ref (V.2.2.1 0)), some (.ref (V.2.2.1 48)), some (.int (nI (6 * c)))] [] σ := by
  obtain ⟨v, P, Q1, hM1, hQ1, hM2⟩ := st_cut l V h (by omega) (xs (nI (6 * c) + 1).toNatClampNeg) (xs (nI (6 * c) + 2).toNatClampNeg)
  refine wj_aload_n C 1 dL_law_457 rfl rfl ?_
  refine wj_aload_n C 0 dL_law_458 rfl rfl ?_
  refine wj_iload_n C 3 dL_law_459 rfl rfl ?_
  refine wj_iconst C (v := 1) dL_law_460 (by decide +kernel) ?_
  refine wj_iadd C dL_law_461 ?_
  refine wl_sld C hS (wl_in hc hL 1 (by decide) (by decide +kernel)) dL_law_462 ?_
  refine wj_aload_n C 0 dL_law_463 rfl rfl ?_
  refine wj_iload_n C 3 dL_law_464 rfl rfl ?_
  refine wj_iconst C (v := 2) dL_law_465 (by decide +kernel) ?_
  refine wj_iadd C dL_law_466 ?_
  refine wl_sld C hS (wl_in hc hL 2 (by decide) (by decide +kernel)) dL_law_467 ?_
  refine wj_ci C (wj_rV C dL_law_468 km_X4_cut kl_L_44 is_X4 rfl rfl hM1 (As := [.int (xs (nI (6 * c) + 1).toNatClampNeg), .int (xs (nI (6 * c) + 2).toNatClampNeg)]) (rest := []) rfl rfl (Nat.le_of_ble_eq_true rfl) ⟨by decide, by decide⟩) (fun r u hq => ?_)
  obtain ⟨rfl, hu⟩ := hQ1 r u hq
  obtain ⟨Q2, hM3, hQ2⟩ := hM2 u hu
  refine wj_aload_n C 2 dL_law_471 rfl rfl ?_
  refine wj_aload_n C 0 dL_law_472 rfl rfl ?_
  refine wj_iload_n C 3 dL_law_473 rfl rfl ?_
  refine wj_iconst C (v := 1) dL_law_474 (by decide +kernel) ?_
  refine wj_iadd C dL_law_475 ?_
  refine wl_sld C hS (wl_in hc hL 1 (by decide) (by decide +kernel)) dL_law_476 ?_
  refine wj_aload_n C 0 dL_law_477 rfl rfl ?_
  refine wj_iload_n C 3 dL_law_478 rfl rfl ?_
  refine wj_iconst C (v := 2) dL_law_479 (by decide +kernel) ?_
  refine wj_iadd C dL_law_480 ?_
  refine wl_sld C hS (wl_in hc hL 2 (by decide) (by decide +kernel)) dL_law_481 ?_
  refine wj_ci C (wj_rV C dL_law_482 km_X5_cut kl_L_47 is_X5 rfl rfl hM3 (As := [.int (xs (nI (6 * c) + 1).toNatClampNeg), .int (xs (nI (6 * c) + 2).toNatClampNeg)]) (rest := [.int r]) rfl rfl (Nat.le_of_ble_eq_true rfl) ⟨by decide, by decide⟩) (fun r2 u2 hq2 => ?_)
  obtain ⟨rfl, hA⟩ := hQ2 r2 u2 hq2
  exact wj_icmp_eq C 1443 dL_law_485 (by decide) (fun _ => K u2 hA) (fun h => absurd rfl h)
set_option maxHeartbeats 4000000 in
theorem wl_go (C : wj_C l V X cL_law 4 RL 13 508) (hS : wl_S V X b L xs) (hc : 6 * c + 6 ≤ L) (hL : L ≤ 3072) (h : ws_A c σ) (K : ∀ u, ws_A (c + 1) u → wj_J l V X 1443 [some (.ref b), some (.ref (V.2.2.1 0)), some (.ref (V.2.2.1 48)), some (.int (nI (6 * c)))] [] u) : wj_J l V X 490 [some (.ref b), some (.ref (V.2.2.1 0)), some (.ref (V.2.2.1 48)), some (.int (nI (6 * c)))] [] σ := by
  obtain ⟨v, P, Q1, hM1, hQ1, hM2⟩ := st_go l V h (by omega) (xs (nI (6 * c) + 1).toNatClampNeg)
  refine wj_aload_n C 1 dL_law_490 rfl rfl ?_
  refine wj_aload_n C 0 dL_law_491 rfl rfl ?_
  refine wj_iload_n C 3 dL_law_492 rfl rfl ?_
  refine wj_iconst C (v := 1) dL_law_493 (by decide +kernel) ?_
  refine wj_iadd C dL_law_494 ?_
  refine wl_sld C hS (wl_in hc hL 1 (by decide) (by decide +kernel)) dL_law_495 ?_
  refine wj_ci C (wj_rV C dL_law_496 km_X4_go kl_L_48 is_X4 rfl rfl hM1 (As := [.int (xs (nI (6 * c) + 1).toNatClampNeg)]) (rest := []) rfl rfl (Nat.le_of_ble_eq_true rfl) ⟨by decide, by decide⟩) (fun r u hq => ?_)
  obtain ⟨rfl, hu⟩ := hQ1 r u hq
  obtain ⟨Q2, hM3, hQ2⟩ := hM2 u hu
  refine wj_aload_n C 2 dL_law_499 rfl rfl ?_
  refine wj_aload_n C 0 dL_law_500 rfl rfl ?_
  refine wj_iload_n C 3 dL_law_501 rfl rfl ?_
  refine wj_iconst C (v := 1) dL_law_502 (by decide +kernel) ?_
  refine wj_iadd C dL_law_503 ?_
  refine wl_sld C hS (wl_in hc hL 1 (by decide) (by decide +kernel)) dL_law_504 ?_
  refine wj_ci C (wj_rV C dL_law_505 km_X5_go kl_L_51 is_X5 rfl rfl hM3 (As := [.int (xs (nI (6 * c) + 1).toNatClampNeg)]) (rest := [.int r]) rfl rfl (Nat.le_of_ble_eq_true rfl) ⟨by decide, by decide⟩) (fun r2 u2 hq2 => ?_)
  obtain ⟨rfl, hA⟩ := hQ2 r2 u2 hq2
  exact wj_icmp_eq C 1443 dL_law_508 (by decide) (fun _ => K u2 hA) (fun h => absurd rfl h)
set_option maxHeartbeats 4000000 in
theorem wl_now (C : wj_C l V X cL_law 4 RL 13 508) (hS : wl_S V X b L xs) (hc : 6 * c + 6 ≤ L) (hL : L ≤ 3072) (h : ws_A c σ) (K : ∀ u, ws_A (c + 1) u → wj_J l V X 1443 [some (.ref b), some (.ref (V.2.2.1 0)), some (.ref (V.2.2.1 48)), some (.int (nI (6 * c)))] [] u) : wj_J l V X 513 [some (.ref b), some (.ref (V.2.2.1 0)), some (.ref (V.2.2.1 48)), some (.int (nI (6 * c)))] [] σ := by
  obtain ⟨v, P, Q1, hM1, hQ1, hM2⟩ := st_now l V h (by omega) (xs (nI (6 * c) + 1).toNatClampNeg)
  refine wj_aload_n C 1 dL_law_513 rfl rfl ?_
  refine wj_aload_n C 0 dL_law_514 rfl rfl ?_
  refine wj_iload_n C 3 dL_law_515 rfl rfl ?_
  refine wj_iconst C (v := 1) dL_law_516 (by decide +kernel) ?_
  refine wj_iadd C dL_law_517 ?_
  refine wl_sld C hS (wl_in hc hL 1 (by decide) (by decide +kernel)) dL_law_518 ?_
  refine wj_ci C (wj_rV C dL_law_519 km_X4_now kl_L_52 is_X4 rfl rfl hM1 (As := [.int (xs (nI (6 * c) + 1).toNatClampNeg)]) (rest := []) rfl rfl (Nat.le_of_ble_eq_true rfl) ⟨by decide, by decide⟩) (fun r u hq => ?_)
  obtain ⟨rfl, hu⟩ := hQ1 r u hq
  obtain ⟨Q2, hM3, hQ2⟩ := hM2 u hu
  refine wj_aload_n C 2 dL_law_522 rfl rfl ?_
  refine wj_aload_n C 0 dL_law_523 rfl rfl ?_
  refine wj_iload_n C 3 dL_law_524 rfl rfl ?_
  refine wj_iconst C (v := 1) dL_law_525 (by decide +kernel) ?_
  refine wj_iadd C dL_law_526 ?_
  refine wl_sld C hS (wl_in hc hL 1 (by decide) (by decide +kernel)) dL_law_527 ?_
  refine wj_ci C (wj_rV C dL_law_528 km_X5_now kl_L_55 is_X5 rfl rfl hM3 (As := [.int (xs (nI (6 * c) + 1).toNatClampNeg)]) (rest := [.int r]) rfl rfl (Nat.le_of_ble_eq_true rfl) ⟨by decide, by decide⟩) (fun r2 u2 hq2 => ?_)
  obtain ⟨rfl, hA⟩ := hQ2 r2 u2 hq2
  exact wj_icmp_eq C 1443 dL_law_531 (by decide) (fun _ => K u2 hA) (fun h => absurd rfl h)
set_option maxHeartbeats 4000000 in
theorem wl_ahead (C : wj_C l V X cL_law 4 RL 13 508) (hS : wl_S V X b L xs) (hc : 6 * c + 6 ≤ L) (hL : L ≤ 3072) (h : ws_A c σ) (K : ∀ u, ws_A (c + 1) u → wj_J l V X 1443 [some (.ref b), some (.ref (V.2.2.1 0)), some (.ref (V.2.2.1 48)), some (.int (nI (6 * c)))] [] u) : wj_J l V X 536 [some (.ref b), some (.ref (V.2.2.1 0)), some (.ref (V.2.2.1 48)), some (.int (nI (6 * c)))] [] σ := by
  obtain ⟨v, P, Q1, hM1, hQ1, hM2⟩ := st_ahead l V h (by omega) (xs (nI (6 * c) + 1).toNatClampNeg) (xs (nI (6 * c) + 2).toNatClampNeg) (xs (nI (6 * c) + 3).toNatClampNeg)
  refine wj_aload_n C 1 dL_law_536 rfl rfl ?_
  refine wj_aload_n C 0 dL_law_537 rfl rfl ?_
  refine wj_iload_n C 3 dL_law_538 rfl rfl ?_
  refine wj_iconst C (v := 1) dL_law_539 (by decide +kernel) ?_
  refine wj_iadd C dL_law_540 ?_
  refine wl_sld C hS (wl_in hc hL 1 (by decide) (by decide +kernel)) dL_law_541 ?_
  refine wj_aload_n C 0 dL_law_542 rfl rfl ?_
  refine wj_iload_n C 3 dL_law_543 rfl rfl ?_
  refine wj_iconst C (v := 2) dL_law_544 (by decide +kernel) ?_
  refine wj_iadd C dL_law_545 ?_
  refine wl_sld C hS (wl_in hc hL 2 (by decide) (by decide +kernel)) dL_law_546 ?_
  refine wj_aload_n C 0 dL_law_547 rfl rfl ?_
  refine wj_iload_n C 3 dL_law_548 rfl rfl ?_
  refine wj_iconst C (v := 3) dL_law_549 (by decide +kernel) ?_
  refine wj_iadd C dL_law_550 ?_
  refine wl_sld C hS (wl_in hc hL 3 (by decide) (by decide +kernel)) dL_law_551 ?_
  refine wj_ci C (wj_rV C dL_law_552 km_X4_ahead kl_L_56 is_X4 rfl rfl hM1 (As := [.int (xs (nI (6 * c) + 1).toNatClampNeg), .int (xs (nI (6 * c) + 2).toNatClampNeg), .int (xs (nI (6 * c) + 3).toNatClampNeg)]) (rest := []) rfl rfl (Nat.le_of_ble_eq_true rfl) ⟨by decide, by decide⟩) (fun r u hq => ?_)
  obtain ⟨rfl, hu⟩ := hQ1 r u hq
  obtain ⟨Q2, hM3, hQ2⟩ := hM2 u hu
  refine wj_aload_n C 2 dL_law_555 rfl rfl ?_
  refine wj_aload_n C 0 dL_law_556 rfl rfl ?_
  refine wj_iload_n C 3 dL_law_557 rfl rfl ?_
  refine wj_iconst C (v := 1) dL_law_558 (by decide +kernel) ?_
  refine wj_iadd C dL_law_559 ?_
  refine wl_sld C hS (wl_in hc hL 1 (by decide) (by decide +kernel)) dL_law_560 ?_
  refine wj_aload_n C 0 dL_law_561 rfl rfl ?_
  refine wj_iload_n C 3 dL_law_562 rfl rfl ?_
  refine wj_iconst C (v := 2) dL_law_563 (by decide +kernel) ?_
  refine wj_iadd C dL_law_564 ?_
  refine wl_sld C hS (wl_in hc hL 2 (by decide) (by decide +kernel)) dL_law_565 ?_
  refine wj_aload_n C 0 dL_law_566 rfl rfl ?_
  refine wj_iload_n C 3 dL_law_567 rfl rfl ?_
  refine wj_iconst C (v := 3) dL_law_568 (by decide +kernel) ?_
  refine wj_iadd C dL_law_569 ?_
  refine wl_sld C hS (wl_in hc hL 3 (by decide) (by decide +kernel)) dL_law_570 ?_
  refine wj_ci C (wj_rV C dL_law_571 km_X5_ahead kl_L_59 is_X5 rfl rfl hM3 (As := [.int (xs (nI (6 * c) + 1).toNatClampNeg), .int (xs (nI (6 * c) + 2).toNatClampNeg), .int (xs (nI (6 * c) + 3).toNatClampNeg)]) (rest := [.int r]) rfl rfl (Nat.le_of_ble_eq_true rfl) ⟨by decide, by decide⟩) (fun r2 u2 hq2 => ?_)
  obtain ⟨rfl, hA⟩ := hQ2 r2 u2 hq2
  exact wj_icmp_eq C 1443 dL_law_574 (by decide) (fun _ => K u2 hA) (fun h => absurd rfl h)
set_option maxHeartbeats 4000000 in
theorem wl_strong (C : wj_C l V X cL_law 4 RL 13 508) (hS : wl_S V X b L xs) (hc : 6 * c + 6 ≤ L) (hL : L ≤ 3072) (h : ws_A c σ) (K : ∀ u, ws_A (c + 1) u → wj_J l V X 1443 [some (.ref b), some (.ref (V.2.2.1 0)), some (.ref (V.2.2.1 48)), some (.int (nI (6 * c)))] [] u) : wj_J l V X 579 [some (.ref b), some (.ref (V.2.2.1 0)), some (.ref (V.2.2.1 48)), some (.int (nI (6 * c)))] [] σ := by
  obtain ⟨v, P, Q1, hM1, hQ1, hM2⟩ := st_strong l V h (by omega) (xs (nI (6 * c) + 1).toNatClampNeg) (xs (nI (6 * c) + 2).toNatClampNeg)
  refine wj_aload_n C 1 dL_law_579 rfl rfl ?_
  refine wj_aload_n C 0 dL_law_580 rfl rfl ?_
  refine wj_iload_n C 3 dL_law_581 rfl rfl ?_
  refine wj_iconst C (v := 1) dL_law_582 (by decide +kernel) ?_
  refine wj_iadd C dL_law_583 ?_
  refine wl_sld C hS (wl_in hc hL 1 (by decide) (by decide +kernel)) dL_law_584 ?_
  refine wj_aload_n C 0 dL_law_585 rfl rfl ?_
  refine wj_iload_n C 3 dL_law_586 rfl rfl ?_
  refine wj_iconst C (v := 2) dL_law_587 (by decide +kernel) ?_
  refine wj_iadd C dL_law_588 ?_
  refine wl_sld C hS (wl_in hc hL 2 (by decide) (by decide +kernel)) dL_law_589 ?_
  refine wj_ci C (wj_rV C dL_law_590 km_X4_strong kl_L_60 is_X4 rfl rfl hM1 (As := [.int (xs (nI (6 * c) + 1).toNatClampNeg), .int (xs (nI (6 * c) + 2).toNatClampNeg)]) (rest := []) rfl rfl (Nat.le_of_ble_eq_true rfl) ⟨by decide, by decide⟩) (fun r u hq => ?_)
  obtain ⟨rfl, hu⟩ := hQ1 r u hq
  obtain ⟨Q2, hM3, hQ2⟩ := hM2 u hu
  refine wj_aload_n C 2 dL_law_593 rfl rfl ?_
  refine wj_aload_n C 0 dL_law_594 rfl rfl ?_
  refine wj_iload_n C 3 dL_law_595 rfl rfl ?_
  refine wj_iconst C (v := 1) dL_law_596 (by decide +kernel) ?_
  refine wj_iadd C dL_law_597 ?_
  refine wl_sld C hS (wl_in hc hL 1 (by decide) (by decide +kernel)) dL_law_598 ?_
  refine wj_aload_n C 0 dL_law_599 rfl rfl ?_
  refine wj_iload_n C 3 dL_law_600 rfl rfl ?_
  refine wj_iconst C (v := 2) dL_law_601 (by decide +kernel) ?_
  refine wj_iadd C dL_law_602 ?_
  refine wl_sld C hS (wl_in hc hL 2 (by decide) (by decide +kernel)) dL_law_603 ?_
  refine wj_ci C (wj_rV C dL_law_604 km_X5_strong kl_L_63 is_X5 rfl rfl hM3 (As := [.int (xs (nI (6 * c) + 1).toNatClampNeg), .int (xs (nI (6 * c) + 2).toNatClampNeg)]) (rest := [.int r]) rfl rfl (Nat.le_of_ble_eq_true rfl) ⟨by decide, by decide⟩) (fun r2 u2 hq2 => ?_)
  obtain ⟨rfl, hA⟩ := hQ2 r2 u2 hq2
  exact wj_icmp_eq C 1443 dL_law_607 (by decide) (fun _ => K u2 hA) (fun h => absurd rfl h)
set_option maxHeartbeats 4000000 in
theorem wl_closed (C : wj_C l V X cL_law 4 RL 13 508) (hS : wl_S V X b L xs) (hc : 6 * c + 6 ≤ L) (hL : L ≤ 3072) (h : ws_A c σ) (K : ∀ u, ws_A (c + 1) u → wj_J l V X 1443 [some (.ref b), some (.ref (V.2.2.1 0)), some (.ref (V.2.2.1 48)), some (.int (nI (6 * c)))] [] u) : wj_J l V X 612 [some (.ref b), some (.ref (V.2.2.1 0)), some (.ref (V.2.2.1 48)), some (.int (nI (6 * c)))] [] σ := by
  obtain ⟨v, P, Q1, hM1, hQ1, hM2⟩ := st_closed l V h (by omega) (xs (nI (6 * c) + 1).toNatClampNeg)
  refine wj_aload_n C 1 dL_law_612 rfl rfl ?_
  refine wj_aload_n C 0 dL_law_613 rfl rfl ?_
  refine wj_iload_n C 3 dL_law_614 rfl rfl ?_
  refine wj_iconst C (v := 1) dL_law_615 (by decide +kernel) ?_
  refine wj_iadd C dL_law_616 ?_
  refine wl_sld C hS (wl_in hc hL 1 (by decide) (by decide +kernel)) dL_law_617 ?_
  refine wj_ci C (wj_rV C dL_law_618 km_X4_closed kl_L_64 is_X4 rfl rfl hM1 (As := [.int (xs (nI (6 * c) + 1).toNatClampNeg)]) (rest := []) rfl rfl (Nat.le_of_ble_eq_true rfl) ⟨by decide, by decide⟩) (fun r u hq => ?_)
  obtain ⟨rfl, hu⟩ := hQ1 r u hq
  obtain ⟨Q2, hM3, hQ2⟩ := hM2 u hu
  refine wj_aload_n C 2 dL_law_621 rfl rfl ?_
  refine wj_aload_n C 0 dL_law_622 rfl rfl ?_
  refine wj_iload_n C 3 dL_law_623 rfl rfl ?_
  refine wj_iconst C (v := 1) dL_law_624 (by decide +kernel) ?_
  refine wj_iadd C dL_law_625 ?_
  refine wl_sld C hS (wl_in hc hL 1 (by decide) (by decide +kernel)) dL_law_626 ?_
  refine wj_ci C (wj_rV C dL_law_627 km_X5_closed kl_L_67 is_X5 rfl rfl hM3 (As := [.int (xs (nI (6 * c) + 1).toNatClampNeg)]) (rest := [.int r]) rfl rfl (Nat.le_of_ble_eq_true rfl) ⟨by decide, by decide⟩) (fun r2 u2 hq2 => ?_)
  obtain ⟨rfl, hA⟩ := hQ2 r2 u2 hq2
  exact wj_icmp_eq C 1443 dL_law_630 (by decide) (fun _ => K u2 hA) (fun h => absurd rfl h)
set_option maxHeartbeats 4000000 in
theorem wl_whole (C : wj_C l V X cL_law 4 RL 13 508) (hS : wl_S V X b L xs) (hc : 6 * c + 6 ≤ L) (hL : L ≤ 3072) (h : ws_A c σ) (K : ∀ u, ws_A (c + 1) u → wj_J l V X 1443 [some (.ref b), some (.ref (V.2.2.1 0)), some (.ref (V.2.2.1 48)), some (.int (nI (6 * c)))] [] u) : wj_J l V X 635 [some (.ref b), some (.ref (V.2.2.1 0)), some (.ref (V.2.2.1 48)), some (.int (nI (6 * c)))] [] σ := by
  obtain ⟨v, P, Q1, hM1, hQ1, hM2⟩ := st_whole l V h (by omega)
  refine wj_aload_n C 1 dL_law_635 rfl rfl ?_
  refine wj_ci C (wj_rV C dL_law_636 km_X4_whole kl_L_68 is_X4 rfl rfl hM1 (As := []) (rest := []) rfl rfl (Nat.le_of_ble_eq_true rfl) ⟨by decide, by decide⟩) (fun r u hq => ?_)
  obtain ⟨rfl, hu⟩ := hQ1 r u hq
  obtain ⟨Q2, hM3, hQ2⟩ := hM2 u hu
  refine wj_aload_n C 2 dL_law_639 rfl rfl ?_
  refine wj_ci C (wj_rV C dL_law_640 km_X5_whole kl_L_72 is_X5 rfl rfl hM3 (As := []) (rest := [.int r]) rfl rfl (Nat.le_of_ble_eq_true rfl) ⟨by decide, by decide⟩) (fun r2 u2 hq2 => ?_)
  obtain ⟨rfl, hA⟩ := hQ2 r2 u2 hq2
  exact wj_icmp_eq C 1443 dL_law_643 (by decide) (fun _ => K u2 hA) (fun h => absurd rfl h)
set_option maxHeartbeats 4000000 in
theorem wl_breaks (C : wj_C l V X cL_law 4 RL 13 508) (hS : wl_S V X b L xs) (hc : 6 * c + 6 ≤ L) (hL : L ≤ 3072) (h : ws_A c σ) (K : ∀ u, ws_A (c + 1) u → wj_J l V X 1443 [some (.ref b), some (.ref (V.2.2.1 0)), some (.ref (V.2.2.1 48)), some (.int (nI (6 * c)))] [] u) : wj_J l V X 648 [some (.ref b), some (.ref (V.2.2.1 0)), some (.ref (V.2.2.1 48)), some (.int (nI (6 * c)))] [] σ := by
  obtain ⟨v, P, Q1, hM1, hQ1, hM2⟩ := st_breaks l V h (by omega) (xs (nI (6 * c) + 1).toNatClampNeg)
  refine wj_aload_n C 1 dL_law_648 rfl rfl ?_
  refine wj_aload_n C 0 dL_law_649 rfl rfl ?_
  refine wj_iload_n C 3 dL_law_650 rfl rfl ?_
  refine wj_iconst C (v := 1) dL_law_651 (by decide +kernel) ?_
  refine wj_iadd C dL_law_652 ?_
  refine wl_sld C hS (wl_in hc hL 1 (by decide) (by decide +kernel)) dL_law_653 ?_
  refine wj_ci C (wj_rV C dL_law_654 km_X4_breaks kl_L_73 is_X4 rfl rfl hM1 (As := [.int (xs (nI (6 * c) + 1).toNatClampNeg)]) (rest := []) rfl rfl (Nat.le_of_ble_eq_true rfl) ⟨by decide, by decide⟩) (fun r u hq => ?_)
  obtain ⟨rfl, hu⟩ := hQ1 r u hq
  obtain ⟨Q2, hM3, hQ2⟩ := hM2 u hu
  refine wj_aload_n C 2 dL_law_657 rfl rfl ?_
  refine wj_aload_n C 0 dL_law_658 rfl rfl ?_
  refine wj_iload_n C 3 dL_law_659 rfl rfl ?_
  refine wj_iconst C (v := 1) dL_law_660 (by decide +kernel) ?_
  refine wj_iadd C dL_law_661 ?_
  refine wl_sld C hS (wl_in hc hL 1 (by decide) (by decide +kernel)) dL_law_662 ?_
  refine wj_ci C (wj_rV C dL_law_663 km_X5_breaks kl_L_76 is_X5 rfl rfl hM3 (As := [.int (xs (nI (6 * c) + 1).toNatClampNeg)]) (rest := [.int r]) rfl rfl (Nat.le_of_ble_eq_true rfl) ⟨by decide, by decide⟩) (fun r2 u2 hq2 => ?_)
  obtain ⟨rfl, hA⟩ := hQ2 r2 u2 hq2
  exact wj_icmp_eq C 1443 dL_law_666 (by decide) (fun _ => K u2 hA) (fun h => absurd rfl h)
set_option maxHeartbeats 4000000 in
theorem wl_lay (C : wj_C l V X cL_law 4 RL 13 508) (hS : wl_S V X b L xs) (hc : 6 * c + 6 ≤ L) (hL : L ≤ 3072) (h : ws_A c σ) (K : ∀ u, ws_A (c + 1) u → wj_J l V X 1443 [some (.ref b), some (.ref (V.2.2.1 0)), some (.ref (V.2.2.1 48)), some (.int (nI (6 * c)))] [] u) : wj_J l V X 671 [some (.ref b), some (.ref (V.2.2.1 0)), some (.ref (V.2.2.1 48)), some (.int (nI (6 * c)))] [] σ := by
  obtain ⟨v, P, Q1, hM1, hQ1, hM2⟩ := st_lay l V h (by omega) (xs (nI (6 * c) + 1).toNatClampNeg) (xs (nI (6 * c) + 2).toNatClampNeg)
  refine wj_aload_n C 1 dL_law_671 rfl rfl ?_
  refine wj_aload_n C 0 dL_law_672 rfl rfl ?_
  refine wj_iload_n C 3 dL_law_673 rfl rfl ?_
  refine wj_iconst C (v := 1) dL_law_674 (by decide +kernel) ?_
  refine wj_iadd C dL_law_675 ?_
  refine wl_sld C hS (wl_in hc hL 1 (by decide) (by decide +kernel)) dL_law_676 ?_
  refine wj_aload_n C 0 dL_law_677 rfl rfl ?_
  refine wj_iload_n C 3 dL_law_678 rfl rfl ?_
  refine wj_iconst C (v := 2) dL_law_679 (by decide +kernel) ?_
  refine wj_iadd C dL_law_680 ?_
  refine wl_sld C hS (wl_in hc hL 2 (by decide) (by decide +kernel)) dL_law_681 ?_
  refine wj_ci C (wj_rV C dL_law_682 km_X4_lay kl_L_77 is_X4 rfl rfl hM1 (As := [.int (xs (nI (6 * c) + 1).toNatClampNeg), .int (xs (nI (6 * c) + 2).toNatClampNeg)]) (rest := []) rfl rfl (Nat.le_of_ble_eq_true rfl) ⟨by decide, by decide⟩) (fun r u hq => ?_)
  obtain ⟨rfl, hu⟩ := hQ1 r u hq
  obtain ⟨Q2, hM3, hQ2⟩ := hM2 u hu
  refine wj_aload_n C 2 dL_law_685 rfl rfl ?_
  refine wj_aload_n C 0 dL_law_686 rfl rfl ?_
  refine wj_iload_n C 3 dL_law_687 rfl rfl ?_
  refine wj_iconst C (v := 1) dL_law_688 (by decide +kernel) ?_
  refine wj_iadd C dL_law_689 ?_
  refine wl_sld C hS (wl_in hc hL 1 (by decide) (by decide +kernel)) dL_law_690 ?_
  refine wj_aload_n C 0 dL_law_691 rfl rfl ?_
  refine wj_iload_n C 3 dL_law_692 rfl rfl ?_
  refine wj_iconst C (v := 2) dL_law_693 (by decide +kernel) ?_
  refine wj_iadd C dL_law_694 ?_
  refine wl_sld C hS (wl_in hc hL 2 (by decide) (by decide +kernel)) dL_law_695 ?_
  refine wj_ci C (wj_rV C dL_law_696 km_X5_lay kl_L_80 is_X5 rfl rfl hM3 (As := [.int (xs (nI (6 * c) + 1).toNatClampNeg), .int (xs (nI (6 * c) + 2).toNatClampNeg)]) (rest := [.int r]) rfl rfl (Nat.le_of_ble_eq_true rfl) ⟨by decide, by decide⟩) (fun r2 u2 hq2 => ?_)
  obtain ⟨rfl, hA⟩ := hQ2 r2 u2 hq2
  exact wj_icmp_eq C 1443 dL_law_699 (by decide) (fun _ => K u2 hA) (fun h => absurd rfl h)
set_option maxHeartbeats 4000000 in
theorem wl_plant (C : wj_C l V X cL_law 4 RL 13 508) (hS : wl_S V X b L xs) (hc : 6 * c + 6 ≤ L) (hL : L ≤ 3072) (h : ws_A c σ) (K : ∀ u, ws_A (c + 1) u → wj_J l V X 1443 [some (.ref b), some (.ref (V.2.2.1 0)), some (.ref (V.2.2.1 48)), some (.int (nI (6 * c)))] [] u) : wj_J l V X 704 [some (.ref b), some (.ref (V.2.2.1 0)), some (.ref (V.2.2.1 48)), some (.int (nI (6 * c)))] [] σ := by
  obtain ⟨v, P, Q1, hM1, hQ1, hM2⟩ := st_plant l V h (by omega) (xs (nI (6 * c) + 1).toNatClampNeg) (xs (nI (6 * c) + 2).toNatClampNeg)
  refine wj_aload_n C 1 dL_law_704 rfl rfl ?_
  refine wj_aload_n C 0 dL_law_705 rfl rfl ?_
  refine wj_iload_n C 3 dL_law_706 rfl rfl ?_
  refine wj_iconst C (v := 1) dL_law_707 (by decide +kernel) ?_
  refine wj_iadd C dL_law_708 ?_
  refine wl_sld C hS (wl_in hc hL 1 (by decide) (by decide +kernel)) dL_law_709 ?_
  refine wj_aload_n C 0 dL_law_710 rfl rfl ?_
  refine wj_iload_n C 3 dL_law_711 rfl rfl ?_
  refine wj_iconst C (v := 2) dL_law_712 (by decide +kernel) ?_
  refine wj_iadd C dL_law_713 ?_
  refine wl_sld C hS (wl_in hc hL 2 (by decide) (by decide +kernel)) dL_law_714 ?_
  refine wj_ci C (wj_rV C dL_law_715 km_X4_plant kl_L_81 is_X4 rfl rfl hM1 (As := [.int (xs (nI (6 * c) + 1).toNatClampNeg), .int (xs (nI (6 * c) + 2).toNatClampNeg)]) (rest := []) rfl rfl (Nat.le_of_ble_eq_true rfl) ⟨by decide, by decide⟩) (fun r u hq => ?_)
  obtain ⟨rfl, hu⟩ := hQ1 r u hq
  obtain ⟨Q2, hM3, hQ2⟩ := hM2 u hu
  refine wj_aload_n C 2 dL_law_718 rfl rfl ?_
  refine wj_aload_n C 0 dL_law_719 rfl rfl ?_
  refine wj_iload_n C 3 dL_law_720 rfl rfl ?_
  refine wj_iconst C (v := 1) dL_law_721 (by decide +kernel) ?_
  refine wj_iadd C dL_law_722 ?_
  refine wl_sld C hS (wl_in hc hL 1 (by decide) (by decide +kernel)) dL_law_723 ?_
  refine wj_aload_n C 0 dL_law_724 rfl rfl ?_
  refine wj_iload_n C 3 dL_law_725 rfl rfl ?_
  refine wj_iconst C (v := 2) dL_law_726 (by decide +kernel) ?_
  refine wj_iadd C dL_law_727 ?_
  refine wl_sld C hS (wl_in hc hL 2 (by decide) (by decide +kernel)) dL_law_728 ?_
  refine wj_ci C (wj_rV C dL_law_729 km_X5_plant kl_L_84 is_X5 rfl rfl hM3 (As := [.int (xs (nI (6 * c) + 1).toNatClampNeg), .int (xs (nI (6 * c) + 2).toNatClampNeg)]) (rest := [.int r]) rfl rfl (Nat.le_of_ble_eq_true rfl) ⟨by decide, by decide⟩) (fun r2 u2 hq2 => ?_)
  obtain ⟨rfl, hA⟩ := hQ2 r2 u2 hq2
  exact wj_icmp_eq C 1443 dL_law_732 (by decide) (fun _ => K u2 hA) (fun h => absurd rfl h)
set_option maxHeartbeats 4000000 in
theorem wl_kindFor (C : wj_C l V X cL_law 4 RL 13 508) (hS : wl_S V X b L xs) (hc : 6 * c + 6 ≤ L) (hL : L ≤ 3072) (h : ws_A c σ) (K : ∀ u, ws_A (c + 1) u → wj_J l V X 1443 [some (.ref b), some (.ref (V.2.2.1 0)), some (.ref (V.2.2.1 48)), some (.int (nI (6 * c)))] [] u) : wj_J l V X 737 [some (.ref b), some (.ref (V.2.2.1 0)), some (.ref (V.2.2.1 48)), some (.int (nI (6 * c)))] [] σ := by
  obtain ⟨v, P, Q1, hM1, hQ1, hM2⟩ := st_kindFor l V h (by omega) (xs (nI (6 * c) + 1).toNatClampNeg) (xs (nI (6 * c) + 2).toNatClampNeg)
  refine wj_aload_n C 1 dL_law_737 rfl rfl ?_
  refine wj_aload_n C 0 dL_law_738 rfl rfl ?_
  refine wj_iload_n C 3 dL_law_739 rfl rfl ?_
  refine wj_iconst C (v := 1) dL_law_740 (by decide +kernel) ?_
  refine wj_iadd C dL_law_741 ?_
  refine wl_sld C hS (wl_in hc hL 1 (by decide) (by decide +kernel)) dL_law_742 ?_
  refine wj_aload_n C 0 dL_law_743 rfl rfl ?_
  refine wj_iload_n C 3 dL_law_744 rfl rfl ?_
  refine wj_iconst C (v := 2) dL_law_745 (by decide +kernel) ?_
  refine wj_iadd C dL_law_746 ?_
  refine wl_sld C hS (wl_in hc hL 2 (by decide) (by decide +kernel)) dL_law_747 ?_
  refine wj_ci C (wj_rV C dL_law_748 km_X4_kindFor kl_L_85 is_X4 rfl rfl hM1 (As := [.int (xs (nI (6 * c) + 1).toNatClampNeg), .int (xs (nI (6 * c) + 2).toNatClampNeg)]) (rest := []) rfl rfl (Nat.le_of_ble_eq_true rfl) ⟨by decide, by decide⟩) (fun r u hq => ?_)
  obtain ⟨rfl, hu⟩ := hQ1 r u hq
  obtain ⟨Q2, hM3, hQ2⟩ := hM2 u hu
  refine wj_aload_n C 2 dL_law_751 rfl rfl ?_
  refine wj_aload_n C 0 dL_law_752 rfl rfl ?_
  refine wj_iload_n C 3 dL_law_753 rfl rfl ?_
  refine wj_iconst C (v := 1) dL_law_754 (by decide +kernel) ?_
  refine wj_iadd C dL_law_755 ?_
  refine wl_sld C hS (wl_in hc hL 1 (by decide) (by decide +kernel)) dL_law_756 ?_
  refine wj_aload_n C 0 dL_law_757 rfl rfl ?_
  refine wj_iload_n C 3 dL_law_758 rfl rfl ?_
  refine wj_iconst C (v := 2) dL_law_759 (by decide +kernel) ?_
  refine wj_iadd C dL_law_760 ?_
  refine wl_sld C hS (wl_in hc hL 2 (by decide) (by decide +kernel)) dL_law_761 ?_
  refine wj_ci C (wj_rV C dL_law_762 km_X5_kindFor kl_L_88 is_X5 rfl rfl hM3 (As := [.int (xs (nI (6 * c) + 1).toNatClampNeg), .int (xs (nI (6 * c) + 2).toNatClampNeg)]) (rest := [.int r]) rfl rfl (Nat.le_of_ble_eq_true rfl) ⟨by decide, by decide⟩) (fun r2 u2 hq2 => ?_)
  obtain ⟨rfl, hA⟩ := hQ2 r2 u2 hq2
  exact wj_icmp_eq C 1443 dL_law_765 (by decide) (fun _ => K u2 hA) (fun h => absurd rfl h)
set_option maxHeartbeats 4000000 in
theorem wl_weightFor (C : wj_C l V X cL_law 4 RL 13 508) (hS : wl_S V X b L xs) (hc : 6 * c + 6 ≤ L) (hL : L ≤ 3072) (h : ws_A c σ) (K : ∀ u, ws_A (c + 1) u → wj_J l V X 1443 [some (.ref b), some (.ref (V.2.2.1 0)), some (.ref (V.2.2.1 48)), some (.int (nI (6 * c)))] [] u) : wj_J l V X 770 [some (.ref b), some (.ref (V.2.2.1 0)), some (.ref (V.2.2.1 48)), some (.int (nI (6 * c)))] [] σ := by
  obtain ⟨v, P, Q1, hM1, hQ1, hM2⟩ := st_weightFor l V h (by omega) (xs (nI (6 * c) + 1).toNatClampNeg) (xs (nI (6 * c) + 2).toNatClampNeg)
  refine wj_aload_n C 1 dL_law_770 rfl rfl ?_
  refine wj_aload_n C 0 dL_law_771 rfl rfl ?_
  refine wj_iload_n C 3 dL_law_772 rfl rfl ?_
  refine wj_iconst C (v := 1) dL_law_773 (by decide +kernel) ?_
  refine wj_iadd C dL_law_774 ?_
  refine wl_sld C hS (wl_in hc hL 1 (by decide) (by decide +kernel)) dL_law_775 ?_
  refine wj_aload_n C 0 dL_law_776 rfl rfl ?_
  refine wj_iload_n C 3 dL_law_777 rfl rfl ?_
  refine wj_iconst C (v := 2) dL_law_778 (by decide +kernel) ?_
  refine wj_iadd C dL_law_779 ?_
  refine wl_sld C hS (wl_in hc hL 2 (by decide) (by decide +kernel)) dL_law_780 ?_
  refine wj_ci C (wj_rV C dL_law_781 km_X4_weightFor kl_L_89 is_X4 rfl rfl hM1 (As := [.int (xs (nI (6 * c) + 1).toNatClampNeg), .int (xs (nI (6 * c) + 2).toNatClampNeg)]) (rest := []) rfl rfl (Nat.le_of_ble_eq_true rfl) ⟨by decide, by decide⟩) (fun r u hq => ?_)
  obtain ⟨rfl, hu⟩ := hQ1 r u hq
  obtain ⟨Q2, hM3, hQ2⟩ := hM2 u hu
  refine wj_aload_n C 2 dL_law_784 rfl rfl ?_
  refine wj_aload_n C 0 dL_law_785 rfl rfl ?_
  refine wj_iload_n C 3 dL_law_786 rfl rfl ?_
  refine wj_iconst C (v := 1) dL_law_787 (by decide +kernel) ?_
  refine wj_iadd C dL_law_788 ?_
  refine wl_sld C hS (wl_in hc hL 1 (by decide) (by decide +kernel)) dL_law_789 ?_
  refine wj_aload_n C 0 dL_law_790 rfl rfl ?_
  refine wj_iload_n C 3 dL_law_791 rfl rfl ?_
  refine wj_iconst C (v := 2) dL_law_792 (by decide +kernel) ?_
  refine wj_iadd C dL_law_793 ?_
  refine wl_sld C hS (wl_in hc hL 2 (by decide) (by decide +kernel)) dL_law_794 ?_
  refine wj_ci C (wj_rV C dL_law_795 km_X5_weightFor kl_L_92 is_X5 rfl rfl hM3 (As := [.int (xs (nI (6 * c) + 1).toNatClampNeg), .int (xs (nI (6 * c) + 2).toNatClampNeg)]) (rest := [.int r]) rfl rfl (Nat.le_of_ble_eq_true rfl) ⟨by decide, by decide⟩) (fun r2 u2 hq2 => ?_)
  obtain ⟨rfl, hA⟩ := hQ2 r2 u2 hq2
  exact wj_icmp_eq C 1443 dL_law_798 (by decide) (fun _ => K u2 hA) (fun h => absurd rfl h)
set_option maxHeartbeats 4000000 in
theorem wl_layAll (C : wj_C l V X cL_law 4 RL 13 508) (hS : wl_S V X b L xs) (hc : 6 * c + 6 ≤ L) (hL : L ≤ 3072) (h : ws_A c σ) (K : ∀ u, ws_A (c + 1) u → wj_J l V X 1443 [some (.ref b), some (.ref (V.2.2.1 0)), some (.ref (V.2.2.1 48)), some (.int (nI (6 * c)))] [] u) : wj_J l V X 803 [some (.ref b), some (.ref (V.2.2.1 0)), some (.ref (V.2.2.1 48)), some (.int (nI (6 * c)))] [] σ := by
  obtain ⟨v, P, Q1, hM1, hQ1, hM2⟩ := st_layAll l V h (by omega) (xs (nI (6 * c) + 1).toNatClampNeg)
  refine wj_aload_n C 1 dL_law_803 rfl rfl ?_
  refine wj_aload_n C 0 dL_law_804 rfl rfl ?_
  refine wj_iload_n C 3 dL_law_805 rfl rfl ?_
  refine wj_iconst C (v := 1) dL_law_806 (by decide +kernel) ?_
  refine wj_iadd C dL_law_807 ?_
  refine wl_sld C hS (wl_in hc hL 1 (by decide) (by decide +kernel)) dL_law_808 ?_
  refine wj_ci C (wj_rV C dL_law_809 km_X4_layAll kl_L_93 is_X4 rfl rfl hM1 (As := [.int (xs (nI (6 * c) + 1).toNatClampNeg)]) (rest := []) rfl rfl (Nat.le_of_ble_eq_true rfl) ⟨by decide, by decide⟩) (fun r u hq => ?_)
  obtain ⟨rfl, hu⟩ := hQ1 r u hq
  obtain ⟨Q2, hM3, hQ2⟩ := hM2 u hu
  refine wj_aload_n C 2 dL_law_812 rfl rfl ?_
  refine wj_aload_n C 0 dL_law_813 rfl rfl ?_
  refine wj_iload_n C 3 dL_law_814 rfl rfl ?_
  refine wj_iconst C (v := 1) dL_law_815 (by decide +kernel) ?_
  refine wj_iadd C dL_law_816 ?_
  refine wl_sld C hS (wl_in hc hL 1 (by decide) (by decide +kernel)) dL_law_817 ?_
  refine wj_ci C (wj_rV C dL_law_818 km_X5_layAll kl_L_96 is_X5 rfl rfl hM3 (As := [.int (xs (nI (6 * c) + 1).toNatClampNeg)]) (rest := [.int r]) rfl rfl (Nat.le_of_ble_eq_true rfl) ⟨by decide, by decide⟩) (fun r2 u2 hq2 => ?_)
  obtain ⟨rfl, hA⟩ := hQ2 r2 u2 hq2
  exact wj_icmp_eq C 1443 dL_law_821 (by decide) (fun _ => K u2 hA) (fun h => absurd rfl h)
set_option maxHeartbeats 4000000 in
theorem wl_hurdlesFor (C : wj_C l V X cL_law 4 RL 13 508) (hS : wl_S V X b L xs) (hc : 6 * c + 6 ≤ L) (hL : L ≤ 3072) (h : ws_A c σ) (K : ∀ u, ws_A (c + 1) u → wj_J l V X 1443 [some (.ref b), some (.ref (V.2.2.1 0)), some (.ref (V.2.2.1 48)), some (.int (nI (6 * c)))] [] u) : wj_J l V X 826 [some (.ref b), some (.ref (V.2.2.1 0)), some (.ref (V.2.2.1 48)), some (.int (nI (6 * c)))] [] σ := by
  obtain ⟨v, P, Q1, hM1, hQ1, hM2⟩ := st_hurdlesFor l V h (by omega) (xs (nI (6 * c) + 1).toNatClampNeg)
  refine wj_aload_n C 1 dL_law_826 rfl rfl ?_
  refine wj_aload_n C 0 dL_law_827 rfl rfl ?_
  refine wj_iload_n C 3 dL_law_828 rfl rfl ?_
  refine wj_iconst C (v := 1) dL_law_829 (by decide +kernel) ?_
  refine wj_iadd C dL_law_830 ?_
  refine wl_sld C hS (wl_in hc hL 1 (by decide) (by decide +kernel)) dL_law_831 ?_
  refine wj_ci C (wj_rV C dL_law_832 km_X4_hurdlesFor kl_L_97 is_X4 rfl rfl hM1 (As := [.int (xs (nI (6 * c) + 1).toNatClampNeg)]) (rest := []) rfl rfl (Nat.le_of_ble_eq_true rfl) ⟨by decide, by decide⟩) (fun r u hq => ?_)
  obtain ⟨rfl, hu⟩ := hQ1 r u hq
  obtain ⟨Q2, hM3, hQ2⟩ := hM2 u hu
  refine wj_aload_n C 2 dL_law_835 rfl rfl ?_
  refine wj_aload_n C 0 dL_law_836 rfl rfl ?_
  refine wj_iload_n C 3 dL_law_837 rfl rfl ?_
  refine wj_iconst C (v := 1) dL_law_838 (by decide +kernel) ?_
  refine wj_iadd C dL_law_839 ?_
  refine wl_sld C hS (wl_in hc hL 1 (by decide) (by decide +kernel)) dL_law_840 ?_
  refine wj_ci C (wj_rV C dL_law_841 km_X5_hurdlesFor kl_L_100 is_X5 rfl rfl hM3 (As := [.int (xs (nI (6 * c) + 1).toNatClampNeg)]) (rest := [.int r]) rfl rfl (Nat.le_of_ble_eq_true rfl) ⟨by decide, by decide⟩) (fun r2 u2 hq2 => ?_)
  obtain ⟨rfl, hA⟩ := hQ2 r2 u2 hq2
  exact wj_icmp_eq C 1443 dL_law_844 (by decide) (fun _ => K u2 hA) (fun h => absurd rfl h)
set_option maxHeartbeats 4000000 in
theorem wl_words (C : wj_C l V X cL_law 4 RL 13 508) (hS : wl_S V X b L xs) (hc : 6 * c + 6 ≤ L) (hL : L ≤ 3072) (h : ws_A c σ) (K : ∀ u, ws_A (c + 1) u → wj_J l V X 1443 [some (.ref b), some (.ref (V.2.2.1 0)), some (.ref (V.2.2.1 48)), some (.int (nI (6 * c)))] [] u) : wj_J l V X 849 [some (.ref b), some (.ref (V.2.2.1 0)), some (.ref (V.2.2.1 48)), some (.int (nI (6 * c)))] [] σ := by
  obtain ⟨v, P, Q1, hM1, hQ1, hM2⟩ := st_words l V h (by omega) (xs (nI (6 * c) + 1).toNatClampNeg) (xs (nI (6 * c) + 2).toNatClampNeg)
  refine wj_aload_n C 1 dL_law_849 rfl rfl ?_
  refine wj_aload_n C 0 dL_law_850 rfl rfl ?_
  refine wj_iload_n C 3 dL_law_851 rfl rfl ?_
  refine wj_iconst C (v := 1) dL_law_852 (by decide +kernel) ?_
  refine wj_iadd C dL_law_853 ?_
  refine wl_sld C hS (wl_in hc hL 1 (by decide) (by decide +kernel)) dL_law_854 ?_
  refine wj_aload_n C 0 dL_law_855 rfl rfl ?_
  refine wj_iload_n C 3 dL_law_856 rfl rfl ?_
  refine wj_iconst C (v := 2) dL_law_857 (by decide +kernel) ?_
  refine wj_iadd C dL_law_858 ?_
  refine wl_sld C hS (wl_in hc hL 2 (by decide) (by decide +kernel)) dL_law_859 ?_
  refine wj_ci C (wj_rV C dL_law_860 km_X4_words kl_L_101 is_X4 rfl rfl hM1 (As := [.int (xs (nI (6 * c) + 1).toNatClampNeg), .int (xs (nI (6 * c) + 2).toNatClampNeg)]) (rest := []) rfl rfl (Nat.le_of_ble_eq_true rfl) ⟨by decide, by decide⟩) (fun r u hq => ?_)
  obtain ⟨rfl, hu⟩ := hQ1 r u hq
  obtain ⟨Q2, hM3, hQ2⟩ := hM2 u hu
  refine wj_aload_n C 2 dL_law_863 rfl rfl ?_
  refine wj_aload_n C 0 dL_law_864 rfl rfl ?_
  refine wj_iload_n C 3 dL_law_865 rfl rfl ?_
  refine wj_iconst C (v := 1) dL_law_866 (by decide +kernel) ?_
  refine wj_iadd C dL_law_867 ?_
  refine wl_sld C hS (wl_in hc hL 1 (by decide) (by decide +kernel)) dL_law_868 ?_
  refine wj_aload_n C 0 dL_law_869 rfl rfl ?_
  refine wj_iload_n C 3 dL_law_870 rfl rfl ?_
  refine wj_iconst C (v := 2) dL_law_871 (by decide +kernel) ?_
  refine wj_iadd C dL_law_872 ?_
  refine wl_sld C hS (wl_in hc hL 2 (by decide) (by decide +kernel)) dL_law_873 ?_
  refine wj_ci C (wj_rV C dL_law_874 km_X5_words kl_L_104 is_X5 rfl rfl hM3 (As := [.int (xs (nI (6 * c) + 1).toNatClampNeg), .int (xs (nI (6 * c) + 2).toNatClampNeg)]) (rest := [.int r]) rfl rfl (Nat.le_of_ble_eq_true rfl) ⟨by decide, by decide⟩) (fun r2 u2 hq2 => ?_)
  obtain ⟨rfl, hA⟩ := hQ2 r2 u2 hq2
  exact wj_icmp_eq C 1443 dL_law_877 (by decide) (fun _ => K u2 hA) (fun h => absurd rfl h)
set_option maxHeartbeats 4000000 in
theorem wl_kinds (C : wj_C l V X cL_law 4 RL 13 508) (hS : wl_S V X b L xs) (hc : 6 * c + 6 ≤ L) (hL : L ≤ 3072) (h : ws_A c σ) (K : ∀ u, ws_A (c + 1) u → wj_J l V X 1443 [some (.ref b), some (.ref (V.2.2.1 0)), some (.ref (V.2.2.1 48)), some (.int (nI (6 * c)))] [] u) : wj_J l V X 882 [some (.ref b), some (.ref (V.2.2.1 0)), some (.ref (V.2.2.1 48)), some (.int (nI (6 * c)))] [] σ := by
  obtain ⟨v, P, Q1, hM1, hQ1, hM2⟩ := st_kinds l V h (by omega) (xs (nI (6 * c) + 1).toNatClampNeg) (xs (nI (6 * c) + 2).toNatClampNeg)
  refine wj_aload_n C 1 dL_law_882 rfl rfl ?_
  refine wj_aload_n C 0 dL_law_883 rfl rfl ?_
  refine wj_iload_n C 3 dL_law_884 rfl rfl ?_
  refine wj_iconst C (v := 1) dL_law_885 (by decide +kernel) ?_
  refine wj_iadd C dL_law_886 ?_
  refine wl_sld C hS (wl_in hc hL 1 (by decide) (by decide +kernel)) dL_law_887 ?_
  refine wj_aload_n C 0 dL_law_888 rfl rfl ?_
  refine wj_iload_n C 3 dL_law_889 rfl rfl ?_
  refine wj_iconst C (v := 2) dL_law_890 (by decide +kernel) ?_
  refine wj_iadd C dL_law_891 ?_
  refine wl_sld C hS (wl_in hc hL 2 (by decide) (by decide +kernel)) dL_law_892 ?_
  refine wj_ci C (wj_rV C dL_law_893 km_X4_kinds kl_L_105 is_X4 rfl rfl hM1 (As := [.int (xs (nI (6 * c) + 1).toNatClampNeg), .int (xs (nI (6 * c) + 2).toNatClampNeg)]) (rest := []) rfl rfl (Nat.le_of_ble_eq_true rfl) ⟨by decide, by decide⟩) (fun r u hq => ?_)
  obtain ⟨rfl, hu⟩ := hQ1 r u hq
  obtain ⟨Q2, hM3, hQ2⟩ := hM2 u hu
  refine wj_aload_n C 2 dL_law_896 rfl rfl ?_
  refine wj_aload_n C 0 dL_law_897 rfl rfl ?_
  refine wj_iload_n C 3 dL_law_898 rfl rfl ?_
  refine wj_iconst C (v := 1) dL_law_899 (by decide +kernel) ?_
  refine wj_iadd C dL_law_900 ?_
  refine wl_sld C hS (wl_in hc hL 1 (by decide) (by decide +kernel)) dL_law_901 ?_
  refine wj_aload_n C 0 dL_law_902 rfl rfl ?_
  refine wj_iload_n C 3 dL_law_903 rfl rfl ?_
  refine wj_iconst C (v := 2) dL_law_904 (by decide +kernel) ?_
  refine wj_iadd C dL_law_905 ?_
  refine wl_sld C hS (wl_in hc hL 2 (by decide) (by decide +kernel)) dL_law_906 ?_
  refine wj_ci C (wj_rV C dL_law_907 km_X5_kinds kl_L_108 is_X5 rfl rfl hM3 (As := [.int (xs (nI (6 * c) + 1).toNatClampNeg), .int (xs (nI (6 * c) + 2).toNatClampNeg)]) (rest := [.int r]) rfl rfl (Nat.le_of_ble_eq_true rfl) ⟨by decide, by decide⟩) (fun r2 u2 hq2 => ?_)
  obtain ⟨rfl, hA⟩ := hQ2 r2 u2 hq2
  exact wj_icmp_eq C 1443 dL_law_910 (by decide) (fun _ => K u2 hA) (fun h => absurd rfl h)
set_option maxHeartbeats 4000000 in
theorem wl_fits (C : wj_C l V X cL_law 4 RL 13 508) (hS : wl_S V X b L xs) (hc : 6 * c + 6 ≤ L) (hL : L ≤ 3072) (h : ws_A c σ) (K : ∀ u, ws_A (c + 1) u → wj_J l V X 1443 [some (.ref b), some (.ref (V.2.2.1 0)), some (.ref (V.2.2.1 48)), some (.int (nI (6 * c)))] [] u) : wj_J l V X 915 [some (.ref b), some (.ref (V.2.2.1 0)), some (.ref (V.2.2.1 48)), some (.int (nI (6 * c)))] [] σ := by
  obtain ⟨v, P, Q1, hM1, hQ1, hM2⟩ := st_fits l V h (by omega) (xs (nI (6 * c) + 1).toNatClampNeg) (xs (nI (6 * c) + 2).toNatClampNeg)
  refine wj_aload_n C 1 dL_law_915 rfl rfl ?_
  refine wj_aload_n C 0 dL_law_916 rfl rfl ?_
  refine wj_iload_n C 3 dL_law_917 rfl rfl ?_
  refine wj_iconst C (v := 1) dL_law_918 (by decide +kernel) ?_
  refine wj_iadd C dL_law_919 ?_
  refine wl_sld C hS (wl_in hc hL 1 (by decide) (by decide +kernel)) dL_law_920 ?_
  refine wj_aload_n C 0 dL_law_921 rfl rfl ?_
  refine wj_iload_n C 3 dL_law_922 rfl rfl ?_
  refine wj_iconst C (v := 2) dL_law_923 (by decide +kernel) ?_
  refine wj_iadd C dL_law_924 ?_
  refine wl_sld C hS (wl_in hc hL 2 (by decide) (by decide +kernel)) dL_law_925 ?_
  refine wj_ci C (wj_rV C dL_law_926 km_X4_fits kl_L_109 is_X4 rfl rfl hM1 (As := [.int (xs (nI (6 * c) + 1).toNatClampNeg), .int (xs (nI (6 * c) + 2).toNatClampNeg)]) (rest := []) rfl rfl (Nat.le_of_ble_eq_true rfl) ⟨by decide, by decide⟩) (fun r u hq => ?_)
  obtain ⟨rfl, hu⟩ := hQ1 r u hq
  obtain ⟨Q2, hM3, hQ2⟩ := hM2 u hu
  refine wj_aload_n C 2 dL_law_929 rfl rfl ?_
  refine wj_aload_n C 0 dL_law_930 rfl rfl ?_
  refine wj_iload_n C 3 dL_law_931 rfl rfl ?_
  refine wj_iconst C (v := 1) dL_law_932 (by decide +kernel) ?_
  refine wj_iadd C dL_law_933 ?_
  refine wl_sld C hS (wl_in hc hL 1 (by decide) (by decide +kernel)) dL_law_934 ?_
  refine wj_aload_n C 0 dL_law_935 rfl rfl ?_
  refine wj_iload_n C 3 dL_law_936 rfl rfl ?_
  refine wj_iconst C (v := 2) dL_law_937 (by decide +kernel) ?_
  refine wj_iadd C dL_law_938 ?_
  refine wl_sld C hS (wl_in hc hL 2 (by decide) (by decide +kernel)) dL_law_939 ?_
  refine wj_ci C (wj_rV C dL_law_940 km_X5_fits kl_L_112 is_X5 rfl rfl hM3 (As := [.int (xs (nI (6 * c) + 1).toNatClampNeg), .int (xs (nI (6 * c) + 2).toNatClampNeg)]) (rest := [.int r]) rfl rfl (Nat.le_of_ble_eq_true rfl) ⟨by decide, by decide⟩) (fun r2 u2 hq2 => ?_)
  obtain ⟨rfl, hA⟩ := hQ2 r2 u2 hq2
  exact wj_icmp_eq C 1443 dL_law_943 (by decide) (fun _ => K u2 hA) (fun h => absurd rfl h)
set_option maxHeartbeats 4000000 in
theorem wl_leans (C : wj_C l V X cL_law 4 RL 13 508) (hS : wl_S V X b L xs) (hc : 6 * c + 6 ≤ L) (hL : L ≤ 3072) (h : ws_A c σ) (K : ∀ u, ws_A (c + 1) u → wj_J l V X 1443 [some (.ref b), some (.ref (V.2.2.1 0)), some (.ref (V.2.2.1 48)), some (.int (nI (6 * c)))] [] u) : wj_J l V X 948 [some (.ref b), some (.ref (V.2.2.1 0)), some (.ref (V.2.2.1 48)), some (.int (nI (6 * c)))] [] σ := by
  obtain ⟨v, P, Q1, hM1, hQ1, hM2⟩ := st_leans l V h (by omega) (xs (nI (6 * c) + 1).toNatClampNeg)
  refine wj_aload_n C 1 dL_law_948 rfl rfl ?_
  refine wj_aload_n C 0 dL_law_949 rfl rfl ?_
  refine wj_iload_n C 3 dL_law_950 rfl rfl ?_
  refine wj_iconst C (v := 1) dL_law_951 (by decide +kernel) ?_
  refine wj_iadd C dL_law_952 ?_
  refine wl_sld C hS (wl_in hc hL 1 (by decide) (by decide +kernel)) dL_law_953 ?_
  refine wj_ci C (wj_rV C dL_law_954 km_X4_leans kl_L_113 is_X4 rfl rfl hM1 (As := [.int (xs (nI (6 * c) + 1).toNatClampNeg)]) (rest := []) rfl rfl (Nat.le_of_ble_eq_true rfl) ⟨by decide, by decide⟩) (fun r u hq => ?_)
  obtain ⟨rfl, hu⟩ := hQ1 r u hq
  obtain ⟨Q2, hM3, hQ2⟩ := hM2 u hu
  refine wj_aload_n C 2 dL_law_957 rfl rfl ?_
  refine wj_aload_n C 0 dL_law_958 rfl rfl ?_
  refine wj_iload_n C 3 dL_law_959 rfl rfl ?_
  refine wj_iconst C (v := 1) dL_law_960 (by decide +kernel) ?_
  refine wj_iadd C dL_law_961 ?_
  refine wl_sld C hS (wl_in hc hL 1 (by decide) (by decide +kernel)) dL_law_962 ?_
  refine wj_ci C (wj_rV C dL_law_963 km_X5_leans kl_L_116 is_X5 rfl rfl hM3 (As := [.int (xs (nI (6 * c) + 1).toNatClampNeg)]) (rest := [.int r]) rfl rfl (Nat.le_of_ble_eq_true rfl) ⟨by decide, by decide⟩) (fun r2 u2 hq2 => ?_)
  obtain ⟨rfl, hA⟩ := hQ2 r2 u2 hq2
  exact wj_icmp_eq C 1443 dL_law_966 (by decide) (fun _ => K u2 hA) (fun h => absurd rfl h)
set_option maxHeartbeats 4000000 in
theorem wl_odds (C : wj_C l V X cL_law 4 RL 13 508) (hS : wl_S V X b L xs) (hc : 6 * c + 6 ≤ L) (hL : L ≤ 3072) (h : ws_A c σ) (K : ∀ u, ws_A (c + 1) u → wj_J l V X 1443 [some (.ref b), some (.ref (V.2.2.1 0)), some (.ref (V.2.2.1 48)), some (.int (nI (6 * c)))] [] u) : wj_J l V X 971 [some (.ref b), some (.ref (V.2.2.1 0)), some (.ref (V.2.2.1 48)), some (.int (nI (6 * c)))] [] σ := by
  obtain ⟨v, P, Q1, hM1, hQ1, hM2⟩ := st_odds l V h (by omega) (xs (nI (6 * c) + 1).toNatClampNeg) (xs (nI (6 * c) + 2).toNatClampNeg) (xs (nI (6 * c) + 3).toNatClampNeg)
  refine wj_aload_n C 1 dL_law_971 rfl rfl ?_
  refine wj_aload_n C 0 dL_law_972 rfl rfl ?_
  refine wj_iload_n C 3 dL_law_973 rfl rfl ?_
  refine wj_iconst C (v := 1) dL_law_974 (by decide +kernel) ?_
  refine wj_iadd C dL_law_975 ?_
  refine wl_sld C hS (wl_in hc hL 1 (by decide) (by decide +kernel)) dL_law_976 ?_
  refine wj_aload_n C 0 dL_law_977 rfl rfl ?_
  refine wj_iload_n C 3 dL_law_978 rfl rfl ?_
  refine wj_iconst C (v := 2) dL_law_979 (by decide +kernel) ?_
  refine wj_iadd C dL_law_980 ?_
  refine wl_sld C hS (wl_in hc hL 2 (by decide) (by decide +kernel)) dL_law_981 ?_
  refine wj_aload_n C 0 dL_law_982 rfl rfl ?_
  refine wj_iload_n C 3 dL_law_983 rfl rfl ?_
  refine wj_iconst C (v := 3) dL_law_984 (by decide +kernel) ?_
  refine wj_iadd C dL_law_985 ?_
  refine wl_sld C hS (wl_in hc hL 3 (by decide) (by decide +kernel)) dL_law_986 ?_
  refine wj_cl C (wj_rV C dL_law_987 km_X4_odds kl_L_117 is_X4 rfl rfl hM1 (As := [.int (xs (nI (6 * c) + 1).toNatClampNeg), .int (xs (nI (6 * c) + 2).toNatClampNeg), .int (xs (nI (6 * c) + 3).toNatClampNeg)]) (rest := []) rfl rfl (Nat.le_of_ble_eq_true rfl) ⟨by decide, by decide⟩) (fun r u hq => ?_)
  obtain ⟨rfl, hu⟩ := hQ1 r u hq
  obtain ⟨Q2, hM3, hQ2⟩ := hM2 u hu
  refine wj_aload_n C 2 dL_law_990 rfl rfl ?_
  refine wj_aload_n C 0 dL_law_991 rfl rfl ?_
  refine wj_iload_n C 3 dL_law_992 rfl rfl ?_
  refine wj_iconst C (v := 1) dL_law_993 (by decide +kernel) ?_
  refine wj_iadd C dL_law_994 ?_
  refine wl_sld C hS (wl_in hc hL 1 (by decide) (by decide +kernel)) dL_law_995 ?_
  refine wj_aload_n C 0 dL_law_996 rfl rfl ?_
  refine wj_iload_n C 3 dL_law_997 rfl rfl ?_
  refine wj_iconst C (v := 2) dL_law_998 (by decide +kernel) ?_
  refine wj_iadd C dL_law_999 ?_
  refine wl_sld C hS (wl_in hc hL 2 (by decide) (by decide +kernel)) dL_law_1000 ?_
  refine wj_aload_n C 0 dL_law_1001 rfl rfl ?_
  refine wj_iload_n C 3 dL_law_1002 rfl rfl ?_
  refine wj_iconst C (v := 3) dL_law_1003 (by decide +kernel) ?_
  refine wj_iadd C dL_law_1004 ?_
  refine wl_sld C hS (wl_in hc hL 3 (by decide) (by decide +kernel)) dL_law_1005 ?_
  refine wj_cl C (wj_rV C dL_law_1006 km_X5_odds kl_L_121 is_X5 rfl rfl hM3 (As := [.int (xs (nI (6 * c) + 1).toNatClampNeg), .int (xs (nI (6 * c) + 2).toNatClampNeg), .int (xs (nI (6 * c) + 3).toNatClampNeg)]) (rest := [.long r]) rfl rfl (Nat.le_of_ble_eq_true rfl) ⟨by decide, by decide⟩) (fun r2 u2 hq2 => ?_)
  obtain ⟨rfl, hA⟩ := hQ2 r2 u2 hq2
  refine wj_lcmp C dL_law_1009 ?_
  refine wj_if_eq C 1443 dL_law_1010 (by decide) (fun _ => K u2 hA) (fun h => absurd (wl_cmp r2) h)
set_option maxHeartbeats 4000000 in
theorem wl_seed (C : wj_C l V X cL_law 4 RL 13 508) (hS : wl_S V X b L xs) (hc : 6 * c + 6 ≤ L) (hL : L ≤ 3072) (h : ws_A c σ) (K : ∀ u, ws_A (c + 1) u → wj_J l V X 1443 [some (.ref b), some (.ref (V.2.2.1 0)), some (.ref (V.2.2.1 48)), some (.int (nI (6 * c)))] [] u) : wj_J l V X 1015 [some (.ref b), some (.ref (V.2.2.1 0)), some (.ref (V.2.2.1 48)), some (.int (nI (6 * c)))] [] σ := by
  obtain ⟨v, P, Q1, hM1, hQ1, hM2⟩ := st_seed l V h (by omega) (xs (nI (6 * c) + 1).toNatClampNeg)
  refine wj_aload_n C 1 dL_law_1015 rfl rfl ?_
  refine wj_aload_n C 0 dL_law_1016 rfl rfl ?_
  refine wj_iload_n C 3 dL_law_1017 rfl rfl ?_
  refine wj_iconst C (v := 1) dL_law_1018 (by decide +kernel) ?_
  refine wj_iadd C dL_law_1019 ?_
  refine wl_sld C hS (wl_in hc hL 1 (by decide) (by decide +kernel)) dL_law_1020 ?_
  refine wj_ci C (wj_rV C dL_law_1021 km_X4_seed kl_L_122 is_X4 rfl rfl hM1 (As := [.int (xs (nI (6 * c) + 1).toNatClampNeg)]) (rest := []) rfl rfl (Nat.le_of_ble_eq_true rfl) ⟨by decide, by decide⟩) (fun r u hq => ?_)
  obtain ⟨rfl, hu⟩ := hQ1 r u hq
  obtain ⟨Q2, hM3, hQ2⟩ := hM2 u hu
  refine wj_aload_n C 2 dL_law_1024 rfl rfl ?_
  refine wj_aload_n C 0 dL_law_1025 rfl rfl ?_
  refine wj_iload_n C 3 dL_law_1026 rfl rfl ?_
  refine wj_iconst C (v := 1) dL_law_1027 (by decide +kernel) ?_
  refine wj_iadd C dL_law_1028 ?_
  refine wl_sld C hS (wl_in hc hL 1 (by decide) (by decide +kernel)) dL_law_1029 ?_
  refine wj_ci C (wj_rV C dL_law_1030 km_X5_seed kl_L_125 is_X5 rfl rfl hM3 (As := [.int (xs (nI (6 * c) + 1).toNatClampNeg)]) (rest := [.int r]) rfl rfl (Nat.le_of_ble_eq_true rfl) ⟨by decide, by decide⟩) (fun r2 u2 hq2 => ?_)
  obtain ⟨rfl, hA⟩ := hQ2 r2 u2 hq2
  exact wj_icmp_eq C 1443 dL_law_1033 (by decide) (fun _ => K u2 hA) (fun h => absurd rfl h)
set_option maxHeartbeats 4000000 in
theorem wl_feed (C : wj_C l V X cL_law 4 RL 13 508) (hS : wl_S V X b L xs) (hc : 6 * c + 6 ≤ L) (hL : L ≤ 3072) (h : ws_A c σ) (K : ∀ u, ws_A (c + 1) u → wj_J l V X 1443 [some (.ref b), some (.ref (V.2.2.1 0)), some (.ref (V.2.2.1 48)), some (.int (nI (6 * c)))] [] u) : wj_J l V X 1038 [some (.ref b), some (.ref (V.2.2.1 0)), some (.ref (V.2.2.1 48)), some (.int (nI (6 * c)))] [] σ := by
  obtain ⟨v, P, Q1, hM1, hQ1, hM2⟩ := st_feed l V h (by omega) (xs (nI (6 * c) + 1).toNatClampNeg) (xs (nI (6 * c) + 2).toNatClampNeg)
  refine wj_aload_n C 1 dL_law_1038 rfl rfl ?_
  refine wj_aload_n C 0 dL_law_1039 rfl rfl ?_
  refine wj_iload_n C 3 dL_law_1040 rfl rfl ?_
  refine wj_iconst C (v := 1) dL_law_1041 (by decide +kernel) ?_
  refine wj_iadd C dL_law_1042 ?_
  refine wl_sld C hS (wl_in hc hL 1 (by decide) (by decide +kernel)) dL_law_1043 ?_
  refine wj_aload_n C 0 dL_law_1044 rfl rfl ?_
  refine wj_iload_n C 3 dL_law_1045 rfl rfl ?_
  refine wj_iconst C (v := 2) dL_law_1046 (by decide +kernel) ?_
  refine wj_iadd C dL_law_1047 ?_
  refine wl_sld C hS (wl_in hc hL 2 (by decide) (by decide +kernel)) dL_law_1048 ?_
  refine wj_ci C (wj_rV C dL_law_1049 km_X4_feed kl_L_126 is_X4 rfl rfl hM1 (As := [.int (xs (nI (6 * c) + 1).toNatClampNeg), .int (xs (nI (6 * c) + 2).toNatClampNeg)]) (rest := []) rfl rfl (Nat.le_of_ble_eq_true rfl) ⟨by decide, by decide⟩) (fun r u hq => ?_)
  obtain ⟨rfl, hu⟩ := hQ1 r u hq
  obtain ⟨Q2, hM3, hQ2⟩ := hM2 u hu
  refine wj_aload_n C 2 dL_law_1052 rfl rfl ?_
  refine wj_aload_n C 0 dL_law_1053 rfl rfl ?_
  refine wj_iload_n C 3 dL_law_1054 rfl rfl ?_
  refine wj_iconst C (v := 1) dL_law_1055 (by decide +kernel) ?_
  refine wj_iadd C dL_law_1056 ?_
  refine wl_sld C hS (wl_in hc hL 1 (by decide) (by decide +kernel)) dL_law_1057 ?_
  refine wj_aload_n C 0 dL_law_1058 rfl rfl ?_
  refine wj_iload_n C 3 dL_law_1059 rfl rfl ?_
  refine wj_iconst C (v := 2) dL_law_1060 (by decide +kernel) ?_
  refine wj_iadd C dL_law_1061 ?_
  refine wl_sld C hS (wl_in hc hL 2 (by decide) (by decide +kernel)) dL_law_1062 ?_
  refine wj_ci C (wj_rV C dL_law_1063 km_X5_feed kl_L_129 is_X5 rfl rfl hM3 (As := [.int (xs (nI (6 * c) + 1).toNatClampNeg), .int (xs (nI (6 * c) + 2).toNatClampNeg)]) (rest := [.int r]) rfl rfl (Nat.le_of_ble_eq_true rfl) ⟨by decide, by decide⟩) (fun r2 u2 hq2 => ?_)
  obtain ⟨rfl, hA⟩ := hQ2 r2 u2 hq2
  exact wj_icmp_eq C 1443 dL_law_1066 (by decide) (fun _ => K u2 hA) (fun h => absurd rfl h)
set_option maxHeartbeats 4000000 in
theorem wl_wipe (C : wj_C l V X cL_law 4 RL 13 508) (hS : wl_S V X b L xs) (hc : 6 * c + 6 ≤ L) (hL : L ≤ 3072) (h : ws_A c σ) (K : ∀ u, ws_A (c + 1) u → wj_J l V X 1443 [some (.ref b), some (.ref (V.2.2.1 0)), some (.ref (V.2.2.1 48)), some (.int (nI (6 * c)))] [] u) : wj_J l V X 1071 [some (.ref b), some (.ref (V.2.2.1 0)), some (.ref (V.2.2.1 48)), some (.int (nI (6 * c)))] [] σ := by
  obtain ⟨v, P, Q1, hM1, hQ1, hM2⟩ := st_wipe l V h (by omega)
  refine wj_aload_n C 1 dL_law_1071 rfl rfl ?_
  refine wj_ci C (wj_rV C dL_law_1072 km_X4_wipe kl_L_130 is_X4 rfl rfl hM1 (As := []) (rest := []) rfl rfl (Nat.le_of_ble_eq_true rfl) ⟨by decide, by decide⟩) (fun r u hq => ?_)
  obtain ⟨rfl, hu⟩ := hQ1 r u hq
  obtain ⟨Q2, hM3, hQ2⟩ := hM2 u hu
  refine wj_aload_n C 2 dL_law_1075 rfl rfl ?_
  refine wj_ci C (wj_rV C dL_law_1076 km_X5_wipe kl_L_133 is_X5 rfl rfl hM3 (As := []) (rest := [.int r]) rfl rfl (Nat.le_of_ble_eq_true rfl) ⟨by decide, by decide⟩) (fun r2 u2 hq2 => ?_)
  obtain ⟨rfl, hA⟩ := hQ2 r2 u2 hq2
  exact wj_icmp_eq C 1443 dL_law_1079 (by decide) (fun _ => K u2 hA) (fun h => absurd rfl h)
set_option maxHeartbeats 4000000 in
theorem wl_text (C : wj_C l V X cL_law 4 RL 13 508) (hS : wl_S V X b L xs) (hc : 6 * c + 6 ≤ L) (hL : L ≤ 3072) (h : ws_A c σ) (K : ∀ u, ws_A (c + 1) u → wj_J l V X 1443 [some (.ref b), some (.ref (V.2.2.1 0)), some (.ref (V.2.2.1 48)), some (.int (nI (6 * c)))] [] u) : wj_J l V X 1084 [some (.ref b), some (.ref (V.2.2.1 0)), some (.ref (V.2.2.1 48)), some (.int (nI (6 * c)))] [] σ := by
  obtain ⟨v, P, Q1, hM1, hQ1, hM2⟩ := st_text l V h (by omega)
  refine wj_aload_n C 1 dL_law_1084 rfl rfl ?_
  refine wj_ci C (wj_rV C dL_law_1085 km_X4_text kl_L_134 is_X4 rfl rfl hM1 (As := []) (rest := []) rfl rfl (Nat.le_of_ble_eq_true rfl) ⟨by decide, by decide⟩) (fun r u hq => ?_)
  obtain ⟨rfl, hu⟩ := hQ1 r u hq
  obtain ⟨Q2, hM3, hQ2⟩ := hM2 u hu
  refine wj_aload_n C 2 dL_law_1088 rfl rfl ?_
  refine wj_ci C (wj_rV C dL_law_1089 km_X5_text kl_L_137 is_X5 rfl rfl hM3 (As := []) (rest := [.int r]) rfl rfl (Nat.le_of_ble_eq_true rfl) ⟨by decide, by decide⟩) (fun r2 u2 hq2 => ?_)
  obtain ⟨rfl, hA⟩ := hQ2 r2 u2 hq2
  exact wj_icmp_eq C 1443 dL_law_1092 (by decide) (fun _ => K u2 hA) (fun h => absurd rfl h)
set_option maxHeartbeats 4000000 in
theorem wl_hold (C : wj_C l V X cL_law 4 RL 13 508) (hS : wl_S V X b L xs) (hc : 6 * c + 6 ≤ L) (hL : L ≤ 3072) (h : ws_A c σ) (K : ∀ u, ws_A (c + 1) u → wj_J l V X 1443 [some (.ref b), some (.ref (V.2.2.1 0)), some (.ref (V.2.2.1 48)), some (.int (nI (6 * c)))] [] u) : wj_J l V X 1097 [some (.ref b), some (.ref (V.2.2.1 0)), some (.ref (V.2.2.1 48)), some (.int (nI (6 * c)))] [] σ := by
  obtain ⟨v, P, Q1, hM1, hQ1, hM2⟩ := st_hold l V h (by omega) (xs (nI (6 * c) + 1).toNatClampNeg) (xs (nI (6 * c) + 2).toNatClampNeg)
  refine wj_aload_n C 1 dL_law_1097 rfl rfl ?_
  refine wj_aload_n C 0 dL_law_1098 rfl rfl ?_
  refine wj_iload_n C 3 dL_law_1099 rfl rfl ?_
  refine wj_iconst C (v := 1) dL_law_1100 (by decide +kernel) ?_
  refine wj_iadd C dL_law_1101 ?_
  refine wl_sld C hS (wl_in hc hL 1 (by decide) (by decide +kernel)) dL_law_1102 ?_
  refine wj_aload_n C 0 dL_law_1103 rfl rfl ?_
  refine wj_iload_n C 3 dL_law_1104 rfl rfl ?_
  refine wj_iconst C (v := 2) dL_law_1105 (by decide +kernel) ?_
  refine wj_iadd C dL_law_1106 ?_
  refine wl_sld C hS (wl_in hc hL 2 (by decide) (by decide +kernel)) dL_law_1107 ?_
  refine wj_ci C (wj_rV C dL_law_1108 km_X4_hold kl_L_138 is_X4 rfl rfl hM1 (As := [.int (xs (nI (6 * c) + 1).toNatClampNeg), .int (xs (nI (6 * c) + 2).toNatClampNeg)]) (rest := []) rfl rfl (Nat.le_of_ble_eq_true rfl) ⟨by decide, by decide⟩) (fun r u hq => ?_)
  obtain ⟨rfl, hu⟩ := hQ1 r u hq
  obtain ⟨Q2, hM3, hQ2⟩ := hM2 u hu
  refine wj_aload_n C 2 dL_law_1111 rfl rfl ?_
  refine wj_aload_n C 0 dL_law_1112 rfl rfl ?_
  refine wj_iload_n C 3 dL_law_1113 rfl rfl ?_
  refine wj_iconst C (v := 1) dL_law_1114 (by decide +kernel) ?_
  refine wj_iadd C dL_law_1115 ?_
  refine wl_sld C hS (wl_in hc hL 1 (by decide) (by decide +kernel)) dL_law_1116 ?_
  refine wj_aload_n C 0 dL_law_1117 rfl rfl ?_
  refine wj_iload_n C 3 dL_law_1118 rfl rfl ?_
  refine wj_iconst C (v := 2) dL_law_1119 (by decide +kernel) ?_
  refine wj_iadd C dL_law_1120 ?_
  refine wl_sld C hS (wl_in hc hL 2 (by decide) (by decide +kernel)) dL_law_1121 ?_
  refine wj_ci C (wj_rV C dL_law_1122 km_X5_hold kl_L_141 is_X5 rfl rfl hM3 (As := [.int (xs (nI (6 * c) + 1).toNatClampNeg), .int (xs (nI (6 * c) + 2).toNatClampNeg)]) (rest := [.int r]) rfl rfl (Nat.le_of_ble_eq_true rfl) ⟨by decide, by decide⟩) (fun r2 u2 hq2 => ?_)
  obtain ⟨rfl, hA⟩ := hQ2 r2 u2 hq2
  exact wj_icmp_eq C 1443 dL_law_1125 (by decide) (fun _ => K u2 hA) (fun h => absurd rfl h)
set_option maxHeartbeats 4000000 in
theorem wl_as (C : wj_C l V X cL_law 4 RL 13 508) (hS : wl_S V X b L xs) (hc : 6 * c + 6 ≤ L) (hL : L ≤ 3072) (h : ws_A c σ) (K : ∀ u, ws_A (c + 1) u → wj_J l V X 1443 [some (.ref b), some (.ref (V.2.2.1 0)), some (.ref (V.2.2.1 48)), some (.int (nI (6 * c)))] [] u) : wj_J l V X 1130 [some (.ref b), some (.ref (V.2.2.1 0)), some (.ref (V.2.2.1 48)), some (.int (nI (6 * c)))] [] σ := by
  obtain ⟨v, P, Q1, hM1, hQ1, hM2⟩ := st_as l V h (by omega) (xs (nI (6 * c) + 1).toNatClampNeg) (xs (nI (6 * c) + 2).toNatClampNeg)
  refine wj_aload_n C 1 dL_law_1130 rfl rfl ?_
  refine wj_aload_n C 0 dL_law_1131 rfl rfl ?_
  refine wj_iload_n C 3 dL_law_1132 rfl rfl ?_
  refine wj_iconst C (v := 1) dL_law_1133 (by decide +kernel) ?_
  refine wj_iadd C dL_law_1134 ?_
  refine wl_sld C hS (wl_in hc hL 1 (by decide) (by decide +kernel)) dL_law_1135 ?_
  refine wj_aload_n C 0 dL_law_1136 rfl rfl ?_
  refine wj_iload_n C 3 dL_law_1137 rfl rfl ?_
  refine wj_iconst C (v := 2) dL_law_1138 (by decide +kernel) ?_
  refine wj_iadd C dL_law_1139 ?_
  refine wl_sld C hS (wl_in hc hL 2 (by decide) (by decide +kernel)) dL_law_1140 ?_
  refine wj_ci C (wj_rV C dL_law_1141 km_X4_as kl_L_142 is_X4 rfl rfl hM1 (As := [.int (xs (nI (6 * c) + 1).toNatClampNeg), .int (xs (nI (6 * c) + 2).toNatClampNeg)]) (rest := []) rfl rfl (Nat.le_of_ble_eq_true rfl) ⟨by decide, by decide⟩) (fun r u hq => ?_)
  obtain ⟨rfl, hu⟩ := hQ1 r u hq
  obtain ⟨Q2, hM3, hQ2⟩ := hM2 u hu
  refine wj_aload_n C 2 dL_law_1144 rfl rfl ?_
  refine wj_aload_n C 0 dL_law_1145 rfl rfl ?_
  refine wj_iload_n C 3 dL_law_1146 rfl rfl ?_
  refine wj_iconst C (v := 1) dL_law_1147 (by decide +kernel) ?_
  refine wj_iadd C dL_law_1148 ?_
  refine wl_sld C hS (wl_in hc hL 1 (by decide) (by decide +kernel)) dL_law_1149 ?_
  refine wj_aload_n C 0 dL_law_1150 rfl rfl ?_
  refine wj_iload_n C 3 dL_law_1151 rfl rfl ?_
  refine wj_iconst C (v := 2) dL_law_1152 (by decide +kernel) ?_
  refine wj_iadd C dL_law_1153 ?_
  refine wl_sld C hS (wl_in hc hL 2 (by decide) (by decide +kernel)) dL_law_1154 ?_
  refine wj_ci C (wj_rV C dL_law_1155 km_X5_as kl_L_145 is_X5 rfl rfl hM3 (As := [.int (xs (nI (6 * c) + 1).toNatClampNeg), .int (xs (nI (6 * c) + 2).toNatClampNeg)]) (rest := [.int r]) rfl rfl (Nat.le_of_ble_eq_true rfl) ⟨by decide, by decide⟩) (fun r2 u2 hq2 => ?_)
  obtain ⟨rfl, hA⟩ := hQ2 r2 u2 hq2
  exact wj_icmp_eq C 1443 dL_law_1158 (by decide) (fun _ => K u2 hA) (fun h => absurd rfl h)
set_option maxHeartbeats 4000000 in
theorem wl_sheet (C : wj_C l V X cL_law 4 RL 13 508) (hS : wl_S V X b L xs) (hc : 6 * c + 6 ≤ L) (hL : L ≤ 3072) (h : ws_A c σ) (K : ∀ u, ws_A (c + 1) u → wj_J l V X 1443 [some (.ref b), some (.ref (V.2.2.1 0)), some (.ref (V.2.2.1 48)), some (.int (nI (6 * c)))] [] u) : wj_J l V X 1163 [some (.ref b), some (.ref (V.2.2.1 0)), some (.ref (V.2.2.1 48)), some (.int (nI (6 * c)))] [] σ := by
  obtain ⟨v, P, Q1, hM1, hQ1, hM2⟩ := st_sheet l V h (by omega) (xs (nI (6 * c) + 1).toNatClampNeg) (xs (nI (6 * c) + 2).toNatClampNeg) (xs (nI (6 * c) + 3).toNatClampNeg)
  refine wj_aload_n C 1 dL_law_1163 rfl rfl ?_
  refine wj_aload_n C 0 dL_law_1164 rfl rfl ?_
  refine wj_iload_n C 3 dL_law_1165 rfl rfl ?_
  refine wj_iconst C (v := 1) dL_law_1166 (by decide +kernel) ?_
  refine wj_iadd C dL_law_1167 ?_
  refine wl_sld C hS (wl_in hc hL 1 (by decide) (by decide +kernel)) dL_law_1168 ?_
  refine wj_aload_n C 0 dL_law_1169 rfl rfl ?_
  refine wj_iload_n C 3 dL_law_1170 rfl rfl ?_
  refine wj_iconst C (v := 2) dL_law_1171 (by decide +kernel) ?_
  refine wj_iadd C dL_law_1172 ?_
  refine wl_sld C hS (wl_in hc hL 2 (by decide) (by decide +kernel)) dL_law_1173 ?_
  refine wj_aload_n C 0 dL_law_1174 rfl rfl ?_
  refine wj_iload_n C 3 dL_law_1175 rfl rfl ?_
  refine wj_iconst C (v := 3) dL_law_1176 (by decide +kernel) ?_
  refine wj_iadd C dL_law_1177 ?_
  refine wl_sld C hS (wl_in hc hL 3 (by decide) (by decide +kernel)) dL_law_1178 ?_
  refine wj_ci C (wj_rV C dL_law_1179 km_X4_sheet kl_L_146 is_X4 rfl rfl hM1 (As := [.int (xs (nI (6 * c) + 1).toNatClampNeg), .int (xs (nI (6 * c) + 2).toNatClampNeg), .int (xs (nI (6 * c) + 3).toNatClampNeg)]) (rest := []) rfl rfl (Nat.le_of_ble_eq_true rfl) ⟨by decide, by decide⟩) (fun r u hq => ?_)
  obtain ⟨rfl, hu⟩ := hQ1 r u hq
  obtain ⟨Q2, hM3, hQ2⟩ := hM2 u hu
  refine wj_aload_n C 2 dL_law_1182 rfl rfl ?_
  refine wj_aload_n C 0 dL_law_1183 rfl rfl ?_
  refine wj_iload_n C 3 dL_law_1184 rfl rfl ?_
  refine wj_iconst C (v := 1) dL_law_1185 (by decide +kernel) ?_
  refine wj_iadd C dL_law_1186 ?_
  refine wl_sld C hS (wl_in hc hL 1 (by decide) (by decide +kernel)) dL_law_1187 ?_
  refine wj_aload_n C 0 dL_law_1188 rfl rfl ?_
  refine wj_iload_n C 3 dL_law_1189 rfl rfl ?_
  refine wj_iconst C (v := 2) dL_law_1190 (by decide +kernel) ?_
  refine wj_iadd C dL_law_1191 ?_
  refine wl_sld C hS (wl_in hc hL 2 (by decide) (by decide +kernel)) dL_law_1192 ?_
  refine wj_aload_n C 0 dL_law_1193 rfl rfl ?_
  refine wj_iload_n C 3 dL_law_1194 rfl rfl ?_
  refine wj_iconst C (v := 3) dL_law_1195 (by decide +kernel) ?_
  refine wj_iadd C dL_law_1196 ?_
  refine wl_sld C hS (wl_in hc hL 3 (by decide) (by decide +kernel)) dL_law_1197 ?_
  refine wj_ci C (wj_rV C dL_law_1198 km_X5_sheet kl_L_149 is_X5 rfl rfl hM3 (As := [.int (xs (nI (6 * c) + 1).toNatClampNeg), .int (xs (nI (6 * c) + 2).toNatClampNeg), .int (xs (nI (6 * c) + 3).toNatClampNeg)]) (rest := [.int r]) rfl rfl (Nat.le_of_ble_eq_true rfl) ⟨by decide, by decide⟩) (fun r2 u2 hq2 => ?_)
  obtain ⟨rfl, hA⟩ := hQ2 r2 u2 hq2
  exact wj_icmp_eq C 1443 dL_law_1201 (by decide) (fun _ => K u2 hA) (fun h => absurd rfl h)
set_option maxHeartbeats 4000000 in
theorem wl_write (C : wj_C l V X cL_law 4 RL 13 508) (hS : wl_S V X b L xs) (hc : 6 * c + 6 ≤ L) (hL : L ≤ 3072) (h : ws_A c σ) (K : ∀ u, ws_A (c + 1) u → wj_J l V X 1443 [some (.ref b), some (.ref (V.2.2.1 0)), some (.ref (V.2.2.1 48)), some (.int (nI (6 * c)))] [] u) : wj_J l V X 1206 [some (.ref b), some (.ref (V.2.2.1 0)), some (.ref (V.2.2.1 48)), some (.int (nI (6 * c)))] [] σ := by
  obtain ⟨v, P, Q1, hM1, hQ1, hM2⟩ := st_write l V h (by omega) (xs (nI (6 * c) + 1).toNatClampNeg) (xs (nI (6 * c) + 2).toNatClampNeg) (xs (nI (6 * c) + 3).toNatClampNeg)
  refine wj_aload_n C 1 dL_law_1206 rfl rfl ?_
  refine wj_aload_n C 0 dL_law_1207 rfl rfl ?_
  refine wj_iload_n C 3 dL_law_1208 rfl rfl ?_
  refine wj_iconst C (v := 1) dL_law_1209 (by decide +kernel) ?_
  refine wj_iadd C dL_law_1210 ?_
  refine wl_sld C hS (wl_in hc hL 1 (by decide) (by decide +kernel)) dL_law_1211 ?_
  refine wj_aload_n C 0 dL_law_1212 rfl rfl ?_
  refine wj_iload_n C 3 dL_law_1213 rfl rfl ?_
  refine wj_iconst C (v := 2) dL_law_1214 (by decide +kernel) ?_
  refine wj_iadd C dL_law_1215 ?_
  refine wl_sld C hS (wl_in hc hL 2 (by decide) (by decide +kernel)) dL_law_1216 ?_
  refine wj_aload_n C 0 dL_law_1217 rfl rfl ?_
  refine wj_iload_n C 3 dL_law_1218 rfl rfl ?_
  refine wj_iconst C (v := 3) dL_law_1219 (by decide +kernel) ?_
  refine wj_iadd C dL_law_1220 ?_
  refine wl_sld C hS (wl_in hc hL 3 (by decide) (by decide +kernel)) dL_law_1221 ?_
  refine wj_ci C (wj_rV C dL_law_1222 km_X4_write kl_L_150 is_X4 rfl rfl hM1 (As := [.int (xs (nI (6 * c) + 1).toNatClampNeg), .int (xs (nI (6 * c) + 2).toNatClampNeg), .int (xs (nI (6 * c) + 3).toNatClampNeg)]) (rest := []) rfl rfl (Nat.le_of_ble_eq_true rfl) ⟨by decide, by decide⟩) (fun r u hq => ?_)
  obtain ⟨rfl, hu⟩ := hQ1 r u hq
  obtain ⟨Q2, hM3, hQ2⟩ := hM2 u hu
  refine wj_aload_n C 2 dL_law_1225 rfl rfl ?_
  refine wj_aload_n C 0 dL_law_1226 rfl rfl ?_
  refine wj_iload_n C 3 dL_law_1227 rfl rfl ?_
  refine wj_iconst C (v := 1) dL_law_1228 (by decide +kernel) ?_
  refine wj_iadd C dL_law_1229 ?_
  refine wl_sld C hS (wl_in hc hL 1 (by decide) (by decide +kernel)) dL_law_1230 ?_
  refine wj_aload_n C 0 dL_law_1231 rfl rfl ?_
  refine wj_iload_n C 3 dL_law_1232 rfl rfl ?_
  refine wj_iconst C (v := 2) dL_law_1233 (by decide +kernel) ?_
  refine wj_iadd C dL_law_1234 ?_
  refine wl_sld C hS (wl_in hc hL 2 (by decide) (by decide +kernel)) dL_law_1235 ?_
  refine wj_aload_n C 0 dL_law_1236 rfl rfl ?_
  refine wj_iload_n C 3 dL_law_1237 rfl rfl ?_
  refine wj_iconst C (v := 3) dL_law_1238 (by decide +kernel) ?_
  refine wj_iadd C dL_law_1239 ?_
  refine wl_sld C hS (wl_in hc hL 3 (by decide) (by decide +kernel)) dL_law_1240 ?_
  refine wj_ci C (wj_rV C dL_law_1241 km_X5_write kl_L_153 is_X5 rfl rfl hM3 (As := [.int (xs (nI (6 * c) + 1).toNatClampNeg), .int (xs (nI (6 * c) + 2).toNatClampNeg), .int (xs (nI (6 * c) + 3).toNatClampNeg)]) (rest := [.int r]) rfl rfl (Nat.le_of_ble_eq_true rfl) ⟨by decide, by decide⟩) (fun r2 u2 hq2 => ?_)
  obtain ⟨rfl, hA⟩ := hQ2 r2 u2 hq2
  exact wj_icmp_eq C 1443 dL_law_1244 (by decide) (fun _ => K u2 hA) (fun h => absurd rfl h)
set_option maxHeartbeats 4000000 in
theorem wl_copy (C : wj_C l V X cL_law 4 RL 13 508) (hS : wl_S V X b L xs) (hc : 6 * c + 6 ≤ L) (hL : L ≤ 3072) (h : ws_A c σ) (K : ∀ u, ws_A (c + 1) u → wj_J l V X 1443 [some (.ref b), some (.ref (V.2.2.1 0)), some (.ref (V.2.2.1 48)), some (.int (nI (6 * c)))] [] u) : wj_J l V X 1249 [some (.ref b), some (.ref (V.2.2.1 0)), some (.ref (V.2.2.1 48)), some (.int (nI (6 * c)))] [] σ := by
  obtain ⟨v, P, Q1, hM1, hQ1, hM2⟩ := st_copy l V h (by omega) (xs (nI (6 * c) + 1).toNatClampNeg) (xs (nI (6 * c) + 2).toNatClampNeg) (xs (nI (6 * c) + 3).toNatClampNeg) (xs (nI (6 * c) + 4).toNatClampNeg) (xs (nI (6 * c) + 5).toNatClampNeg)
  refine wj_aload_n C 1 dL_law_1249 rfl rfl ?_
  refine wj_aload_n C 0 dL_law_1250 rfl rfl ?_
  refine wj_iload_n C 3 dL_law_1251 rfl rfl ?_
  refine wj_iconst C (v := 1) dL_law_1252 (by decide +kernel) ?_
  refine wj_iadd C dL_law_1253 ?_
  refine wl_sld C hS (wl_in hc hL 1 (by decide) (by decide +kernel)) dL_law_1254 ?_
  refine wj_aload_n C 0 dL_law_1255 rfl rfl ?_
  refine wj_iload_n C 3 dL_law_1256 rfl rfl ?_
  refine wj_iconst C (v := 2) dL_law_1257 (by decide +kernel) ?_
  refine wj_iadd C dL_law_1258 ?_
  refine wl_sld C hS (wl_in hc hL 2 (by decide) (by decide +kernel)) dL_law_1259 ?_
  refine wj_aload_n C 0 dL_law_1260 rfl rfl ?_
  refine wj_iload_n C 3 dL_law_1261 rfl rfl ?_
  refine wj_iconst C (v := 3) dL_law_1262 (by decide +kernel) ?_
  refine wj_iadd C dL_law_1263 ?_
  refine wl_sld C hS (wl_in hc hL 3 (by decide) (by decide +kernel)) dL_law_1264 ?_
  refine wj_aload_n C 0 dL_law_1265 rfl rfl ?_
  refine wj_iload_n C 3 dL_law_1266 rfl rfl ?_
  refine wj_iconst C (v := 4) dL_law_1267 (by decide +kernel) ?_
  refine wj_iadd C dL_law_1268 ?_
  refine wl_sld C hS (wl_in hc hL 4 (by decide) (by decide +kernel)) dL_law_1269 ?_
  refine wj_aload_n C 0 dL_law_1270 rfl rfl ?_
  refine wj_iload_n C 3 dL_law_1271 rfl rfl ?_
  refine wj_iconst C (v := 5) dL_law_1272 (by decide +kernel) ?_
  refine wj_iadd C dL_law_1273 ?_
  refine wl_sld C hS (wl_in hc hL 5 (by decide) (by decide +kernel)) dL_law_1274 ?_
  refine wj_ci C (wj_rV C dL_law_1275 km_X4_copy kl_L_154 is_X4 rfl rfl hM1 (As := [.int (xs (nI (6 * c) + 1).toNatClampNeg), .int (xs (nI (6 * c) + 2).toNatClampNeg), .int (xs (nI (6 * c) + 3).toNatClampNeg), .int (xs (nI (6 * c) + 4).toNatClampNeg), .int (xs (nI (6 * c) + 5).toNatClampNeg)]) (rest := []) rfl rfl (Nat.le_of_ble_eq_true rfl) ⟨by decide, by decide⟩) (fun r u hq => ?_)
  obtain ⟨rfl, hu⟩ := hQ1 r u hq
  obtain ⟨Q2, hM3, hQ2⟩ := hM2 u hu
  refine wj_aload_n C 2 dL_law_1278 rfl rfl ?_
  refine wj_aload_n C 0 dL_law_1279 rfl rfl ?_
  refine wj_iload_n C 3 dL_law_1280 rfl rfl ?_
  refine wj_iconst C (v := 1) dL_law_1281 (by decide +kernel) ?_
  refine wj_iadd C dL_law_1282 ?_
  refine wl_sld C hS (wl_in hc hL 1 (by decide) (by decide +kernel)) dL_law_1283 ?_
  refine wj_aload_n C 0 dL_law_1284 rfl rfl ?_
  refine wj_iload_n C 3 dL_law_1285 rfl rfl ?_
  refine wj_iconst C (v := 2) dL_law_1286 (by decide +kernel) ?_
  refine wj_iadd C dL_law_1287 ?_
  refine wl_sld C hS (wl_in hc hL 2 (by decide) (by decide +kernel)) dL_law_1288 ?_
  refine wj_aload_n C 0 dL_law_1289 rfl rfl ?_
  refine wj_iload_n C 3 dL_law_1290 rfl rfl ?_
  refine wj_iconst C (v := 3) dL_law_1291 (by decide +kernel) ?_
  refine wj_iadd C dL_law_1292 ?_
  refine wl_sld C hS (wl_in hc hL 3 (by decide) (by decide +kernel)) dL_law_1293 ?_
  refine wj_aload_n C 0 dL_law_1294 rfl rfl ?_
  refine wj_iload_n C 3 dL_law_1295 rfl rfl ?_
  refine wj_iconst C (v := 4) dL_law_1296 (by decide +kernel) ?_
  refine wj_iadd C dL_law_1297 ?_
  refine wl_sld C hS (wl_in hc hL 4 (by decide) (by decide +kernel)) dL_law_1298 ?_
  refine wj_aload_n C 0 dL_law_1299 rfl rfl ?_
  refine wj_iload_n C 3 dL_law_1300 rfl rfl ?_
  refine wj_iconst C (v := 5) dL_law_1301 (by decide +kernel) ?_
  refine wj_iadd C dL_law_1302 ?_
  refine wl_sld C hS (wl_in hc hL 5 (by decide) (by decide +kernel)) dL_law_1303 ?_
  refine wj_ci C (wj_rV C dL_law_1304 km_X5_copy kl_L_158 is_X5 rfl rfl hM3 (As := [.int (xs (nI (6 * c) + 1).toNatClampNeg), .int (xs (nI (6 * c) + 2).toNatClampNeg), .int (xs (nI (6 * c) + 3).toNatClampNeg), .int (xs (nI (6 * c) + 4).toNatClampNeg), .int (xs (nI (6 * c) + 5).toNatClampNeg)]) (rest := [.int r]) rfl rfl (Nat.le_of_ble_eq_true rfl) ⟨by decide, by decide⟩) (fun r2 u2 hq2 => ?_)
  obtain ⟨rfl, hA⟩ := hQ2 r2 u2 hq2
  exact wj_icmp_eq C 1443 dL_law_1307 (by decide) (fun _ => K u2 hA) (fun h => absurd rfl h)
set_option maxHeartbeats 4000000 in
theorem wl_load (C : wj_C l V X cL_law 4 RL 13 508) (hS : wl_S V X b L xs) (hc : 6 * c + 6 ≤ L) (hL : L ≤ 3072) (h : ws_A c σ) (K : ∀ u, ws_A (c + 1) u → wj_J l V X 1443 [some (.ref b), some (.ref (V.2.2.1 0)), some (.ref (V.2.2.1 48)), some (.int (nI (6 * c)))] [] u) : wj_J l V X 1312 [some (.ref b), some (.ref (V.2.2.1 0)), some (.ref (V.2.2.1 48)), some (.int (nI (6 * c)))] [] σ := by
  obtain ⟨v, P, Q1, hM1, hQ1, hM2⟩ := st_load l V h (by omega) (xs (nI (6 * c) + 1).toNatClampNeg)
  refine wj_aload_n C 1 dL_law_1312 rfl rfl ?_
  refine wj_aload_n C 0 dL_law_1313 rfl rfl ?_
  refine wj_iload_n C 3 dL_law_1314 rfl rfl ?_
  refine wj_iconst C (v := 1) dL_law_1315 (by decide +kernel) ?_
  refine wj_iadd C dL_law_1316 ?_
  refine wl_sld C hS (wl_in hc hL 1 (by decide) (by decide +kernel)) dL_law_1317 ?_
  refine wj_ci C (wj_rV C dL_law_1318 km_X4_load kl_L_159 is_X4 rfl rfl hM1 (As := [.int (xs (nI (6 * c) + 1).toNatClampNeg)]) (rest := []) rfl rfl (Nat.le_of_ble_eq_true rfl) ⟨by decide, by decide⟩) (fun r u hq => ?_)
  obtain ⟨rfl, hu⟩ := hQ1 r u hq
  obtain ⟨Q2, hM3, hQ2⟩ := hM2 u hu
  refine wj_aload_n C 2 dL_law_1321 rfl rfl ?_
  refine wj_aload_n C 0 dL_law_1322 rfl rfl ?_
  refine wj_iload_n C 3 dL_law_1323 rfl rfl ?_
  refine wj_iconst C (v := 1) dL_law_1324 (by decide +kernel) ?_
  refine wj_iadd C dL_law_1325 ?_
  refine wl_sld C hS (wl_in hc hL 1 (by decide) (by decide +kernel)) dL_law_1326 ?_
  refine wj_ci C (wj_rV C dL_law_1327 km_X5_load kl_L_162 is_X5 rfl rfl hM3 (As := [.int (xs (nI (6 * c) + 1).toNatClampNeg)]) (rest := [.int r]) rfl rfl (Nat.le_of_ble_eq_true rfl) ⟨by decide, by decide⟩) (fun r2 u2 hq2 => ?_)
  obtain ⟨rfl, hA⟩ := hQ2 r2 u2 hq2
  exact wj_icmp_eq C 1443 dL_law_1330 (by decide) (fun _ => K u2 hA) (fun h => absurd rfl h)
set_option maxHeartbeats 4000000 in
theorem wl_judge (C : wj_C l V X cL_law 4 RL 13 508) (hS : wl_S V X b L xs) (hc : 6 * c + 6 ≤ L) (hL : L ≤ 3072) (h : ws_A c σ) (K : ∀ u, ws_A (c + 1) u → wj_J l V X 1443 [some (.ref b), some (.ref (V.2.2.1 0)), some (.ref (V.2.2.1 48)), some (.int (nI (6 * c)))] [] u) : wj_J l V X 1335 [some (.ref b), some (.ref (V.2.2.1 0)), some (.ref (V.2.2.1 48)), some (.int (nI (6 * c)))] [] σ := by
  obtain ⟨v, P, Q1, hM1, hQ1, hM2⟩ := st_judge l V h (by omega) (xs (nI (6 * c) + 1).toNatClampNeg)
  refine wj_aload_n C 1 dL_law_1335 rfl rfl ?_
  refine wj_aload_n C 0 dL_law_1336 rfl rfl ?_
  refine wj_iload_n C 3 dL_law_1337 rfl rfl ?_
  refine wj_iconst C (v := 1) dL_law_1338 (by decide +kernel) ?_
  refine wj_iadd C dL_law_1339 ?_
  refine wl_sld C hS (wl_in hc hL 1 (by decide) (by decide +kernel)) dL_law_1340 ?_
  refine wj_ci C (wj_rV C dL_law_1341 km_X4_judge kl_L_163 is_X4 rfl rfl hM1 (As := [.int (xs (nI (6 * c) + 1).toNatClampNeg)]) (rest := []) rfl rfl (Nat.le_of_ble_eq_true rfl) ⟨by decide, by decide⟩) (fun r u hq => ?_)
  obtain ⟨rfl, hu⟩ := hQ1 r u hq
  obtain ⟨Q2, hM3, hQ2⟩ := hM2 u hu
  refine wj_aload_n C 2 dL_law_1344 rfl rfl ?_
  refine wj_aload_n C 0 dL_law_1345 rfl rfl ?_
  refine wj_iload_n C 3 dL_law_1346 rfl rfl ?_
  refine wj_iconst C (v := 1) dL_law_1347 (by decide +kernel) ?_
  refine wj_iadd C dL_law_1348 ?_
  refine wl_sld C hS (wl_in hc hL 1 (by decide) (by decide +kernel)) dL_law_1349 ?_
  refine wj_ci C (wj_rV C dL_law_1350 km_X5_judge kl_L_166 is_X5 rfl rfl hM3 (As := [.int (xs (nI (6 * c) + 1).toNatClampNeg)]) (rest := [.int r]) rfl rfl (Nat.le_of_ble_eq_true rfl) ⟨by decide, by decide⟩) (fun r2 u2 hq2 => ?_)
  obtain ⟨rfl, hA⟩ := hQ2 r2 u2 hq2
  exact wj_icmp_eq C 1443 dL_law_1353 (by decide) (fun _ => K u2 hA) (fun h => absurd rfl h)
set_option maxHeartbeats 4000000 in
theorem wl_image (C : wj_C l V X cL_law 4 RL 13 508) (hS : wl_S V X b L xs) (hc : 6 * c + 6 ≤ L) (hL : L ≤ 3072) (h : ws_A c σ) (K : ∀ u, ws_A (c + 1) u → wj_J l V X 1443 [some (.ref b), some (.ref (V.2.2.1 0)), some (.ref (V.2.2.1 48)), some (.int (nI (6 * c)))] [] u) : wj_J l V X 1358 [some (.ref b), some (.ref (V.2.2.1 0)), some (.ref (V.2.2.1 48)), some (.int (nI (6 * c)))] [] σ := by
  obtain ⟨v, P, Q1, hM1, hQ1, hM2⟩ := st_image l V h (by omega)
  refine wj_aload_n C 1 dL_law_1358 rfl rfl ?_
  refine wj_ci C (wj_rV C dL_law_1359 km_X4_image kl_L_167 is_X4 rfl rfl hM1 (As := []) (rest := []) rfl rfl (Nat.le_of_ble_eq_true rfl) ⟨by decide, by decide⟩) (fun r u hq => ?_)
  obtain ⟨rfl, hu⟩ := hQ1 r u hq
  obtain ⟨Q2, hM3, hQ2⟩ := hM2 u hu
  refine wj_aload_n C 2 dL_law_1362 rfl rfl ?_
  refine wj_ci C (wj_rV C dL_law_1363 km_X5_image kl_L_170 is_X5 rfl rfl hM3 (As := []) (rest := [.int r]) rfl rfl (Nat.le_of_ble_eq_true rfl) ⟨by decide, by decide⟩) (fun r2 u2 hq2 => ?_)
  obtain ⟨rfl, hA⟩ := hQ2 r2 u2 hq2
  exact wj_icmp_eq C 1443 dL_law_1366 (by decide) (fun _ => K u2 hA) (fun h => absurd rfl h)
set_option maxHeartbeats 4000000 in
theorem wl_undo (C : wj_C l V X cL_law 4 RL 13 508) (hS : wl_S V X b L xs) (hc : 6 * c + 6 ≤ L) (hL : L ≤ 3072) (h : ws_A c σ) (K : ∀ u, ws_A (c + 1) u → wj_J l V X 1443 [some (.ref b), some (.ref (V.2.2.1 0)), some (.ref (V.2.2.1 48)), some (.int (nI (6 * c)))] [] u) : wj_J l V X 1371 [some (.ref b), some (.ref (V.2.2.1 0)), some (.ref (V.2.2.1 48)), some (.int (nI (6 * c)))] [] σ := by
  obtain ⟨v, P, Q1, hM1, hQ1, hM2⟩ := st_undo l V h (by omega)
  refine wj_aload_n C 1 dL_law_1371 rfl rfl ?_
  refine wj_ci C (wj_rV C dL_law_1372 km_X4_undo kl_L_171 is_X4 rfl rfl hM1 (As := []) (rest := []) rfl rfl (Nat.le_of_ble_eq_true rfl) ⟨by decide, by decide⟩) (fun r u hq => ?_)
  obtain ⟨rfl, hu⟩ := hQ1 r u hq
  obtain ⟨Q2, hM3, hQ2⟩ := hM2 u hu
  refine wj_aload_n C 2 dL_law_1375 rfl rfl ?_
  refine wj_ci C (wj_rV C dL_law_1376 km_X5_undo kl_L_174 is_X5 rfl rfl hM3 (As := []) (rest := [.int r]) rfl rfl (Nat.le_of_ble_eq_true rfl) ⟨by decide, by decide⟩) (fun r2 u2 hq2 => ?_)
  obtain ⟨rfl, hA⟩ := hQ2 r2 u2 hq2
  exact wj_icmp_eq C 1443 dL_law_1379 (by decide) (fun _ => K u2 hA) (fun h => absurd rfl h)
set_option maxHeartbeats 4000000 in
theorem wl_tear (C : wj_C l V X cL_law 4 RL 13 508) (hS : wl_S V X b L xs) (hc : 6 * c + 6 ≤ L) (hL : L ≤ 3072) (h : ws_A c σ) (K : ∀ u, ws_A (c + 1) u → wj_J l V X 1443 [some (.ref b), some (.ref (V.2.2.1 0)), some (.ref (V.2.2.1 48)), some (.int (nI (6 * c)))] [] u) : wj_J l V X 1384 [some (.ref b), some (.ref (V.2.2.1 0)), some (.ref (V.2.2.1 48)), some (.int (nI (6 * c)))] [] σ := by
  obtain ⟨v, P, Q1, hM1, hQ1, hM2⟩ := st_tear l V h (by omega)
  refine wj_aload_n C 1 dL_law_1384 rfl rfl ?_
  refine wj_ci C (wj_rV C dL_law_1385 km_X4_tear kl_L_175 is_X4 rfl rfl hM1 (As := []) (rest := []) rfl rfl (Nat.le_of_ble_eq_true rfl) ⟨by decide, by decide⟩) (fun r u hq => ?_)
  obtain ⟨rfl, hu⟩ := hQ1 r u hq
  obtain ⟨Q2, hM3, hQ2⟩ := hM2 u hu
  refine wj_aload_n C 2 dL_law_1388 rfl rfl ?_
  refine wj_ci C (wj_rV C dL_law_1389 km_X5_tear kl_L_178 is_X5 rfl rfl hM3 (As := []) (rest := [.int r]) rfl rfl (Nat.le_of_ble_eq_true rfl) ⟨by decide, by decide⟩) (fun r2 u2 hq2 => ?_)
  obtain ⟨rfl, hA⟩ := hQ2 r2 u2 hq2
  exact wj_icmp_eq C 1443 dL_law_1392 (by decide) (fun _ => K u2 hA) (fun h => absurd rfl h)
set_option maxHeartbeats 4000000 in
theorem wl_count (C : wj_C l V X cL_law 4 RL 13 508) (hS : wl_S V X b L xs) (hc : 6 * c + 6 ≤ L) (hL : L ≤ 3072) (h : ws_A c σ) (K : ∀ u, ws_A (c + 1) u → wj_J l V X 1443 [some (.ref b), some (.ref (V.2.2.1 0)), some (.ref (V.2.2.1 48)), some (.int (nI (6 * c)))] [] u) : wj_J l V X 1397 [some (.ref b), some (.ref (V.2.2.1 0)), some (.ref (V.2.2.1 48)), some (.int (nI (6 * c)))] [] σ := by
  obtain ⟨v, P, Q1, hM1, hQ1, hM2⟩ := st_count l V h (by omega) (xs (nI (6 * c) + 1).toNatClampNeg)
  refine wj_aload_n C 1 dL_law_1397 rfl rfl ?_
  refine wj_aload_n C 0 dL_law_1398 rfl rfl ?_
  refine wj_iload_n C 3 dL_law_1399 rfl rfl ?_
  refine wj_iconst C (v := 1) dL_law_1400 (by decide +kernel) ?_
  refine wj_iadd C dL_law_1401 ?_
  refine wl_sld C hS (wl_in hc hL 1 (by decide) (by decide +kernel)) dL_law_1402 ?_
  refine wj_ci C (wj_rV C dL_law_1403 km_X4_count kl_L_179 is_X4 rfl rfl hM1 (As := [.int (xs (nI (6 * c) + 1).toNatClampNeg)]) (rest := []) rfl rfl (Nat.le_of_ble_eq_true rfl) ⟨by decide, by decide⟩) (fun r u hq => ?_)
  obtain ⟨rfl, hu⟩ := hQ1 r u hq
  obtain ⟨Q2, hM3, hQ2⟩ := hM2 u hu
  refine wj_aload_n C 2 dL_law_1406 rfl rfl ?_
  refine wj_aload_n C 0 dL_law_1407 rfl rfl ?_
  refine wj_iload_n C 3 dL_law_1408 rfl rfl ?_
  refine wj_iconst C (v := 1) dL_law_1409 (by decide +kernel) ?_
  refine wj_iadd C dL_law_1410 ?_
  refine wl_sld C hS (wl_in hc hL 1 (by decide) (by decide +kernel)) dL_law_1411 ?_
  refine wj_ci C (wj_rV C dL_law_1412 km_X5_count kl_L_182 is_X5 rfl rfl hM3 (As := [.int (xs (nI (6 * c) + 1).toNatClampNeg)]) (rest := [.int r]) rfl rfl (Nat.le_of_ble_eq_true rfl) ⟨by decide, by decide⟩) (fun r2 u2 hq2 => ?_)
  obtain ⟨rfl, hA⟩ := hQ2 r2 u2 hq2
  exact wj_icmp_eq C 1443 dL_law_1415 (by decide) (fun _ => K u2 hA) (fun h => absurd rfl h)
set_option maxHeartbeats 4000000 in
theorem wl_status (C : wj_C l V X cL_law 4 RL 13 508) (hS : wl_S V X b L xs) (hc : 6 * c + 6 ≤ L) (hL : L ≤ 3072) (h : ws_A c σ) (K : ∀ u, ws_A (c + 1) u → wj_J l V X 1443 [some (.ref b), some (.ref (V.2.2.1 0)), some (.ref (V.2.2.1 48)), some (.int (nI (6 * c)))] [] u) : wj_J l V X 1420 [some (.ref b), some (.ref (V.2.2.1 0)), some (.ref (V.2.2.1 48)), some (.int (nI (6 * c)))] [] σ := by
  obtain ⟨v, P, Q1, hM1, hQ1, hM2⟩ := st_status l V h (by omega) (xs (nI (6 * c) + 1).toNatClampNeg)
  refine wj_aload_n C 1 dL_law_1420 rfl rfl ?_
  refine wj_aload_n C 0 dL_law_1421 rfl rfl ?_
  refine wj_iload_n C 3 dL_law_1422 rfl rfl ?_
  refine wj_iconst C (v := 1) dL_law_1423 (by decide +kernel) ?_
  refine wj_iadd C dL_law_1424 ?_
  refine wl_sld C hS (wl_in hc hL 1 (by decide) (by decide +kernel)) dL_law_1425 ?_
  refine wj_ci C (wj_rV C dL_law_1426 km_X4_status kl_L_183 is_X4 rfl rfl hM1 (As := [.int (xs (nI (6 * c) + 1).toNatClampNeg)]) (rest := []) rfl rfl (Nat.le_of_ble_eq_true rfl) ⟨by decide, by decide⟩) (fun r u hq => ?_)
  obtain ⟨rfl, hu⟩ := hQ1 r u hq
  obtain ⟨Q2, hM3, hQ2⟩ := hM2 u hu
  refine wj_aload_n C 2 dL_law_1429 rfl rfl ?_
  refine wj_aload_n C 0 dL_law_1430 rfl rfl ?_
  refine wj_iload_n C 3 dL_law_1431 rfl rfl ?_
  refine wj_iconst C (v := 1) dL_law_1432 (by decide +kernel) ?_
  refine wj_iadd C dL_law_1433 ?_
  refine wl_sld C hS (wl_in hc hL 1 (by decide) (by decide +kernel)) dL_law_1434 ?_
  refine wj_ci C (wj_rV C dL_law_1435 km_X5_status kl_L_186 is_X5 rfl rfl hM3 (As := [.int (xs (nI (6 * c) + 1).toNatClampNeg)]) (rest := [.int r]) rfl rfl (Nat.le_of_ble_eq_true rfl) ⟨by decide, by decide⟩) (fun r2 u2 hq2 => ?_)
  obtain ⟨rfl, hA⟩ := hQ2 r2 u2 hq2
  exact wj_icmp_eq C 1443 dL_law_1438 (by decide) (fun _ => K u2 hA) (fun h => absurd rfl h)
end WLC

/-! which words stand in the tables, by place; the fields of each class; what each cell is (laid by wip/whole/tools/gen_words.py) -/
section WX
variable {l : Launch} {V : wj_V} {X : wj_X} {cc : ByteArray} {nL : Nat} {own : String} {fr lo : Nat} {pc : Nat} {lv : List (Option Value)} {st : List Value} {σ : wj_St}
theorem wj_swc (C : wj_C l V X cc nL own fr lo) {dflt lo9 hi9 : Int} {offs : Array Int} {len : Nat} {x : Int32} (v : Int32) (off : Int) (tgt : Nat) (hd : decode cc pc = .ok (.tableswitch dflt lo9 hi9 offs, len)) (h1 : ¬ v.toInt < lo9) (h2 : ¬ hi9 < v.toInt) (ho : offs[(v.toInt - lo9).toNat]? = some off) (ht : (pc : Int) + off = (tgt : Int)) (k1 : x = v → wj_J l V X tgt lv st σ) (k2 : ¬ x = v → wj_J l V X pc lv (.int x :: st) σ) : wj_J l V X pc lv (.int x :: st) σ := by
  by_cases h : x = v
  · exact wj_tabIn C v off tgt hd h h1 h2 ho ht (k1 h)
  · exact k2 h
theorem wj_lkc (C : wj_C l V X cc nL own fr lo) {dflt : Int} {ps : Array (Int × Int)} {len : Nat} {x : Int32} (v : Int32) (off : Int) (tgt : Nat) (hd : decode cc pc = .ok (.lookupswitch dflt ps, len)) (hp : (ps.toList.zip (ps.toList.drop 1)).all (fun (a, next) => a.1 < next.1) = true) (ho : Op.lookupswitch.offset ps.toList dflt v.toInt = off) (ht : (pc : Int) + off = (tgt : Int)) (k1 : x = v → wj_J l V X tgt lv st σ) (k2 : ¬ x = v → wj_J l V X pc lv (.int x :: st) σ) : wj_J l V X pc lv (.int x :: st) σ := by
  by_cases h : x = v
  · exact wj_look C off tgt hd hp (by rw [h]; exact ho) ht (k1 h)
  · exact k2 h
theorem wj_crn (C : wj_C l V X cc nL own fr lo) {stk rest : List Value} {r : Option Nat} {u : wj_St} (hr : wj_run l V X pc lv stk rest σ (wj_Rf V r u)) (kn : r = none → wj_J l V X (pc + 3) lv (.null :: rest) u) (ks : ∀ a, r = some a → wj_J l V X (pc + 3) lv (.ref a :: rest) u) : wj_J l V X pc lv stk σ := by
  refine wj_crf C hr ?_
  cases r with
  | none => exact kn rfl
  | some a => exact ks a rfl
end WX
theorem wj_nz {r : Int32} (h : r = 0 ∨ r = 1) : narrow .boolean (.int r) = .int r := by rcases h with rfl | rfl <;> decide +kernel
theorem wj_nzi {c : Prop} [Decidable c] : narrow .boolean (.int (if c then 1 else 0)) = .int (if c then 1 else 0) := by split <;> decide +kernel
theorem ki_L : wj_in (.initialized RL) := wj_mem 68 (by decide +kernel) (by decide +kernel)
theorem ki_X4 : wj_in (.initialized RX4) := wj_mem 69 (by decide +kernel) (by decide +kernel)
theorem ki_X0 : wj_in (.initialized RX0) := wj_mem 70 (by decide +kernel) (by decide +kernel)
theorem ki_X2 : wj_in (.initialized RX2) := wj_mem 71 (by decide +kernel) (by decide +kernel)
theorem ki_X3 : wj_in (.initialized RX3) := wj_mem 72 (by decide +kernel) (by decide +kernel)
theorem ki_J7 : wj_in (.initialized RJ7) := wj_mem 73 (by decide +kernel) (by decide +kernel)
theorem ki_X1 : wj_in (.initialized RX1) := wj_mem 74 (by decide +kernel) (by decide +kernel)
theorem ki_X5 : wj_in (.initialized RX5) := wj_mem 75 (by decide +kernel) (by decide +kernel)
theorem ki_J9 : wj_in (.initialized RJ9) := wj_mem 76 (by decide +kernel) (by decide +kernel)
theorem ki_J6 : wj_in (.initialized RJ6) := wj_mem 78 (by decide +kernel) (by decide +kernel)
theorem ki_J0 : wj_in (.initialized RJ0) := wj_mem 79 (by decide +kernel) (by decide +kernel)
theorem ki_J1 : wj_in (.initialized RJ1) := wj_mem 80 (by decide +kernel) (by decide +kernel)
theorem ki_J3 : wj_in (.initialized RJ3) := wj_mem 81 (by decide +kernel) (by decide +kernel)
theorem kd_X0_init : wj_cd yX0_init cX0_init 2 none 0 := ⟨wj_mem 95 (by decide +kernel) (by decide +kernel), ki_X0, by decide, by decide, by decide +kernel⟩
theorem kd_X0_listedFor : wj_cd yX0_listedFor cX0_listedFor 1 (some .int) 1 := ⟨wj_mem 403 (by decide +kernel) (by decide +kernel), ki_X0, by decide, by decide, by decide +kernel⟩
theorem km_X0_listedFor : wj_ms yX0_listedFor cX0_listedFor 1 (some .int) 1 := ⟨kd_X0_listedFor, wj_mem 402 (by decide +kernel) (by decide +kernel)⟩
theorem kd_X0_become : wj_cd yX0_become cX0_become 3 none 1 := ⟨wj_mem 446 (by decide +kernel) (by decide +kernel), ki_X0, by decide, by decide, by decide +kernel⟩
theorem km_X0_become : wj_mv yX0_become cX0_become 3 none 1 := ⟨kd_X0_become, wj_mem 444 (by decide +kernel) (by decide +kernel), wj_mem 445 (by decide +kernel) (by decide +kernel)⟩
theorem kd_X0_slipAt : wj_cd yX0_slipAt cX0_slipAt 2 (some (.object "WordHedge$Slip")) 1 := ⟨wj_mem 358 (by decide +kernel) (by decide +kernel), ki_X0, by decide, by decide, by decide +kernel⟩
theorem km_X0_slipAt : wj_mv yX0_slipAt cX0_slipAt 2 (some (.object "WordHedge$Slip")) 1 := ⟨kd_X0_slipAt, wj_mem 356 (by decide +kernel) (by decide +kernel), wj_mem 357 (by decide +kernel) (by decide +kernel)⟩
theorem kd_X0_add : wj_cd yX0_add cX0_add 5 (some (.object "WordHedge$Slip")) 3 := ⟨wj_mem 345 (by decide +kernel) (by decide +kernel), ki_X0, by decide, by decide, by decide +kernel⟩
theorem km_X0_add : wj_mv yX0_add cX0_add 5 (some (.object "WordHedge$Slip")) 3 := ⟨kd_X0_add, wj_mem 343 (by decide +kernel) (by decide +kernel), wj_mem 344 (by decide +kernel) (by decide +kernel)⟩
theorem kd_X0_slipsIn : wj_cd yX0_slipsIn cX0_slipsIn 4 (some .int) 1 := ⟨wj_mem 290 (by decide +kernel) (by decide +kernel), ki_X0, by decide, by decide, by decide +kernel⟩
theorem km_X0_slipsIn : wj_mv yX0_slipsIn cX0_slipsIn 4 (some .int) 1 := ⟨kd_X0_slipsIn, wj_mem 288 (by decide +kernel) (by decide +kernel), wj_mem 289 (by decide +kernel) (by decide +kernel)⟩
theorem kd_X0_coverersOf : wj_cd yX0_coverersOf cX0_coverersOf 4 (some .int) 1 := ⟨wj_mem 294 (by decide +kernel) (by decide +kernel), ki_X0, by decide, by decide, by decide +kernel⟩
theorem km_X0_coverersOf : wj_mv yX0_coverersOf cX0_coverersOf 4 (some .int) 1 := ⟨kd_X0_coverersOf, wj_mem 292 (by decide +kernel) (by decide +kernel), wj_mem 293 (by decide +kernel) (by decide +kernel)⟩
theorem kd_X0_strengthOf : wj_cd yX0_strengthOf cX0_strengthOf 4 (some .int) 1 := ⟨wj_mem 266 (by decide +kernel) (by decide +kernel), ki_X0, by decide, by decide, by decide +kernel⟩
theorem km_X0_strengthOf : wj_mv yX0_strengthOf cX0_strengthOf 4 (some .int) 1 := ⟨kd_X0_strengthOf, wj_mem 264 (by decide +kernel) (by decide +kernel), wj_mem 265 (by decide +kernel) (by decide +kernel)⟩
theorem kd_X0_hasHurdle : wj_cd yX0_hasHurdle cX0_hasHurdle 2 (some .boolean) 1 := ⟨wj_mem 270 (by decide +kernel) (by decide +kernel), ki_X0, by decide, by decide, by decide +kernel⟩
theorem km_X0_hasHurdle : wj_mv yX0_hasHurdle cX0_hasHurdle 2 (some .boolean) 1 := ⟨kd_X0_hasHurdle, wj_mem 268 (by decide +kernel) (by decide +kernel), wj_mem 269 (by decide +kernel) (by decide +kernel)⟩
theorem kd_X0_gapSet : wj_cd yX0_gapSet cX0_gapSet 3 (some .int) 0 := ⟨wj_mem 302 (by decide +kernel) (by decide +kernel), ki_X0, by decide, by decide, by decide +kernel⟩
theorem km_X0_gapSet : wj_mv yX0_gapSet cX0_gapSet 3 (some .int) 0 := ⟨kd_X0_gapSet, wj_mem 300 (by decide +kernel) (by decide +kernel), wj_mem 301 (by decide +kernel) (by decide +kernel)⟩
theorem kd_X0_isGap : wj_cd yX0_isGap cX0_isGap 2 (some .boolean) 1 := ⟨wj_mem 298 (by decide +kernel) (by decide +kernel), ki_X0, by decide, by decide, by decide +kernel⟩
theorem km_X0_isGap : wj_mv yX0_isGap cX0_isGap 2 (some .boolean) 1 := ⟨kd_X0_isGap, wj_mem 296 (by decide +kernel) (by decide +kernel), wj_mem 297 (by decide +kernel) (by decide +kernel)⟩
theorem kd_X0_weakestPlace : wj_cd yX0_weakestPlace cX0_weakestPlace 3 (some .int) 0 := ⟨wj_mem 430 (by decide +kernel) (by decide +kernel), ki_X0, by decide, by decide, by decide +kernel⟩
theorem km_X0_weakestPlace : wj_mv yX0_weakestPlace cX0_weakestPlace 3 (some .int) 0 := ⟨kd_X0_weakestPlace, wj_mem 428 (by decide +kernel) (by decide +kernel), wj_mem 429 (by decide +kernel) (by decide +kernel)⟩
theorem kd_X0_placesBrokenBy : wj_cd yX0_placesBrokenBy cX0_placesBrokenBy 4 (some .int) 1 := ⟨wj_mem 579 (by decide +kernel) (by decide +kernel), ki_X0, by decide, by decide, by decide +kernel⟩
theorem km_X0_placesBrokenBy : wj_mv yX0_placesBrokenBy cX0_placesBrokenBy 4 (some .int) 1 := ⟨kd_X0_placesBrokenBy, wj_mem 577 (by decide +kernel) (by decide +kernel), wj_mem 578 (by decide +kernel) (by decide +kernel)⟩
theorem kd_X0_sumOf : wj_cd yX0_sumOf cX0_sumOf 4 (some .int) 1 := ⟨wj_mem 434 (by decide +kernel) (by decide +kernel), ki_X0, by decide, by decide, by decide +kernel⟩
theorem km_X0_sumOf : wj_mv yX0_sumOf cX0_sumOf 4 (some .int) 1 := ⟨kd_X0_sumOf, wj_mem 432 (by decide +kernel) (by decide +kernel), wj_mem 433 (by decide +kernel) (by decide +kernel)⟩
theorem kd_X0_layToGreater : wj_cd yX0_layToGreater cX0_layToGreater 3 none 1 := ⟨wj_mem 518 (by decide +kernel) (by decide +kernel), ki_X0, by decide, by decide, by decide +kernel⟩
theorem km_X0_layToGreater : wj_mv yX0_layToGreater cX0_layToGreater 3 none 1 := ⟨kd_X0_layToGreater, wj_mem 516 (by decide +kernel) (by decide +kernel), wj_mem 517 (by decide +kernel) (by decide +kernel)⟩
theorem kd_X0_passYears : wj_cd yX0_passYears cX0_passYears 3 none 1 := ⟨wj_mem 396 (by decide +kernel) (by decide +kernel), ki_X0, by decide, by decide, by decide +kernel⟩
theorem km_X0_passYears : wj_mv yX0_passYears cX0_passYears 3 none 1 := ⟨kd_X0_passYears, wj_mem 394 (by decide +kernel) (by decide +kernel), wj_mem 395 (by decide +kernel) (by decide +kernel)⟩
theorem kd_X0_passYear : wj_cd yX0_passYear cX0_passYear 4 none 0 := ⟨wj_mem 400 (by decide +kernel) (by decide +kernel), ki_X0, by decide, by decide, by decide +kernel⟩
theorem km_X0_passYear : wj_mv yX0_passYear cX0_passYear 4 none 0 := ⟨kd_X0_passYear, wj_mem 398 (by decide +kernel) (by decide +kernel), wj_mem 399 (by decide +kernel) (by decide +kernel)⟩
theorem kd_X0_breakDown : wj_cd yX0_breakDown cX0_breakDown 3 none 1 := ⟨wj_mem 411 (by decide +kernel) (by decide +kernel), ki_X0, by decide, by decide, by decide +kernel⟩
theorem km_X0_breakDown : wj_mv yX0_breakDown cX0_breakDown 3 none 1 := ⟨kd_X0_breakDown, wj_mem 410 (by decide +kernel) (by decide +kernel), wj_mem 1 (by decide +kernel) (by decide +kernel)⟩
theorem kd_X0_madeNoGapIn : wj_cd yX0_madeNoGapIn cX0_madeNoGapIn 4 (some .boolean) 1 := ⟨wj_mem 510 (by decide +kernel) (by decide +kernel), ki_X0, by decide, by decide, by decide +kernel⟩
theorem km_X0_madeNoGapIn : wj_mv yX0_madeNoGapIn cX0_madeNoGapIn 4 (some .boolean) 1 := ⟨kd_X0_madeNoGapIn, wj_mem 508 (by decide +kernel) (by decide +kernel), wj_mem 509 (by decide +kernel) (by decide +kernel)⟩
theorem kd_X1_init : wj_cd yX1_init cX1_init 1 none 0 := ⟨wj_mem 194 (by decide +kernel) (by decide +kernel), ki_X1, by decide, by decide, by decide +kernel⟩
theorem kd_X1_canBeOf : wj_cd yX1_canBeOf cX1_canBeOf 1 (some .boolean) 1 := ⟨wj_mem 742 (by decide +kernel) (by decide +kernel), ki_X1, by decide, by decide, by decide +kernel⟩
theorem km_X1_canBeOf : wj_ms yX1_canBeOf cX1_canBeOf 1 (some .boolean) 1 := ⟨kd_X1_canBeOf, wj_mem 741 (by decide +kernel) (by decide +kernel)⟩
theorem kd_X1_isMissing : wj_cd yX1_isMissing cX1_isMissing 1 (some .boolean) 0 := ⟨wj_mem 538 (by decide +kernel) (by decide +kernel), ki_X1, by decide, by decide, by decide +kernel⟩
theorem km_X1_isMissing : wj_mv yX1_isMissing cX1_isMissing 1 (some .boolean) 0 := ⟨kd_X1_isMissing, wj_mem 536 (by decide +kernel) (by decide +kernel), wj_mem 537 (by decide +kernel) (by decide +kernel)⟩
theorem kd_X1_renew : wj_cd yX1_renew cX1_renew 3 none 2 := ⟨wj_mem 747 (by decide +kernel) (by decide +kernel), ki_X1, by decide, by decide, by decide +kernel⟩
theorem km_X1_renew : wj_mv yX1_renew cX1_renew 3 none 2 := ⟨kd_X1_renew, wj_mem 745 (by decide +kernel) (by decide +kernel), wj_mem 746 (by decide +kernel) (by decide +kernel)⟩
theorem kd_X1_put : wj_cd yX1_put cX1_put 3 none 2 := ⟨wj_mem 756 (by decide +kernel) (by decide +kernel), ki_X1, by decide, by decide, by decide +kernel⟩
theorem km_X1_put : wj_mv yX1_put cX1_put 3 none 2 := ⟨kd_X1_put, wj_mem 754 (by decide +kernel) (by decide +kernel), wj_mem 755 (by decide +kernel) (by decide +kernel)⟩
theorem kd_X1_has : wj_cd yX1_has cX1_has 3 (some .boolean) 2 := ⟨wj_mem 764 (by decide +kernel) (by decide +kernel), ki_X1, by decide, by decide, by decide +kernel⟩
theorem km_X1_has : wj_mv yX1_has cX1_has 3 (some .boolean) 2 := ⟨kd_X1_has, wj_mem 762 (by decide +kernel) (by decide +kernel), wj_mem 763 (by decide +kernel) (by decide +kernel)⟩
theorem kd_X1_agrees : wj_cd yX1_agrees cX1_agrees 3 (some .boolean) 2 := ⟨wj_mem 548 (by decide +kernel) (by decide +kernel), ki_X1, by decide, by decide, by decide +kernel⟩
theorem km_X1_agrees : wj_mv yX1_agrees cX1_agrees 3 (some .boolean) 2 := ⟨kd_X1_agrees, wj_mem 546 (by decide +kernel) (by decide +kernel), wj_mem 547 (by decide +kernel) (by decide +kernel)⟩
theorem kd_X2_init : wj_cd yX2_init cX2_init 1 none 0 := ⟨wj_mem 102 (by decide +kernel) (by decide +kernel), ki_X2, by decide, by decide, by decide +kernel⟩
theorem kd_X2_least : wj_cd yX2_least cX2_least 1 (some .int) 1 := ⟨wj_mem 337 (by decide +kernel) (by decide +kernel), ki_X2, by decide, by decide, by decide +kernel⟩
theorem km_X2_least : wj_ms yX2_least cX2_least 1 (some .int) 1 := ⟨kd_X2_least, wj_mem 336 (by decide +kernel) (by decide +kernel)⟩
theorem kd_X2_most : wj_cd yX2_most cX2_most 1 (some .int) 1 := ⟨wj_mem 340 (by decide +kernel) (by decide +kernel), ki_X2, by decide, by decide, by decide +kernel⟩
theorem km_X2_most : wj_ms yX2_most cX2_most 1 (some .int) 1 := ⟨kd_X2_most, wj_mem 339 (by decide +kernel) (by decide +kernel)⟩
theorem kd_X2_allows : wj_cd yX2_allows cX2_allows 2 (some .boolean) 2 := ⟨wj_mem 334 (by decide +kernel) (by decide +kernel), ki_X2, by decide, by decide, by decide +kernel⟩
theorem km_X2_allows : wj_ms yX2_allows cX2_allows 2 (some .boolean) 2 := ⟨kd_X2_allows, wj_mem 333 (by decide +kernel) (by decide +kernel)⟩
theorem kd_X2_start : wj_cd yX2_start cX2_start 4 none 3 := ⟨wj_mem 349 (by decide +kernel) (by decide +kernel), ki_X2, by decide, by decide, by decide +kernel⟩
theorem km_X2_start : wj_mv yX2_start cX2_start 4 none 3 := ⟨kd_X2_start, wj_mem 347 (by decide +kernel) (by decide +kernel), wj_mem 348 (by decide +kernel) (by decide +kernel)⟩
theorem kd_X2_become : wj_cd yX2_become cX2_become 2 none 1 := ⟨wj_mem 450 (by decide +kernel) (by decide +kernel), ki_X2, by decide, by decide, by decide +kernel⟩
theorem km_X2_become : wj_mv yX2_become cX2_become 2 none 1 := ⟨kd_X2_become, wj_mem 448 (by decide +kernel) (by decide +kernel), wj_mem 449 (by decide +kernel) (by decide +kernel)⟩
theorem kd_X2_isOne : wj_cd yX2_isOne cX2_isOne 4 (some .boolean) 1 := ⟨wj_mem 731 (by decide +kernel) (by decide +kernel), ki_X2, by decide, by decide, by decide +kernel⟩
theorem km_X2_isOne : wj_mv yX2_isOne cX2_isOne 4 (some .boolean) 1 := ⟨kd_X2_isOne, wj_mem 729 (by decide +kernel) (by decide +kernel), wj_mem 730 (by decide +kernel) (by decide +kernel)⟩
theorem kd_X2_kindAbove : wj_cd yX2_kindAbove cX2_kindAbove 1 (some .int) 1 := ⟨wj_mem 734 (by decide +kernel) (by decide +kernel), ki_X2, by decide, by decide, by decide +kernel⟩
theorem km_X2_kindAbove : wj_ms yX2_kindAbove cX2_kindAbove 1 (some .int) 1 := ⟨kd_X2_kindAbove, wj_mem 733 (by decide +kernel) (by decide +kernel)⟩
theorem kd_X2_reaches : wj_cd yX2_reaches cX2_reaches 2 (some .int) 0 := ⟨wj_mem 278 (by decide +kernel) (by decide +kernel), ki_X2, by decide, by decide, by decide +kernel⟩
theorem km_X2_reaches : wj_mv yX2_reaches cX2_reaches 2 (some .int) 0 := ⟨kd_X2_reaches, wj_mem 276 (by decide +kernel) (by decide +kernel), wj_mem 277 (by decide +kernel) (by decide +kernel)⟩
theorem kd_X2_coverSet : wj_cd yX2_coverSet cX2_coverSet 3 (some .int) 0 := ⟨wj_mem 306 (by decide +kernel) (by decide +kernel), ki_X2, by decide, by decide, by decide +kernel⟩
theorem km_X2_coverSet : wj_mv yX2_coverSet cX2_coverSet 3 (some .int) 0 := ⟨kd_X2_coverSet, wj_mem 304 (by decide +kernel) (by decide +kernel), wj_mem 305 (by decide +kernel) (by decide +kernel)⟩
theorem kd_X2_isCovering : wj_cd yX2_isCovering cX2_isCovering 2 (some .boolean) 1 := ⟨wj_mem 274 (by decide +kernel) (by decide +kernel), ki_X2, by decide, by decide, by decide +kernel⟩
theorem km_X2_isCovering : wj_mv yX2_isCovering cX2_isCovering 2 (some .boolean) 1 := ⟨kd_X2_isCovering, wj_mem 272 (by decide +kernel) (by decide +kernel), wj_mem 273 (by decide +kernel) (by decide +kernel)⟩
theorem kd_X2_strongIn : wj_cd yX2_strongIn cX2_strongIn 4 (some .int) 1 := ⟨wj_mem 282 (by decide +kernel) (by decide +kernel), ki_X2, by decide, by decide, by decide +kernel⟩
theorem km_X2_strongIn : wj_mv yX2_strongIn cX2_strongIn 4 (some .int) 1 := ⟨kd_X2_strongIn, wj_mem 280 (by decide +kernel) (by decide +kernel), wj_mem 281 (by decide +kernel) (by decide +kernel)⟩
theorem kd_X2_growth : wj_cd yX2_growth cX2_growth 3 (some .int) 0 := ⟨wj_mem 369 (by decide +kernel) (by decide +kernel), ki_X2, by decide, by decide, by decide +kernel⟩
theorem km_X2_growth : wj_mv yX2_growth cX2_growth 3 (some .int) 0 := ⟨kd_X2_growth, wj_mem 367 (by decide +kernel) (by decide +kernel), wj_mem 368 (by decide +kernel) (by decide +kernel)⟩
theorem kd_X2_filling : wj_cd yX2_filling cX2_filling 2 (some .int) 0 := ⟨wj_mem 373 (by decide +kernel) (by decide +kernel), ki_X2, by decide, by decide, by decide +kernel⟩
theorem km_X2_filling : wj_mv yX2_filling cX2_filling 2 (some .int) 0 := ⟨kd_X2_filling, wj_mem 371 (by decide +kernel) (by decide +kernel), wj_mem 372 (by decide +kernel) (by decide +kernel)⟩
theorem kd_X2_isLaid : wj_cd yX2_isLaid cX2_isLaid 1 (some .boolean) 0 := ⟨wj_mem 286 (by decide +kernel) (by decide +kernel), ki_X2, by decide, by decide, by decide +kernel⟩
theorem km_X2_isLaid : wj_mv yX2_isLaid cX2_isLaid 1 (some .boolean) 0 := ⟨kd_X2_isLaid, wj_mem 284 (by decide +kernel) (by decide +kernel), wj_mem 285 (by decide +kernel) (by decide +kernel)⟩
theorem kd_X2_trait : wj_cd yX2_trait cX2_trait 3 (some .int) 2 := ⟨wj_mem 363 (by decide +kernel) (by decide +kernel), ki_X2, by decide, by decide, by decide +kernel⟩
theorem km_X2_trait : wj_mv yX2_trait cX2_trait 3 (some .int) 2 := ⟨kd_X2_trait, wj_mem 361 (by decide +kernel) (by decide +kernel), wj_mem 362 (by decide +kernel) (by decide +kernel)⟩
theorem kd_X2_put : wj_cd yX2_put cX2_put 3 none 2 := ⟨wj_mem 381 (by decide +kernel) (by decide +kernel), ki_X2, by decide, by decide, by decide +kernel⟩
theorem km_X2_put : wj_mv yX2_put cX2_put 3 none 2 := ⟨kd_X2_put, wj_mem 379 (by decide +kernel) (by decide +kernel), wj_mem 380 (by decide +kernel) (by decide +kernel)⟩
theorem kd_X2_giveWay : wj_cd yX2_giveWay cX2_giveWay 1 none 0 := ⟨wj_mem 415 (by decide +kernel) (by decide +kernel), ki_X2, by decide, by decide, by decide +kernel⟩
theorem km_X2_giveWay : wj_mv yX2_giveWay cX2_giveWay 1 none 0 := ⟨kd_X2_giveWay, wj_mem 413 (by decide +kernel) (by decide +kernel), wj_mem 414 (by decide +kernel) (by decide +kernel)⟩
theorem kd_X2_grow : wj_cd yX2_grow cX2_grow 1 none 0 := ⟨wj_mem 420 (by decide +kernel) (by decide +kernel), ki_X2, by decide, by decide, by decide +kernel⟩
theorem km_X2_grow : wj_mv yX2_grow cX2_grow 1 none 0 := ⟨kd_X2_grow, wj_mem 418 (by decide +kernel) (by decide +kernel), wj_mem 419 (by decide +kernel) (by decide +kernel)⟩
theorem kd_X3_init : wj_cd yX3_init cX3_init 1 none 0 := ⟨wj_mem 168 (by decide +kernel) (by decide +kernel), ki_X3, by decide, by decide, by decide +kernel⟩
theorem kd_X3_append : wj_cd yX3_append cX3_append 2 none 1 := ⟨wj_mem 594 (by decide +kernel) (by decide +kernel), ki_X3, by decide, by decide, by decide +kernel⟩
theorem km_X3_append : wj_mv yX3_append cX3_append 2 none 1 := ⟨kd_X3_append, wj_mem 592 (by decide +kernel) (by decide +kernel), wj_mem 593 (by decide +kernel) (by decide +kernel)⟩
theorem kd_X3_readText : wj_cd yX3_readText cX3_readText 3 (some .int) 1 := ⟨wj_mem 606 (by decide +kernel) (by decide +kernel), ki_X3, by decide, by decide, by decide +kernel⟩
theorem km_X3_readText : wj_mv yX3_readText cX3_readText 3 (some .int) 1 := ⟨kd_X3_readText, wj_mem 604 (by decide +kernel) (by decide +kernel), wj_mem 605 (by decide +kernel) (by decide +kernel)⟩
theorem kd_X3_readItem : wj_cd yX3_readItem cX3_readItem 3 (some .boolean) 1 := ⟨wj_mem 614 (by decide +kernel) (by decide +kernel), ki_X3, by decide, by decide, by decide +kernel⟩
theorem km_X3_readItem : wj_mv yX3_readItem cX3_readItem 3 (some .boolean) 1 := ⟨kd_X3_readItem, wj_mem 613 (by decide +kernel) (by decide +kernel), wj_mem 11 (by decide +kernel) (by decide +kernel)⟩
theorem kd_X3_readHurdles : wj_cd yX3_readHurdles cX3_readHurdles 3 (some .boolean) 1 := ⟨wj_mem 671 (by decide +kernel) (by decide +kernel), ki_X3, by decide, by decide, by decide +kernel⟩
theorem km_X3_readHurdles : wj_mv yX3_readHurdles cX3_readHurdles 3 (some .boolean) 1 := ⟨kd_X3_readHurdles, wj_mem 670 (by decide +kernel) (by decide +kernel), wj_mem 13 (by decide +kernel) (by decide +kernel)⟩
theorem kd_X3_readLeaning : wj_cd yX3_readLeaning cX3_readLeaning 5 (some .boolean) 1 := ⟨wj_mem 687 (by decide +kernel) (by decide +kernel), ki_X3, by decide, by decide, by decide +kernel⟩
theorem km_X3_readLeaning : wj_mv yX3_readLeaning cX3_readLeaning 5 (some .boolean) 1 := ⟨kd_X3_readLeaning, wj_mem 686 (by decide +kernel) (by decide +kernel), wj_mem 16 (by decide +kernel) (by decide +kernel)⟩
theorem kd_X3_readSlip : wj_cd yX3_readSlip cX3_readSlip 7 (some .boolean) 2 := ⟨wj_mem 703 (by decide +kernel) (by decide +kernel), ki_X3, by decide, by decide, by decide +kernel⟩
theorem km_X3_readSlip : wj_mv yX3_readSlip cX3_readSlip 7 (some .boolean) 2 := ⟨kd_X3_readSlip, wj_mem 702 (by decide +kernel) (by decide +kernel), wj_mem 18 (by decide +kernel) (by decide +kernel)⟩
theorem kd_X3_readPart : wj_cd yX3_readPart cX3_readPart 4 (some .int) 3 := ⟨wj_mem 708 (by decide +kernel) (by decide +kernel), ki_X3, by decide, by decide, by decide +kernel⟩
theorem km_X3_readPart : wj_mv yX3_readPart cX3_readPart 4 (some .int) 3 := ⟨kd_X3_readPart, wj_mem 707 (by decide +kernel) (by decide +kernel), wj_mem 19 (by decide +kernel) (by decide +kernel)⟩
theorem kd_X3_readLaid : wj_cd yX3_readLaid cX3_readLaid 2 (some .int) 0 := ⟨wj_mem 717 (by decide +kernel) (by decide +kernel), ki_X3, by decide, by decide, by decide +kernel⟩
theorem km_X3_readLaid : wj_mv yX3_readLaid cX3_readLaid 2 (some .int) 0 := ⟨kd_X3_readLaid, wj_mem 716 (by decide +kernel) (by decide +kernel), wj_mem 20 (by decide +kernel) (by decide +kernel)⟩
theorem kd_X3_readNumber : wj_cd yX3_readNumber cX3_readNumber 4 (some .int) 2 := ⟨wj_mem 676 (by decide +kernel) (by decide +kernel), ki_X3, by decide, by decide, by decide +kernel⟩
theorem km_X3_readNumber : wj_mv yX3_readNumber cX3_readNumber 4 (some .int) 2 := ⟨kd_X3_readNumber, wj_mem 675 (by decide +kernel) (by decide +kernel), wj_mem 14 (by decide +kernel) (by decide +kernel)⟩
theorem kd_X3_numberTold : wj_cd yX3_numberTold cX3_numberTold 3 (some .int) 0 := ⟨wj_mem 680 (by decide +kernel) (by decide +kernel), ki_X3, by decide, by decide, by decide +kernel⟩
theorem km_X3_numberTold : wj_mv yX3_numberTold cX3_numberTold 3 (some .int) 0 := ⟨kd_X3_numberTold, wj_mem 679 (by decide +kernel) (by decide +kernel), wj_mem 15 (by decide +kernel) (by decide +kernel)⟩
theorem kd_X3_kindNamed : wj_cd yX3_kindNamed cX3_kindNamed 1 (some .int) 0 := ⟨wj_mem 692 (by decide +kernel) (by decide +kernel), ki_X3, by decide, by decide, by decide +kernel⟩
theorem km_X3_kindNamed : wj_mv yX3_kindNamed cX3_kindNamed 1 (some .int) 0 := ⟨kd_X3_kindNamed, wj_mem 691 (by decide +kernel) (by decide +kernel), wj_mem 17 (by decide +kernel) (by decide +kernel)⟩
theorem kd_X3_isWord : wj_cd yX3_isWord cX3_isWord 3 (some .boolean) 1 := ⟨wj_mem 619 (by decide +kernel) (by decide +kernel), ki_X3, by decide, by decide, by decide +kernel⟩
theorem km_X3_isWord : wj_mv yX3_isWord cX3_isWord 3 (some .boolean) 1 := ⟨kd_X3_isWord, wj_mem 618 (by decide +kernel) (by decide +kernel), wj_mem 12 (by decide +kernel) (by decide +kernel)⟩
theorem kd_X3_step : wj_cd yX3_step cX3_step 1 none 0 := ⟨wj_mem 610 (by decide +kernel) (by decide +kernel), ki_X3, by decide, by decide, by decide +kernel⟩
theorem km_X3_step : wj_mv yX3_step cX3_step 1 none 0 := ⟨kd_X3_step, wj_mem 609 (by decide +kernel) (by decide +kernel), wj_mem 10 (by decide +kernel) (by decide +kernel)⟩
theorem kd_X4_init : wj_cd yX4_init cX4_init 2 none 0 := ⟨wj_mem 87 (by decide +kernel) (by decide +kernel), ki_X4, by decide, by decide, by decide +kernel⟩
theorem kd_X4_hurdles : wj_cd yX4_hurdles cX4_hurdles 3 (some .int) 1 := ⟨wj_mem 246 (by decide +kernel) (by decide +kernel), ki_X4, by decide, by decide, by decide +kernel⟩
theorem km_X4_hurdles : wj_mv yX4_hurdles cX4_hurdles 3 (some .int) 1 := ⟨kd_X4_hurdles, wj_mem 244 (by decide +kernel) (by decide +kernel), wj_mem 245 (by decide +kernel) (by decide +kernel)⟩
theorem kd_X4_place : wj_cd yX4_place cX4_place 3 (some .int) 2 := ⟨wj_mem 259 (by decide +kernel) (by decide +kernel), ki_X4, by decide, by decide, by decide +kernel⟩
theorem km_X4_place : wj_mv yX4_place cX4_place 3 (some .int) 2 := ⟨kd_X4_place, wj_mem 257 (by decide +kernel) (by decide +kernel), wj_mem 258 (by decide +kernel) (by decide +kernel)⟩
theorem kd_X4_lean : wj_cd yX4_lean cX4_lean 5 (some .int) 3 := ⟨wj_mem 317 (by decide +kernel) (by decide +kernel), ki_X4, by decide, by decide, by decide +kernel⟩
theorem km_X4_lean : wj_mv yX4_lean cX4_lean 5 (some .int) 3 := ⟨kd_X4_lean, wj_mem 315 (by decide +kernel) (by decide +kernel), wj_mem 316 (by decide +kernel) (by decide +kernel)⟩
theorem kd_X4_leaning : wj_cd yX4_leaning cX4_leaning 2 (some .int) 1 := ⟨wj_mem 327 (by decide +kernel) (by decide +kernel), ki_X4, by decide, by decide, by decide +kernel⟩
theorem km_X4_leaning : wj_mv yX4_leaning cX4_leaning 2 (some .int) 1 := ⟨kd_X4_leaning, wj_mem 325 (by decide +kernel) (by decide +kernel), wj_mem 326 (by decide +kernel) (by decide +kernel)⟩
theorem kd_X4_slip : wj_cd yX4_slip cX4_slip 5 (some .int) 3 := ⟨wj_mem 331 (by decide +kernel) (by decide +kernel), ki_X4, by decide, by decide, by decide +kernel⟩
theorem km_X4_slip : wj_mv yX4_slip cX4_slip 5 (some .int) 3 := ⟨kd_X4_slip, wj_mem 329 (by decide +kernel) (by decide +kernel), wj_mem 330 (by decide +kernel) (by decide +kernel)⟩
theorem kd_X4_of : wj_cd yX4_of cX4_of 4 (some .int) 2 := ⟨wj_mem 354 (by decide +kernel) (by decide +kernel), ki_X4, by decide, by decide, by decide +kernel⟩
theorem km_X4_of : wj_mv yX4_of cX4_of 4 (some .int) 2 := ⟨kd_X4_of, wj_mem 352 (by decide +kernel) (by decide +kernel), wj_mem 353 (by decide +kernel) (by decide +kernel)⟩
theorem kd_X4_change : wj_cd yX4_change cX4_change 6 (some .int) 3 := ⟨wj_mem 377 (by decide +kernel) (by decide +kernel), ki_X4, by decide, by decide, by decide +kernel⟩
theorem km_X4_change : wj_mv yX4_change cX4_change 6 (some .int) 3 := ⟨kd_X4_change, wj_mem 375 (by decide +kernel) (by decide +kernel), wj_mem 376 (by decide +kernel) (by decide +kernel)⟩
theorem kd_X4_cut : wj_cd yX4_cut cX4_cut 5 (some .int) 2 := ⟨wj_mem 385 (by decide +kernel) (by decide +kernel), ki_X4, by decide, by decide, by decide +kernel⟩
theorem km_X4_cut : wj_mv yX4_cut cX4_cut 5 (some .int) 2 := ⟨kd_X4_cut, wj_mem 383 (by decide +kernel) (by decide +kernel), wj_mem 384 (by decide +kernel) (by decide +kernel)⟩
theorem kd_X4_go : wj_cd yX4_go cX4_go 2 (some .int) 1 := ⟨wj_mem 390 (by decide +kernel) (by decide +kernel), ki_X4, by decide, by decide, by decide +kernel⟩
theorem km_X4_go : wj_mv yX4_go cX4_go 2 (some .int) 1 := ⟨kd_X4_go, wj_mem 388 (by decide +kernel) (by decide +kernel), wj_mem 389 (by decide +kernel) (by decide +kernel)⟩
theorem kd_X4_now : wj_cd yX4_now cX4_now 2 (some .int) 1 := ⟨wj_mem 426 (by decide +kernel) (by decide +kernel), ki_X4, by decide, by decide, by decide +kernel⟩
theorem km_X4_now : wj_mv yX4_now cX4_now 2 (some .int) 1 := ⟨kd_X4_now, wj_mem 424 (by decide +kernel) (by decide +kernel), wj_mem 425 (by decide +kernel) (by decide +kernel)⟩
theorem kd_X4_ahead : wj_cd yX4_ahead cX4_ahead 5 (some .int) 3 := ⟨wj_mem 439 (by decide +kernel) (by decide +kernel), ki_X4, by decide, by decide, by decide +kernel⟩
theorem km_X4_ahead : wj_mv yX4_ahead cX4_ahead 5 (some .int) 3 := ⟨kd_X4_ahead, wj_mem 437 (by decide +kernel) (by decide +kernel), wj_mem 438 (by decide +kernel) (by decide +kernel)⟩
theorem kd_X4_strong : wj_cd yX4_strong cX4_strong 3 (some .int) 2 := ⟨wj_mem 457 (by decide +kernel) (by decide +kernel), ki_X4, by decide, by decide, by decide +kernel⟩
theorem km_X4_strong : wj_mv yX4_strong cX4_strong 3 (some .int) 2 := ⟨kd_X4_strong, wj_mem 455 (by decide +kernel) (by decide +kernel), wj_mem 456 (by decide +kernel) (by decide +kernel)⟩
theorem kd_X4_closed : wj_cd yX4_closed cX4_closed 2 (some .int) 1 := ⟨wj_mem 461 (by decide +kernel) (by decide +kernel), ki_X4, by decide, by decide, by decide +kernel⟩
theorem km_X4_closed : wj_mv yX4_closed cX4_closed 2 (some .int) 1 := ⟨kd_X4_closed, wj_mem 459 (by decide +kernel) (by decide +kernel), wj_mem 460 (by decide +kernel) (by decide +kernel)⟩
theorem kd_X4_whole : wj_cd yX4_whole cX4_whole 1 (some .int) 0 := ⟨wj_mem 471 (by decide +kernel) (by decide +kernel), ki_X4, by decide, by decide, by decide +kernel⟩
theorem km_X4_whole : wj_mv yX4_whole cX4_whole 1 (some .int) 0 := ⟨kd_X4_whole, wj_mem 469 (by decide +kernel) (by decide +kernel), wj_mem 470 (by decide +kernel) (by decide +kernel)⟩
theorem kd_X4_breaks : wj_cd yX4_breaks cX4_breaks 5 (some .int) 1 := ⟨wj_mem 475 (by decide +kernel) (by decide +kernel), ki_X4, by decide, by decide, by decide +kernel⟩
theorem km_X4_breaks : wj_mv yX4_breaks cX4_breaks 5 (some .int) 1 := ⟨kd_X4_breaks, wj_mem 473 (by decide +kernel) (by decide +kernel), wj_mem 474 (by decide +kernel) (by decide +kernel)⟩
theorem kd_X4_lay : wj_cd yX4_lay cX4_lay 3 (some .int) 2 := ⟨wj_mem 479 (by decide +kernel) (by decide +kernel), ki_X4, by decide, by decide, by decide +kernel⟩
theorem km_X4_lay : wj_mv yX4_lay cX4_lay 3 (some .int) 2 := ⟨kd_X4_lay, wj_mem 477 (by decide +kernel) (by decide +kernel), wj_mem 478 (by decide +kernel) (by decide +kernel)⟩
theorem kd_X4_plant : wj_cd yX4_plant cX4_plant 3 (some .int) 2 := ⟨wj_mem 498 (by decide +kernel) (by decide +kernel), ki_X4, by decide, by decide, by decide +kernel⟩
theorem km_X4_plant : wj_mv yX4_plant cX4_plant 3 (some .int) 2 := ⟨kd_X4_plant, wj_mem 496 (by decide +kernel) (by decide +kernel), wj_mem 497 (by decide +kernel) (by decide +kernel)⟩
theorem kd_X4_kindFor : wj_cd yX4_kindFor cX4_kindFor 8 (some .int) 2 := ⟨wj_mem 502 (by decide +kernel) (by decide +kernel), ki_X4, by decide, by decide, by decide +kernel⟩
theorem km_X4_kindFor : wj_mv yX4_kindFor cX4_kindFor 8 (some .int) 2 := ⟨kd_X4_kindFor, wj_mem 500 (by decide +kernel) (by decide +kernel), wj_mem 501 (by decide +kernel) (by decide +kernel)⟩
theorem kd_X4_weightFor : wj_cd yX4_weightFor cX4_weightFor 5 (some .int) 2 := ⟨wj_mem 506 (by decide +kernel) (by decide +kernel), ki_X4, by decide, by decide, by decide +kernel⟩
theorem km_X4_weightFor : wj_mv yX4_weightFor cX4_weightFor 5 (some .int) 2 := ⟨kd_X4_weightFor, wj_mem 504 (by decide +kernel) (by decide +kernel), wj_mem 505 (by decide +kernel) (by decide +kernel)⟩
theorem kd_X4_layAll : wj_cd yX4_layAll cX4_layAll 5 (some .int) 1 := ⟨wj_mem 514 (by decide +kernel) (by decide +kernel), ki_X4, by decide, by decide, by decide +kernel⟩
theorem km_X4_layAll : wj_mv yX4_layAll cX4_layAll 5 (some .int) 1 := ⟨kd_X4_layAll, wj_mem 512 (by decide +kernel) (by decide +kernel), wj_mem 513 (by decide +kernel) (by decide +kernel)⟩
theorem kd_X4_hurdlesFor : wj_cd yX4_hurdlesFor cX4_hurdlesFor 2 (some .int) 1 := ⟨wj_mem 522 (by decide +kernel) (by decide +kernel), ki_X4, by decide, by decide, by decide +kernel⟩
theorem km_X4_hurdlesFor : wj_mv yX4_hurdlesFor cX4_hurdlesFor 2 (some .int) 1 := ⟨kd_X4_hurdlesFor, wj_mem 520 (by decide +kernel) (by decide +kernel), wj_mem 521 (by decide +kernel) (by decide +kernel)⟩
theorem kd_X4_words : wj_cd yX4_words cX4_words 3 (some .int) 2 := ⟨wj_mem 526 (by decide +kernel) (by decide +kernel), ki_X4, by decide, by decide, by decide +kernel⟩
theorem km_X4_words : wj_mv yX4_words cX4_words 3 (some .int) 2 := ⟨kd_X4_words, wj_mem 524 (by decide +kernel) (by decide +kernel), wj_mem 525 (by decide +kernel) (by decide +kernel)⟩
theorem kd_X4_kinds : wj_cd yX4_kinds cX4_kinds 3 (some .int) 2 := ⟨wj_mem 553 (by decide +kernel) (by decide +kernel), ki_X4, by decide, by decide, by decide +kernel⟩
theorem km_X4_kinds : wj_mv yX4_kinds cX4_kinds 3 (some .int) 2 := ⟨kd_X4_kinds, wj_mem 551 (by decide +kernel) (by decide +kernel), wj_mem 552 (by decide +kernel) (by decide +kernel)⟩
theorem kd_X4_fits : wj_cd yX4_fits cX4_fits 6 (some .int) 2 := ⟨wj_mem 557 (by decide +kernel) (by decide +kernel), ki_X4, by decide, by decide, by decide +kernel⟩
theorem km_X4_fits : wj_mv yX4_fits cX4_fits 6 (some .int) 2 := ⟨kd_X4_fits, wj_mem 555 (by decide +kernel) (by decide +kernel), wj_mem 556 (by decide +kernel) (by decide +kernel)⟩
theorem kd_X4_leans : wj_cd yX4_leans cX4_leans 5 (some .int) 1 := ⟨wj_mem 565 (by decide +kernel) (by decide +kernel), ki_X4, by decide, by decide, by decide +kernel⟩
theorem km_X4_leans : wj_mv yX4_leans cX4_leans 5 (some .int) 1 := ⟨kd_X4_leans, wj_mem 563 (by decide +kernel) (by decide +kernel), wj_mem 564 (by decide +kernel) (by decide +kernel)⟩
theorem kd_X4_odds : wj_cd yX4_odds cX4_odds 6 (some .long) 3 := ⟨wj_mem 575 (by decide +kernel) (by decide +kernel), ki_X4, by decide, by decide, by decide +kernel⟩
theorem km_X4_odds : wj_mv yX4_odds cX4_odds 6 (some .long) 3 := ⟨kd_X4_odds, wj_mem 573 (by decide +kernel) (by decide +kernel), wj_mem 574 (by decide +kernel) (by decide +kernel)⟩
theorem kd_X4_seed : wj_cd yX4_seed cX4_seed 3 (some .int) 1 := ⟨wj_mem 586 (by decide +kernel) (by decide +kernel), ki_X4, by decide, by decide, by decide +kernel⟩
theorem km_X4_seed : wj_mv yX4_seed cX4_seed 3 (some .int) 1 := ⟨kd_X4_seed, wj_mem 584 (by decide +kernel) (by decide +kernel), wj_mem 585 (by decide +kernel) (by decide +kernel)⟩
theorem kd_X4_feed : wj_cd yX4_feed cX4_feed 4 (some .int) 2 := ⟨wj_mem 590 (by decide +kernel) (by decide +kernel), ki_X4, by decide, by decide, by decide +kernel⟩
theorem km_X4_feed : wj_mv yX4_feed cX4_feed 4 (some .int) 2 := ⟨kd_X4_feed, wj_mem 588 (by decide +kernel) (by decide +kernel), wj_mem 589 (by decide +kernel) (by decide +kernel)⟩
theorem kd_X4_wipe : wj_cd yX4_wipe cX4_wipe 2 (some .int) 0 := ⟨wj_mem 598 (by decide +kernel) (by decide +kernel), ki_X4, by decide, by decide, by decide +kernel⟩
theorem km_X4_wipe : wj_mv yX4_wipe cX4_wipe 2 (some .int) 0 := ⟨kd_X4_wipe, wj_mem 596 (by decide +kernel) (by decide +kernel), wj_mem 597 (by decide +kernel) (by decide +kernel)⟩
theorem kd_X4_text : wj_cd yX4_text cX4_text 2 (some .int) 0 := ⟨wj_mem 602 (by decide +kernel) (by decide +kernel), ki_X4, by decide, by decide, by decide +kernel⟩
theorem km_X4_text : wj_mv yX4_text cX4_text 2 (some .int) 0 := ⟨kd_X4_text, wj_mem 600 (by decide +kernel) (by decide +kernel), wj_mem 601 (by decide +kernel) (by decide +kernel)⟩
theorem kd_X4_hold : wj_cd yX4_hold cX4_hold 3 (some .int) 2 := ⟨wj_mem 723 (by decide +kernel) (by decide +kernel), ki_X4, by decide, by decide, by decide +kernel⟩
theorem km_X4_hold : wj_mv yX4_hold cX4_hold 3 (some .int) 2 := ⟨kd_X4_hold, wj_mem 721 (by decide +kernel) (by decide +kernel), wj_mem 722 (by decide +kernel) (by decide +kernel)⟩
theorem kd_X4_as : wj_cd yX4_as cX4_as 4 (some .int) 2 := ⟨wj_mem 727 (by decide +kernel) (by decide +kernel), ki_X4, by decide, by decide, by decide +kernel⟩
theorem km_X4_as : wj_mv yX4_as cX4_as 4 (some .int) 2 := ⟨kd_X4_as, wj_mem 725 (by decide +kernel) (by decide +kernel), wj_mem 726 (by decide +kernel) (by decide +kernel)⟩
theorem kd_X4_sheet : wj_cd yX4_sheet cX4_sheet 5 (some .int) 3 := ⟨wj_mem 739 (by decide +kernel) (by decide +kernel), ki_X4, by decide, by decide, by decide +kernel⟩
theorem km_X4_sheet : wj_mv yX4_sheet cX4_sheet 5 (some .int) 3 := ⟨kd_X4_sheet, wj_mem 737 (by decide +kernel) (by decide +kernel), wj_mem 738 (by decide +kernel) (by decide +kernel)⟩
theorem kd_X4_write : wj_cd yX4_write cX4_write 5 (some .int) 3 := ⟨wj_mem 752 (by decide +kernel) (by decide +kernel), ki_X4, by decide, by decide, by decide +kernel⟩
theorem km_X4_write : wj_mv yX4_write cX4_write 5 (some .int) 3 := ⟨kd_X4_write, wj_mem 750 (by decide +kernel) (by decide +kernel), wj_mem 751 (by decide +kernel) (by decide +kernel)⟩
theorem kd_X4_copy : wj_cd yX4_copy cX4_copy 8 (some .int) 5 := ⟨wj_mem 760 (by decide +kernel) (by decide +kernel), ki_X4, by decide, by decide, by decide +kernel⟩
theorem km_X4_copy : wj_mv yX4_copy cX4_copy 8 (some .int) 5 := ⟨kd_X4_copy, wj_mem 758 (by decide +kernel) (by decide +kernel), wj_mem 759 (by decide +kernel) (by decide +kernel)⟩
theorem kd_X4_load : wj_cd yX4_load cX4_load 4 (some .int) 1 := ⟨wj_mem 769 (by decide +kernel) (by decide +kernel), ki_X4, by decide, by decide, by decide +kernel⟩
theorem km_X4_load : wj_mv yX4_load cX4_load 4 (some .int) 1 := ⟨kd_X4_load, wj_mem 767 (by decide +kernel) (by decide +kernel), wj_mem 768 (by decide +kernel) (by decide +kernel)⟩
theorem kd_X4_judge : wj_cd yX4_judge cX4_judge 5 (some .int) 1 := ⟨wj_mem 776 (by decide +kernel) (by decide +kernel), ki_X4, by decide, by decide, by decide +kernel⟩
theorem km_X4_judge : wj_mv yX4_judge cX4_judge 5 (some .int) 1 := ⟨kd_X4_judge, wj_mem 774 (by decide +kernel) (by decide +kernel), wj_mem 775 (by decide +kernel) (by decide +kernel)⟩
theorem kd_X4_image : wj_cd yX4_image cX4_image 1 (some .int) 0 := ⟨wj_mem 780 (by decide +kernel) (by decide +kernel), ki_X4, by decide, by decide, by decide +kernel⟩
theorem km_X4_image : wj_mv yX4_image cX4_image 1 (some .int) 0 := ⟨kd_X4_image, wj_mem 778 (by decide +kernel) (by decide +kernel), wj_mem 779 (by decide +kernel) (by decide +kernel)⟩
theorem kd_X4_undo : wj_cd yX4_undo cX4_undo 1 (some .int) 0 := ⟨wj_mem 784 (by decide +kernel) (by decide +kernel), ki_X4, by decide, by decide, by decide +kernel⟩
theorem km_X4_undo : wj_mv yX4_undo cX4_undo 1 (some .int) 0 := ⟨kd_X4_undo, wj_mem 782 (by decide +kernel) (by decide +kernel), wj_mem 783 (by decide +kernel) (by decide +kernel)⟩
theorem kd_X4_tear : wj_cd yX4_tear cX4_tear 2 (some .int) 0 := ⟨wj_mem 788 (by decide +kernel) (by decide +kernel), ki_X4, by decide, by decide, by decide +kernel⟩
theorem km_X4_tear : wj_mv yX4_tear cX4_tear 2 (some .int) 0 := ⟨kd_X4_tear, wj_mem 786 (by decide +kernel) (by decide +kernel), wj_mem 787 (by decide +kernel) (by decide +kernel)⟩
theorem kd_X4_count : wj_cd yX4_count cX4_count 2 (some .int) 1 := ⟨wj_mem 792 (by decide +kernel) (by decide +kernel), ki_X4, by decide, by decide, by decide +kernel⟩
theorem km_X4_count : wj_mv yX4_count cX4_count 2 (some .int) 1 := ⟨kd_X4_count, wj_mem 790 (by decide +kernel) (by decide +kernel), wj_mem 791 (by decide +kernel) (by decide +kernel)⟩
theorem kd_X4_status : wj_cd yX4_status cX4_status 2 (some .int) 1 := ⟨wj_mem 800 (by decide +kernel) (by decide +kernel), ki_X4, by decide, by decide, by decide +kernel⟩
theorem km_X4_status : wj_mv yX4_status cX4_status 2 (some .int) 1 := ⟨kd_X4_status, wj_mem 798 (by decide +kernel) (by decide +kernel), wj_mem 799 (by decide +kernel) (by decide +kernel)⟩
theorem kd_X4_tell : wj_cd yX4_tell cX4_tell 3 (some .int) 1 := ⟨wj_mem 255 (by decide +kernel) (by decide +kernel), ki_X4, by decide, by decide, by decide +kernel⟩
theorem km_X4_tell : wj_mv yX4_tell cX4_tell 3 (some .int) 1 := ⟨kd_X4_tell, wj_mem 254 (by decide +kernel) (by decide +kernel), wj_mem 0 (by decide +kernel) (by decide +kernel)⟩
theorem kd_X4_toldInAll : wj_cd yX4_toldInAll cX4_toldInAll 6 (some .int) 0 := ⟨wj_mem 804 (by decide +kernel) (by decide +kernel), ki_X4, by decide, by decide, by decide +kernel⟩
theorem km_X4_toldInAll : wj_mv yX4_toldInAll cX4_toldInAll 6 (some .int) 0 := ⟨kd_X4_toldInAll, wj_mem 803 (by decide +kernel) (by decide +kernel), wj_mem 22 (by decide +kernel) (by decide +kernel)⟩
theorem kd_X4_spotsInUse : wj_cd yX4_spotsInUse cX4_spotsInUse 6 (some .int) 0 := ⟨wj_mem 796 (by decide +kernel) (by decide +kernel), ki_X4, by decide, by decide, by decide +kernel⟩
theorem km_X4_spotsInUse : wj_mv yX4_spotsInUse cX4_spotsInUse 6 (some .int) 0 := ⟨kd_X4_spotsInUse, wj_mem 795 (by decide +kernel) (by decide +kernel), wj_mem 21 (by decide +kernel) (by decide +kernel)⟩
theorem kd_X4_sheetAt : wj_cd yX4_sheetAt cX4_sheetAt 2 (some (.object "WordHedge$Sheet")) 1 := ⟨wj_mem 534 (by decide +kernel) (by decide +kernel), ki_X4, by decide, by decide, by decide +kernel⟩
theorem km_X4_sheetAt : wj_mv yX4_sheetAt cX4_sheetAt 2 (some (.object "WordHedge$Sheet")) 1 := ⟨kd_X4_sheetAt, wj_mem 533 (by decide +kernel) (by decide +kernel), wj_mem 6 (by decide +kernel) (by decide +kernel)⟩
theorem kd_X4_draw : wj_cd yX4_draw cX4_draw 1 (some .int) 0 := ⟨wj_mem 569 (by decide +kernel) (by decide +kernel), ki_X4, by decide, by decide, by decide +kernel⟩
theorem km_X4_draw : wj_mv yX4_draw cX4_draw 1 (some .int) 0 := ⟨kd_X4_draw, wj_mem 568 (by decide +kernel) (by decide +kernel), wj_mem 9 (by decide +kernel) (by decide +kernel)⟩
theorem kd_X4_trySlip : wj_cd yX4_trySlip cX4_trySlip 5 (some (.object "WordHedge$Slip")) 3 := ⟨wj_mem 488 (by decide +kernel) (by decide +kernel), ki_X4, by decide, by decide, by decide +kernel⟩
theorem km_X4_trySlip : wj_mv yX4_trySlip cX4_trySlip 5 (some (.object "WordHedge$Slip")) 3 := ⟨kd_X4_trySlip, wj_mem 487 (by decide +kernel) (by decide +kernel), wj_mem 4 (by decide +kernel) (by decide +kernel)⟩
theorem kd_X4_waitFor : wj_cd yX4_waitFor cX4_waitFor 3 (some .int) 1 := ⟨wj_mem 465 (by decide +kernel) (by decide +kernel), ki_X4, by decide, by decide, by decide +kernel⟩
theorem km_X4_waitFor : wj_mv yX4_waitFor cX4_waitFor 3 (some .int) 1 := ⟨kd_X4_waitFor, wj_mem 464 (by decide +kernel) (by decide +kernel), wj_mem 2 (by decide +kernel) (by decide +kernel)⟩
theorem kd_X4_fewestGaps : wj_cd yX4_fewestGaps cX4_fewestGaps 8 (some .int) 3 := ⟨wj_mem 483 (by decide +kernel) (by decide +kernel), ki_X4, by decide, by decide, by decide +kernel⟩
theorem km_X4_fewestGaps : wj_mv yX4_fewestGaps cX4_fewestGaps 8 (some .int) 3 := ⟨kd_X4_fewestGaps, wj_mem 482 (by decide +kernel) (by decide +kernel), wj_mem 3 (by decide +kernel) (by decide +kernel)⟩
theorem kd_X4_couldBe : wj_cd yX4_couldBe cX4_couldBe 8 (some .int) 3 := ⟨wj_mem 530 (by decide +kernel) (by decide +kernel), ki_X4, by decide, by decide, by decide +kernel⟩
theorem km_X4_couldBe : wj_mv yX4_couldBe cX4_couldBe 8 (some .int) 3 := ⟨kd_X4_couldBe, wj_mem 529 (by decide +kernel) (by decide +kernel), wj_mem 5 (by decide +kernel) (by decide +kernel)⟩
theorem kd_X4_highIsAs : wj_cd yX4_highIsAs cX4_highIsAs 4 (some .boolean) 2 := ⟨wj_mem 544 (by decide +kernel) (by decide +kernel), ki_X4, by decide, by decide, by decide +kernel⟩
theorem km_X4_highIsAs : wj_mv yX4_highIsAs cX4_highIsAs 4 (some .boolean) 2 := ⟨kd_X4_highIsAs, wj_mem 543 (by decide +kernel) (by decide +kernel), wj_mem 7 (by decide +kernel) (by decide +kernel)⟩
theorem kd_X4_strengthIsAs : wj_cd yX4_strengthIsAs cX4_strengthIsAs 3 (some .boolean) 1 := ⟨wj_mem 561 (by decide +kernel) (by decide +kernel), ki_X4, by decide, by decide, by decide +kernel⟩
theorem km_X4_strengthIsAs : wj_mv yX4_strengthIsAs cX4_strengthIsAs 3 (some .boolean) 1 := ⟨kd_X4_strengthIsAs, wj_mem 560 (by decide +kernel) (by decide +kernel), wj_mem 8 (by decide +kernel) (by decide +kernel)⟩
theorem kd_X4_isIn : wj_cd yX4_isIn cX4_isIn 3 (some .boolean) 3 := ⟨wj_mem 250 (by decide +kernel) (by decide +kernel), ki_X4, by decide, by decide, by decide +kernel⟩
theorem km_X4_isIn : wj_ms yX4_isIn cX4_isIn 3 (some .boolean) 3 := ⟨kd_X4_isIn, wj_mem 249 (by decide +kernel) (by decide +kernel)⟩
theorem kd_X4_isPlace : wj_cd yX4_isPlace cX4_isPlace 1 (some .boolean) 1 := ⟨wj_mem 262 (by decide +kernel) (by decide +kernel), ki_X4, by decide, by decide, by decide +kernel⟩
theorem km_X4_isPlace : wj_ms yX4_isPlace cX4_isPlace 1 (some .boolean) 1 := ⟨kd_X4_isPlace, wj_mem 261 (by decide +kernel) (by decide +kernel)⟩
theorem kd_X4_isListed : wj_cd yX4_isListed cX4_isListed 1 (some .boolean) 1 := ⟨wj_mem 320 (by decide +kernel) (by decide +kernel), ki_X4, by decide, by decide, by decide +kernel⟩
theorem km_X4_isListed : wj_ms yX4_isListed cX4_isListed 1 (some .boolean) 1 := ⟨kd_X4_isListed, wj_mem 319 (by decide +kernel) (by decide +kernel)⟩
theorem kd_X4_isWeight : wj_cd yX4_isWeight cX4_isWeight 1 (some .boolean) 1 := ⟨wj_mem 323 (by decide +kernel) (by decide +kernel), ki_X4, by decide, by decide, by decide +kernel⟩
theorem km_X4_isWeight : wj_ms yX4_isWeight cX4_isWeight 1 (some .boolean) 1 := ⟨kd_X4_isWeight, wj_mem 322 (by decide +kernel) (by decide +kernel)⟩
theorem kd_X4_isLeaning : wj_cd yX4_isLeaning cX4_isLeaning 1 (some .boolean) 1 := ⟨wj_mem 772 (by decide +kernel) (by decide +kernel), ki_X4, by decide, by decide, by decide +kernel⟩
theorem km_X4_isLeaning : wj_ms yX4_isLeaning cX4_isLeaning 1 (some .boolean) 1 := ⟨kd_X4_isLeaning, wj_mem 771 (by decide +kernel) (by decide +kernel)⟩
theorem kd_X4_isForetold : wj_cd yX4_isForetold cX4_isForetold 1 (some .boolean) 1 := ⟨wj_mem 442 (by decide +kernel) (by decide +kernel), ki_X4, by decide, by decide, by decide +kernel⟩
theorem km_X4_isForetold : wj_ms yX4_isForetold cX4_isForetold 1 (some .boolean) 1 := ⟨kd_X4_isForetold, wj_mem 441 (by decide +kernel) (by decide +kernel)⟩
theorem kd_X4_power : wj_cd yX4_power cX4_power 5 (some .long) 2 := ⟨wj_mem 582 (by decide +kernel) (by decide +kernel), ki_X4, by decide, by decide, by decide +kernel⟩
theorem km_X4_power : wj_ms yX4_power cX4_power 5 (some .long) 2 := ⟨kd_X4_power, wj_mem 581 (by decide +kernel) (by decide +kernel)⟩
theorem kd_X5_init : wj_cd yX5_init cX5_init 2 none 0 := ⟨wj_mem 809 (by decide +kernel) (by decide +kernel), ki_X5, by decide, by decide, by decide +kernel⟩
theorem kd_X5_finding : wj_cd yX5_finding cX5_finding 2 (some .int) 1 := ⟨wj_mem 900 (by decide +kernel) (by decide +kernel), ki_X5, by decide, by decide, by decide +kernel⟩
theorem km_X5_finding : wj_mv yX5_finding cX5_finding 2 (some .int) 1 := ⟨kd_X5_finding, wj_mem 899 (by decide +kernel) (by decide +kernel), wj_mem 24 (by decide +kernel) (by decide +kernel)⟩
theorem kd_X5_within : wj_cd yX5_within cX5_within 3 (some .boolean) 3 := ⟨wj_mem 891 (by decide +kernel) (by decide +kernel), ki_X5, by decide, by decide, by decide +kernel⟩
theorem km_X5_within : wj_ms yX5_within cX5_within 3 (some .boolean) 3 := ⟨kd_X5_within, wj_mem 890 (by decide +kernel) (by decide +kernel)⟩
theorem kd_X5_become : wj_cd yX5_become cX5_become 4 (some .int) 2 := ⟨wj_mem 895 (by decide +kernel) (by decide +kernel), ki_X5, by decide, by decide, by decide +kernel⟩
theorem km_X5_become : wj_mv yX5_become cX5_become 4 (some .int) 2 := ⟨kd_X5_become, wj_mem 894 (by decide +kernel) (by decide +kernel), wj_mem 23 (by decide +kernel) (by decide +kernel)⟩
theorem kd_X5_copyRow : wj_cd yX5_copyRow cX5_copyRow 3 none 2 := ⟨wj_mem 1045 (by decide +kernel) (by decide +kernel), ki_X5, by decide, by decide, by decide +kernel⟩
theorem km_X5_copyRow : wj_ms yX5_copyRow cX5_copyRow 3 none 2 := ⟨kd_X5_copyRow, wj_mem 1044 (by decide +kernel) (by decide +kernel)⟩
theorem kd_X5_putBack : wj_cd yX5_putBack cX5_putBack 2 (some .int) 1 := ⟨wj_mem 1049 (by decide +kernel) (by decide +kernel), ki_X5, by decide, by decide, by decide +kernel⟩
theorem km_X5_putBack : wj_mv yX5_putBack cX5_putBack 2 (some .int) 1 := ⟨kd_X5_putBack, wj_mem 1048 (by decide +kernel) (by decide +kernel), wj_mem 44 (by decide +kernel) (by decide +kernel)⟩
theorem kd_X5_orNone : wj_cd yX5_orNone cX5_orNone 2 (some .int) 1 := ⟨wj_mem 1069 (by decide +kernel) (by decide +kernel), ki_X5, by decide, by decide, by decide +kernel⟩
theorem km_X5_orNone : wj_mv yX5_orNone cX5_orNone 2 (some .int) 1 := ⟨kd_X5_orNone, wj_mem 1068 (by decide +kernel) (by decide +kernel), wj_mem 47 (by decide +kernel) (by decide +kernel)⟩
theorem kd_X5_bits : wj_cd yX5_bits cX5_bits 3 (some .int) 1 := ⟨wj_mem 1096 (by decide +kernel) (by decide +kernel), ki_X5, by decide, by decide, by decide +kernel⟩
theorem km_X5_bits : wj_ms yX5_bits cX5_bits 3 (some .int) 1 := ⟨kd_X5_bits, wj_mem 1095 (by decide +kernel) (by decide +kernel)⟩
theorem kd_X5_hasBit : wj_cd yX5_hasBit cX5_hasBit 2 (some .boolean) 2 := ⟨wj_mem 914 (by decide +kernel) (by decide +kernel), ki_X5, by decide, by decide, by decide +kernel⟩
theorem km_X5_hasBit : wj_ms yX5_hasBit cX5_hasBit 2 (some .boolean) 2 := ⟨kd_X5_hasBit, wj_mem 913 (by decide +kernel) (by decide +kernel)⟩
theorem kd_X5_isPlace : wj_cd yX5_isPlace cX5_isPlace 1 (some .boolean) 1 := ⟨wj_mem 907 (by decide +kernel) (by decide +kernel), ki_X5, by decide, by decide, by decide +kernel⟩
theorem km_X5_isPlace : wj_ms yX5_isPlace cX5_isPlace 1 (some .boolean) 1 := ⟨kd_X5_isPlace, wj_mem 906 (by decide +kernel) (by decide +kernel)⟩
theorem kd_X5_hurdles : wj_cd yX5_hurdles cX5_hurdles 2 (some .int) 1 := ⟨wj_mem 887 (by decide +kernel) (by decide +kernel), ki_X5, by decide, by decide, by decide +kernel⟩
theorem km_X5_hurdles : wj_mv yX5_hurdles cX5_hurdles 2 (some .int) 1 := ⟨kd_X5_hurdles, wj_mem 885 (by decide +kernel) (by decide +kernel), wj_mem 886 (by decide +kernel) (by decide +kernel)⟩
theorem kd_X5_slipAt : wj_cd yX5_slipAt cX5_slipAt 2 (some .int) 2 := ⟨wj_mem 929 (by decide +kernel) (by decide +kernel), ki_X5, by decide, by decide, by decide +kernel⟩
theorem km_X5_slipAt : wj_ms yX5_slipAt cX5_slipAt 2 (some .int) 2 := ⟨kd_X5_slipAt, wj_mem 928 (by decide +kernel) (by decide +kernel)⟩
theorem kd_X5_slipIs : wj_cd yX5_slipIs cX5_slipIs 3 (some .int) 2 := ⟨wj_mem 926 (by decide +kernel) (by decide +kernel), ki_X5, by decide, by decide, by decide +kernel⟩
theorem km_X5_slipIs : wj_mv yX5_slipIs cX5_slipIs 3 (some .int) 2 := ⟨kd_X5_slipIs, wj_mem 925 (by decide +kernel) (by decide +kernel), wj_mem 28 (by decide +kernel) (by decide +kernel)⟩
theorem kd_X5_isSlip : wj_cd yX5_isSlip cX5_isSlip 2 (some .boolean) 1 := ⟨wj_mem 985 (by decide +kernel) (by decide +kernel), ki_X5, by decide, by decide, by decide +kernel⟩
theorem km_X5_isSlip : wj_mv yX5_isSlip cX5_isSlip 2 (some .boolean) 1 := ⟨kd_X5_isSlip, wj_mem 984 (by decide +kernel) (by decide +kernel), wj_mem 35 (by decide +kernel) (by decide +kernel)⟩
theorem kd_X5_isLaid : wj_cd yX5_isLaid cX5_isLaid 2 (some .boolean) 1 := ⟨wj_mem 922 (by decide +kernel) (by decide +kernel), ki_X5, by decide, by decide, by decide +kernel⟩
theorem km_X5_isLaid : wj_mv yX5_isLaid cX5_isLaid 2 (some .boolean) 1 := ⟨kd_X5_isLaid, wj_mem 921 (by decide +kernel) (by decide +kernel), wj_mem 27 (by decide +kernel) (by decide +kernel)⟩
theorem kd_X5_reaches : wj_cd yX5_reaches cX5_reaches 3 (some .int) 1 := ⟨wj_mem 933 (by decide +kernel) (by decide +kernel), ki_X5, by decide, by decide, by decide +kernel⟩
theorem km_X5_reaches : wj_mv yX5_reaches cX5_reaches 3 (some .int) 1 := ⟨kd_X5_reaches, wj_mem 932 (by decide +kernel) (by decide +kernel), wj_mem 29 (by decide +kernel) (by decide +kernel)⟩
theorem kd_X5_covers : wj_cd yX5_covers cX5_covers 8 (some .int) 1 := ⟨wj_mem 918 (by decide +kernel) (by decide +kernel), ki_X5, by decide, by decide, by decide +kernel⟩
theorem km_X5_covers : wj_mv yX5_covers cX5_covers 8 (some .int) 1 := ⟨kd_X5_covers, wj_mem 917 (by decide +kernel) (by decide +kernel), wj_mem 26 (by decide +kernel) (by decide +kernel)⟩
theorem kd_X5_strongIs : wj_cd yX5_strongIs cX5_strongIs 5 (some .int) 1 := ⟨wj_mem 939 (by decide +kernel) (by decide +kernel), ki_X5, by decide, by decide, by decide +kernel⟩
theorem km_X5_strongIs : wj_mv yX5_strongIs cX5_strongIs 5 (some .int) 1 := ⟨kd_X5_strongIs, wj_mem 938 (by decide +kernel) (by decide +kernel), wj_mem 30 (by decide +kernel) (by decide +kernel)⟩
theorem kd_X5_grows : wj_cd yX5_grows cX5_grows 4 (some .int) 1 := ⟨wj_mem 993 (by decide +kernel) (by decide +kernel), ki_X5, by decide, by decide, by decide +kernel⟩
theorem km_X5_grows : wj_mv yX5_grows cX5_grows 4 (some .int) 1 := ⟨kd_X5_grows, wj_mem 992 (by decide +kernel) (by decide +kernel), wj_mem 37 (by decide +kernel) (by decide +kernel)⟩
theorem kd_X5_fills : wj_cd yX5_fills cX5_fills 3 (some .int) 1 := ⟨wj_mem 997 (by decide +kernel) (by decide +kernel), ki_X5, by decide, by decide, by decide +kernel⟩
theorem km_X5_fills : wj_mv yX5_fills cX5_fills 3 (some .int) 1 := ⟨kd_X5_fills, wj_mem 996 (by decide +kernel) (by decide +kernel), wj_mem 38 (by decide +kernel) (by decide +kernel)⟩
theorem kd_X5_covering : wj_cd yX5_covering cX5_covering 4 (some .int) 1 := ⟨wj_mem 947 (by decide +kernel) (by decide +kernel), ki_X5, by decide, by decide, by decide +kernel⟩
theorem km_X5_covering : wj_mv yX5_covering cX5_covering 4 (some .int) 1 := ⟨kd_X5_covering, wj_mem 946 (by decide +kernel) (by decide +kernel), wj_mem 32 (by decide +kernel) (by decide +kernel)⟩
theorem kd_X5_slipsIn : wj_cd yX5_slipsIn cX5_slipsIn 4 (some .int) 1 := ⟨wj_mem 943 (by decide +kernel) (by decide +kernel), ki_X5, by decide, by decide, by decide +kernel⟩
theorem km_X5_slipsIn : wj_mv yX5_slipsIn cX5_slipsIn 4 (some .int) 1 := ⟨kd_X5_slipsIn, wj_mem 942 (by decide +kernel) (by decide +kernel), wj_mem 31 (by decide +kernel) (by decide +kernel)⟩
theorem kd_X5_strength : wj_cd yX5_strength cX5_strength 4 (some .int) 1 := ⟨wj_mem 911 (by decide +kernel) (by decide +kernel), ki_X5, by decide, by decide, by decide +kernel⟩
theorem km_X5_strength : wj_mv yX5_strength cX5_strength 4 (some .int) 1 := ⟨kd_X5_strength, wj_mem 910 (by decide +kernel) (by decide +kernel), wj_mem 25 (by decide +kernel) (by decide +kernel)⟩
theorem kd_X5_gaps : wj_cd yX5_gaps cX5_gaps 3 (some .int) 0 := ⟨wj_mem 951 (by decide +kernel) (by decide +kernel), ki_X5, by decide, by decide, by decide +kernel⟩
theorem km_X5_gaps : wj_mv yX5_gaps cX5_gaps 3 (some .int) 0 := ⟨kd_X5_gaps, wj_mem 950 (by decide +kernel) (by decide +kernel), wj_mem 33 (by decide +kernel) (by decide +kernel)⟩
theorem kd_X5_place : wj_cd yX5_place cX5_place 3 (some .int) 2 := ⟨wj_mem 904 (by decide +kernel) (by decide +kernel), ki_X5, by decide, by decide, by decide +kernel⟩
theorem km_X5_place : wj_mv yX5_place cX5_place 3 (some .int) 2 := ⟨kd_X5_place, wj_mem 902 (by decide +kernel) (by decide +kernel), wj_mem 903 (by decide +kernel) (by decide +kernel)⟩
theorem kd_X5_isLeaning : wj_cd yX5_isLeaning cX5_isLeaning 1 (some .boolean) 1 := ⟨wj_mem 958 (by decide +kernel) (by decide +kernel), ki_X5, by decide, by decide, by decide +kernel⟩
theorem km_X5_isLeaning : wj_ms yX5_isLeaning cX5_isLeaning 1 (some .boolean) 1 := ⟨kd_X5_isLeaning, wj_mem 957 (by decide +kernel) (by decide +kernel)⟩
theorem kd_X5_lean : wj_cd yX5_lean cX5_lean 5 (some .int) 3 := ⟨wj_mem 955 (by decide +kernel) (by decide +kernel), ki_X5, by decide, by decide, by decide +kernel⟩
theorem km_X5_lean : wj_mv yX5_lean cX5_lean 5 (some .int) 3 := ⟨kd_X5_lean, wj_mem 953 (by decide +kernel) (by decide +kernel), wj_mem 954 (by decide +kernel) (by decide +kernel)⟩
theorem kd_X5_leaning : wj_cd yX5_leaning cX5_leaning 2 (some .int) 1 := ⟨wj_mem 962 (by decide +kernel) (by decide +kernel), ki_X5, by decide, by decide, by decide +kernel⟩
theorem km_X5_leaning : wj_mv yX5_leaning cX5_leaning 2 (some .int) 1 := ⟨kd_X5_leaning, wj_mem 960 (by decide +kernel) (by decide +kernel), wj_mem 961 (by decide +kernel) (by decide +kernel)⟩
theorem kd_X5_isKind : wj_cd yX5_isKind cX5_isKind 1 (some .boolean) 1 := ⟨wj_mem 969 (by decide +kernel) (by decide +kernel), ki_X5, by decide, by decide, by decide +kernel⟩
theorem km_X5_isKind : wj_ms yX5_isKind cX5_isKind 1 (some .boolean) 1 := ⟨kd_X5_isKind, wj_mem 968 (by decide +kernel) (by decide +kernel)⟩
theorem kd_X5_areWords : wj_cd yX5_areWords cX5_areWords 1 (some .boolean) 1 := ⟨wj_mem 972 (by decide +kernel) (by decide +kernel), ki_X5, by decide, by decide, by decide +kernel⟩
theorem km_X5_areWords : wj_ms yX5_areWords cX5_areWords 1 (some .boolean) 1 := ⟨kd_X5_areWords, wj_mem 971 (by decide +kernel) (by decide +kernel)⟩
theorem kd_X5_comes : wj_cd yX5_comes cX5_comes 5 (some .int) 3 := ⟨wj_mem 977 (by decide +kernel) (by decide +kernel), ki_X5, by decide, by decide, by decide +kernel⟩
theorem km_X5_comes : wj_mv yX5_comes cX5_comes 5 (some .int) 3 := ⟨kd_X5_comes, wj_mem 976 (by decide +kernel) (by decide +kernel), wj_mem 34 (by decide +kernel) (by decide +kernel)⟩
theorem kd_X5_slip : wj_cd yX5_slip cX5_slip 4 (some .int) 3 := ⟨wj_mem 966 (by decide +kernel) (by decide +kernel), ki_X5, by decide, by decide, by decide +kernel⟩
theorem km_X5_slip : wj_mv yX5_slip cX5_slip 4 (some .int) 3 := ⟨kd_X5_slip, wj_mem 964 (by decide +kernel) (by decide +kernel), wj_mem 965 (by decide +kernel) (by decide +kernel)⟩
theorem kd_X5_told : wj_cd yX5_told cX5_told 3 (some .int) 2 := ⟨wj_mem 989 (by decide +kernel) (by decide +kernel), ki_X5, by decide, by decide, by decide +kernel⟩
theorem km_X5_told : wj_mv yX5_told cX5_told 3 (some .int) 2 := ⟨kd_X5_told, wj_mem 988 (by decide +kernel) (by decide +kernel), wj_mem 36 (by decide +kernel) (by decide +kernel)⟩
theorem kd_X5_of : wj_cd yX5_of cX5_of 3 (some .int) 2 := ⟨wj_mem 981 (by decide +kernel) (by decide +kernel), ki_X5, by decide, by decide, by decide +kernel⟩
theorem km_X5_of : wj_mv yX5_of cX5_of 3 (some .int) 2 := ⟨kd_X5_of, wj_mem 979 (by decide +kernel) (by decide +kernel), wj_mem 980 (by decide +kernel) (by decide +kernel)⟩
theorem kd_X5_isField : wj_cd yX5_isField cX5_isField 2 (some .boolean) 2 := ⟨wj_mem 1004 (by decide +kernel) (by decide +kernel), ki_X5, by decide, by decide, by decide +kernel⟩
theorem km_X5_isField : wj_ms yX5_isField cX5_isField 2 (some .boolean) 2 := ⟨kd_X5_isField, wj_mem 1003 (by decide +kernel) (by decide +kernel)⟩
theorem kd_X5_change : wj_cd yX5_change cX5_change 4 (some .int) 3 := ⟨wj_mem 1001 (by decide +kernel) (by decide +kernel), ki_X5, by decide, by decide, by decide +kernel⟩
theorem km_X5_change : wj_mv yX5_change cX5_change 4 (some .int) 3 := ⟨kd_X5_change, wj_mem 999 (by decide +kernel) (by decide +kernel), wj_mem 1000 (by decide +kernel) (by decide +kernel)⟩
theorem kd_X5_cut : wj_cd yX5_cut cX5_cut 4 (some .int) 2 := ⟨wj_mem 1008 (by decide +kernel) (by decide +kernel), ki_X5, by decide, by decide, by decide +kernel⟩
theorem km_X5_cut : wj_mv yX5_cut cX5_cut 4 (some .int) 2 := ⟨kd_X5_cut, wj_mem 1006 (by decide +kernel) (by decide +kernel), wj_mem 1007 (by decide +kernel) (by decide +kernel)⟩
theorem kd_X5_leansNow : wj_cd yX5_leansNow cX5_leansNow 5 none 0 := ⟨wj_mem 1026 (by decide +kernel) (by decide +kernel), ki_X5, by decide, by decide, by decide +kernel⟩
theorem km_X5_leansNow : wj_mv yX5_leansNow cX5_leansNow 5 none 0 := ⟨kd_X5_leansNow, wj_mem 1025 (by decide +kernel) (by decide +kernel), wj_mem 41 (by decide +kernel) (by decide +kernel)⟩
theorem kd_X5_year : wj_cd yX5_year cX5_year 2 none 0 := ⟨wj_mem 1022 (by decide +kernel) (by decide +kernel), ki_X5, by decide, by decide, by decide +kernel⟩
theorem km_X5_year : wj_mv yX5_year cX5_year 2 none 0 := ⟨kd_X5_year, wj_mem 1021 (by decide +kernel) (by decide +kernel), wj_mem 40 (by decide +kernel) (by decide +kernel)⟩
theorem kd_X5_yearsGo : wj_cd yX5_yearsGo cX5_yearsGo 3 none 1 := ⟨wj_mem 1018 (by decide +kernel) (by decide +kernel), ki_X5, by decide, by decide, by decide +kernel⟩
theorem km_X5_yearsGo : wj_mv yX5_yearsGo cX5_yearsGo 3 none 1 := ⟨kd_X5_yearsGo, wj_mem 1017 (by decide +kernel) (by decide +kernel), wj_mem 39 (by decide +kernel) (by decide +kernel)⟩
theorem kd_X5_go : wj_cd yX5_go cX5_go 2 (some .int) 1 := ⟨wj_mem 1012 (by decide +kernel) (by decide +kernel), ki_X5, by decide, by decide, by decide +kernel⟩
theorem km_X5_go : wj_mv yX5_go cX5_go 2 (some .int) 1 := ⟨kd_X5_go, wj_mem 1010 (by decide +kernel) (by decide +kernel), wj_mem 1011 (by decide +kernel) (by decide +kernel)⟩
theorem kd_X5_sumOf : wj_cd yX5_sumOf cX5_sumOf 4 (some .int) 1 := ⟨wj_mem 1038 (by decide +kernel) (by decide +kernel), ki_X5, by decide, by decide, by decide +kernel⟩
theorem km_X5_sumOf : wj_mv yX5_sumOf cX5_sumOf 4 (some .int) 1 := ⟨kd_X5_sumOf, wj_mem 1037 (by decide +kernel) (by decide +kernel), wj_mem 43 (by decide +kernel) (by decide +kernel)⟩
theorem kd_X5_weakest : wj_cd yX5_weakest cX5_weakest 5 (some .int) 0 := ⟨wj_mem 1034 (by decide +kernel) (by decide +kernel), ki_X5, by decide, by decide, by decide +kernel⟩
theorem km_X5_weakest : wj_mv yX5_weakest cX5_weakest 5 (some .int) 0 := ⟨kd_X5_weakest, wj_mem 1033 (by decide +kernel) (by decide +kernel), wj_mem 42 (by decide +kernel) (by decide +kernel)⟩
theorem kd_X5_now : wj_cd yX5_now cX5_now 2 (some .int) 1 := ⟨wj_mem 1030 (by decide +kernel) (by decide +kernel), ki_X5, by decide, by decide, by decide +kernel⟩
theorem km_X5_now : wj_mv yX5_now cX5_now 2 (some .int) 1 := ⟨kd_X5_now, wj_mem 1028 (by decide +kernel) (by decide +kernel), wj_mem 1029 (by decide +kernel) (by decide +kernel)⟩
theorem kd_X5_ahead : wj_cd yX5_ahead cX5_ahead 5 (some .int) 3 := ⟨wj_mem 1042 (by decide +kernel) (by decide +kernel), ki_X5, by decide, by decide, by decide +kernel⟩
theorem km_X5_ahead : wj_mv yX5_ahead cX5_ahead 5 (some .int) 3 := ⟨kd_X5_ahead, wj_mem 1040 (by decide +kernel) (by decide +kernel), wj_mem 1041 (by decide +kernel) (by decide +kernel)⟩
theorem kd_X5_strengthBehind : wj_cd yX5_strengthBehind cX5_strengthBehind 3 (some .int) 2 := ⟨wj_mem 1057 (by decide +kernel) (by decide +kernel), ki_X5, by decide, by decide, by decide +kernel⟩
theorem km_X5_strengthBehind : wj_mv yX5_strengthBehind cX5_strengthBehind 3 (some .int) 2 := ⟨kd_X5_strengthBehind, wj_mem 1056 (by decide +kernel) (by decide +kernel), wj_mem 45 (by decide +kernel) (by decide +kernel)⟩
theorem kd_X5_strong : wj_cd yX5_strong cX5_strong 3 (some .int) 2 := ⟨wj_mem 1053 (by decide +kernel) (by decide +kernel), ki_X5, by decide, by decide, by decide +kernel⟩
theorem km_X5_strong : wj_mv yX5_strong cX5_strong 3 (some .int) 2 := ⟨kd_X5_strong, wj_mem 1051 (by decide +kernel) (by decide +kernel), wj_mem 1052 (by decide +kernel) (by decide +kernel)⟩
theorem kd_X5_closedBy : wj_cd yX5_closedBy cX5_closedBy 3 (some .int) 1 := ⟨wj_mem 1065 (by decide +kernel) (by decide +kernel), ki_X5, by decide, by decide, by decide +kernel⟩
theorem km_X5_closedBy : wj_mv yX5_closedBy cX5_closedBy 3 (some .int) 1 := ⟨kd_X5_closedBy, wj_mem 1064 (by decide +kernel) (by decide +kernel), wj_mem 46 (by decide +kernel) (by decide +kernel)⟩
theorem kd_X5_closed : wj_cd yX5_closed cX5_closed 2 (some .int) 1 := ⟨wj_mem 1061 (by decide +kernel) (by decide +kernel), ki_X5, by decide, by decide, by decide +kernel⟩
theorem km_X5_closed : wj_mv yX5_closed cX5_closed 2 (some .int) 1 := ⟨kd_X5_closed, wj_mem 1059 (by decide +kernel) (by decide +kernel), wj_mem 1060 (by decide +kernel) (by decide +kernel)⟩
theorem kd_X5_whole : wj_cd yX5_whole cX5_whole 1 (some .int) 0 := ⟨wj_mem 1074 (by decide +kernel) (by decide +kernel), ki_X5, by decide, by decide, by decide +kernel⟩
theorem km_X5_whole : wj_mv yX5_whole cX5_whole 1 (some .int) 0 := ⟨kd_X5_whole, wj_mem 1072 (by decide +kernel) (by decide +kernel), wj_mem 1073 (by decide +kernel) (by decide +kernel)⟩
theorem kd_X5_breaks : wj_cd yX5_breaks cX5_breaks 4 (some .int) 1 := ⟨wj_mem 1078 (by decide +kernel) (by decide +kernel), ki_X5, by decide, by decide, by decide +kernel⟩
theorem km_X5_breaks : wj_mv yX5_breaks cX5_breaks 4 (some .int) 1 := ⟨kd_X5_breaks, wj_mem 1076 (by decide +kernel) (by decide +kernel), wj_mem 1077 (by decide +kernel) (by decide +kernel)⟩
theorem kd_X5_isThought : wj_cd yX5_isThought cX5_isThought 1 (some .boolean) 1 := ⟨wj_mem 1085 (by decide +kernel) (by decide +kernel), ki_X5, by decide, by decide, by decide +kernel⟩
theorem km_X5_isThought : wj_ms yX5_isThought cX5_isThought 1 (some .boolean) 1 := ⟨kd_X5_isThought, wj_mem 1084 (by decide +kernel) (by decide +kernel)⟩
theorem kd_X5_gapsBehind : wj_cd yX5_gapsBehind cX5_gapsBehind 2 (some .int) 1 := ⟨wj_mem 1093 (by decide +kernel) (by decide +kernel), ki_X5, by decide, by decide, by decide +kernel⟩
theorem km_X5_gapsBehind : wj_mv yX5_gapsBehind cX5_gapsBehind 2 (some .int) 1 := ⟨kd_X5_gapsBehind, wj_mem 1092 (by decide +kernel) (by decide +kernel), wj_mem 49 (by decide +kernel) (by decide +kernel)⟩
theorem kd_X5_fewestFor : wj_cd yX5_fewestFor cX5_fewestFor 9 (some .int) 3 := ⟨wj_mem 1089 (by decide +kernel) (by decide +kernel), ki_X5, by decide, by decide, by decide +kernel⟩
theorem km_X5_fewestFor : wj_mv yX5_fewestFor cX5_fewestFor 9 (some .int) 3 := ⟨kd_X5_fewestFor, wj_mem 1088 (by decide +kernel) (by decide +kernel), wj_mem 48 (by decide +kernel) (by decide +kernel)⟩
theorem kd_X5_lay : wj_cd yX5_lay cX5_lay 3 (some .int) 2 := ⟨wj_mem 1082 (by decide +kernel) (by decide +kernel), ki_X5, by decide, by decide, by decide +kernel⟩
theorem km_X5_lay : wj_mv yX5_lay cX5_lay 3 (some .int) 2 := ⟨kd_X5_lay, wj_mem 1080 (by decide +kernel) (by decide +kernel), wj_mem 1081 (by decide +kernel) (by decide +kernel)⟩
theorem kd_X5_plant : wj_cd yX5_plant cX5_plant 3 (some .int) 2 := ⟨wj_mem 1100 (by decide +kernel) (by decide +kernel), ki_X5, by decide, by decide, by decide +kernel⟩
theorem km_X5_plant : wj_mv yX5_plant cX5_plant 3 (some .int) 2 := ⟨kd_X5_plant, wj_mem 1098 (by decide +kernel) (by decide +kernel), wj_mem 1099 (by decide +kernel) (by decide +kernel)⟩
theorem kd_X5_kindFor : wj_cd yX5_kindFor cX5_kindFor 9 (some .int) 2 := ⟨wj_mem 1104 (by decide +kernel) (by decide +kernel), ki_X5, by decide, by decide, by decide +kernel⟩
theorem km_X5_kindFor : wj_mv yX5_kindFor cX5_kindFor 9 (some .int) 2 := ⟨kd_X5_kindFor, wj_mem 1102 (by decide +kernel) (by decide +kernel), wj_mem 1103 (by decide +kernel) (by decide +kernel)⟩
theorem kd_X5_madeBehind : wj_cd yX5_madeBehind cX5_madeBehind 2 (some .int) 1 := ⟨wj_mem 1112 (by decide +kernel) (by decide +kernel), ki_X5, by decide, by decide, by decide +kernel⟩
theorem km_X5_madeBehind : wj_mv yX5_madeBehind cX5_madeBehind 2 (some .int) 1 := ⟨kd_X5_madeBehind, wj_mem 1111 (by decide +kernel) (by decide +kernel), wj_mem 50 (by decide +kernel) (by decide +kernel)⟩
theorem kd_X5_weightFor : wj_cd yX5_weightFor cX5_weightFor 5 (some .int) 2 := ⟨wj_mem 1108 (by decide +kernel) (by decide +kernel), ki_X5, by decide, by decide, by decide +kernel⟩
theorem km_X5_weightFor : wj_mv yX5_weightFor cX5_weightFor 5 (some .int) 2 := ⟨kd_X5_weightFor, wj_mem 1106 (by decide +kernel) (by decide +kernel), wj_mem 1107 (by decide +kernel) (by decide +kernel)⟩
theorem kd_X5_isWholeBy : wj_cd yX5_isWholeBy cX5_isWholeBy 4 (some .boolean) 2 := ⟨wj_mem 1120 (by decide +kernel) (by decide +kernel), ki_X5, by decide, by decide, by decide +kernel⟩
theorem km_X5_isWholeBy : wj_mv yX5_isWholeBy cX5_isWholeBy 4 (some .boolean) 2 := ⟨kd_X5_isWholeBy, wj_mem 1119 (by decide +kernel) (by decide +kernel), wj_mem 51 (by decide +kernel) (by decide +kernel)⟩
theorem kd_X5_layAll : wj_cd yX5_layAll cX5_layAll 4 (some .int) 1 := ⟨wj_mem 1116 (by decide +kernel) (by decide +kernel), ki_X5, by decide, by decide, by decide +kernel⟩
theorem km_X5_layAll : wj_mv yX5_layAll cX5_layAll 4 (some .int) 1 := ⟨kd_X5_layAll, wj_mem 1114 (by decide +kernel) (by decide +kernel), wj_mem 1115 (by decide +kernel) (by decide +kernel)⟩
theorem kd_X5_hurdlesFor : wj_cd yX5_hurdlesFor cX5_hurdlesFor 4 (some .int) 1 := ⟨wj_mem 1124 (by decide +kernel) (by decide +kernel), ki_X5, by decide, by decide, by decide +kernel⟩
theorem km_X5_hurdlesFor : wj_mv yX5_hurdlesFor cX5_hurdlesFor 4 (some .int) 1 := ⟨kd_X5_hurdlesFor, wj_mem 1122 (by decide +kernel) (by decide +kernel), wj_mem 1123 (by decide +kernel) (by decide +kernel)⟩
theorem kd_X5_lacks : wj_cd yX5_lacks cX5_lacks 3 (some .int) 2 := ⟨wj_mem 1132 (by decide +kernel) (by decide +kernel), ki_X5, by decide, by decide, by decide +kernel⟩
theorem km_X5_lacks : wj_mv yX5_lacks cX5_lacks 3 (some .int) 2 := ⟨kd_X5_lacks, wj_mem 1131 (by decide +kernel) (by decide +kernel), wj_mem 52 (by decide +kernel) (by decide +kernel)⟩
theorem kd_X5_isHighSo : wj_cd yX5_isHighSo cX5_isHighSo 6 (some .boolean) 2 := ⟨wj_mem 1144 (by decide +kernel) (by decide +kernel), ki_X5, by decide, by decide, by decide +kernel⟩
theorem km_X5_isHighSo : wj_mv yX5_isHighSo cX5_isHighSo 6 (some .boolean) 2 := ⟨kd_X5_isHighSo, wj_mem 1143 (by decide +kernel) (by decide +kernel), wj_mem 54 (by decide +kernel) (by decide +kernel)⟩
theorem kd_X5_valuesFor : wj_cd yX5_valuesFor cX5_valuesFor 10 (some .int) 5 := ⟨wj_mem 1140 (by decide +kernel) (by decide +kernel), ki_X5, by decide, by decide, by decide +kernel⟩
theorem km_X5_valuesFor : wj_mv yX5_valuesFor cX5_valuesFor 10 (some .int) 5 := ⟨kd_X5_valuesFor, wj_mem 1139 (by decide +kernel) (by decide +kernel), wj_mem 53 (by decide +kernel) (by decide +kernel)⟩
theorem kd_X5_words : wj_cd yX5_words cX5_words 4 (some .int) 2 := ⟨wj_mem 1128 (by decide +kernel) (by decide +kernel), ki_X5, by decide, by decide, by decide +kernel⟩
theorem km_X5_words : wj_mv yX5_words cX5_words 4 (some .int) 2 := ⟨kd_X5_words, wj_mem 1126 (by decide +kernel) (by decide +kernel), wj_mem 1127 (by decide +kernel) (by decide +kernel)⟩
theorem kd_X5_kinds : wj_cd yX5_kinds cX5_kinds 4 (some .int) 2 := ⟨wj_mem 1148 (by decide +kernel) (by decide +kernel), ki_X5, by decide, by decide, by decide +kernel⟩
theorem km_X5_kinds : wj_mv yX5_kinds cX5_kinds 4 (some .int) 2 := ⟨kd_X5_kinds, wj_mem 1146 (by decide +kernel) (by decide +kernel), wj_mem 1147 (by decide +kernel) (by decide +kernel)⟩
theorem kd_X5_isStrongSo : wj_cd yX5_isStrongSo cX5_isStrongSo 5 (some .boolean) 1 := ⟨wj_mem 1156 (by decide +kernel) (by decide +kernel), ki_X5, by decide, by decide, by decide +kernel⟩
theorem km_X5_isStrongSo : wj_mv yX5_isStrongSo cX5_isStrongSo 5 (some .boolean) 1 := ⟨kd_X5_isStrongSo, wj_mem 1155 (by decide +kernel) (by decide +kernel), wj_mem 55 (by decide +kernel) (by decide +kernel)⟩
theorem kd_X5_fits : wj_cd yX5_fits cX5_fits 8 (some .int) 2 := ⟨wj_mem 1152 (by decide +kernel) (by decide +kernel), ki_X5, by decide, by decide, by decide +kernel⟩
theorem km_X5_fits : wj_mv yX5_fits cX5_fits 8 (some .int) 2 := ⟨kd_X5_fits, wj_mem 1150 (by decide +kernel) (by decide +kernel), wj_mem 1151 (by decide +kernel) (by decide +kernel)⟩
theorem kd_X5_drawn : wj_cd yX5_drawn cX5_drawn 1 (some .int) 0 := ⟨wj_mem 1164 (by decide +kernel) (by decide +kernel), ki_X5, by decide, by decide, by decide +kernel⟩
theorem km_X5_drawn : wj_mv yX5_drawn cX5_drawn 1 (some .int) 0 := ⟨kd_X5_drawn, wj_mem 1163 (by decide +kernel) (by decide +kernel), wj_mem 56 (by decide +kernel) (by decide +kernel)⟩
theorem kd_X5_leans : wj_cd yX5_leans cX5_leans 4 (some .int) 1 := ⟨wj_mem 1160 (by decide +kernel) (by decide +kernel), ki_X5, by decide, by decide, by decide +kernel⟩
theorem km_X5_leans : wj_mv yX5_leans cX5_leans 4 (some .int) 1 := ⟨kd_X5_leans, wj_mem 1158 (by decide +kernel) (by decide +kernel), wj_mem 1159 (by decide +kernel) (by decide +kernel)⟩
theorem kd_X5_odds : wj_cd yX5_odds cX5_odds 10 (some .long) 3 := ⟨wj_mem 1169 (by decide +kernel) (by decide +kernel), ki_X5, by decide, by decide, by decide +kernel⟩
theorem km_X5_odds : wj_mv yX5_odds cX5_odds 10 (some .long) 3 := ⟨kd_X5_odds, wj_mem 1167 (by decide +kernel) (by decide +kernel), wj_mem 1168 (by decide +kernel) (by decide +kernel)⟩
theorem kd_X5_seed : wj_cd yX5_seed cX5_seed 2 (some .int) 1 := ⟨wj_mem 1173 (by decide +kernel) (by decide +kernel), ki_X5, by decide, by decide, by decide +kernel⟩
theorem km_X5_seed : wj_mv yX5_seed cX5_seed 2 (some .int) 1 := ⟨kd_X5_seed, wj_mem 1171 (by decide +kernel) (by decide +kernel), wj_mem 1172 (by decide +kernel) (by decide +kernel)⟩
theorem kd_X5_feed : wj_cd yX5_feed cX5_feed 4 (some .int) 2 := ⟨wj_mem 1177 (by decide +kernel) (by decide +kernel), ki_X5, by decide, by decide, by decide +kernel⟩
theorem km_X5_feed : wj_mv yX5_feed cX5_feed 4 (some .int) 2 := ⟨kd_X5_feed, wj_mem 1175 (by decide +kernel) (by decide +kernel), wj_mem 1176 (by decide +kernel) (by decide +kernel)⟩
theorem kd_X5_wipe : wj_cd yX5_wipe cX5_wipe 2 (some .int) 0 := ⟨wj_mem 1181 (by decide +kernel) (by decide +kernel), ki_X5, by decide, by decide, by decide +kernel⟩
theorem km_X5_wipe : wj_mv yX5_wipe cX5_wipe 2 (some .int) 0 := ⟨kd_X5_wipe, wj_mem 1179 (by decide +kernel) (by decide +kernel), wj_mem 1180 (by decide +kernel) (by decide +kernel)⟩
theorem kd_X5_byteAt : wj_cd yX5_byteAt cX5_byteAt 2 (some .int) 1 := ⟨wj_mem 1193 (by decide +kernel) (by decide +kernel), ki_X5, by decide, by decide, by decide +kernel⟩
theorem km_X5_byteAt : wj_mv yX5_byteAt cX5_byteAt 2 (some .int) 1 := ⟨kd_X5_byteAt, wj_mem 1192 (by decide +kernel) (by decide +kernel), wj_mem 58 (by decide +kernel) (by decide +kernel)⟩
theorem kd_X5_token : wj_cd yX5_token cX5_token 2 none 0 := ⟨wj_mem 1189 (by decide +kernel) (by decide +kernel), ki_X5, by decide, by decide, by decide +kernel⟩
theorem km_X5_token : wj_mv yX5_token cX5_token 2 none 0 := ⟨kd_X5_token, wj_mem 1188 (by decide +kernel) (by decide +kernel), wj_mem 57 (by decide +kernel) (by decide +kernel)⟩
theorem kd_X5_isWord : wj_cd yX5_isWord cX5_isWord 4 (some .boolean) 1 := ⟨wj_mem 1202 (by decide +kernel) (by decide +kernel), ki_X5, by decide, by decide, by decide +kernel⟩
theorem km_X5_isWord : wj_mv yX5_isWord cX5_isWord 4 (some .boolean) 1 := ⟨kd_X5_isWord, wj_mem 1201 (by decide +kernel) (by decide +kernel), wj_mem 60 (by decide +kernel) (by decide +kernel)⟩
theorem kd_X5_must : wj_cd yX5_must cX5_must 2 none 1 := ⟨wj_mem 1212 (by decide +kernel) (by decide +kernel), ki_X5, by decide, by decide, by decide +kernel⟩
theorem km_X5_must : wj_mv yX5_must cX5_must 2 none 1 := ⟨kd_X5_must, wj_mem 1211 (by decide +kernel) (by decide +kernel), wj_mem 62 (by decide +kernel) (by decide +kernel)⟩
theorem kd_X5_number : wj_cd yX5_number cX5_number 4 (some .int) 2 := ⟨wj_mem 1221 (by decide +kernel) (by decide +kernel), ki_X5, by decide, by decide, by decide +kernel⟩
theorem km_X5_number : wj_mv yX5_number cX5_number 4 (some .int) 2 := ⟨kd_X5_number, wj_mem 1220 (by decide +kernel) (by decide +kernel), wj_mem 64 (by decide +kernel) (by decide +kernel)⟩
theorem kd_X5_addItem : wj_cd yX5_addItem cX5_addItem 7 none 5 := ⟨wj_mem 1229 (by decide +kernel) (by decide +kernel), ki_X5, by decide, by decide, by decide +kernel⟩
theorem km_X5_addItem : wj_mv yX5_addItem cX5_addItem 7 none 5 := ⟨kd_X5_addItem, wj_mem 1228 (by decide +kernel) (by decide +kernel), wj_mem 65 (by decide +kernel) (by decide +kernel)⟩
theorem kd_X5_takesWord : wj_cd yX5_takesWord cX5_takesWord 3 (some .boolean) 1 := ⟨wj_mem 1217 (by decide +kernel) (by decide +kernel), ki_X5, by decide, by decide, by decide +kernel⟩
theorem km_X5_takesWord : wj_mv yX5_takesWord cX5_takesWord 3 (some .boolean) 1 := ⟨kd_X5_takesWord, wj_mem 1216 (by decide +kernel) (by decide +kernel), wj_mem 63 (by decide +kernel) (by decide +kernel)⟩
theorem kd_X5_readSlip : wj_cd yX5_readSlip cX5_readSlip 7 none 1 := ⟨wj_mem 1208 (by decide +kernel) (by decide +kernel), ki_X5, by decide, by decide, by decide +kernel⟩
theorem km_X5_readSlip : wj_mv yX5_readSlip cX5_readSlip 7 none 1 := ⟨kd_X5_readSlip, wj_mem 1207 (by decide +kernel) (by decide +kernel), wj_mem 61 (by decide +kernel) (by decide +kernel)⟩
theorem kd_X5_readLean : wj_cd yX5_readLean cX5_readLean 3 none 0 := ⟨wj_mem 1235 (by decide +kernel) (by decide +kernel), ki_X5, by decide, by decide, by decide +kernel⟩
theorem km_X5_readLean : wj_mv yX5_readLean cX5_readLean 3 none 0 := ⟨kd_X5_readLean, wj_mem 1234 (by decide +kernel) (by decide +kernel), wj_mem 66 (by decide +kernel) (by decide +kernel)⟩
theorem kd_X5_readItem : wj_cd yX5_readItem cX5_readItem 3 none 0 := ⟨wj_mem 1198 (by decide +kernel) (by decide +kernel), ki_X5, by decide, by decide, by decide +kernel⟩
theorem km_X5_readItem : wj_mv yX5_readItem cX5_readItem 3 none 0 := ⟨kd_X5_readItem, wj_mem 1197 (by decide +kernel) (by decide +kernel), wj_mem 59 (by decide +kernel) (by decide +kernel)⟩
theorem kd_X5_isToldSo : wj_cd yX5_isToldSo cX5_isToldSo 5 none 1 := ⟨wj_mem 1239 (by decide +kernel) (by decide +kernel), ki_X5, by decide, by decide, by decide +kernel⟩
theorem km_X5_isToldSo : wj_mv yX5_isToldSo cX5_isToldSo 5 none 1 := ⟨kd_X5_isToldSo, wj_mem 1238 (by decide +kernel) (by decide +kernel), wj_mem 67 (by decide +kernel) (by decide +kernel)⟩
theorem kd_X5_text : wj_cd yX5_text cX5_text 2 (some .int) 0 := ⟨wj_mem 1185 (by decide +kernel) (by decide +kernel), ki_X5, by decide, by decide, by decide +kernel⟩
theorem km_X5_text : wj_mv yX5_text cX5_text 2 (some .int) 0 := ⟨kd_X5_text, wj_mem 1183 (by decide +kernel) (by decide +kernel), wj_mem 1184 (by decide +kernel) (by decide +kernel)⟩
theorem kd_X5_isSpot : wj_cd yX5_isSpot cX5_isSpot 1 (some .boolean) 1 := ⟨wj_mem 1246 (by decide +kernel) (by decide +kernel), ki_X5, by decide, by decide, by decide +kernel⟩
theorem km_X5_isSpot : wj_ms yX5_isSpot cX5_isSpot 1 (some .boolean) 1 := ⟨kd_X5_isSpot, wj_mem 1245 (by decide +kernel) (by decide +kernel)⟩
theorem kd_X5_hold : wj_cd yX5_hold cX5_hold 3 (some .int) 2 := ⟨wj_mem 1243 (by decide +kernel) (by decide +kernel), ki_X5, by decide, by decide, by decide +kernel⟩
theorem km_X5_hold : wj_mv yX5_hold cX5_hold 3 (some .int) 2 := ⟨kd_X5_hold, wj_mem 1241 (by decide +kernel) (by decide +kernel), wj_mem 1242 (by decide +kernel) (by decide +kernel)⟩
theorem kd_X5_as : wj_cd yX5_as cX5_as 4 (some .int) 2 := ⟨wj_mem 1250 (by decide +kernel) (by decide +kernel), ki_X5, by decide, by decide, by decide +kernel⟩
theorem km_X5_as : wj_mv yX5_as cX5_as 4 (some .int) 2 := ⟨kd_X5_as, wj_mem 1248 (by decide +kernel) (by decide +kernel), wj_mem 1249 (by decide +kernel) (by decide +kernel)⟩
theorem kd_X5_isSheet : wj_cd yX5_isSheet cX5_isSheet 1 (some .boolean) 1 := ⟨wj_mem 1135 (by decide +kernel) (by decide +kernel), ki_X5, by decide, by decide, by decide +kernel⟩
theorem km_X5_isSheet : wj_ms yX5_isSheet cX5_isSheet 1 (some .boolean) 1 := ⟨kd_X5_isSheet, wj_mem 1134 (by decide +kernel) (by decide +kernel)⟩
theorem kd_X5_cutTo : wj_cd yX5_cutTo cX5_cutTo 2 (some .int) 2 := ⟨wj_mem 1269 (by decide +kernel) (by decide +kernel), ki_X5, by decide, by decide, by decide +kernel⟩
theorem km_X5_cutTo : wj_ms yX5_cutTo cX5_cutTo 2 (some .int) 2 := ⟨kd_X5_cutTo, wj_mem 1268 (by decide +kernel) (by decide +kernel)⟩
theorem kd_X5_sheet : wj_cd yX5_sheet cX5_sheet 5 (some .int) 3 := ⟨wj_mem 1261 (by decide +kernel) (by decide +kernel), ki_X5, by decide, by decide, by decide +kernel⟩
theorem km_X5_sheet : wj_mv yX5_sheet cX5_sheet 5 (some .int) 3 := ⟨kd_X5_sheet, wj_mem 1259 (by decide +kernel) (by decide +kernel), wj_mem 1260 (by decide +kernel) (by decide +kernel)⟩
theorem kd_X5_write : wj_cd yX5_write cX5_write 4 (some .int) 3 := ⟨wj_mem 1266 (by decide +kernel) (by decide +kernel), ki_X5, by decide, by decide, by decide +kernel⟩
theorem km_X5_write : wj_mv yX5_write cX5_write 4 (some .int) 3 := ⟨kd_X5_write, wj_mem 1264 (by decide +kernel) (by decide +kernel), wj_mem 1265 (by decide +kernel) (by decide +kernel)⟩
theorem kd_X5_copy : wj_cd yX5_copy cX5_copy 7 (some .int) 5 := ⟨wj_mem 1273 (by decide +kernel) (by decide +kernel), ki_X5, by decide, by decide, by decide +kernel⟩
theorem km_X5_copy : wj_mv yX5_copy cX5_copy 7 (some .int) 5 := ⟨kd_X5_copy, wj_mem 1271 (by decide +kernel) (by decide +kernel), wj_mem 1272 (by decide +kernel) (by decide +kernel)⟩
theorem kd_X5_above : wj_cd yX5_above cX5_above 1 (some .int) 1 := ⟨wj_mem 1256 (by decide +kernel) (by decide +kernel), ki_X5, by decide, by decide, by decide +kernel⟩
theorem km_X5_above : wj_ms yX5_above cX5_above 1 (some .int) 1 := ⟨kd_X5_above, wj_mem 1255 (by decide +kernel) (by decide +kernel)⟩
theorem kd_X5_isUnder : wj_cd yX5_isUnder cX5_isUnder 3 (some .boolean) 2 := ⟨wj_mem 1253 (by decide +kernel) (by decide +kernel), ki_X5, by decide, by decide, by decide +kernel⟩
theorem km_X5_isUnder : wj_ms yX5_isUnder cX5_isUnder 3 (some .boolean) 2 := ⟨kd_X5_isUnder, wj_mem 1252 (by decide +kernel) (by decide +kernel)⟩
theorem kd_X5_load : wj_cd yX5_load cX5_load 3 (some .int) 1 := ⟨wj_mem 1277 (by decide +kernel) (by decide +kernel), ki_X5, by decide, by decide, by decide +kernel⟩
theorem km_X5_load : wj_mv yX5_load cX5_load 3 (some .int) 1 := ⟨kd_X5_load, wj_mem 1275 (by decide +kernel) (by decide +kernel), wj_mem 1276 (by decide +kernel) (by decide +kernel)⟩
theorem kd_X5_judge : wj_cd yX5_judge cX5_judge 3 (some .int) 1 := ⟨wj_mem 1281 (by decide +kernel) (by decide +kernel), ki_X5, by decide, by decide, by decide +kernel⟩
theorem km_X5_judge : wj_mv yX5_judge cX5_judge 3 (some .int) 1 := ⟨kd_X5_judge, wj_mem 1279 (by decide +kernel) (by decide +kernel), wj_mem 1280 (by decide +kernel) (by decide +kernel)⟩
theorem kd_X5_image : wj_cd yX5_image cX5_image 1 (some .int) 0 := ⟨wj_mem 1285 (by decide +kernel) (by decide +kernel), ki_X5, by decide, by decide, by decide +kernel⟩
theorem km_X5_image : wj_mv yX5_image cX5_image 1 (some .int) 0 := ⟨kd_X5_image, wj_mem 1283 (by decide +kernel) (by decide +kernel), wj_mem 1284 (by decide +kernel) (by decide +kernel)⟩
theorem kd_X5_undo : wj_cd yX5_undo cX5_undo 1 (some .int) 0 := ⟨wj_mem 1289 (by decide +kernel) (by decide +kernel), ki_X5, by decide, by decide, by decide +kernel⟩
theorem km_X5_undo : wj_mv yX5_undo cX5_undo 1 (some .int) 0 := ⟨kd_X5_undo, wj_mem 1287 (by decide +kernel) (by decide +kernel), wj_mem 1288 (by decide +kernel) (by decide +kernel)⟩
theorem kd_X5_tear : wj_cd yX5_tear cX5_tear 2 (some .int) 0 := ⟨wj_mem 1293 (by decide +kernel) (by decide +kernel), ki_X5, by decide, by decide, by decide +kernel⟩
theorem km_X5_tear : wj_mv yX5_tear cX5_tear 2 (some .int) 0 := ⟨kd_X5_tear, wj_mem 1291 (by decide +kernel) (by decide +kernel), wj_mem 1292 (by decide +kernel) (by decide +kernel)⟩
theorem kd_X5_count : wj_cd yX5_count cX5_count 4 (some .int) 1 := ⟨wj_mem 1297 (by decide +kernel) (by decide +kernel), ki_X5, by decide, by decide, by decide +kernel⟩
theorem km_X5_count : wj_mv yX5_count cX5_count 4 (some .int) 1 := ⟨kd_X5_count, wj_mem 1295 (by decide +kernel) (by decide +kernel), wj_mem 1296 (by decide +kernel) (by decide +kernel)⟩
theorem kd_X5_status : wj_cd yX5_status cX5_status 2 (some .int) 1 := ⟨wj_mem 1301 (by decide +kernel) (by decide +kernel), ki_X5, by decide, by decide, by decide +kernel⟩
theorem km_X5_status : wj_mv yX5_status cX5_status 2 (some .int) 1 := ⟨kd_X5_status, wj_mem 1299 (by decide +kernel) (by decide +kernel), wj_mem 1300 (by decide +kernel) (by decide +kernel)⟩
theorem kd_J6_bitCount_0f7a4 : wj_cd yJ6_bitCount_0f7a4 cJ6_bitCount_0f7a4 1 (some .int) 1 := ⟨wj_mem 491 (by decide +kernel) (by decide +kernel), ki_J6, by decide, by decide, by decide +kernel⟩
theorem km_J6_bitCount_0f7a4 : wj_ms yJ6_bitCount_0f7a4 cJ6_bitCount_0f7a4 1 (some .int) 1 := ⟨kd_J6_bitCount_0f7a4, wj_mem 490 (by decide +kernel) (by decide +kernel)⟩
theorem kd_J9_floorMod_7cf53 : wj_cd yJ9_floorMod_7cf53 cJ9_floorMod_7cf53 3 (some .int) 2 := ⟨wj_mem 406 (by decide +kernel) (by decide +kernel), ki_J9, by decide, by decide, by decide +kernel⟩
theorem km_J9_floorMod_7cf53 : wj_ms yJ9_floorMod_7cf53 cJ9_floorMod_7cf53 3 (some .int) 2 := ⟨kd_J9_floorMod_7cf53, wj_mem 405 (by decide +kernel) (by decide +kernel)⟩
theorem kd_J9_max_7cf53 : wj_cd yJ9_max_7cf53 cJ9_max_7cf53 2 (some .int) 2 := ⟨wj_mem 309 (by decide +kernel) (by decide +kernel), ki_J9, by decide, by decide, by decide +kernel⟩
theorem km_J9_max_7cf53 : wj_ms yJ9_max_7cf53 cJ9_max_7cf53 2 (some .int) 2 := ⟨kd_J9_max_7cf53, wj_mem 308 (by decide +kernel) (by decide +kernel)⟩
theorem kd_J9_min_7cf53 : wj_cd yJ9_min_7cf53 cJ9_min_7cf53 2 (some .int) 2 := ⟨wj_mem 312 (by decide +kernel) (by decide +kernel), ki_J9, by decide, by decide, by decide +kernel⟩
theorem km_J9_min_7cf53 : wj_ms yJ9_min_7cf53 cJ9_min_7cf53 2 (some .int) 2 := ⟨kd_J9_min_7cf53, wj_mem 311 (by decide +kernel) (by decide +kernel)⟩
theorem kd_J0_length_8abf5 : wj_cd yJ0_length_8abf5 cJ0_length_8abf5 1 (some .int) 0 := ⟨wj_mem 623 (by decide +kernel) (by decide +kernel), ki_J0, by decide, by decide, by decide +kernel⟩
theorem km_J0_length_8abf5 : wj_mv yJ0_length_8abf5 cJ0_length_8abf5 1 (some .int) 0 := ⟨kd_J0_length_8abf5, wj_mem 621 (by decide +kernel) (by decide +kernel), wj_mem 622 (by decide +kernel) (by decide +kernel)⟩
theorem kd_J0_charAt_5068e : wj_cd yJ0_charAt_5068e cJ0_charAt_5068e 2 (some .char) 1 := ⟨wj_mem 633 (by decide +kernel) (by decide +kernel), ki_J0, by decide, by decide, by decide +kernel⟩
theorem km_J0_charAt_5068e : wj_mv yJ0_charAt_5068e cJ0_charAt_5068e 2 (some .char) 1 := ⟨kd_J0_charAt_5068e, wj_mem 631 (by decide +kernel) (by decide +kernel), wj_mem 632 (by decide +kernel) (by decide +kernel)⟩
theorem kd_J0_coder_7d493 : wj_cd yJ0_coder_7d493 cJ0_coder_7d493 1 (some .byte) 0 := ⟨wj_mem 627 (by decide +kernel) (by decide +kernel), ki_J0, by decide, by decide, by decide +kernel⟩
theorem km_J0_coder_7d493 : wj_mv yJ0_coder_7d493 cJ0_coder_7d493 1 (some .byte) 0 := ⟨kd_J0_coder_7d493, wj_mem 625 (by decide +kernel) (by decide +kernel), wj_mem 626 (by decide +kernel) (by decide +kernel)⟩
theorem kd_J0_isLatin1_aae02 : wj_cd yJ0_isLatin1_aae02 cJ0_isLatin1_aae02 1 (some .boolean) 0 := ⟨wj_mem 637 (by decide +kernel) (by decide +kernel), ki_J0, by decide, by decide, by decide +kernel⟩
theorem km_J0_isLatin1_aae02 : wj_mv yJ0_isLatin1_aae02 cJ0_isLatin1_aae02 1 (some .boolean) 0 := ⟨kd_J0_isLatin1_aae02, wj_mem 635 (by decide +kernel) (by decide +kernel), wj_mem 636 (by decide +kernel) (by decide +kernel)⟩
theorem kd_J0_checkIndex_df160 : wj_cd yJ0_checkIndex_df160 cJ0_checkIndex_df160 2 none 2 := ⟨wj_mem 643 (by decide +kernel) (by decide +kernel), ki_J0, by decide, by decide, by decide +kernel⟩
theorem km_J0_checkIndex_df160 : wj_ms yJ0_checkIndex_df160 cJ0_checkIndex_df160 2 none 2 := ⟨kd_J0_checkIndex_df160, wj_mem 642 (by decide +kernel) (by decide +kernel)⟩
theorem kd_J1_charAt_3b067 : wj_cd yJ1_charAt_3b067 cJ1_charAt_3b067 2 (some .char) 2 := ⟨wj_mem 640 (by decide +kernel) (by decide +kernel), ki_J1, by decide, by decide, by decide +kernel⟩
theorem km_J1_charAt_3b067 : wj_ms yJ1_charAt_3b067 cJ1_charAt_3b067 2 (some .char) 2 := ⟨kd_J1_charAt_3b067, wj_mem 639 (by decide +kernel) (by decide +kernel)⟩
theorem kd_J7_fill_53178 : wj_cd yJ7_fill_53178 cJ7_fill_53178 4 none 2 := ⟨wj_mem 190 (by decide +kernel) (by decide +kernel), ki_J7, by decide, by decide, by decide +kernel⟩
theorem km_J7_fill_53178 : wj_ms yJ7_fill_53178 cJ7_fill_53178 4 none 2 := ⟨kd_J7_fill_53178, wj_mem 189 (by decide +kernel) (by decide +kernel)⟩
theorem kd_J3_checkIndex_8e157 : wj_cd yJ3_checkIndex_8e157 cJ3_checkIndex_8e157 3 (some .int) 3 := ⟨wj_mem 648 (by decide +kernel) (by decide +kernel), ki_J3, by decide, by decide, by decide +kernel⟩
theorem km_J3_checkIndex_8e157 : wj_ms yJ3_checkIndex_8e157 cJ3_checkIndex_8e157 3 (some .int) 3 := ⟨kd_J3_checkIndex_8e157, wj_mem 647 (by decide +kernel) (by decide +kernel)⟩
theorem kl_X4_56 : wj_in (.methodLink RX4 56 yJ7_fill_53178) := wj_mem 188 (by decide +kernel) (by decide +kernel)
theorem kl_L_13 : wj_in (.methodLink RL 13 yX4_hurdles) := wj_mem 243 (by decide +kernel) (by decide +kernel)
theorem kc_X4_63 : wj_in (.constant RX4 63 (65535)) := wj_mem 247 (by decide +kernel) (by decide +kernel)
theorem kl_X4_64 : wj_in (.methodLink RX4 64 yX4_isIn) := wj_mem 248 (by decide +kernel) (by decide +kernel)
theorem kc_X4_68 : wj_in (.constant RX4 68 (-1000001)) := wj_mem 251 (by decide +kernel) (by decide +kernel)
theorem kl_X4_69 : wj_in (.methodLink RX4 69 yX4_tell) := wj_mem 252 (by decide +kernel) (by decide +kernel)
theorem kl_L_18 : wj_in (.methodLink RL 18 yX4_place) := wj_mem 256 (by decide +kernel) (by decide +kernel)
theorem kl_X4_76 : wj_in (.methodLink RX4 76 yX4_isPlace) := wj_mem 260 (by decide +kernel) (by decide +kernel)
theorem kl_X4_80 : wj_in (.methodLink RX4 80 yX0_strengthOf) := wj_mem 263 (by decide +kernel) (by decide +kernel)
theorem kl_X0_66 : wj_in (.methodLink RX0 66 yX0_hasHurdle) := wj_mem 267 (by decide +kernel) (by decide +kernel)
theorem kl_X0_62 : wj_in (.methodLink RX0 62 yX2_isCovering) := wj_mem 271 (by decide +kernel) (by decide +kernel)
theorem kl_X2_47 : wj_in (.methodLink RX2 47 yX2_reaches) := wj_mem 275 (by decide +kernel) (by decide +kernel)
theorem kl_X0_69 : wj_in (.methodLink RX0 69 yX2_strongIn) := wj_mem 279 (by decide +kernel) (by decide +kernel)
theorem kl_X2_60 : wj_in (.methodLink RX2 60 yX2_isLaid) := wj_mem 283 (by decide +kernel) (by decide +kernel)
theorem kl_X4_83 : wj_in (.methodLink RX4 83 yX0_slipsIn) := wj_mem 287 (by decide +kernel) (by decide +kernel)
theorem kl_X4_86 : wj_in (.methodLink RX4 86 yX0_coverersOf) := wj_mem 291 (by decide +kernel) (by decide +kernel)
theorem kl_X4_89 : wj_in (.methodLink RX4 89 yX0_isGap) := wj_mem 295 (by decide +kernel) (by decide +kernel)
theorem kl_X0_78 : wj_in (.methodLink RX0 78 yX0_gapSet) := wj_mem 299 (by decide +kernel) (by decide +kernel)
theorem kl_X0_73 : wj_in (.methodLink RX0 73 yX2_coverSet) := wj_mem 303 (by decide +kernel) (by decide +kernel)
theorem kl_X2_51 : wj_in (.methodLink RX2 51 yJ9_max_7cf53) := wj_mem 307 (by decide +kernel) (by decide +kernel)
theorem kx_X2_51 : wj_mx RX2 51 := ⟨wj_mem 307 (by decide +kernel) (by decide +kernel), wj_mem 308 (by decide +kernel) (by decide +kernel), wj_mem 76 (by decide +kernel) (by decide +kernel), wj_mem 309 (by decide +kernel) (by decide +kernel)⟩
theorem kl_X2_57 : wj_in (.methodLink RX2 57 yJ9_min_7cf53) := wj_mem 310 (by decide +kernel) (by decide +kernel)
theorem kx_X2_57 : wj_mn RX2 57 := ⟨wj_mem 310 (by decide +kernel) (by decide +kernel), wj_mem 311 (by decide +kernel) (by decide +kernel), wj_mem 76 (by decide +kernel) (by decide +kernel), wj_mem 312 (by decide +kernel) (by decide +kernel)⟩
theorem kc_X0_77 : wj_in (.constant RX0 77 (65535)) := wj_mem 313 (by decide +kernel) (by decide +kernel)
theorem kl_L_23 : wj_in (.methodLink RL 23 yX4_lean) := wj_mem 314 (by decide +kernel) (by decide +kernel)
theorem kl_X4_92 : wj_in (.methodLink RX4 92 yX4_isListed) := wj_mem 318 (by decide +kernel) (by decide +kernel)
theorem kl_X4_95 : wj_in (.methodLink RX4 95 yX4_isWeight) := wj_mem 321 (by decide +kernel) (by decide +kernel)
theorem kl_L_28 : wj_in (.methodLink RL 28 yX4_leaning) := wj_mem 324 (by decide +kernel) (by decide +kernel)
theorem kl_L_32 : wj_in (.methodLink RL 32 yX4_slip) := wj_mem 328 (by decide +kernel) (by decide +kernel)
theorem kl_X4_101 : wj_in (.methodLink RX4 101 yX2_allows) := wj_mem 332 (by decide +kernel) (by decide +kernel)
theorem kl_X2_11 : wj_in (.methodLink RX2 11 yX2_least) := wj_mem 335 (by decide +kernel) (by decide +kernel)
theorem kl_X2_15 : wj_in (.methodLink RX2 15 yX2_most) := wj_mem 338 (by decide +kernel) (by decide +kernel)
theorem kl_X2_18 : wj_in (.methodLinkNest RX2 18 yX4_isIn "WordHedge") := wj_mem 341 (by decide +kernel) (by decide +kernel)
theorem kl_X4_107 : wj_in (.methodLink RX4 107 yX0_add) := wj_mem 342 (by decide +kernel) (by decide +kernel)
theorem kl_X0_55 : wj_in (.methodLink RX0 55 yX2_start) := wj_mem 346 (by decide +kernel) (by decide +kernel)
theorem kc_X4_111 : wj_in (.constant RX4 111 (-1000002)) := wj_mem 350 (by decide +kernel) (by decide +kernel)
theorem kl_L_36 : wj_in (.methodLink RL 36 yX4_of) := wj_mem 351 (by decide +kernel) (by decide +kernel)
theorem kl_X4_115 : wj_in (.methodLink RX4 115 yX0_slipAt) := wj_mem 355 (by decide +kernel) (by decide +kernel)
theorem kl_X0_51 : wj_in (.methodLinkNest RX0 51 yX4_isIn "WordHedge") := wj_mem 359 (by decide +kernel) (by decide +kernel)
theorem kl_X4_122 : wj_in (.methodLink RX4 122 yX2_trait) := wj_mem 360 (by decide +kernel) (by decide +kernel)
theorem kl_X2_64 : wj_in (.methodLink RX2 64 yX2_coverSet) := wj_mem 364 (by decide +kernel) (by decide +kernel)
theorem kl_X2_67 : wj_in (.methodLink RX2 67 yX2_strongIn) := wj_mem 365 (by decide +kernel) (by decide +kernel)
theorem kl_X2_70 : wj_in (.methodLink RX2 70 yX2_growth) := wj_mem 366 (by decide +kernel) (by decide +kernel)
theorem kl_X2_73 : wj_in (.methodLink RX2 73 yX2_filling) := wj_mem 370 (by decide +kernel) (by decide +kernel)
theorem kl_L_40 : wj_in (.methodLink RL 40 yX4_change) := wj_mem 374 (by decide +kernel) (by decide +kernel)
theorem kl_X4_126 : wj_in (.methodLink RX4 126 yX2_put) := wj_mem 378 (by decide +kernel) (by decide +kernel)
theorem kl_L_44 : wj_in (.methodLink RL 44 yX4_cut) := wj_mem 382 (by decide +kernel) (by decide +kernel)
theorem kl_X4_133 : wj_in (.methodLink RX4 133 yJ9_max_7cf53) := wj_mem 386 (by decide +kernel) (by decide +kernel)
theorem kx_X4_133 : wj_mx RX4 133 := ⟨wj_mem 386 (by decide +kernel) (by decide +kernel), wj_mem 308 (by decide +kernel) (by decide +kernel), wj_mem 76 (by decide +kernel) (by decide +kernel), wj_mem 309 (by decide +kernel) (by decide +kernel)⟩
theorem kl_L_48 : wj_in (.methodLink RL 48 yX4_go) := wj_mem 387 (by decide +kernel) (by decide +kernel)
theorem kc_X4_138 : wj_in (.constant RX4 138 (99999)) := wj_mem 391 (by decide +kernel) (by decide +kernel)
theorem kc_X4_139 : wj_in (.constant RX4 139 (-1000005)) := wj_mem 392 (by decide +kernel) (by decide +kernel)
theorem kl_X4_140 : wj_in (.methodLink RX4 140 yX0_passYears) := wj_mem 393 (by decide +kernel) (by decide +kernel)
theorem kl_X0_90 : wj_in (.methodLink RX0 90 yX0_passYear) := wj_mem 397 (by decide +kernel) (by decide +kernel)
theorem kl_X0_93 : wj_in (.methodLink RX0 93 yX0_listedFor) := wj_mem 401 (by decide +kernel) (by decide +kernel)
theorem kl_X0_35 : wj_in (.methodLink RX0 35 yJ9_floorMod_7cf53) := wj_mem 404 (by decide +kernel) (by decide +kernel)
theorem kl_X0_81 : wj_in (.methodLink RX0 81 yX0_strengthOf) := wj_mem 407 (by decide +kernel) (by decide +kernel)
theorem kl_X0_96 : wj_in (.methodLink RX0 96 yX0_breakDown) := wj_mem 408 (by decide +kernel) (by decide +kernel)
theorem kl_X0_107 : wj_in (.methodLink RX0 107 yX2_giveWay) := wj_mem 412 (by decide +kernel) (by decide +kernel)
theorem kl_X0_104 : wj_in (.methodLink RX0 104 yJ9_min_7cf53) := wj_mem 416 (by decide +kernel) (by decide +kernel)
theorem kx_X0_104 : wj_mn RX0 104 := ⟨wj_mem 416 (by decide +kernel) (by decide +kernel), wj_mem 311 (by decide +kernel) (by decide +kernel), wj_mem 76 (by decide +kernel) (by decide +kernel), wj_mem 312 (by decide +kernel) (by decide +kernel)⟩
theorem kl_X0_100 : wj_in (.methodLink RX0 100 yX2_grow) := wj_mem 417 (by decide +kernel) (by decide +kernel)
theorem kc_X0_103 : wj_in (.constant RX0 103 (99999)) := wj_mem 421 (by decide +kernel) (by decide +kernel)
theorem kl_X4_144 : wj_in (.methodLink RX4 144 yX0_gapSet) := wj_mem 422 (by decide +kernel) (by decide +kernel)
theorem kl_L_52 : wj_in (.methodLink RL 52 yX4_now) := wj_mem 423 (by decide +kernel) (by decide +kernel)
theorem kl_X4_151 : wj_in (.methodLink RX4 151 yX0_weakestPlace) := wj_mem 427 (by decide +kernel) (by decide +kernel)
theorem kl_X4_154 : wj_in (.methodLink RX4 154 yX0_sumOf) := wj_mem 431 (by decide +kernel) (by decide +kernel)
theorem kl_X0_84 : wj_in (.methodLink RX0 84 yX2_trait) := wj_mem 435 (by decide +kernel) (by decide +kernel)
theorem kl_L_56 : wj_in (.methodLink RL 56 yX4_ahead) := wj_mem 436 (by decide +kernel) (by decide +kernel)
theorem kl_X4_157 : wj_in (.methodLink RX4 157 yX4_isForetold) := wj_mem 440 (by decide +kernel) (by decide +kernel)
theorem kl_X4_160 : wj_in (.methodLink RX4 160 yX0_become) := wj_mem 443 (by decide +kernel) (by decide +kernel)
theorem kl_X0_41 : wj_in (.methodLink RX0 41 yX2_become) := wj_mem 447 (by decide +kernel) (by decide +kernel)
theorem kx_X0_45 : wj_ac RX0 45 := ⟨wj_mem 451 (by decide +kernel) (by decide +kernel), wj_mem 453 (by decide +kernel) (by decide +kernel), wj_mem 452 (by decide +kernel) (by decide +kernel), wj_mem 77 (by decide +kernel) (by decide +kernel)⟩
theorem kl_L_60 : wj_in (.methodLink RL 60 yX4_strong) := wj_mem 454 (by decide +kernel) (by decide +kernel)
theorem kl_L_64 : wj_in (.methodLink RL 64 yX4_closed) := wj_mem 458 (by decide +kernel) (by decide +kernel)
theorem kl_X4_164 : wj_in (.methodLink RX4 164 yX4_waitFor) := wj_mem 462 (by decide +kernel) (by decide +kernel)
theorem kl_X4_170 : wj_in (.methodLink RX4 170 yX0_passYear) := wj_mem 466 (by decide +kernel) (by decide +kernel)
theorem kc_X4_173 : wj_in (.constant RX4 173 (-1000004)) := wj_mem 467 (by decide +kernel) (by decide +kernel)
theorem kl_L_68 : wj_in (.methodLink RL 68 yX4_whole) := wj_mem 468 (by decide +kernel) (by decide +kernel)
theorem kl_L_73 : wj_in (.methodLink RL 73 yX4_breaks) := wj_mem 472 (by decide +kernel) (by decide +kernel)
theorem kl_L_77 : wj_in (.methodLink RL 77 yX4_lay) := wj_mem 476 (by decide +kernel) (by decide +kernel)
theorem kl_X4_174 : wj_in (.methodLink RX4 174 yX4_fewestGaps) := wj_mem 480 (by decide +kernel) (by decide +kernel)
theorem kl_X4_273 : wj_in (.methodLink RX4 273 yX2_most) := wj_mem 484 (by decide +kernel) (by decide +kernel)
theorem kl_X4_178 : wj_in (.methodLink RX4 178 yX4_trySlip) := wj_mem 485 (by decide +kernel) (by decide +kernel)
theorem kl_X4_187 : wj_in (.methodLink RX4 187 yJ6_bitCount_0f7a4) := wj_mem 489 (by decide +kernel) (by decide +kernel)
theorem kc_J6_265 : wj_in (.constant RJ6 265 (1431655765)) := wj_mem 492 (by decide +kernel) (by decide +kernel)
theorem kc_J6_266 : wj_in (.constant RJ6 266 (858993459)) := wj_mem 493 (by decide +kernel) (by decide +kernel)
theorem kc_J6_267 : wj_in (.constant RJ6 267 (252645135)) := wj_mem 494 (by decide +kernel) (by decide +kernel)
theorem kl_L_81 : wj_in (.methodLink RL 81 yX4_plant) := wj_mem 495 (by decide +kernel) (by decide +kernel)
theorem kl_L_85 : wj_in (.methodLink RL 85 yX4_kindFor) := wj_mem 499 (by decide +kernel) (by decide +kernel)
theorem kl_L_89 : wj_in (.methodLink RL 89 yX4_weightFor) := wj_mem 503 (by decide +kernel) (by decide +kernel)
theorem kl_X4_184 : wj_in (.methodLink RX4 184 yX0_madeNoGapIn) := wj_mem 507 (by decide +kernel) (by decide +kernel)
theorem kl_L_93 : wj_in (.methodLink RL 93 yX4_layAll) := wj_mem 511 (by decide +kernel) (by decide +kernel)
theorem kl_X4_192 : wj_in (.methodLink RX4 192 yX0_layToGreater) := wj_mem 515 (by decide +kernel) (by decide +kernel)
theorem kl_L_97 : wj_in (.methodLink RL 97 yX4_hurdlesFor) := wj_mem 519 (by decide +kernel) (by decide +kernel)
theorem kl_L_101 : wj_in (.methodLink RL 101 yX4_words) := wj_mem 523 (by decide +kernel) (by decide +kernel)
theorem kl_X4_195 : wj_in (.methodLink RX4 195 yX4_couldBe) := wj_mem 527 (by decide +kernel) (by decide +kernel)
theorem kl_X4_198 : wj_in (.methodLink RX4 198 yX4_sheetAt) := wj_mem 531 (by decide +kernel) (by decide +kernel)
theorem kl_X4_202 : wj_in (.methodLink RX4 202 yX1_isMissing) := wj_mem 535 (by decide +kernel) (by decide +kernel)
theorem kc_X4_206 : wj_in (.constant RX4 206 (-1000006)) := wj_mem 539 (by decide +kernel) (by decide +kernel)
theorem kl_X4_276 : wj_in (.methodLink RX4 276 yX2_least) := wj_mem 540 (by decide +kernel) (by decide +kernel)
theorem kl_X4_279 : wj_in (.methodLink RX4 279 yX4_highIsAs) := wj_mem 541 (by decide +kernel) (by decide +kernel)
theorem kl_X4_283 : wj_in (.methodLink RX4 283 yX1_agrees) := wj_mem 545 (by decide +kernel) (by decide +kernel)
theorem kl_X1_28 : wj_in (.methodLinkNest RX1 28 yX4_isIn "WordHedge") := wj_mem 549 (by decide +kernel) (by decide +kernel)
theorem kl_L_105 : wj_in (.methodLink RL 105 yX4_kinds) := wj_mem 550 (by decide +kernel) (by decide +kernel)
theorem kl_L_109 : wj_in (.methodLink RL 109 yX4_fits) := wj_mem 554 (by decide +kernel) (by decide +kernel)
theorem kl_X4_207 : wj_in (.methodLink RX4 207 yX4_strengthIsAs) := wj_mem 558 (by decide +kernel) (by decide +kernel)
theorem kl_L_113 : wj_in (.methodLink RL 113 yX4_leans) := wj_mem 562 (by decide +kernel) (by decide +kernel)
theorem kl_X4_211 : wj_in (.methodLink RX4 211 yX4_draw) := wj_mem 566 (by decide +kernel) (by decide +kernel)
theorem kc_X4_272 : wj_in (.constant RX4 272 (1103515245)) := wj_mem 570 (by decide +kernel) (by decide +kernel)
theorem kl_X4_214 : wj_in (.methodLink RX4 214 yX0_listedFor) := wj_mem 571 (by decide +kernel) (by decide +kernel)
theorem kl_L_117 : wj_in (.methodLink RL 117 yX4_odds) := wj_mem 572 (by decide +kernel) (by decide +kernel)
theorem kl_X4_217 : wj_in (.methodLink RX4 217 yX0_placesBrokenBy) := wj_mem 576 (by decide +kernel) (by decide +kernel)
theorem kl_X4_220 : wj_in (.methodLink RX4 220 yX4_power) := wj_mem 580 (by decide +kernel) (by decide +kernel)
theorem kl_L_122 : wj_in (.methodLink RL 122 yX4_seed) := wj_mem 583 (by decide +kernel) (by decide +kernel)
theorem kl_L_126 : wj_in (.methodLink RL 126 yX4_feed) := wj_mem 587 (by decide +kernel) (by decide +kernel)
theorem kl_X4_225 : wj_in (.methodLink RX4 225 yX3_append) := wj_mem 591 (by decide +kernel) (by decide +kernel)
theorem kl_L_130 : wj_in (.methodLink RL 130 yX4_wipe) := wj_mem 595 (by decide +kernel) (by decide +kernel)
theorem kl_L_134 : wj_in (.methodLink RL 134 yX4_text) := wj_mem 599 (by decide +kernel) (by decide +kernel)
theorem kl_X4_228 : wj_in (.methodLink RX4 228 yX3_readText) := wj_mem 603 (by decide +kernel) (by decide +kernel)
theorem kl_X3_28 : wj_in (.methodLink RX3 28 yX3_step) := wj_mem 607 (by decide +kernel) (by decide +kernel)
theorem kl_X3_31 : wj_in (.methodLink RX3 31 yX3_readItem) := wj_mem 611 (by decide +kernel) (by decide +kernel)
theorem kt_X3_35 : (RX3, 35, "hurdles", 12) ∈ wj_L := by decide +kernel
theorem kl_X3_37 : wj_in (.methodLink RX3 37 yX3_isWord) := wj_mem 616 (by decide +kernel) (by decide +kernel)
theorem kl_X3_133 : wj_in (.methodLink RX3 133 yJ0_length_8abf5) := wj_mem 620 (by decide +kernel) (by decide +kernel)
theorem kl_J0_335 : wj_in (.methodLink RJ0 335 yJ0_coder_7d493) := wj_mem 624 (by decide +kernel) (by decide +kernel)
theorem kl_X3_138 : wj_in (.methodLink RX3 138 yJ0_charAt_5068e) := wj_mem 630 (by decide +kernel) (by decide +kernel)
theorem kl_J0_492 : wj_in (.methodLink RJ0 492 yJ0_isLatin1_aae02) := wj_mem 634 (by decide +kernel) (by decide +kernel)
theorem kl_J0_495 : wj_in (.methodLink RJ0 495 yJ1_charAt_3b067) := wj_mem 638 (by decide +kernel) (by decide +kernel)
theorem kl_J1_9 : wj_in (.methodLink RJ1 9 yJ0_checkIndex_df160) := wj_mem 641 (by decide +kernel) (by decide +kernel)
theorem kl_J0_1059 : wj_in (.methodLink RJ0 1059 yJ3_checkIndex_8e157) := wj_mem 646 (by decide +kernel) (by decide +kernel)
theorem kl_X3_41 : wj_in (.methodLink RX3 41 yX3_readHurdles) := wj_mem 668 (by decide +kernel) (by decide +kernel)
theorem kc_X3_60 : wj_in (.constant RX3 60 (65535)) := wj_mem 672 (by decide +kernel) (by decide +kernel)
theorem kl_X3_61 : wj_in (.methodLink RX3 61 yX3_readNumber) := wj_mem 673 (by decide +kernel) (by decide +kernel)
theorem kl_X3_111 : wj_in (.methodLink RX3 111 yX3_numberTold) := wj_mem 677 (by decide +kernel) (by decide +kernel)
theorem kc_X3_118 : wj_in (.constant RX3 118 (99999)) := wj_mem 681 (by decide +kernel) (by decide +kernel)
theorem kl_X3_114 : wj_in (.methodLinkNest RX3 114 yX4_isIn "WordHedge") := wj_mem 682 (by decide +kernel) (by decide +kernel)
theorem kt_X3_44 : (RX3, 44, "lean", 13) ∈ wj_L := by decide +kernel
theorem kl_X3_46 : wj_in (.methodLink RX3 46 yX3_readLeaning) := wj_mem 684 (by decide +kernel) (by decide +kernel)
theorem kl_X3_68 : wj_in (.methodLinkNest RX3 68 yX4_isListed "WordHedge") := wj_mem 688 (by decide +kernel) (by decide +kernel)
theorem kl_X3_49 : wj_in (.methodLink RX3 49 yX3_kindNamed) := wj_mem 689 (by decide +kernel) (by decide +kernel)
theorem kt_X3_119 : (RX3, 119, "slip", 0) ∈ wj_L := by decide +kernel
theorem kt_X3_121 : (RX3, 121, "hawthorn", 1) ∈ wj_L := by decide +kernel
theorem kt_X3_123 : (RX3, 123, "promise", 2) ∈ wj_L := by decide +kernel
theorem kt_X3_125 : (RX3, 125, "latin", 3) ∈ wj_L := by decide +kernel
theorem kt_X3_127 : (RX3, 127, "elegy", 4) ∈ wj_L := by decide +kernel
theorem kt_X3_129 : (RX3, 129, "slipper", 5) ∈ wj_L := by decide +kernel
theorem kt_X3_131 : (RX3, 131, "may", 6) ∈ wj_L := by decide +kernel
theorem kl_X3_56 : wj_in (.methodLink RX3 56 yX3_readSlip) := wj_mem 700 (by decide +kernel) (by decide +kernel)
theorem kt_X3_76 : (RX3, 76, "in", 7) ∈ wj_L := by decide +kernel
theorem kl_X3_78 : wj_in (.methodLink RX3 78 yX3_readPart) := wj_mem 705 (by decide +kernel) (by decide +kernel)
theorem kl_X3_100 : wj_in (.methodLink RX3 100 yX2_least) := wj_mem 709 (by decide +kernel) (by decide +kernel)
theorem kl_X3_104 : wj_in (.methodLink RX3 104 yX2_most) := wj_mem 710 (by decide +kernel) (by decide +kernel)
theorem kt_X3_82 : (RX3, 82, "words", 8) ∈ wj_L := by decide +kernel
theorem kt_X3_84 : (RX3, 84, "high", 9) ∈ wj_L := by decide +kernel
theorem kl_X3_88 : wj_in (.methodLink RX3 88 yX0_add) := wj_mem 713 (by decide +kernel) (by decide +kernel)
theorem kl_X3_94 : wj_in (.methodLink RX3 94 yX3_readLaid) := wj_mem 714 (by decide +kernel) (by decide +kernel)
theorem kt_X3_107 : (RX3, 107, "up", 10) ∈ wj_L := by decide +kernel
theorem kt_X3_109 : (RX3, 109, "down", 11) ∈ wj_L := by decide +kernel
theorem kl_L_138 : wj_in (.methodLink RL 138 yX4_hold) := wj_mem 720 (by decide +kernel) (by decide +kernel)
theorem kl_L_142 : wj_in (.methodLink RL 142 yX4_as) := wj_mem 724 (by decide +kernel) (by decide +kernel)
theorem kl_X4_232 : wj_in (.methodLink RX4 232 yX2_isOne) := wj_mem 728 (by decide +kernel) (by decide +kernel)
theorem kl_X2_44 : wj_in (.methodLink RX2 44 yX2_kindAbove) := wj_mem 732 (by decide +kernel) (by decide +kernel)
theorem kc_X4_235 : wj_in (.constant RX4 235 (-1000003)) := wj_mem 735 (by decide +kernel) (by decide +kernel)
theorem kl_L_146 : wj_in (.methodLink RL 146 yX4_sheet) := wj_mem 736 (by decide +kernel) (by decide +kernel)
theorem kl_X4_236 : wj_in (.methodLink RX4 236 yX1_canBeOf) := wj_mem 740 (by decide +kernel) (by decide +kernel)
theorem kc_X4_239 : wj_in (.constant RX4 239 (-1000007)) := wj_mem 743 (by decide +kernel) (by decide +kernel)
theorem kl_X4_240 : wj_in (.methodLink RX4 240 yX1_renew) := wj_mem 744 (by decide +kernel) (by decide +kernel)
theorem kl_X1_22 : wj_in (.methodLink RX1 22 yJ7_fill_53178) := wj_mem 748 (by decide +kernel) (by decide +kernel)
theorem kl_L_150 : wj_in (.methodLink RL 150 yX4_write) := wj_mem 749 (by decide +kernel) (by decide +kernel)
theorem kl_X4_244 : wj_in (.methodLink RX4 244 yX1_put) := wj_mem 753 (by decide +kernel) (by decide +kernel)
theorem kl_L_154 : wj_in (.methodLink RL 154 yX4_copy) := wj_mem 757 (by decide +kernel) (by decide +kernel)
theorem kl_X4_248 : wj_in (.methodLink RX4 248 yX1_has) := wj_mem 761 (by decide +kernel) (by decide +kernel)
theorem kx_X4_254 : wj_ac RX4 254 := ⟨wj_mem 765 (by decide +kernel) (by decide +kernel), wj_mem 453 (by decide +kernel) (by decide +kernel), wj_mem 452 (by decide +kernel) (by decide +kernel), wj_mem 77 (by decide +kernel) (by decide +kernel)⟩
theorem kl_L_159 : wj_in (.methodLink RL 159 yX4_load) := wj_mem 766 (by decide +kernel) (by decide +kernel)
theorem kl_X4_260 : wj_in (.methodLink RX4 260 yX4_isLeaning) := wj_mem 770 (by decide +kernel) (by decide +kernel)
theorem kl_L_163 : wj_in (.methodLink RL 163 yX4_judge) := wj_mem 773 (by decide +kernel) (by decide +kernel)
theorem kl_L_167 : wj_in (.methodLink RL 167 yX4_image) := wj_mem 777 (by decide +kernel) (by decide +kernel)
theorem kl_L_171 : wj_in (.methodLink RL 171 yX4_undo) := wj_mem 781 (by decide +kernel) (by decide +kernel)
theorem kl_L_175 : wj_in (.methodLink RL 175 yX4_tear) := wj_mem 785 (by decide +kernel) (by decide +kernel)
theorem kl_L_179 : wj_in (.methodLink RL 179 yX4_count) := wj_mem 789 (by decide +kernel) (by decide +kernel)
theorem kl_X4_266 : wj_in (.methodLink RX4 266 yX4_spotsInUse) := wj_mem 793 (by decide +kernel) (by decide +kernel)
theorem kl_L_183 : wj_in (.methodLink RL 183 yX4_status) := wj_mem 797 (by decide +kernel) (by decide +kernel)
theorem kl_X4_269 : wj_in (.methodLink RX4 269 yX4_toldInAll) := wj_mem 801 (by decide +kernel) (by decide +kernel)
theorem kt_X5_27 : (RX5, 27, "slip", 0) ∈ wj_L := by decide +kernel
theorem kt_X5_29 : (RX5, 29, "hawthorn", 1) ∈ wj_L := by decide +kernel
theorem kt_X5_31 : (RX5, 31, "promise", 2) ∈ wj_L := by decide +kernel
theorem kt_X5_33 : (RX5, 33, "latin", 3) ∈ wj_L := by decide +kernel
theorem kt_X5_35 : (RX5, 35, "elegy", 4) ∈ wj_L := by decide +kernel
theorem kt_X5_37 : (RX5, 37, "slipper", 5) ∈ wj_L := by decide +kernel
theorem kt_X5_39 : (RX5, 39, "may", 6) ∈ wj_L := by decide +kernel
theorem kl_L_17 : wj_in (.methodLink RL 17 yX5_hurdles) := wj_mem 884 (by decide +kernel) (by decide +kernel)
theorem kc_X5_74 : wj_in (.constant RX5 74 (65535)) := wj_mem 888 (by decide +kernel) (by decide +kernel)
theorem kl_X5_70 : wj_in (.methodLink RX5 70 yX5_within) := wj_mem 889 (by decide +kernel) (by decide +kernel)
theorem kl_X5_75 : wj_in (.methodLink RX5 75 yX5_become) := wj_mem 892 (by decide +kernel) (by decide +kernel)
theorem kc_X5_60 : wj_in (.constant RX5 60 (-1000001)) := wj_mem 896 (by decide +kernel) (by decide +kernel)
theorem kl_X5_66 : wj_in (.methodLink RX5 66 yX5_finding) := wj_mem 897 (by decide +kernel) (by decide +kernel)
theorem kl_L_22 : wj_in (.methodLink RL 22 yX5_place) := wj_mem 901 (by decide +kernel) (by decide +kernel)
theorem kl_X5_110 : wj_in (.methodLink RX5 110 yX5_isPlace) := wj_mem 905 (by decide +kernel) (by decide +kernel)
theorem kl_X5_113 : wj_in (.methodLink RX5 113 yX5_strength) := wj_mem 908 (by decide +kernel) (by decide +kernel)
theorem kl_X5_103 : wj_in (.methodLink RX5 103 yX5_hasBit) := wj_mem 912 (by decide +kernel) (by decide +kernel)
theorem kl_X5_100 : wj_in (.methodLink RX5 100 yX5_covers) := wj_mem 915 (by decide +kernel) (by decide +kernel)
theorem kl_X5_90 : wj_in (.methodLink RX5 90 yX5_isLaid) := wj_mem 919 (by decide +kernel) (by decide +kernel)
theorem kl_X5_82 : wj_in (.methodLink RX5 82 yX5_slipIs) := wj_mem 923 (by decide +kernel) (by decide +kernel)
theorem kl_X5_79 : wj_in (.methodLink RX5 79 yX5_slipAt) := wj_mem 927 (by decide +kernel) (by decide +kernel)
theorem kl_X5_94 : wj_in (.methodLink RX5 94 yX5_reaches) := wj_mem 930 (by decide +kernel) (by decide +kernel)
theorem kl_X5_85 : wj_in (.methodLink RX5 85 yJ9_max_7cf53) := wj_mem 934 (by decide +kernel) (by decide +kernel)
theorem kx_X5_85 : wj_mx RX5 85 := ⟨wj_mem 934 (by decide +kernel) (by decide +kernel), wj_mem 308 (by decide +kernel) (by decide +kernel), wj_mem 76 (by decide +kernel) (by decide +kernel), wj_mem 309 (by decide +kernel) (by decide +kernel)⟩
theorem kl_X5_97 : wj_in (.methodLink RX5 97 yJ9_min_7cf53) := wj_mem 935 (by decide +kernel) (by decide +kernel)
theorem kx_X5_97 : wj_mn RX5 97 := ⟨wj_mem 935 (by decide +kernel) (by decide +kernel), wj_mem 311 (by decide +kernel) (by decide +kernel), wj_mem 76 (by decide +kernel) (by decide +kernel), wj_mem 312 (by decide +kernel) (by decide +kernel)⟩
theorem kl_X5_107 : wj_in (.methodLink RX5 107 yX5_strongIs) := wj_mem 936 (by decide +kernel) (by decide +kernel)
theorem kl_X5_116 : wj_in (.methodLink RX5 116 yX5_slipsIn) := wj_mem 940 (by decide +kernel) (by decide +kernel)
theorem kl_X5_119 : wj_in (.methodLink RX5 119 yX5_covering) := wj_mem 944 (by decide +kernel) (by decide +kernel)
theorem kl_X5_122 : wj_in (.methodLink RX5 122 yX5_gaps) := wj_mem 948 (by decide +kernel) (by decide +kernel)
theorem kl_L_27 : wj_in (.methodLink RL 27 yX5_lean) := wj_mem 952 (by decide +kernel) (by decide +kernel)
theorem kl_X5_126 : wj_in (.methodLink RX5 126 yX5_isLeaning) := wj_mem 956 (by decide +kernel) (by decide +kernel)
theorem kl_L_31 : wj_in (.methodLink RL 31 yX5_leaning) := wj_mem 959 (by decide +kernel) (by decide +kernel)
theorem kl_L_35 : wj_in (.methodLink RL 35 yX5_slip) := wj_mem 963 (by decide +kernel) (by decide +kernel)
theorem kl_X5_129 : wj_in (.methodLink RX5 129 yX5_isKind) := wj_mem 967 (by decide +kernel) (by decide +kernel)
theorem kl_X5_132 : wj_in (.methodLink RX5 132 yX5_areWords) := wj_mem 970 (by decide +kernel) (by decide +kernel)
theorem kc_X5_135 : wj_in (.constant RX5 135 (-1000002)) := wj_mem 973 (by decide +kernel) (by decide +kernel)
theorem kl_X5_136 : wj_in (.methodLink RX5 136 yX5_comes) := wj_mem 974 (by decide +kernel) (by decide +kernel)
theorem kl_L_39 : wj_in (.methodLink RL 39 yX5_of) := wj_mem 978 (by decide +kernel) (by decide +kernel)
theorem kl_X5_146 : wj_in (.methodLink RX5 146 yX5_isSlip) := wj_mem 982 (by decide +kernel) (by decide +kernel)
theorem kl_X5_149 : wj_in (.methodLink RX5 149 yX5_told) := wj_mem 986 (by decide +kernel) (by decide +kernel)
theorem kl_X5_140 : wj_in (.methodLink RX5 140 yX5_grows) := wj_mem 990 (by decide +kernel) (by decide +kernel)
theorem kl_X5_143 : wj_in (.methodLink RX5 143 yX5_fills) := wj_mem 994 (by decide +kernel) (by decide +kernel)
theorem kl_L_43 : wj_in (.methodLink RL 43 yX5_change) := wj_mem 998 (by decide +kernel) (by decide +kernel)
theorem kl_X5_152 : wj_in (.methodLink RX5 152 yX5_isField) := wj_mem 1002 (by decide +kernel) (by decide +kernel)
theorem kl_L_47 : wj_in (.methodLink RL 47 yX5_cut) := wj_mem 1005 (by decide +kernel) (by decide +kernel)
theorem kl_L_51 : wj_in (.methodLink RL 51 yX5_go) := wj_mem 1009 (by decide +kernel) (by decide +kernel)
theorem kc_X5_165 : wj_in (.constant RX5 165 (99999)) := wj_mem 1013 (by decide +kernel) (by decide +kernel)
theorem kc_X5_166 : wj_in (.constant RX5 166 (-1000005)) := wj_mem 1014 (by decide +kernel) (by decide +kernel)
theorem kl_X5_167 : wj_in (.methodLink RX5 167 yX5_yearsGo) := wj_mem 1015 (by decide +kernel) (by decide +kernel)
theorem kl_X5_162 : wj_in (.methodLink RX5 162 yX5_year) := wj_mem 1019 (by decide +kernel) (by decide +kernel)
theorem kl_X5_159 : wj_in (.methodLink RX5 159 yX5_leansNow) := wj_mem 1023 (by decide +kernel) (by decide +kernel)
theorem kl_L_55 : wj_in (.methodLink RL 55 yX5_now) := wj_mem 1027 (by decide +kernel) (by decide +kernel)
theorem kl_X5_171 : wj_in (.methodLink RX5 171 yX5_weakest) := wj_mem 1031 (by decide +kernel) (by decide +kernel)
theorem kl_X5_174 : wj_in (.methodLink RX5 174 yX5_sumOf) := wj_mem 1035 (by decide +kernel) (by decide +kernel)
theorem kl_L_59 : wj_in (.methodLink RL 59 yX5_ahead) := wj_mem 1039 (by decide +kernel) (by decide +kernel)
theorem kl_X5_61 : wj_in (.methodLink RX5 61 yX5_copyRow) := wj_mem 1043 (by decide +kernel) (by decide +kernel)
theorem kl_X5_177 : wj_in (.methodLink RX5 177 yX5_putBack) := wj_mem 1046 (by decide +kernel) (by decide +kernel)
theorem kl_L_63 : wj_in (.methodLink RL 63 yX5_strong) := wj_mem 1050 (by decide +kernel) (by decide +kernel)
theorem kl_X5_180 : wj_in (.methodLink RX5 180 yX5_strengthBehind) := wj_mem 1054 (by decide +kernel) (by decide +kernel)
theorem kl_L_67 : wj_in (.methodLink RL 67 yX5_closed) := wj_mem 1058 (by decide +kernel) (by decide +kernel)
theorem kl_X5_183 : wj_in (.methodLink RX5 183 yX5_closedBy) := wj_mem 1062 (by decide +kernel) (by decide +kernel)
theorem kl_X5_186 : wj_in (.methodLink RX5 186 yX5_orNone) := wj_mem 1066 (by decide +kernel) (by decide +kernel)
theorem kc_X5_65 : wj_in (.constant RX5 65 (-1000004)) := wj_mem 1070 (by decide +kernel) (by decide +kernel)
theorem kl_L_72 : wj_in (.methodLink RL 72 yX5_whole) := wj_mem 1071 (by decide +kernel) (by decide +kernel)
theorem kl_L_76 : wj_in (.methodLink RL 76 yX5_breaks) := wj_mem 1075 (by decide +kernel) (by decide +kernel)
theorem kl_L_80 : wj_in (.methodLink RL 80 yX5_lay) := wj_mem 1079 (by decide +kernel) (by decide +kernel)
theorem kl_X5_195 : wj_in (.methodLink RX5 195 yX5_isThought) := wj_mem 1083 (by decide +kernel) (by decide +kernel)
theorem kl_X5_198 : wj_in (.methodLink RX5 198 yX5_fewestFor) := wj_mem 1086 (by decide +kernel) (by decide +kernel)
theorem kl_X5_192 : wj_in (.methodLink RX5 192 yX5_gapsBehind) := wj_mem 1090 (by decide +kernel) (by decide +kernel)
theorem kl_X5_189 : wj_in (.methodLink RX5 189 yX5_bits) := wj_mem 1094 (by decide +kernel) (by decide +kernel)
theorem kl_L_84 : wj_in (.methodLink RL 84 yX5_plant) := wj_mem 1097 (by decide +kernel) (by decide +kernel)
theorem kl_L_88 : wj_in (.methodLink RL 88 yX5_kindFor) := wj_mem 1101 (by decide +kernel) (by decide +kernel)
theorem kl_L_92 : wj_in (.methodLink RL 92 yX5_weightFor) := wj_mem 1105 (by decide +kernel) (by decide +kernel)
theorem kl_X5_201 : wj_in (.methodLink RX5 201 yX5_madeBehind) := wj_mem 1109 (by decide +kernel) (by decide +kernel)
theorem kl_L_96 : wj_in (.methodLink RL 96 yX5_layAll) := wj_mem 1113 (by decide +kernel) (by decide +kernel)
theorem kl_X5_204 : wj_in (.methodLink RX5 204 yX5_isWholeBy) := wj_mem 1117 (by decide +kernel) (by decide +kernel)
theorem kl_L_100 : wj_in (.methodLink RL 100 yX5_hurdlesFor) := wj_mem 1121 (by decide +kernel) (by decide +kernel)
theorem kl_L_104 : wj_in (.methodLink RL 104 yX5_words) := wj_mem 1125 (by decide +kernel) (by decide +kernel)
theorem kl_X5_214 : wj_in (.methodLink RX5 214 yX5_lacks) := wj_mem 1129 (by decide +kernel) (by decide +kernel)
theorem kl_X5_207 : wj_in (.methodLink RX5 207 yX5_isSheet) := wj_mem 1133 (by decide +kernel) (by decide +kernel)
theorem kc_X5_210 : wj_in (.constant RX5 210 (-1000006)) := wj_mem 1136 (by decide +kernel) (by decide +kernel)
theorem kl_X5_218 : wj_in (.methodLink RX5 218 yX5_valuesFor) := wj_mem 1137 (by decide +kernel) (by decide +kernel)
theorem kl_X5_211 : wj_in (.methodLink RX5 211 yX5_isHighSo) := wj_mem 1141 (by decide +kernel) (by decide +kernel)
theorem kl_L_108 : wj_in (.methodLink RL 108 yX5_kinds) := wj_mem 1145 (by decide +kernel) (by decide +kernel)
theorem kl_L_112 : wj_in (.methodLink RL 112 yX5_fits) := wj_mem 1149 (by decide +kernel) (by decide +kernel)
theorem kl_X5_222 : wj_in (.methodLink RX5 222 yX5_isStrongSo) := wj_mem 1153 (by decide +kernel) (by decide +kernel)
theorem kl_L_116 : wj_in (.methodLink RL 116 yX5_leans) := wj_mem 1157 (by decide +kernel) (by decide +kernel)
theorem kl_X5_226 : wj_in (.methodLink RX5 226 yX5_drawn) := wj_mem 1161 (by decide +kernel) (by decide +kernel)
theorem kc_X5_225 : wj_in (.constant RX5 225 (1103515245)) := wj_mem 1165 (by decide +kernel) (by decide +kernel)
theorem kl_L_121 : wj_in (.methodLink RL 121 yX5_odds) := wj_mem 1166 (by decide +kernel) (by decide +kernel)
theorem kl_L_125 : wj_in (.methodLink RL 125 yX5_seed) := wj_mem 1170 (by decide +kernel) (by decide +kernel)
theorem kl_L_129 : wj_in (.methodLink RL 129 yX5_feed) := wj_mem 1174 (by decide +kernel) (by decide +kernel)
theorem kl_L_133 : wj_in (.methodLink RL 133 yX5_wipe) := wj_mem 1178 (by decide +kernel) (by decide +kernel)
theorem kl_L_137 : wj_in (.methodLink RL 137 yX5_text) := wj_mem 1182 (by decide +kernel) (by decide +kernel)
theorem kl_X5_259 : wj_in (.methodLink RX5 259 yX5_token) := wj_mem 1186 (by decide +kernel) (by decide +kernel)
theorem kl_X5_239 : wj_in (.methodLink RX5 239 yX5_byteAt) := wj_mem 1190 (by decide +kernel) (by decide +kernel)
theorem kc_X5_248 : wj_in (.constant RX5 248 (100000)) := wj_mem 1194 (by decide +kernel) (by decide +kernel)
theorem kl_X5_306 : wj_in (.methodLink RX5 306 yX5_readItem) := wj_mem 1195 (by decide +kernel) (by decide +kernel)
theorem kl_X5_269 : wj_in (.methodLink RX5 269 yX5_isWord) := wj_mem 1199 (by decide +kernel) (by decide +kernel)
theorem kl_X5_249 : wj_in (.methodLink RX5 249 yJ0_length_8abf5) := wj_mem 1203 (by decide +kernel) (by decide +kernel)
theorem kl_X5_252 : wj_in (.methodLink RX5 252 yJ0_charAt_5068e) := wj_mem 1204 (by decide +kernel) (by decide +kernel)
theorem kl_X5_296 : wj_in (.methodLink RX5 296 yX5_readSlip) := wj_mem 1205 (by decide +kernel) (by decide +kernel)
theorem kl_X5_262 : wj_in (.methodLink RX5 262 yX5_must) := wj_mem 1209 (by decide +kernel) (by decide +kernel)
theorem kt_X5_276 : (RX5, 276, "in", 7) ∈ wj_L := by decide +kernel
theorem kl_X5_278 : wj_in (.methodLink RX5 278 yX5_takesWord) := wj_mem 1214 (by decide +kernel) (by decide +kernel)
theorem kl_X5_281 : wj_in (.methodLink RX5 281 yX5_number) := wj_mem 1218 (by decide +kernel) (by decide +kernel)
theorem kt_X5_284 : (RX5, 284, "words", 8) ∈ wj_L := by decide +kernel
theorem kt_X5_286 : (RX5, 286, "high", 9) ∈ wj_L := by decide +kernel
theorem kt_X5_288 : (RX5, 288, "up", 10) ∈ wj_L := by decide +kernel
theorem kt_X5_290 : (RX5, 290, "down", 11) ∈ wj_L := by decide +kernel
theorem kl_X5_292 : wj_in (.methodLink RX5 292 yX5_addItem) := wj_mem 1226 (by decide +kernel) (by decide +kernel)
theorem kt_X5_299 : (RX5, 299, "hurdles", 12) ∈ wj_L := by decide +kernel
theorem kt_X5_301 : (RX5, 301, "lean", 13) ∈ wj_L := by decide +kernel
theorem kl_X5_303 : wj_in (.methodLink RX5 303 yX5_readLean) := wj_mem 1232 (by decide +kernel) (by decide +kernel)
theorem kl_X5_309 : wj_in (.methodLink RX5 309 yX5_isToldSo) := wj_mem 1236 (by decide +kernel) (by decide +kernel)
theorem kl_L_141 : wj_in (.methodLink RL 141 yX5_hold) := wj_mem 1240 (by decide +kernel) (by decide +kernel)
theorem kl_X5_312 : wj_in (.methodLink RX5 312 yX5_isSpot) := wj_mem 1244 (by decide +kernel) (by decide +kernel)
theorem kl_L_145 : wj_in (.methodLink RL 145 yX5_as) := wj_mem 1247 (by decide +kernel) (by decide +kernel)
theorem kl_X5_315 : wj_in (.methodLink RX5 315 yX5_isUnder) := wj_mem 1251 (by decide +kernel) (by decide +kernel)
theorem kl_X5_323 : wj_in (.methodLink RX5 323 yX5_above) := wj_mem 1254 (by decide +kernel) (by decide +kernel)
theorem kc_X5_318 : wj_in (.constant RX5 318 (-1000003)) := wj_mem 1257 (by decide +kernel) (by decide +kernel)
theorem kl_L_149 : wj_in (.methodLink RL 149 yX5_sheet) := wj_mem 1258 (by decide +kernel) (by decide +kernel)
theorem kc_X5_319 : wj_in (.constant RX5 319 (-1000007)) := wj_mem 1262 (by decide +kernel) (by decide +kernel)
theorem kl_L_153 : wj_in (.methodLink RL 153 yX5_write) := wj_mem 1263 (by decide +kernel) (by decide +kernel)
theorem kl_X5_320 : wj_in (.methodLink RX5 320 yX5_cutTo) := wj_mem 1267 (by decide +kernel) (by decide +kernel)
theorem kl_L_158 : wj_in (.methodLink RL 158 yX5_copy) := wj_mem 1270 (by decide +kernel) (by decide +kernel)
theorem kl_L_162 : wj_in (.methodLink RL 162 yX5_load) := wj_mem 1274 (by decide +kernel) (by decide +kernel)
theorem kl_L_166 : wj_in (.methodLink RL 166 yX5_judge) := wj_mem 1278 (by decide +kernel) (by decide +kernel)
theorem kl_L_170 : wj_in (.methodLink RL 170 yX5_image) := wj_mem 1282 (by decide +kernel) (by decide +kernel)
theorem kl_L_174 : wj_in (.methodLink RL 174 yX5_undo) := wj_mem 1286 (by decide +kernel) (by decide +kernel)
theorem kl_L_178 : wj_in (.methodLink RL 178 yX5_tear) := wj_mem 1290 (by decide +kernel) (by decide +kernel)
theorem kl_L_182 : wj_in (.methodLink RL 182 yX5_count) := wj_mem 1294 (by decide +kernel) (by decide +kernel)
theorem kl_L_186 : wj_in (.methodLink RL 186 yX5_status) := wj_mem 1298 (by decide +kernel) (by decide +kernel)
theorem kh_X0 : wj_hi 0 RX0 TX0 6 := ⟨rfl, by
  have h : ∀ w ∈ u_ws RX0 TX0 6, w ∈ lw_tbl ∧ wj_ok w = true := by decide +kernel
  exact h⟩
theorem kh_X1 : wj_hi 1 RX1 TX1 3 := ⟨rfl, by
  have h : ∀ w ∈ u_ws RX1 TX1 3, w ∈ lw_tbl ∧ wj_ok w = true := by decide +kernel
  exact h⟩
theorem kh_X2 : wj_hi 2 RX2 TX2 7 := ⟨rfl, by
  have h : ∀ w ∈ u_ws RX2 TX2 7, w ∈ lw_tbl ∧ wj_ok w = true := by decide +kernel
  exact h⟩
theorem kh_X3 : wj_hi 3 RX3 TX3 5 := ⟨rfl, by
  have h : ∀ w ∈ u_ws RX3 TX3 5, w ∈ lw_tbl ∧ wj_ok w = true := by decide +kernel
  exact h⟩
theorem kh_X4 : wj_hi 4 RX4 TX4 11 := ⟨rfl, by
  have h : ∀ w ∈ u_ws RX4 TX4 11, w ∈ lw_tbl ∧ wj_ok w = true := by decide +kernel
  exact h⟩
theorem kh_X5 : wj_hi 5 RX5 TX5 21 := ⟨rfl, by
  have h : ∀ w ∈ u_ws RX5 TX5 21, w ∈ lw_tbl ∧ wj_ok w = true := by decide +kernel
  exact h⟩
theorem wd_X4 (V : wj_V) (f : Nat → Int32) : wj_d V f 0 = .inr (4, [.ref (V.2.2.1 1), .ref (V.2.2.1 2), .ref (V.2.2.1 34), .int (f 3), .ref (V.2.2.1 3), .ref (V.2.2.1 35), .int (f 6), .int (f 7), .ref (V.2.2.1 37), .ref (V.2.2.1 46), .ref (V.2.2.1 36)]) := rfl
theorem is_X4 {V : wj_V} : wj_is V 0 4 := ⟨by decide, fun f => ⟨_, wd_X4 V f⟩⟩
theorem wd_X0 (V : wj_V) (f : Nat → Int32) {k : Nat} (hk : 1 ≤ k ∧ k < 4) : wj_d V f k = .inr (0, [.ref (V.2.2.1 (k + 3)), .ref (V.2.2.1 (k + 6)), .int (f 2), .int (f 3), .int (f 4), .int (f 5)]) := by
  unfold wj_d
  rw [if_neg (by omega)]
  rw [if_pos (by omega)]
theorem is_X0 {V : wj_V} {k : Nat} (hk : 1 ≤ k ∧ k < 4) : wj_is V k 0 := ⟨by omega, fun f => ⟨_, wd_X0 V f hk⟩⟩
theorem wd_X2 (V : wj_V) (f : Nat → Int32) {k : Nat} (hk : 10 ≤ k ∧ k < 34) : wj_d V f k = .inr (2, [.int (f 0), .int (f 1), .int (f 2), .int (f 3), .int (f 4), .int (f 5), .int (f 6)]) := by
  unfold wj_d
  rw [if_neg (by omega)]
  rw [if_neg (by omega)]
  rw [if_neg (by omega)]
  rw [if_neg (by omega)]
  rw [if_pos (by omega)]
theorem is_X2 {V : wj_V} {k : Nat} (hk : 10 ≤ k ∧ k < 34) : wj_is V k 2 := ⟨by omega, fun f => ⟨_, wd_X2 V f hk⟩⟩
theorem wd_X1 (V : wj_V) (f : Nat → Int32) {k : Nat} (hk : 38 ≤ k ∧ k < 42) : wj_d V f k = .inr (1, [.ref (V.2.2.1 (k + 4)), .int (f 1), .int (f 2)]) := by
  unfold wj_d
  rw [if_neg (by omega)]
  rw [if_neg (by omega)]
  rw [if_neg (by omega)]
  rw [if_neg (by omega)]
  rw [if_neg (by omega)]
  rw [if_neg (by omega)]
  rw [if_neg (by omega)]
  rw [if_pos (by omega)]
theorem is_X1 {V : wj_V} {k : Nat} (hk : 38 ≤ k ∧ k < 42) : wj_is V k 1 := ⟨by omega, fun f => ⟨_, wd_X1 V f hk⟩⟩
theorem wd_X3 (V : wj_V) (f : Nat → Int32) : wj_d V f 46 = .inr (3, [.ref (V.2.2.1 47), .int (f 1), .int (f 2), .int (f 3), .int (f 4)]) := rfl
theorem is_X3 {V : wj_V} : wj_is V 46 3 := ⟨by decide, fun f => ⟨_, wd_X3 V f⟩⟩
theorem wd_X5 (V : wj_V) (f : Nat → Int32) : wj_d V f 48 = .inr (5, [.ref (V.2.2.1 49), .ref (V.2.2.1 50), .ref (V.2.2.1 51), .int (f 3), .ref (V.2.2.1 52), .int (f 5), .ref (V.2.2.1 53), .int (f 7), .int (f 8), .int (f 9), .int (f 10), .int (f 11), .int (f 12), .ref (V.2.2.1 59), .ref (V.2.2.1 54), .int (f 15), .int (f 16), .ref (V.2.2.1 55), .ref (V.2.2.1 56), .ref (V.2.2.1 57), .ref (V.2.2.1 58)]) := rfl
theorem is_X5 {V : wj_V} : wj_is V 48 5 := ⟨by decide, fun f => ⟨_, wd_X5 V f⟩⟩
theorem ar_spots {V : wj_V} : wj_ar V 0 34 10 := ⟨by decide, fun _ => rfl⟩
theorem ar_keptSpots {V : wj_V} : wj_ar V 0 35 10 := ⟨by decide, fun _ => rfl⟩
theorem ar_told {V : wj_V} : wj_ar V 0 36 7 := ⟨by decide, fun _ => rfl⟩
theorem ar_now {V : wj_V} : wj_ar V 0 49 77 := ⟨by decide, fun _ => rfl⟩
theorem ar_kept {V : wj_V} : wj_ar V 0 50 77 := ⟨by decide, fun _ => rfl⟩
theorem ar_aside {V : wj_V} : wj_ar V 0 51 77 := ⟨by decide, fun _ => rfl⟩
theorem ar_found {V : wj_V} : wj_ar V 0 52 8 := ⟨by decide, fun _ => rfl⟩
theorem ar_mtape {V : wj_V} : wj_ar V 0 53 120 := ⟨by decide, fun _ => rfl⟩
theorem ar_items {V : wj_V} : wj_ar V 0 54 600 := ⟨by decide, fun _ => rfl⟩
theorem ar_widths {V : wj_V} : wj_ar V 0 55 4 := ⟨by decide, fun _ => rfl⟩
theorem ar_sizes {V : wj_V} : wj_ar V 0 56 4 := ⟨by decide, fun _ => rfl⟩
theorem ar_mnumbers {V : wj_V} : wj_ar V 0 57 160 := ⟨by decide, fun _ => rfl⟩
theorem ar_moved {V : wj_V} : wj_ar V 0 58 40 := ⟨by decide, fun _ => rfl⟩
theorem ar_bytes {V : wj_V} : wj_ar V 1 47 120 := ⟨by decide, fun _ => rfl⟩
theorem ar_leanings {V : wj_V} {k : Nat} (hk : 1 ≤ k ∧ k < 4) : wj_ar V 0 (k + 6) 6 := by
  refine ⟨by omega, fun f => ?_⟩
  unfold wj_d
  rw [if_neg (by omega), if_neg (by omega), if_neg (by omega), if_pos (by omega), show wj_len (k + 6) = 6 by unfold wj_len; rw [if_pos (by omega)]]
theorem ar_numbers {V : wj_V} {k : Nat} (hk : 38 ≤ k ∧ k < 42) : wj_ar V 0 (k + 4) 40 := by
  refine ⟨by omega, fun f => ?_⟩
  unfold wj_d
  rw [if_neg (by omega), if_neg (by omega), if_neg (by omega), if_neg (by omega), if_neg (by omega), if_neg (by omega), if_neg (by omega), if_neg (by omega), if_pos (by omega), show wj_len (k + 4) = 40 by unfold wj_len; rw [if_neg (by omega), if_neg (by omega), if_neg (by omega), if_pos (by omega)]]
theorem rr_slips {V : wj_V} {k : Nat} (hk : 1 ≤ k ∧ k < 4) : wj_rr V 3 (k + 3) 8 (fun i => V.2.2.1 (2 + 8 * k + i)) := by
  refine ⟨by omega, fun f => ?_⟩
  unfold wj_d
  rw [if_neg (by omega), if_neg (by omega), if_pos (by omega)]
  simp
theorem rr_sheets {V : wj_V} : wj_rr V 2 37 4 (fun i => V.2.2.1 (38 + i)) := ⟨by decide, fun _ => rfl⟩
theorem rr_kindNames {V : wj_V} : wj_rr V 4 59 7 (fun i => V.2.2.2.1 i) := ⟨by decide, fun _ => rfl⟩
section WF
variable {l : Launch} {V : wj_V} {X : wj_X} {cc : ByteArray} {nL : Nat} {fr lo : Nat} {pc : Nat} {lv : List (Option Value)} {st : List Value} {σ : wj_St}
theorem wg_X2_22 {k : Nat} (C : wj_C l V X cc nL RX2 fr lo) (hd : decode cc pc = .ok (.getfield 22, 3)) (hk : 10 ≤ k ∧ k < 34) (kk : wj_J l V X (pc + 3) lv (.int (σ k 0) :: st) σ) : wj_J l V X pc lv (.ref (V.2.2.1 k) :: st) σ := wj_getf C hd (by omega) (wd_X2 V (σ k) hk) kh_X2 0 (by decide) (wj_mem 104 (by decide +kernel) (by decide +kernel)) rfl rfl kk
theorem wp_X2_22 {k : Nat} {x : Int32} (C : wj_C l V X cc nL RX2 fr lo) (hd : decode cc pc = .ok (.putfield 22, 3)) (hk : 10 ≤ k ∧ k < 34) (kk : wj_J l V X (pc + 3) lv st (wj_u σ k 0 x)) : wj_J l V X pc lv (.int x :: .ref (V.2.2.1 k) :: st) σ := wj_putf C hd (by omega) (wd_X2 V (σ k) hk) kh_X2 tyX2_ok nmX2 0 (by decide) (wj_mem 104 (by decide +kernel) (by decide +kernel)) rfl rfl (ty := .int) (by decide +kernel) rfl (by rfl) (by simp) (by rw [wd_X2 (hk := hk)]; rfl) kk
theorem wg_X2_26 {k : Nat} (C : wj_C l V X cc nL RX2 fr lo) (hd : decode cc pc = .ok (.getfield 26, 3)) (hk : 10 ≤ k ∧ k < 34) (kk : wj_J l V X (pc + 3) lv (.int (σ k 1) :: st) σ) : wj_J l V X pc lv (.ref (V.2.2.1 k) :: st) σ := wj_getf C hd (by omega) (wd_X2 V (σ k) hk) kh_X2 1 (by decide) (wj_mem 105 (by decide +kernel) (by decide +kernel)) rfl rfl kk
theorem wp_X2_26 {k : Nat} {x : Int32} (C : wj_C l V X cc nL RX2 fr lo) (hd : decode cc pc = .ok (.putfield 26, 3)) (hk : 10 ≤ k ∧ k < 34) (kk : wj_J l V X (pc + 3) lv st (wj_u σ k 1 x)) : wj_J l V X pc lv (.int x :: .ref (V.2.2.1 k) :: st) σ := wj_putf C hd (by omega) (wd_X2 V (σ k) hk) kh_X2 tyX2_ok nmX2 1 (by decide) (wj_mem 105 (by decide +kernel) (by decide +kernel)) rfl rfl (ty := .int) (by decide +kernel) rfl (by rfl) (by simp) (by rw [wd_X2 (hk := hk)]; rfl) kk
theorem wg_X0_59 {k : Nat} (C : wj_C l V X cc nL RX0 fr lo) (hd : decode cc pc = .ok (.getfield 59, 3)) (hk : 10 ≤ k ∧ k < 34) (kk : wj_J l V X (pc + 3) lv (.int (σ k 1) :: st) σ) : wj_J l V X pc lv (.ref (V.2.2.1 k) :: st) σ := wj_getfN (host := "WordHedge") C hd (by omega) (wd_X2 V (σ k) hk) kh_X2 1 (by decide) (wj_mem 106 (by decide +kernel) (by decide +kernel)) rfl rfl kk
theorem wp_X0_59 {k : Nat} {x : Int32} (C : wj_C l V X cc nL RX0 fr lo) (hd : decode cc pc = .ok (.putfield 59, 3)) (hk : 10 ≤ k ∧ k < 34) (kk : wj_J l V X (pc + 3) lv st (wj_u σ k 1 x)) : wj_J l V X pc lv (.int x :: .ref (V.2.2.1 k) :: st) σ := wj_putfN (host := "WordHedge") C hd (by omega) (wd_X2 V (σ k) hk) kh_X2 tyX2_ok nmX2 1 (by decide) (wj_mem 106 (by decide +kernel) (by decide +kernel)) rfl rfl (ty := .int) (by decide +kernel) rfl (by rfl) (by simp) (by rw [wd_X2 (hk := hk)]; rfl) kk
theorem wg_X4_181 {k : Nat} (C : wj_C l V X cc nL RX4 fr lo) (hd : decode cc pc = .ok (.getfield 181, 3)) (hk : 10 ≤ k ∧ k < 34) (kk : wj_J l V X (pc + 3) lv (.int (σ k 1) :: st) σ) : wj_J l V X pc lv (.ref (V.2.2.1 k) :: st) σ := wj_getfN (host := "WordHedge") C hd (by omega) (wd_X2 V (σ k) hk) kh_X2 1 (by decide) (wj_mem 107 (by decide +kernel) (by decide +kernel)) rfl rfl kk
theorem wp_X4_181 {k : Nat} {x : Int32} (C : wj_C l V X cc nL RX4 fr lo) (hd : decode cc pc = .ok (.putfield 181, 3)) (hk : 10 ≤ k ∧ k < 34) (kk : wj_J l V X (pc + 3) lv st (wj_u σ k 1 x)) : wj_J l V X pc lv (.int x :: .ref (V.2.2.1 k) :: st) σ := wj_putfN (host := "WordHedge") C hd (by omega) (wd_X2 V (σ k) hk) kh_X2 tyX2_ok nmX2 1 (by decide) (wj_mem 107 (by decide +kernel) (by decide +kernel)) rfl rfl (ty := .int) (by decide +kernel) rfl (by rfl) (by simp) (by rw [wd_X2 (hk := hk)]; rfl) kk
theorem wg_X2_29 {k : Nat} (C : wj_C l V X cc nL RX2 fr lo) (hd : decode cc pc = .ok (.getfield 29, 3)) (hk : 10 ≤ k ∧ k < 34) (kk : wj_J l V X (pc + 3) lv (.int (σ k 2) :: st) σ) : wj_J l V X pc lv (.ref (V.2.2.1 k) :: st) σ := wj_getf C hd (by omega) (wd_X2 V (σ k) hk) kh_X2 2 (by decide) (wj_mem 108 (by decide +kernel) (by decide +kernel)) rfl rfl kk
theorem wp_X2_29 {k : Nat} {x : Int32} (C : wj_C l V X cc nL RX2 fr lo) (hd : decode cc pc = .ok (.putfield 29, 3)) (hk : 10 ≤ k ∧ k < 34) (kk : wj_J l V X (pc + 3) lv st (wj_u σ k 2 x)) : wj_J l V X pc lv (.int x :: .ref (V.2.2.1 k) :: st) σ := wj_putf C hd (by omega) (wd_X2 V (σ k) hk) kh_X2 tyX2_ok nmX2 2 (by decide) (wj_mem 108 (by decide +kernel) (by decide +kernel)) rfl rfl (ty := .int) (by decide +kernel) rfl (by rfl) (by simp) (by rw [wd_X2 (hk := hk)]; rfl) kk
theorem wg_X3_92 {k : Nat} (C : wj_C l V X cc nL RX3 fr lo) (hd : decode cc pc = .ok (.getfield 92, 3)) (hk : 10 ≤ k ∧ k < 34) (kk : wj_J l V X (pc + 3) lv (.int (σ k 2) :: st) σ) : wj_J l V X pc lv (.ref (V.2.2.1 k) :: st) σ := wj_getfN (host := "WordHedge") C hd (by omega) (wd_X2 V (σ k) hk) kh_X2 2 (by decide) (wj_mem 109 (by decide +kernel) (by decide +kernel)) rfl rfl kk
theorem wp_X3_92 {k : Nat} {x : Int32} (C : wj_C l V X cc nL RX3 fr lo) (hd : decode cc pc = .ok (.putfield 92, 3)) (hk : 10 ≤ k ∧ k < 34) (kk : wj_J l V X (pc + 3) lv st (wj_u σ k 2 x)) : wj_J l V X pc lv (.int x :: .ref (V.2.2.1 k) :: st) σ := wj_putfN (host := "WordHedge") C hd (by omega) (wd_X2 V (σ k) hk) kh_X2 tyX2_ok nmX2 2 (by decide) (wj_mem 109 (by decide +kernel) (by decide +kernel)) rfl rfl (ty := .int) (by decide +kernel) rfl (by rfl) (by simp) (by rw [wd_X2 (hk := hk)]; rfl) kk
theorem wg_X4_130 {k : Nat} (C : wj_C l V X cc nL RX4 fr lo) (hd : decode cc pc = .ok (.getfield 130, 3)) (hk : 10 ≤ k ∧ k < 34) (kk : wj_J l V X (pc + 3) lv (.int (σ k 2) :: st) σ) : wj_J l V X pc lv (.ref (V.2.2.1 k) :: st) σ := wj_getfN (host := "WordHedge") C hd (by omega) (wd_X2 V (σ k) hk) kh_X2 2 (by decide) (wj_mem 110 (by decide +kernel) (by decide +kernel)) rfl rfl kk
theorem wp_X4_130 {k : Nat} {x : Int32} (C : wj_C l V X cc nL RX4 fr lo) (hd : decode cc pc = .ok (.putfield 130, 3)) (hk : 10 ≤ k ∧ k < 34) (kk : wj_J l V X (pc + 3) lv st (wj_u σ k 2 x)) : wj_J l V X pc lv (.int x :: .ref (V.2.2.1 k) :: st) σ := wj_putfN (host := "WordHedge") C hd (by omega) (wd_X2 V (σ k) hk) kh_X2 tyX2_ok nmX2 2 (by decide) (wj_mem 110 (by decide +kernel) (by decide +kernel)) rfl rfl (ty := .int) (by decide +kernel) rfl (by rfl) (by simp) (by rw [wd_X2 (hk := hk)]; rfl) kk
theorem wg_X2_32 {k : Nat} (C : wj_C l V X cc nL RX2 fr lo) (hd : decode cc pc = .ok (.getfield 32, 3)) (hk : 10 ≤ k ∧ k < 34) (kk : wj_J l V X (pc + 3) lv (.int (σ k 3) :: st) σ) : wj_J l V X pc lv (.ref (V.2.2.1 k) :: st) σ := wj_getf C hd (by omega) (wd_X2 V (σ k) hk) kh_X2 3 (by decide) (wj_mem 111 (by decide +kernel) (by decide +kernel)) rfl rfl kk
theorem wp_X2_32 {k : Nat} {x : Int32} (C : wj_C l V X cc nL RX2 fr lo) (hd : decode cc pc = .ok (.putfield 32, 3)) (hk : 10 ≤ k ∧ k < 34) (kk : wj_J l V X (pc + 3) lv st (wj_u σ k 3 x)) : wj_J l V X pc lv (.int x :: .ref (V.2.2.1 k) :: st) σ := wj_putf C hd (by omega) (wd_X2 V (σ k) hk) kh_X2 tyX2_ok nmX2 3 (by decide) (wj_mem 111 (by decide +kernel) (by decide +kernel)) rfl rfl (ty := .int) (by decide +kernel) rfl (by rfl) (by simp) (by rw [wd_X2 (hk := hk)]; rfl) kk
theorem wg_X4_263 {k : Nat} (C : wj_C l V X cc nL RX4 fr lo) (hd : decode cc pc = .ok (.getfield 263, 3)) (hk : 10 ≤ k ∧ k < 34) (kk : wj_J l V X (pc + 3) lv (.int (σ k 3) :: st) σ) : wj_J l V X pc lv (.ref (V.2.2.1 k) :: st) σ := wj_getfN (host := "WordHedge") C hd (by omega) (wd_X2 V (σ k) hk) kh_X2 3 (by decide) (wj_mem 112 (by decide +kernel) (by decide +kernel)) rfl rfl kk
theorem wp_X4_263 {k : Nat} {x : Int32} (C : wj_C l V X cc nL RX4 fr lo) (hd : decode cc pc = .ok (.putfield 263, 3)) (hk : 10 ≤ k ∧ k < 34) (kk : wj_J l V X (pc + 3) lv st (wj_u σ k 3 x)) : wj_J l V X pc lv (.int x :: .ref (V.2.2.1 k) :: st) σ := wj_putfN (host := "WordHedge") C hd (by omega) (wd_X2 V (σ k) hk) kh_X2 tyX2_ok nmX2 3 (by decide) (wj_mem 112 (by decide +kernel) (by decide +kernel)) rfl rfl (ty := .int) (by decide +kernel) rfl (by rfl) (by simp) (by rw [wd_X2 (hk := hk)]; rfl) kk
theorem wg_X2_35 {k : Nat} (C : wj_C l V X cc nL RX2 fr lo) (hd : decode cc pc = .ok (.getfield 35, 3)) (hk : 10 ≤ k ∧ k < 34) (kk : wj_J l V X (pc + 3) lv (.int (σ k 4) :: st) σ) : wj_J l V X pc lv (.ref (V.2.2.1 k) :: st) σ := wj_getf C hd (by omega) (wd_X2 V (σ k) hk) kh_X2 4 (by decide) (wj_mem 113 (by decide +kernel) (by decide +kernel)) rfl rfl kk
theorem wp_X2_35 {k : Nat} {x : Int32} (C : wj_C l V X cc nL RX2 fr lo) (hd : decode cc pc = .ok (.putfield 35, 3)) (hk : 10 ≤ k ∧ k < 34) (kk : wj_J l V X (pc + 3) lv st (wj_u σ k 4 x)) : wj_J l V X pc lv (.int x :: .ref (V.2.2.1 k) :: st) σ := wj_putf C hd (by omega) (wd_X2 V (σ k) hk) kh_X2 tyX2_ok nmX2 4 (by decide) (wj_mem 113 (by decide +kernel) (by decide +kernel)) rfl rfl (ty := .int) (by decide +kernel) rfl (by rfl) (by simp) (by rw [wd_X2 (hk := hk)]; rfl) kk
theorem wg_X3_97 {k : Nat} (C : wj_C l V X cc nL RX3 fr lo) (hd : decode cc pc = .ok (.getfield 97, 3)) (hk : 10 ≤ k ∧ k < 34) (kk : wj_J l V X (pc + 3) lv (.int (σ k 4) :: st) σ) : wj_J l V X pc lv (.ref (V.2.2.1 k) :: st) σ := wj_getfN (host := "WordHedge") C hd (by omega) (wd_X2 V (σ k) hk) kh_X2 4 (by decide) (wj_mem 114 (by decide +kernel) (by decide +kernel)) rfl rfl kk
theorem wp_X3_97 {k : Nat} {x : Int32} (C : wj_C l V X cc nL RX3 fr lo) (hd : decode cc pc = .ok (.putfield 97, 3)) (hk : 10 ≤ k ∧ k < 34) (kk : wj_J l V X (pc + 3) lv st (wj_u σ k 4 x)) : wj_J l V X pc lv (.int x :: .ref (V.2.2.1 k) :: st) σ := wj_putfN (host := "WordHedge") C hd (by omega) (wd_X2 V (σ k) hk) kh_X2 tyX2_ok nmX2 4 (by decide) (wj_mem 114 (by decide +kernel) (by decide +kernel)) rfl rfl (ty := .int) (by decide +kernel) rfl (by rfl) (by simp) (by rw [wd_X2 (hk := hk)]; rfl) kk
theorem wg_X0_87 {k : Nat} (C : wj_C l V X cc nL RX0 fr lo) (hd : decode cc pc = .ok (.getfield 87, 3)) (hk : 10 ≤ k ∧ k < 34) (kk : wj_J l V X (pc + 3) lv (.int (σ k 4) :: st) σ) : wj_J l V X pc lv (.ref (V.2.2.1 k) :: st) σ := wj_getfN (host := "WordHedge") C hd (by omega) (wd_X2 V (σ k) hk) kh_X2 4 (by decide) (wj_mem 115 (by decide +kernel) (by decide +kernel)) rfl rfl kk
theorem wp_X0_87 {k : Nat} {x : Int32} (C : wj_C l V X cc nL RX0 fr lo) (hd : decode cc pc = .ok (.putfield 87, 3)) (hk : 10 ≤ k ∧ k < 34) (kk : wj_J l V X (pc + 3) lv st (wj_u σ k 4 x)) : wj_J l V X pc lv (.int x :: .ref (V.2.2.1 k) :: st) σ := wj_putfN (host := "WordHedge") C hd (by omega) (wd_X2 V (σ k) hk) kh_X2 tyX2_ok nmX2 4 (by decide) (wj_mem 115 (by decide +kernel) (by decide +kernel)) rfl rfl (ty := .int) (by decide +kernel) rfl (by rfl) (by simp) (by rw [wd_X2 (hk := hk)]; rfl) kk
theorem wg_X2_38 {k : Nat} (C : wj_C l V X cc nL RX2 fr lo) (hd : decode cc pc = .ok (.getfield 38, 3)) (hk : 10 ≤ k ∧ k < 34) (kk : wj_J l V X (pc + 3) lv (.int (σ k 5) :: st) σ) : wj_J l V X pc lv (.ref (V.2.2.1 k) :: st) σ := wj_getf C hd (by omega) (wd_X2 V (σ k) hk) kh_X2 5 (by decide) (wj_mem 116 (by decide +kernel) (by decide +kernel)) rfl rfl kk
theorem wp_X2_38 {k : Nat} {x : Int32} (C : wj_C l V X cc nL RX2 fr lo) (hd : decode cc pc = .ok (.putfield 38, 3)) (hk : 10 ≤ k ∧ k < 34) (kk : wj_J l V X (pc + 3) lv st (wj_u σ k 5 x)) : wj_J l V X pc lv (.int x :: .ref (V.2.2.1 k) :: st) σ := wj_putf C hd (by omega) (wd_X2 V (σ k) hk) kh_X2 tyX2_ok nmX2 5 (by decide) (wj_mem 116 (by decide +kernel) (by decide +kernel)) rfl rfl (ty := .int) (by decide +kernel) rfl (by rfl) (by simp) (by rw [wd_X2 (hk := hk)]; rfl) kk
theorem wg_X2_41 {k : Nat} (C : wj_C l V X cc nL RX2 fr lo) (hd : decode cc pc = .ok (.getfield 41, 3)) (hk : 10 ≤ k ∧ k < 34) (kk : wj_J l V X (pc + 3) lv (.int (σ k 6) :: st) σ) : wj_J l V X pc lv (.ref (V.2.2.1 k) :: st) σ := wj_getf C hd (by omega) (wd_X2 V (σ k) hk) kh_X2 6 (by decide) (wj_mem 117 (by decide +kernel) (by decide +kernel)) rfl rfl kk
theorem wp_X2_41 {k : Nat} {x : Int32} (C : wj_C l V X cc nL RX2 fr lo) (hd : decode cc pc = .ok (.putfield 41, 3)) (hk : 10 ≤ k ∧ k < 34) (kk : wj_J l V X (pc + 3) lv st (wj_u σ k 6 x)) : wj_J l V X pc lv (.int x :: .ref (V.2.2.1 k) :: st) σ := wj_putf C hd (by omega) (wd_X2 V (σ k) hk) kh_X2 tyX2_ok nmX2 6 (by decide) (wj_mem 117 (by decide +kernel) (by decide +kernel)) rfl rfl (ty := .int) (by decide +kernel) rfl (by rfl) (by simp) (by rw [wd_X2 (hk := hk)]; rfl) kk
theorem wg_X4_167 {k : Nat} (C : wj_C l V X cc nL RX4 fr lo) (hd : decode cc pc = .ok (.getfield 167, 3)) (hk : 10 ≤ k ∧ k < 34) (kk : wj_J l V X (pc + 3) lv (.int (σ k 6) :: st) σ) : wj_J l V X pc lv (.ref (V.2.2.1 k) :: st) σ := wj_getfN (host := "WordHedge") C hd (by omega) (wd_X2 V (σ k) hk) kh_X2 6 (by decide) (wj_mem 118 (by decide +kernel) (by decide +kernel)) rfl rfl kk
theorem wp_X4_167 {k : Nat} {x : Int32} (C : wj_C l V X cc nL RX4 fr lo) (hd : decode cc pc = .ok (.putfield 167, 3)) (hk : 10 ≤ k ∧ k < 34) (kk : wj_J l V X (pc + 3) lv st (wj_u σ k 6 x)) : wj_J l V X pc lv (.int x :: .ref (V.2.2.1 k) :: st) σ := wj_putfN (host := "WordHedge") C hd (by omega) (wd_X2 V (σ k) hk) kh_X2 tyX2_ok nmX2 6 (by decide) (wj_mem 118 (by decide +kernel) (by decide +kernel)) rfl rfl (ty := .int) (by decide +kernel) rfl (by rfl) (by simp) (by rw [wd_X2 (hk := hk)]; rfl) kk
theorem wg_X0_11 {k : Nat} (C : wj_C l V X cc nL RX0 fr lo) (hd : decode cc pc = .ok (.getfield 11, 3)) (hk : 1 ≤ k ∧ k < 4) (kk : wj_J l V X (pc + 3) lv (.ref (V.2.2.1 (k + 3)) :: st) σ) : wj_J l V X pc lv (.ref (V.2.2.1 k) :: st) σ := wj_getf C hd (by omega) (wd_X0 V (σ k) hk) kh_X0 0 (by decide) (wj_mem 135 (by decide +kernel) (by decide +kernel)) rfl rfl kk
theorem wg_X0_17 {k : Nat} (C : wj_C l V X cc nL RX0 fr lo) (hd : decode cc pc = .ok (.getfield 17, 3)) (hk : 1 ≤ k ∧ k < 4) (kk : wj_J l V X (pc + 3) lv (.ref (V.2.2.1 (k + 6)) :: st) σ) : wj_J l V X pc lv (.ref (V.2.2.1 k) :: st) σ := wj_getf C hd (by omega) (wd_X0 V (σ k) hk) kh_X0 1 (by decide) (wj_mem 136 (by decide +kernel) (by decide +kernel)) rfl rfl kk
theorem wg_X4_98 {k : Nat} (C : wj_C l V X cc nL RX4 fr lo) (hd : decode cc pc = .ok (.getfield 98, 3)) (hk : 1 ≤ k ∧ k < 4) (kk : wj_J l V X (pc + 3) lv (.ref (V.2.2.1 (k + 6)) :: st) σ) : wj_J l V X pc lv (.ref (V.2.2.1 k) :: st) σ := wj_getfN (host := "WordHedge") C hd (by omega) (wd_X0 V (σ k) hk) kh_X0 1 (by decide) (wj_mem 137 (by decide +kernel) (by decide +kernel)) rfl rfl kk
theorem wg_X3_72 {k : Nat} (C : wj_C l V X cc nL RX3 fr lo) (hd : decode cc pc = .ok (.getfield 72, 3)) (hk : 1 ≤ k ∧ k < 4) (kk : wj_J l V X (pc + 3) lv (.ref (V.2.2.1 (k + 6)) :: st) σ) : wj_J l V X pc lv (.ref (V.2.2.1 k) :: st) σ := wj_getfN (host := "WordHedge") C hd (by omega) (wd_X0 V (σ k) hk) kh_X0 1 (by decide) (wj_mem 138 (by decide +kernel) (by decide +kernel)) rfl rfl kk
theorem wg_X0_21 {k : Nat} (C : wj_C l V X cc nL RX0 fr lo) (hd : decode cc pc = .ok (.getfield 21, 3)) (hk : 1 ≤ k ∧ k < 4) (kk : wj_J l V X (pc + 3) lv (.int (σ k 2) :: st) σ) : wj_J l V X pc lv (.ref (V.2.2.1 k) :: st) σ := wj_getf C hd (by omega) (wd_X0 V (σ k) hk) kh_X0 2 (by decide) (wj_mem 139 (by decide +kernel) (by decide +kernel)) rfl rfl kk
theorem wp_X0_21 {k : Nat} {x : Int32} (C : wj_C l V X cc nL RX0 fr lo) (hd : decode cc pc = .ok (.putfield 21, 3)) (hk : 1 ≤ k ∧ k < 4) (kk : wj_J l V X (pc + 3) lv st (wj_u σ k 2 x)) : wj_J l V X pc lv (.int x :: .ref (V.2.2.1 k) :: st) σ := wj_putf C hd (by omega) (wd_X0 V (σ k) hk) kh_X0 tyX0_ok nmX0 2 (by decide) (wj_mem 139 (by decide +kernel) (by decide +kernel)) rfl rfl (ty := .int) (by decide +kernel) rfl (by rfl) (by simp) (by rw [wd_X0 (hk := hk)]; rfl) kk
theorem wg_X3_53 {k : Nat} (C : wj_C l V X cc nL RX3 fr lo) (hd : decode cc pc = .ok (.getfield 53, 3)) (hk : 1 ≤ k ∧ k < 4) (kk : wj_J l V X (pc + 3) lv (.int (σ k 2) :: st) σ) : wj_J l V X pc lv (.ref (V.2.2.1 k) :: st) σ := wj_getfN (host := "WordHedge") C hd (by omega) (wd_X0 V (σ k) hk) kh_X0 2 (by decide) (wj_mem 140 (by decide +kernel) (by decide +kernel)) rfl rfl kk
theorem wp_X3_53 {k : Nat} {x : Int32} (C : wj_C l V X cc nL RX3 fr lo) (hd : decode cc pc = .ok (.putfield 53, 3)) (hk : 1 ≤ k ∧ k < 4) (kk : wj_J l V X (pc + 3) lv st (wj_u σ k 2 x)) : wj_J l V X pc lv (.int x :: .ref (V.2.2.1 k) :: st) σ := wj_putfN (host := "WordHedge") C hd (by omega) (wd_X0 V (σ k) hk) kh_X0 tyX0_ok nmX0 2 (by decide) (wj_mem 140 (by decide +kernel) (by decide +kernel)) rfl rfl (ty := .int) (by decide +kernel) rfl (by rfl) (by simp) (by rw [wd_X0 (hk := hk)]; rfl) kk
theorem wg_X4_112 {k : Nat} (C : wj_C l V X cc nL RX4 fr lo) (hd : decode cc pc = .ok (.getfield 112, 3)) (hk : 1 ≤ k ∧ k < 4) (kk : wj_J l V X (pc + 3) lv (.int (σ k 2) :: st) σ) : wj_J l V X pc lv (.ref (V.2.2.1 k) :: st) σ := wj_getfN (host := "WordHedge") C hd (by omega) (wd_X0 V (σ k) hk) kh_X0 2 (by decide) (wj_mem 141 (by decide +kernel) (by decide +kernel)) rfl rfl kk
theorem wp_X4_112 {k : Nat} {x : Int32} (C : wj_C l V X cc nL RX4 fr lo) (hd : decode cc pc = .ok (.putfield 112, 3)) (hk : 1 ≤ k ∧ k < 4) (kk : wj_J l V X (pc + 3) lv st (wj_u σ k 2 x)) : wj_J l V X pc lv (.int x :: .ref (V.2.2.1 k) :: st) σ := wj_putfN (host := "WordHedge") C hd (by omega) (wd_X0 V (σ k) hk) kh_X0 tyX0_ok nmX0 2 (by decide) (wj_mem 141 (by decide +kernel) (by decide +kernel)) rfl rfl (ty := .int) (by decide +kernel) rfl (by rfl) (by simp) (by rw [wd_X0 (hk := hk)]; rfl) kk
theorem wg_X0_25 {k : Nat} (C : wj_C l V X cc nL RX0 fr lo) (hd : decode cc pc = .ok (.getfield 25, 3)) (hk : 1 ≤ k ∧ k < 4) (kk : wj_J l V X (pc + 3) lv (.int (σ k 3) :: st) σ) : wj_J l V X pc lv (.ref (V.2.2.1 k) :: st) σ := wj_getf C hd (by omega) (wd_X0 V (σ k) hk) kh_X0 3 (by decide) (wj_mem 142 (by decide +kernel) (by decide +kernel)) rfl rfl kk
theorem wp_X0_25 {k : Nat} {x : Int32} (C : wj_C l V X cc nL RX0 fr lo) (hd : decode cc pc = .ok (.putfield 25, 3)) (hk : 1 ≤ k ∧ k < 4) (kk : wj_J l V X (pc + 3) lv st (wj_u σ k 3 x)) : wj_J l V X pc lv (.int x :: .ref (V.2.2.1 k) :: st) σ := wj_putf C hd (by omega) (wd_X0 V (σ k) hk) kh_X0 tyX0_ok nmX0 3 (by decide) (wj_mem 142 (by decide +kernel) (by decide +kernel)) rfl rfl (ty := .int) (by decide +kernel) rfl (by rfl) (by simp) (by rw [wd_X0 (hk := hk)]; rfl) kk
theorem wg_X4_73 {k : Nat} (C : wj_C l V X cc nL RX4 fr lo) (hd : decode cc pc = .ok (.getfield 73, 3)) (hk : 1 ≤ k ∧ k < 4) (kk : wj_J l V X (pc + 3) lv (.int (σ k 3) :: st) σ) : wj_J l V X pc lv (.ref (V.2.2.1 k) :: st) σ := wj_getfN (host := "WordHedge") C hd (by omega) (wd_X0 V (σ k) hk) kh_X0 3 (by decide) (wj_mem 143 (by decide +kernel) (by decide +kernel)) rfl rfl kk
theorem wp_X4_73 {k : Nat} {x : Int32} (C : wj_C l V X cc nL RX4 fr lo) (hd : decode cc pc = .ok (.putfield 73, 3)) (hk : 1 ≤ k ∧ k < 4) (kk : wj_J l V X (pc + 3) lv st (wj_u σ k 3 x)) : wj_J l V X pc lv (.int x :: .ref (V.2.2.1 k) :: st) σ := wj_putfN (host := "WordHedge") C hd (by omega) (wd_X0 V (σ k) hk) kh_X0 tyX0_ok nmX0 3 (by decide) (wj_mem 143 (by decide +kernel) (by decide +kernel)) rfl rfl (ty := .int) (by decide +kernel) rfl (by rfl) (by simp) (by rw [wd_X0 (hk := hk)]; rfl) kk
theorem wg_X3_65 {k : Nat} (C : wj_C l V X cc nL RX3 fr lo) (hd : decode cc pc = .ok (.getfield 65, 3)) (hk : 1 ≤ k ∧ k < 4) (kk : wj_J l V X (pc + 3) lv (.int (σ k 3) :: st) σ) : wj_J l V X pc lv (.ref (V.2.2.1 k) :: st) σ := wj_getfN (host := "WordHedge") C hd (by omega) (wd_X0 V (σ k) hk) kh_X0 3 (by decide) (wj_mem 144 (by decide +kernel) (by decide +kernel)) rfl rfl kk
theorem wp_X3_65 {k : Nat} {x : Int32} (C : wj_C l V X cc nL RX3 fr lo) (hd : decode cc pc = .ok (.putfield 65, 3)) (hk : 1 ≤ k ∧ k < 4) (kk : wj_J l V X (pc + 3) lv st (wj_u σ k 3 x)) : wj_J l V X pc lv (.int x :: .ref (V.2.2.1 k) :: st) σ := wj_putfN (host := "WordHedge") C hd (by omega) (wd_X0 V (σ k) hk) kh_X0 tyX0_ok nmX0 3 (by decide) (wj_mem 144 (by decide +kernel) (by decide +kernel)) rfl rfl (ty := .int) (by decide +kernel) rfl (by rfl) (by simp) (by rw [wd_X0 (hk := hk)]; rfl) kk
theorem wg_X0_28 {k : Nat} (C : wj_C l V X cc nL RX0 fr lo) (hd : decode cc pc = .ok (.getfield 28, 3)) (hk : 1 ≤ k ∧ k < 4) (kk : wj_J l V X (pc + 3) lv (.int (σ k 4) :: st) σ) : wj_J l V X pc lv (.ref (V.2.2.1 k) :: st) σ := wj_getf C hd (by omega) (wd_X0 V (σ k) hk) kh_X0 4 (by decide) (wj_mem 145 (by decide +kernel) (by decide +kernel)) rfl rfl kk
theorem wp_X0_28 {k : Nat} {x : Int32} (C : wj_C l V X cc nL RX0 fr lo) (hd : decode cc pc = .ok (.putfield 28, 3)) (hk : 1 ≤ k ∧ k < 4) (kk : wj_J l V X (pc + 3) lv st (wj_u σ k 4 x)) : wj_J l V X pc lv (.int x :: .ref (V.2.2.1 k) :: st) σ := wj_putf C hd (by omega) (wd_X0 V (σ k) hk) kh_X0 tyX0_ok nmX0 4 (by decide) (wj_mem 145 (by decide +kernel) (by decide +kernel)) rfl rfl (ty := .int) (by decide +kernel) rfl (by rfl) (by simp) (by rw [wd_X0 (hk := hk)]; rfl) kk
theorem wg_X4_148 {k : Nat} (C : wj_C l V X cc nL RX4 fr lo) (hd : decode cc pc = .ok (.getfield 148, 3)) (hk : 1 ≤ k ∧ k < 4) (kk : wj_J l V X (pc + 3) lv (.int (σ k 4) :: st) σ) : wj_J l V X pc lv (.ref (V.2.2.1 k) :: st) σ := wj_getfN (host := "WordHedge") C hd (by omega) (wd_X0 V (σ k) hk) kh_X0 4 (by decide) (wj_mem 146 (by decide +kernel) (by decide +kernel)) rfl rfl kk
theorem wp_X4_148 {k : Nat} {x : Int32} (C : wj_C l V X cc nL RX4 fr lo) (hd : decode cc pc = .ok (.putfield 148, 3)) (hk : 1 ≤ k ∧ k < 4) (kk : wj_J l V X (pc + 3) lv st (wj_u σ k 4 x)) : wj_J l V X pc lv (.int x :: .ref (V.2.2.1 k) :: st) σ := wj_putfN (host := "WordHedge") C hd (by omega) (wd_X0 V (σ k) hk) kh_X0 tyX0_ok nmX0 4 (by decide) (wj_mem 146 (by decide +kernel) (by decide +kernel)) rfl rfl (ty := .int) (by decide +kernel) rfl (by rfl) (by simp) (by rw [wd_X0 (hk := hk)]; rfl) kk
theorem wg_X0_31 {k : Nat} (C : wj_C l V X cc nL RX0 fr lo) (hd : decode cc pc = .ok (.getfield 31, 3)) (hk : 1 ≤ k ∧ k < 4) (kk : wj_J l V X (pc + 3) lv (.int (σ k 5) :: st) σ) : wj_J l V X pc lv (.ref (V.2.2.1 k) :: st) σ := wj_getf C hd (by omega) (wd_X0 V (σ k) hk) kh_X0 5 (by decide) (wj_mem 147 (by decide +kernel) (by decide +kernel)) rfl rfl kk
theorem wp_X0_31 {k : Nat} {x : Int32} (C : wj_C l V X cc nL RX0 fr lo) (hd : decode cc pc = .ok (.putfield 31, 3)) (hk : 1 ≤ k ∧ k < 4) (kk : wj_J l V X (pc + 3) lv st (wj_u σ k 5 x)) : wj_J l V X pc lv (.int x :: .ref (V.2.2.1 k) :: st) σ := wj_putf C hd (by omega) (wd_X0 V (σ k) hk) kh_X0 tyX0_ok nmX0 5 (by decide) (wj_mem 147 (by decide +kernel) (by decide +kernel)) rfl rfl (ty := .int) (by decide +kernel) rfl (by rfl) (by simp) (by rw [wd_X0 (hk := hk)]; rfl) kk
theorem wg_X4_119 {k : Nat} (C : wj_C l V X cc nL RX4 fr lo) (hd : decode cc pc = .ok (.getfield 119, 3)) (hk : 1 ≤ k ∧ k < 4) (kk : wj_J l V X (pc + 3) lv (.int (σ k 5) :: st) σ) : wj_J l V X pc lv (.ref (V.2.2.1 k) :: st) σ := wj_getfN (host := "WordHedge") C hd (by omega) (wd_X0 V (σ k) hk) kh_X0 5 (by decide) (wj_mem 148 (by decide +kernel) (by decide +kernel)) rfl rfl kk
theorem wp_X4_119 {k : Nat} {x : Int32} (C : wj_C l V X cc nL RX4 fr lo) (hd : decode cc pc = .ok (.putfield 119, 3)) (hk : 1 ≤ k ∧ k < 4) (kk : wj_J l V X (pc + 3) lv st (wj_u σ k 5 x)) : wj_J l V X pc lv (.int x :: .ref (V.2.2.1 k) :: st) σ := wj_putfN (host := "WordHedge") C hd (by omega) (wd_X0 V (σ k) hk) kh_X0 tyX0_ok nmX0 5 (by decide) (wj_mem 148 (by decide +kernel) (by decide +kernel)) rfl rfl (ty := .int) (by decide +kernel) rfl (by rfl) (by simp) (by rw [wd_X0 (hk := hk)]; rfl) kk
theorem wg_X3_9 (C : wj_C l V X cc nL RX3 fr lo) (hd : decode cc pc = .ok (.getfield 9, 3)) (kk : wj_J l V X (pc + 3) lv (.ref (V.2.2.1 47) :: st) σ) : wj_J l V X pc lv (.ref (V.2.2.1 46) :: st) σ := wj_getf C hd (by omega) (wd_X3 V (σ 46)) kh_X3 0 (by decide) (wj_mem 170 (by decide +kernel) (by decide +kernel)) rfl rfl kk
theorem wg_X3_15 (C : wj_C l V X cc nL RX3 fr lo) (hd : decode cc pc = .ok (.getfield 15, 3)) (kk : wj_J l V X (pc + 3) lv (.int (σ 46 1) :: st) σ) : wj_J l V X pc lv (.ref (V.2.2.1 46) :: st) σ := wj_getf C hd (by omega) (wd_X3 V (σ 46)) kh_X3 1 (by decide) (wj_mem 171 (by decide +kernel) (by decide +kernel)) rfl rfl kk
theorem wp_X3_15 {x : Int32} (C : wj_C l V X cc nL RX3 fr lo) (hd : decode cc pc = .ok (.putfield 15, 3)) (kk : wj_J l V X (pc + 3) lv st (wj_u σ 46 1 x)) : wj_J l V X pc lv (.int x :: .ref (V.2.2.1 46) :: st) σ := wj_putf C hd (by omega) (wd_X3 V (σ 46)) kh_X3 tyX3_ok nmX3 1 (by decide) (wj_mem 171 (by decide +kernel) (by decide +kernel)) rfl rfl (ty := .int) (by decide +kernel) rfl (by rfl) (by simp) (by rw [wd_X3]; rfl) kk
theorem wg_X4_224 (C : wj_C l V X cc nL RX4 fr lo) (hd : decode cc pc = .ok (.getfield 224, 3)) (kk : wj_J l V X (pc + 3) lv (.int (σ 46 1) :: st) σ) : wj_J l V X pc lv (.ref (V.2.2.1 46) :: st) σ := wj_getfN (host := "WordHedge") C hd (by omega) (wd_X3 V (σ 46)) kh_X3 1 (by decide) (wj_mem 172 (by decide +kernel) (by decide +kernel)) rfl rfl kk
theorem wp_X4_224 {x : Int32} (C : wj_C l V X cc nL RX4 fr lo) (hd : decode cc pc = .ok (.putfield 224, 3)) (kk : wj_J l V X (pc + 3) lv st (wj_u σ 46 1 x)) : wj_J l V X pc lv (.int x :: .ref (V.2.2.1 46) :: st) σ := wj_putfN (host := "WordHedge") C hd (by omega) (wd_X3 V (σ 46)) kh_X3 tyX3_ok nmX3 1 (by decide) (wj_mem 172 (by decide +kernel) (by decide +kernel)) rfl rfl (ty := .int) (by decide +kernel) rfl (by rfl) (by simp) (by rw [wd_X3]; rfl) kk
theorem wg_X3_19 (C : wj_C l V X cc nL RX3 fr lo) (hd : decode cc pc = .ok (.getfield 19, 3)) (kk : wj_J l V X (pc + 3) lv (.int (σ 46 2) :: st) σ) : wj_J l V X pc lv (.ref (V.2.2.1 46) :: st) σ := wj_getf C hd (by omega) (wd_X3 V (σ 46)) kh_X3 2 (by decide) (wj_mem 173 (by decide +kernel) (by decide +kernel)) rfl rfl kk
theorem wp_X3_19 {x : Int32} (C : wj_C l V X cc nL RX3 fr lo) (hd : decode cc pc = .ok (.putfield 19, 3)) (kk : wj_J l V X (pc + 3) lv st (wj_u σ 46 2 x)) : wj_J l V X pc lv (.int x :: .ref (V.2.2.1 46) :: st) σ := wj_putf C hd (by omega) (wd_X3 V (σ 46)) kh_X3 tyX3_ok nmX3 2 (by decide) (wj_mem 173 (by decide +kernel) (by decide +kernel)) rfl rfl (ty := .int) (by decide +kernel) rfl (by rfl) (by simp) (by rw [wd_X3]; rfl) kk
theorem wg_X3_22 (C : wj_C l V X cc nL RX3 fr lo) (hd : decode cc pc = .ok (.getfield 22, 3)) (kk : wj_J l V X (pc + 3) lv (.int (σ 46 3) :: st) σ) : wj_J l V X pc lv (.ref (V.2.2.1 46) :: st) σ := wj_getf C hd (by omega) (wd_X3 V (σ 46)) kh_X3 3 (by decide) (wj_mem 174 (by decide +kernel) (by decide +kernel)) rfl rfl kk
theorem wp_X3_22 {x : Int32} (C : wj_C l V X cc nL RX3 fr lo) (hd : decode cc pc = .ok (.putfield 22, 3)) (kk : wj_J l V X (pc + 3) lv st (wj_u σ 46 3 x)) : wj_J l V X pc lv (.int x :: .ref (V.2.2.1 46) :: st) σ := wj_putf C hd (by omega) (wd_X3 V (σ 46)) kh_X3 tyX3_ok nmX3 3 (by decide) (wj_mem 174 (by decide +kernel) (by decide +kernel)) rfl rfl (ty := .int) (by decide +kernel) rfl (by rfl) (by simp) (by rw [wd_X3]; rfl) kk
theorem wg_X3_25 (C : wj_C l V X cc nL RX3 fr lo) (hd : decode cc pc = .ok (.getfield 25, 3)) (kk : wj_J l V X (pc + 3) lv (.int (σ 46 4) :: st) σ) : wj_J l V X pc lv (.ref (V.2.2.1 46) :: st) σ := wj_getf C hd (by omega) (wd_X3 V (σ 46)) kh_X3 4 (by decide) (wj_mem 175 (by decide +kernel) (by decide +kernel)) rfl rfl kk
theorem wp_X3_25 {x : Int32} (C : wj_C l V X cc nL RX3 fr lo) (hd : decode cc pc = .ok (.putfield 25, 3)) (kk : wj_J l V X (pc + 3) lv st (wj_u σ 46 4 x)) : wj_J l V X pc lv (.int x :: .ref (V.2.2.1 46) :: st) σ := wj_putf C hd (by omega) (wd_X3 V (σ 46)) kh_X3 tyX3_ok nmX3 4 (by decide) (wj_mem 175 (by decide +kernel) (by decide +kernel)) rfl rfl (ty := .int) (by decide +kernel) rfl (by rfl) (by simp) (by rw [wd_X3]; rfl) kk
theorem wg_X1_9 {k : Nat} (C : wj_C l V X cc nL RX1 fr lo) (hd : decode cc pc = .ok (.getfield 9, 3)) (hk : 38 ≤ k ∧ k < 42) (kk : wj_J l V X (pc + 3) lv (.ref (V.2.2.1 (k + 4)) :: st) σ) : wj_J l V X pc lv (.ref (V.2.2.1 k) :: st) σ := wj_getf C hd (by omega) (wd_X1 V (σ k) hk) kh_X1 0 (by decide) (wj_mem 196 (by decide +kernel) (by decide +kernel)) rfl rfl kk
theorem wg_X4_251 {k : Nat} (C : wj_C l V X cc nL RX4 fr lo) (hd : decode cc pc = .ok (.getfield 251, 3)) (hk : 38 ≤ k ∧ k < 42) (kk : wj_J l V X (pc + 3) lv (.ref (V.2.2.1 (k + 4)) :: st) σ) : wj_J l V X pc lv (.ref (V.2.2.1 k) :: st) σ := wj_getfN (host := "WordHedge") C hd (by omega) (wd_X1 V (σ k) hk) kh_X1 0 (by decide) (wj_mem 197 (by decide +kernel) (by decide +kernel)) rfl rfl kk
theorem wg_X1_15 {k : Nat} (C : wj_C l V X cc nL RX1 fr lo) (hd : decode cc pc = .ok (.getfield 15, 3)) (hk : 38 ≤ k ∧ k < 42) (kk : wj_J l V X (pc + 3) lv (.int (σ k 1) :: st) σ) : wj_J l V X pc lv (.ref (V.2.2.1 k) :: st) σ := wj_getf C hd (by omega) (wd_X1 V (σ k) hk) kh_X1 1 (by decide) (wj_mem 198 (by decide +kernel) (by decide +kernel)) rfl rfl kk
theorem wp_X1_15 {k : Nat} {x : Int32} (C : wj_C l V X cc nL RX1 fr lo) (hd : decode cc pc = .ok (.putfield 15, 3)) (hk : 38 ≤ k ∧ k < 42) (kk : wj_J l V X (pc + 3) lv st (wj_u σ k 1 x)) : wj_J l V X pc lv (.int x :: .ref (V.2.2.1 k) :: st) σ := wj_putf C hd (by omega) (wd_X1 V (σ k) hk) kh_X1 tyX1_ok nmX1 1 (by decide) (wj_mem 198 (by decide +kernel) (by decide +kernel)) rfl rfl (ty := .int) (by decide +kernel) rfl (by rfl) (by simp) (by rw [wd_X1 (hk := hk)]; rfl) kk
theorem wg_X4_245 {k : Nat} (C : wj_C l V X cc nL RX4 fr lo) (hd : decode cc pc = .ok (.getfield 245, 3)) (hk : 38 ≤ k ∧ k < 42) (kk : wj_J l V X (pc + 3) lv (.int (σ k 1) :: st) σ) : wj_J l V X pc lv (.ref (V.2.2.1 k) :: st) σ := wj_getfN (host := "WordHedge") C hd (by omega) (wd_X1 V (σ k) hk) kh_X1 1 (by decide) (wj_mem 199 (by decide +kernel) (by decide +kernel)) rfl rfl kk
theorem wp_X4_245 {k : Nat} {x : Int32} (C : wj_C l V X cc nL RX4 fr lo) (hd : decode cc pc = .ok (.putfield 245, 3)) (hk : 38 ≤ k ∧ k < 42) (kk : wj_J l V X (pc + 3) lv st (wj_u σ k 1 x)) : wj_J l V X pc lv (.int x :: .ref (V.2.2.1 k) :: st) σ := wj_putfN (host := "WordHedge") C hd (by omega) (wd_X1 V (σ k) hk) kh_X1 tyX1_ok nmX1 1 (by decide) (wj_mem 199 (by decide +kernel) (by decide +kernel)) rfl rfl (ty := .int) (by decide +kernel) rfl (by rfl) (by simp) (by rw [wd_X1 (hk := hk)]; rfl) kk
theorem wg_X1_19 {k : Nat} (C : wj_C l V X cc nL RX1 fr lo) (hd : decode cc pc = .ok (.getfield 19, 3)) (hk : 38 ≤ k ∧ k < 42) (kk : wj_J l V X (pc + 3) lv (.int (σ k 2) :: st) σ) : wj_J l V X pc lv (.ref (V.2.2.1 k) :: st) σ := wj_getf C hd (by omega) (wd_X1 V (σ k) hk) kh_X1 2 (by decide) (wj_mem 200 (by decide +kernel) (by decide +kernel)) rfl rfl kk
theorem wp_X1_19 {k : Nat} {x : Int32} (C : wj_C l V X cc nL RX1 fr lo) (hd : decode cc pc = .ok (.putfield 19, 3)) (hk : 38 ≤ k ∧ k < 42) (kk : wj_J l V X (pc + 3) lv st (wj_u σ k 2 x)) : wj_J l V X pc lv (.int x :: .ref (V.2.2.1 k) :: st) σ := wj_putf C hd (by omega) (wd_X1 V (σ k) hk) kh_X1 tyX1_ok nmX1 2 (by decide) (wj_mem 200 (by decide +kernel) (by decide +kernel)) rfl rfl (ty := .int) (by decide +kernel) rfl (by rfl) (by simp) (by rw [wd_X1 (hk := hk)]; rfl) kk
theorem wg_X4_243 {k : Nat} (C : wj_C l V X cc nL RX4 fr lo) (hd : decode cc pc = .ok (.getfield 243, 3)) (hk : 38 ≤ k ∧ k < 42) (kk : wj_J l V X (pc + 3) lv (.int (σ k 2) :: st) σ) : wj_J l V X pc lv (.ref (V.2.2.1 k) :: st) σ := wj_getfN (host := "WordHedge") C hd (by omega) (wd_X1 V (σ k) hk) kh_X1 2 (by decide) (wj_mem 201 (by decide +kernel) (by decide +kernel)) rfl rfl kk
theorem wp_X4_243 {k : Nat} {x : Int32} (C : wj_C l V X cc nL RX4 fr lo) (hd : decode cc pc = .ok (.putfield 243, 3)) (hk : 38 ≤ k ∧ k < 42) (kk : wj_J l V X (pc + 3) lv st (wj_u σ k 2 x)) : wj_J l V X pc lv (.int x :: .ref (V.2.2.1 k) :: st) σ := wj_putfN (host := "WordHedge") C hd (by omega) (wd_X1 V (σ k) hk) kh_X1 tyX1_ok nmX1 2 (by decide) (wj_mem 201 (by decide +kernel) (by decide +kernel)) rfl rfl (ty := .int) (by decide +kernel) rfl (by rfl) (by simp) (by rw [wd_X1 (hk := hk)]; rfl) kk
theorem wg_X4_12 (C : wj_C l V X cc nL RX4 fr lo) (hd : decode cc pc = .ok (.getfield 12, 3)) (kk : wj_J l V X (pc + 3) lv (.ref (V.2.2.1 1) :: st) σ) : wj_J l V X pc lv (.ref (V.2.2.1 0) :: st) σ := wj_getf C hd (by omega) (wd_X4 V (σ 0)) kh_X4 0 (by decide) (wj_mem 209 (by decide +kernel) (by decide +kernel)) rfl rfl kk
theorem wg_X4_16 (C : wj_C l V X cc nL RX4 fr lo) (hd : decode cc pc = .ok (.getfield 16, 3)) (kk : wj_J l V X (pc + 3) lv (.ref (V.2.2.1 2) :: st) σ) : wj_J l V X pc lv (.ref (V.2.2.1 0) :: st) σ := wj_getf C hd (by omega) (wd_X4 V (σ 0)) kh_X4 1 (by decide) (wj_mem 210 (by decide +kernel) (by decide +kernel)) rfl rfl kk
theorem wg_X4_19 (C : wj_C l V X cc nL RX4 fr lo) (hd : decode cc pc = .ok (.getfield 19, 3)) (kk : wj_J l V X (pc + 3) lv (.ref (V.2.2.1 34) :: st) σ) : wj_J l V X pc lv (.ref (V.2.2.1 0) :: st) σ := wj_getf C hd (by omega) (wd_X4 V (σ 0)) kh_X4 2 (by decide) (wj_mem 211 (by decide +kernel) (by decide +kernel)) rfl rfl kk
theorem wg_X4_23 (C : wj_C l V X cc nL RX4 fr lo) (hd : decode cc pc = .ok (.getfield 23, 3)) (kk : wj_J l V X (pc + 3) lv (.int (σ 0 3) :: st) σ) : wj_J l V X pc lv (.ref (V.2.2.1 0) :: st) σ := wj_getf C hd (by omega) (wd_X4 V (σ 0)) kh_X4 3 (by decide) (wj_mem 212 (by decide +kernel) (by decide +kernel)) rfl rfl kk
theorem wp_X4_23 {x : Int32} (C : wj_C l V X cc nL RX4 fr lo) (hd : decode cc pc = .ok (.putfield 23, 3)) (kk : wj_J l V X (pc + 3) lv st (wj_u σ 0 3 x)) : wj_J l V X pc lv (.int x :: .ref (V.2.2.1 0) :: st) σ := wj_putf C hd (by omega) (wd_X4 V (σ 0)) kh_X4 tyX4_ok nmX4 3 (by decide) (wj_mem 212 (by decide +kernel) (by decide +kernel)) rfl rfl (ty := .int) (by decide +kernel) rfl (by rfl) (by simp) (by rw [wd_X4]; rfl) kk
theorem wg_X4_27 (C : wj_C l V X cc nL RX4 fr lo) (hd : decode cc pc = .ok (.getfield 27, 3)) (kk : wj_J l V X (pc + 3) lv (.ref (V.2.2.1 3) :: st) σ) : wj_J l V X pc lv (.ref (V.2.2.1 0) :: st) σ := wj_getf C hd (by omega) (wd_X4 V (σ 0)) kh_X4 4 (by decide) (wj_mem 213 (by decide +kernel) (by decide +kernel)) rfl rfl kk
theorem wg_X4_30 (C : wj_C l V X cc nL RX4 fr lo) (hd : decode cc pc = .ok (.getfield 30, 3)) (kk : wj_J l V X (pc + 3) lv (.ref (V.2.2.1 35) :: st) σ) : wj_J l V X pc lv (.ref (V.2.2.1 0) :: st) σ := wj_getf C hd (by omega) (wd_X4 V (σ 0)) kh_X4 5 (by decide) (wj_mem 214 (by decide +kernel) (by decide +kernel)) rfl rfl kk
theorem wg_X4_33 (C : wj_C l V X cc nL RX4 fr lo) (hd : decode cc pc = .ok (.getfield 33, 3)) (kk : wj_J l V X (pc + 3) lv (.int (σ 0 6) :: st) σ) : wj_J l V X pc lv (.ref (V.2.2.1 0) :: st) σ := wj_getf C hd (by omega) (wd_X4 V (σ 0)) kh_X4 6 (by decide) (wj_mem 215 (by decide +kernel) (by decide +kernel)) rfl rfl kk
theorem wp_X4_33 {x : Int32} (C : wj_C l V X cc nL RX4 fr lo) (hd : decode cc pc = .ok (.putfield 33, 3)) (kk : wj_J l V X (pc + 3) lv st (wj_u σ 0 6 x)) : wj_J l V X pc lv (.int x :: .ref (V.2.2.1 0) :: st) σ := wj_putf C hd (by omega) (wd_X4 V (σ 0)) kh_X4 tyX4_ok nmX4 6 (by decide) (wj_mem 215 (by decide +kernel) (by decide +kernel)) rfl rfl (ty := .int) (by decide +kernel) rfl (by rfl) (by simp) (by rw [wd_X4]; rfl) kk
theorem wg_X4_36 (C : wj_C l V X cc nL RX4 fr lo) (hd : decode cc pc = .ok (.getfield 36, 3)) (kk : wj_J l V X (pc + 3) lv (.int (σ 0 7) :: st) σ) : wj_J l V X pc lv (.ref (V.2.2.1 0) :: st) σ := wj_getf C hd (by omega) (wd_X4 V (σ 0)) kh_X4 7 (by decide) (wj_mem 216 (by decide +kernel) (by decide +kernel)) rfl rfl kk
theorem wp_X4_36 {x : Int32} (C : wj_C l V X cc nL RX4 fr lo) (hd : decode cc pc = .ok (.putfield 36, 3)) (hn : narrow .boolean (.int x) = .int x) (kk : wj_J l V X (pc + 3) lv st (wj_u σ 0 7 x)) : wj_J l V X pc lv (.int x :: .ref (V.2.2.1 0) :: st) σ := wj_putf C hd (by omega) (wd_X4 V (σ 0)) kh_X4 tyX4_ok nmX4 7 (by decide) (wj_mem 216 (by decide +kernel) (by decide +kernel)) rfl rfl (ty := .boolean) (by decide +kernel) hn (by rfl) (by simp) (by rw [wd_X4]; rfl) kk
theorem wg_X4_42 (C : wj_C l V X cc nL RX4 fr lo) (hd : decode cc pc = .ok (.getfield 42, 3)) (kk : wj_J l V X (pc + 3) lv (.ref (V.2.2.1 37) :: st) σ) : wj_J l V X pc lv (.ref (V.2.2.1 0) :: st) σ := wj_getf C hd (by omega) (wd_X4 V (σ 0)) kh_X4 8 (by decide) (wj_mem 217 (by decide +kernel) (by decide +kernel)) rfl rfl kk
theorem wg_X4_49 (C : wj_C l V X cc nL RX4 fr lo) (hd : decode cc pc = .ok (.getfield 49, 3)) (kk : wj_J l V X (pc + 3) lv (.ref (V.2.2.1 46) :: st) σ) : wj_J l V X pc lv (.ref (V.2.2.1 0) :: st) σ := wj_getf C hd (by omega) (wd_X4 V (σ 0)) kh_X4 9 (by decide) (wj_mem 218 (by decide +kernel) (by decide +kernel)) rfl rfl kk
theorem wg_X4_53 (C : wj_C l V X cc nL RX4 fr lo) (hd : decode cc pc = .ok (.getfield 53, 3)) (kk : wj_J l V X (pc + 3) lv (.ref (V.2.2.1 36) :: st) σ) : wj_J l V X pc lv (.ref (V.2.2.1 0) :: st) σ := wj_getf C hd (by omega) (wd_X4 V (σ 0)) kh_X4 10 (by decide) (wj_mem 219 (by decide +kernel) (by decide +kernel)) rfl rfl kk
theorem wg_X5_9 (C : wj_C l V X cc nL RX5 fr lo) (hd : decode cc pc = .ok (.getfield 9, 3)) (kk : wj_J l V X (pc + 3) lv (.ref (V.2.2.1 49) :: st) σ) : wj_J l V X pc lv (.ref (V.2.2.1 48) :: st) σ := wj_getf C hd (by omega) (wd_X5 V (σ 48)) kh_X5 0 (by decide) (wj_mem 820 (by decide +kernel) (by decide +kernel)) rfl rfl kk
theorem wg_X5_13 (C : wj_C l V X cc nL RX5 fr lo) (hd : decode cc pc = .ok (.getfield 13, 3)) (kk : wj_J l V X (pc + 3) lv (.ref (V.2.2.1 50) :: st) σ) : wj_J l V X pc lv (.ref (V.2.2.1 48) :: st) σ := wj_getf C hd (by omega) (wd_X5 V (σ 48)) kh_X5 1 (by decide) (wj_mem 821 (by decide +kernel) (by decide +kernel)) rfl rfl kk
theorem wg_X5_16 (C : wj_C l V X cc nL RX5 fr lo) (hd : decode cc pc = .ok (.getfield 16, 3)) (kk : wj_J l V X (pc + 3) lv (.ref (V.2.2.1 51) :: st) σ) : wj_J l V X pc lv (.ref (V.2.2.1 48) :: st) σ := wj_getf C hd (by omega) (wd_X5 V (σ 48)) kh_X5 2 (by decide) (wj_mem 822 (by decide +kernel) (by decide +kernel)) rfl rfl kk
theorem wg_X5_326 (C : wj_C l V X cc nL RX5 fr lo) (hd : decode cc pc = .ok (.getfield 326, 3)) (kk : wj_J l V X (pc + 3) lv (.int (σ 48 3) :: st) σ) : wj_J l V X pc lv (.ref (V.2.2.1 48) :: st) σ := wj_getf C hd (by omega) (wd_X5 V (σ 48)) kh_X5 3 (by decide) (wj_mem 823 (by decide +kernel) (by decide +kernel)) rfl rfl kk
theorem wp_X5_326 {x : Int32} (C : wj_C l V X cc nL RX5 fr lo) (hd : decode cc pc = .ok (.putfield 326, 3)) (hn : narrow .boolean (.int x) = .int x) (kk : wj_J l V X (pc + 3) lv st (wj_u σ 48 3 x)) : wj_J l V X pc lv (.int x :: .ref (V.2.2.1 48) :: st) σ := wj_putf C hd (by omega) (wd_X5 V (σ 48)) kh_X5 tyX5_ok nmX5 3 (by decide) (wj_mem 823 (by decide +kernel) (by decide +kernel)) rfl rfl (ty := .boolean) (by decide +kernel) hn (by rfl) (by simp) (by rw [wd_X5]; rfl) kk
theorem wg_X5_19 (C : wj_C l V X cc nL RX5 fr lo) (hd : decode cc pc = .ok (.getfield 19, 3)) (kk : wj_J l V X (pc + 3) lv (.ref (V.2.2.1 52) :: st) σ) : wj_J l V X pc lv (.ref (V.2.2.1 48) :: st) σ := wj_getf C hd (by omega) (wd_X5 V (σ 48)) kh_X5 4 (by decide) (wj_mem 824 (by decide +kernel) (by decide +kernel)) rfl rfl kk
theorem wg_X5_155 (C : wj_C l V X cc nL RX5 fr lo) (hd : decode cc pc = .ok (.getfield 155, 3)) (kk : wj_J l V X (pc + 3) lv (.int (σ 48 5) :: st) σ) : wj_J l V X pc lv (.ref (V.2.2.1 48) :: st) σ := wj_getf C hd (by omega) (wd_X5 V (σ 48)) kh_X5 5 (by decide) (wj_mem 825 (by decide +kernel) (by decide +kernel)) rfl rfl kk
theorem wp_X5_155 {x : Int32} (C : wj_C l V X cc nL RX5 fr lo) (hd : decode cc pc = .ok (.putfield 155, 3)) (hn : narrow .boolean (.int x) = .int x) (kk : wj_J l V X (pc + 3) lv st (wj_u σ 48 5 x)) : wj_J l V X pc lv (.int x :: .ref (V.2.2.1 48) :: st) σ := wj_putf C hd (by omega) (wd_X5 V (σ 48)) kh_X5 tyX5_ok nmX5 5 (by decide) (wj_mem 825 (by decide +kernel) (by decide +kernel)) rfl rfl (ty := .boolean) (by decide +kernel) hn (by rfl) (by simp) (by rw [wd_X5]; rfl) kk
theorem wg_X5_22 (C : wj_C l V X cc nL RX5 fr lo) (hd : decode cc pc = .ok (.getfield 22, 3)) (kk : wj_J l V X (pc + 3) lv (.ref (V.2.2.1 53) :: st) σ) : wj_J l V X pc lv (.ref (V.2.2.1 48) :: st) σ := wj_getf C hd (by omega) (wd_X5 V (σ 48)) kh_X5 6 (by decide) (wj_mem 826 (by decide +kernel) (by decide +kernel)) rfl rfl kk
theorem wg_X5_229 (C : wj_C l V X cc nL RX5 fr lo) (hd : decode cc pc = .ok (.getfield 229, 3)) (kk : wj_J l V X (pc + 3) lv (.int (σ 48 7) :: st) σ) : wj_J l V X pc lv (.ref (V.2.2.1 48) :: st) σ := wj_getf C hd (by omega) (wd_X5 V (σ 48)) kh_X5 7 (by decide) (wj_mem 827 (by decide +kernel) (by decide +kernel)) rfl rfl kk
theorem wp_X5_229 {x : Int32} (C : wj_C l V X cc nL RX5 fr lo) (hd : decode cc pc = .ok (.putfield 229, 3)) (kk : wj_J l V X (pc + 3) lv st (wj_u σ 48 7 x)) : wj_J l V X pc lv (.int x :: .ref (V.2.2.1 48) :: st) σ := wj_putf C hd (by omega) (wd_X5 V (σ 48)) kh_X5 tyX5_ok nmX5 7 (by decide) (wj_mem 827 (by decide +kernel) (by decide +kernel)) rfl rfl (ty := .int) (by decide +kernel) rfl (by rfl) (by simp) (by rw [wd_X5]; rfl) kk
theorem wg_X5_236 (C : wj_C l V X cc nL RX5 fr lo) (hd : decode cc pc = .ok (.getfield 236, 3)) (kk : wj_J l V X (pc + 3) lv (.int (σ 48 8) :: st) σ) : wj_J l V X pc lv (.ref (V.2.2.1 48) :: st) σ := wj_getf C hd (by omega) (wd_X5 V (σ 48)) kh_X5 8 (by decide) (wj_mem 828 (by decide +kernel) (by decide +kernel)) rfl rfl kk
theorem wp_X5_236 {x : Int32} (C : wj_C l V X cc nL RX5 fr lo) (hd : decode cc pc = .ok (.putfield 236, 3)) (kk : wj_J l V X (pc + 3) lv st (wj_u σ 48 8 x)) : wj_J l V X pc lv (.int x :: .ref (V.2.2.1 48) :: st) σ := wj_putf C hd (by omega) (wd_X5 V (σ 48)) kh_X5 tyX5_ok nmX5 8 (by decide) (wj_mem 828 (by decide +kernel) (by decide +kernel)) rfl rfl (ty := .int) (by decide +kernel) rfl (by rfl) (by simp) (by rw [wd_X5]; rfl) kk
theorem wg_X5_233 (C : wj_C l V X cc nL RX5 fr lo) (hd : decode cc pc = .ok (.getfield 233, 3)) (kk : wj_J l V X (pc + 3) lv (.int (σ 48 9) :: st) σ) : wj_J l V X pc lv (.ref (V.2.2.1 48) :: st) σ := wj_getf C hd (by omega) (wd_X5 V (σ 48)) kh_X5 9 (by decide) (wj_mem 829 (by decide +kernel) (by decide +kernel)) rfl rfl kk
theorem wp_X5_233 {x : Int32} (C : wj_C l V X cc nL RX5 fr lo) (hd : decode cc pc = .ok (.putfield 233, 3)) (kk : wj_J l V X (pc + 3) lv st (wj_u σ 48 9 x)) : wj_J l V X pc lv (.int x :: .ref (V.2.2.1 48) :: st) σ := wj_putf C hd (by omega) (wd_X5 V (σ 48)) kh_X5 tyX5_ok nmX5 9 (by decide) (wj_mem 829 (by decide +kernel) (by decide +kernel)) rfl rfl (ty := .int) (by decide +kernel) rfl (by rfl) (by simp) (by rw [wd_X5]; rfl) kk
theorem wg_X5_245 (C : wj_C l V X cc nL RX5 fr lo) (hd : decode cc pc = .ok (.getfield 245, 3)) (kk : wj_J l V X (pc + 3) lv (.int (σ 48 10) :: st) σ) : wj_J l V X pc lv (.ref (V.2.2.1 48) :: st) σ := wj_getf C hd (by omega) (wd_X5 V (σ 48)) kh_X5 10 (by decide) (wj_mem 830 (by decide +kernel) (by decide +kernel)) rfl rfl kk
theorem wp_X5_245 {x : Int32} (C : wj_C l V X cc nL RX5 fr lo) (hd : decode cc pc = .ok (.putfield 245, 3)) (kk : wj_J l V X (pc + 3) lv st (wj_u σ 48 10 x)) : wj_J l V X pc lv (.int x :: .ref (V.2.2.1 48) :: st) σ := wj_putf C hd (by omega) (wd_X5 V (σ 48)) kh_X5 tyX5_ok nmX5 10 (by decide) (wj_mem 830 (by decide +kernel) (by decide +kernel)) rfl rfl (ty := .int) (by decide +kernel) rfl (by rfl) (by simp) (by rw [wd_X5]; rfl) kk
theorem wg_X5_242 (C : wj_C l V X cc nL RX5 fr lo) (hd : decode cc pc = .ok (.getfield 242, 3)) (kk : wj_J l V X (pc + 3) lv (.int (σ 48 11) :: st) σ) : wj_J l V X pc lv (.ref (V.2.2.1 48) :: st) σ := wj_getf C hd (by omega) (wd_X5 V (σ 48)) kh_X5 11 (by decide) (wj_mem 831 (by decide +kernel) (by decide +kernel)) rfl rfl kk
theorem wp_X5_242 {x : Int32} (C : wj_C l V X cc nL RX5 fr lo) (hd : decode cc pc = .ok (.putfield 242, 3)) (kk : wj_J l V X (pc + 3) lv st (wj_u σ 48 11 x)) : wj_J l V X pc lv (.int x :: .ref (V.2.2.1 48) :: st) σ := wj_putf C hd (by omega) (wd_X5 V (σ 48)) kh_X5 tyX5_ok nmX5 11 (by decide) (wj_mem 831 (by decide +kernel) (by decide +kernel)) rfl rfl (ty := .int) (by decide +kernel) rfl (by rfl) (by simp) (by rw [wd_X5]; rfl) kk
theorem wg_X5_256 (C : wj_C l V X cc nL RX5 fr lo) (hd : decode cc pc = .ok (.getfield 256, 3)) (kk : wj_J l V X (pc + 3) lv (.int (σ 48 12) :: st) σ) : wj_J l V X pc lv (.ref (V.2.2.1 48) :: st) σ := wj_getf C hd (by omega) (wd_X5 V (σ 48)) kh_X5 12 (by decide) (wj_mem 832 (by decide +kernel) (by decide +kernel)) rfl rfl kk
theorem wp_X5_256 {x : Int32} (C : wj_C l V X cc nL RX5 fr lo) (hd : decode cc pc = .ok (.putfield 256, 3)) (hn : narrow .boolean (.int x) = .int x) (kk : wj_J l V X (pc + 3) lv st (wj_u σ 48 12 x)) : wj_J l V X pc lv (.int x :: .ref (V.2.2.1 48) :: st) σ := wj_putf C hd (by omega) (wd_X5 V (σ 48)) kh_X5 tyX5_ok nmX5 12 (by decide) (wj_mem 832 (by decide +kernel) (by decide +kernel)) rfl rfl (ty := .boolean) (by decide +kernel) hn (by rfl) (by simp) (by rw [wd_X5]; rfl) kk
theorem wg_X5_41 (C : wj_C l V X cc nL RX5 fr lo) (hd : decode cc pc = .ok (.getfield 41, 3)) (kk : wj_J l V X (pc + 3) lv (.ref (V.2.2.1 59) :: st) σ) : wj_J l V X pc lv (.ref (V.2.2.1 48) :: st) σ := wj_getf C hd (by omega) (wd_X5 V (σ 48)) kh_X5 13 (by decide) (wj_mem 833 (by decide +kernel) (by decide +kernel)) rfl rfl kk
theorem wg_X5_45 (C : wj_C l V X cc nL RX5 fr lo) (hd : decode cc pc = .ok (.getfield 45, 3)) (kk : wj_J l V X (pc + 3) lv (.ref (V.2.2.1 54) :: st) σ) : wj_J l V X pc lv (.ref (V.2.2.1 48) :: st) σ := wj_getf C hd (by omega) (wd_X5 V (σ 48)) kh_X5 14 (by decide) (wj_mem 834 (by decide +kernel) (by decide +kernel)) rfl rfl kk
theorem wg_X5_266 (C : wj_C l V X cc nL RX5 fr lo) (hd : decode cc pc = .ok (.getfield 266, 3)) (kk : wj_J l V X (pc + 3) lv (.int (σ 48 15) :: st) σ) : wj_J l V X pc lv (.ref (V.2.2.1 48) :: st) σ := wj_getf C hd (by omega) (wd_X5 V (σ 48)) kh_X5 15 (by decide) (wj_mem 835 (by decide +kernel) (by decide +kernel)) rfl rfl kk
theorem wp_X5_266 {x : Int32} (C : wj_C l V X cc nL RX5 fr lo) (hd : decode cc pc = .ok (.putfield 266, 3)) (kk : wj_J l V X (pc + 3) lv st (wj_u σ 48 15 x)) : wj_J l V X pc lv (.int x :: .ref (V.2.2.1 48) :: st) σ := wj_putf C hd (by omega) (wd_X5 V (σ 48)) kh_X5 tyX5_ok nmX5 15 (by decide) (wj_mem 835 (by decide +kernel) (by decide +kernel)) rfl rfl (ty := .int) (by decide +kernel) rfl (by rfl) (by simp) (by rw [wd_X5]; rfl) kk
theorem wg_X5_273 (C : wj_C l V X cc nL RX5 fr lo) (hd : decode cc pc = .ok (.getfield 273, 3)) (kk : wj_J l V X (pc + 3) lv (.int (σ 48 16) :: st) σ) : wj_J l V X pc lv (.ref (V.2.2.1 48) :: st) σ := wj_getf C hd (by omega) (wd_X5 V (σ 48)) kh_X5 16 (by decide) (wj_mem 836 (by decide +kernel) (by decide +kernel)) rfl rfl kk
theorem wp_X5_273 {x : Int32} (C : wj_C l V X cc nL RX5 fr lo) (hd : decode cc pc = .ok (.putfield 273, 3)) (kk : wj_J l V X (pc + 3) lv st (wj_u σ 48 16 x)) : wj_J l V X pc lv (.int x :: .ref (V.2.2.1 48) :: st) σ := wj_putf C hd (by omega) (wd_X5 V (σ 48)) kh_X5 tyX5_ok nmX5 16 (by decide) (wj_mem 836 (by decide +kernel) (by decide +kernel)) rfl rfl (ty := .int) (by decide +kernel) rfl (by rfl) (by simp) (by rw [wd_X5]; rfl) kk
theorem wg_X5_48 (C : wj_C l V X cc nL RX5 fr lo) (hd : decode cc pc = .ok (.getfield 48, 3)) (kk : wj_J l V X (pc + 3) lv (.ref (V.2.2.1 55) :: st) σ) : wj_J l V X pc lv (.ref (V.2.2.1 48) :: st) σ := wj_getf C hd (by omega) (wd_X5 V (σ 48)) kh_X5 17 (by decide) (wj_mem 837 (by decide +kernel) (by decide +kernel)) rfl rfl kk
theorem wg_X5_51 (C : wj_C l V X cc nL RX5 fr lo) (hd : decode cc pc = .ok (.getfield 51, 3)) (kk : wj_J l V X (pc + 3) lv (.ref (V.2.2.1 56) :: st) σ) : wj_J l V X pc lv (.ref (V.2.2.1 48) :: st) σ := wj_getf C hd (by omega) (wd_X5 V (σ 48)) kh_X5 18 (by decide) (wj_mem 838 (by decide +kernel) (by decide +kernel)) rfl rfl kk
theorem wg_X5_54 (C : wj_C l V X cc nL RX5 fr lo) (hd : decode cc pc = .ok (.getfield 54, 3)) (kk : wj_J l V X (pc + 3) lv (.ref (V.2.2.1 57) :: st) σ) : wj_J l V X pc lv (.ref (V.2.2.1 48) :: st) σ := wj_getf C hd (by omega) (wd_X5 V (σ 48)) kh_X5 19 (by decide) (wj_mem 839 (by decide +kernel) (by decide +kernel)) rfl rfl kk
theorem wg_X5_57 (C : wj_C l V X cc nL RX5 fr lo) (hd : decode cc pc = .ok (.getfield 57, 3)) (kk : wj_J l V X (pc + 3) lv (.ref (V.2.2.1 58) :: st) σ) : wj_J l V X pc lv (.ref (V.2.2.1 48) :: st) σ := wj_getf C hd (by omega) (wd_X5 V (σ 48)) kh_X5 20 (by decide) (wj_mem 840 (by decide +kernel) (by decide +kernel)) rfl rfl kk
end WF

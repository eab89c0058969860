/-! the law's loop -/
theorem wl_mono {c : Nat} {S : wj_St} (h : ws_A c S) : ws_A (c + 1) S := by
  obtain ⟨A, z, sp, tl, m, bt, H, kf, K, kz, ks, h1, h2, N, y, g1, g2, g3, g4, g5, g6⟩ := h
  refine ⟨A, z, sp, tl, m, bt, H, kf, K, kz, ks, h1, h2, N, y, g1, by omega, g3, g4, g5, fun q => ?_⟩
  obtain ⟨Nk, yk, e1, e2, e3⟩ := g6 q
  exact ⟨Nk, yk, e1, by omega, e3⟩
theorem wl_gt {c L : Nat} (hL : L ≤ 3072) (hc : 6 * c ≤ 4000) (h : ¬ nI L - 6 < nI (6 * c)) : 6 * c + 6 ≤ L := by
  have h1 : nI (6 * c) ≤ nI L - 6 := Int32.not_lt.mp h
  have h2 := Int32.le_iff_toInt_le.mp h1
  rw [show (6 : Int32) = nI 6 from by decide +kernel, nI_toInt (by omega), Int32.toInt_sub, nI_toInt (by omega), nI_toInt (by omega), Int.bmod_eq_of_le (by omega) (by omega)] at h2
  omega
theorem wl_n {x : Int32} (h : ¬ (x.toInt < 0 ∨ 41 < x.toInt)) : ∃ n : Nat, n < 42 ∧ x = nI n := by
  refine ⟨x.toInt.toNat, by omega, Int32.toInt_inj.mp ?_⟩
  rw [nI_toInt (by omega)]
  omega
section WLL
variable {l : Launch} {V : wj_V} {X : wj_X} {b L c : Nat} {xs : Nat → Int32} {σ : wj_St}
set_option maxHeartbeats 4000000 in
theorem wl_sw (C : wj_C l V X cL_law 4 RL 13 508) (hS : wl_S V X b L xs) (hc : 6 * c + 6 ≤ L) (hL : L ≤ 3072) (h : ws_A c σ) (K : ∀ u, ws_A (c + 1) u → wj_J l V X 1443 [some (.ref b), some (.ref (V.2.2.1 0)), some (.ref (V.2.2.1 48)), some (.int (nI (6 * c)))] [] u) (x : Int32) : wj_J l V X 33 [some (.ref b), some (.ref (V.2.2.1 0)), some (.ref (V.2.2.1 48)), some (.int (nI (6 * c)))] [.int x] σ := by
  by_cases hx : x.toInt < 0 ∨ 41 < x.toInt
  · exact wj_tabOut C 1443 dL_law_33 hx (by decide) (K σ (wl_mono h))
  · obtain ⟨n, hn, rfl⟩ := wl_n hx
    rcases (show n = 0 ∨ n = 1 ∨ n = 2 ∨ n = 3 ∨ n = 4 ∨ n = 5 ∨ n = 6 ∨ n = 7 ∨ n = 8 ∨ n = 9 ∨ n = 10 ∨ n = 11 ∨ n = 12 ∨ n = 13 ∨ n = 14 ∨ n = 15 ∨ n = 16 ∨ n = 17 ∨ n = 18 ∨ n = 19 ∨ n = 20 ∨ n = 21 ∨ n = 22 ∨ n = 23 ∨ n = 24 ∨ n = 25 ∨ n = 26 ∨ n = 27 ∨ n = 28 ∨ n = 29 ∨ n = 30 ∨ n = 31 ∨ n = 32 ∨ n = 33 ∨ n = 34 ∨ n = 35 ∨ n = 36 ∨ n = 37 ∨ n = 38 ∨ n = 39 ∨ n = 40 ∨ n = 41 by omega) with rfl | rfl | rfl | rfl | rfl | rfl | rfl | rfl | rfl | rfl | rfl | rfl | rfl | rfl | rfl | rfl | rfl | rfl | rfl | rfl | rfl | rfl | rfl | rfl | rfl | rfl | rfl | rfl | rfl | rfl | rfl | rfl | rfl | rfl | rfl | rfl | rfl | rfl | rfl | rfl | rfl | rfl
    · exact wj_tabIn C (nI 0) 183 216 dL_law_33 rfl (by decide +kernel) (by decide +kernel) (by rw [nI_toInt (by decide)]; rfl) (by decide) (wl_hurdles C hS hc hL h K)
    · exact wj_tabIn C (nI 1) 206 239 dL_law_33 rfl (by decide +kernel) (by decide +kernel) (by rw [nI_toInt (by decide)]; rfl) (by decide) (wl_place C hS hc hL h K)
    · exact wj_tabIn C (nI 2) 239 272 dL_law_33 rfl (by decide +kernel) (by decide +kernel) (by rw [nI_toInt (by decide)]; rfl) (by decide) (wl_lean C hS hc hL h K)
    · exact wj_tabIn C (nI 3) 282 315 dL_law_33 rfl (by decide +kernel) (by decide +kernel) (by rw [nI_toInt (by decide)]; rfl) (by decide) (wl_leaning C hS hc hL h K)
    · exact wj_tabIn C (nI 4) 305 338 dL_law_33 rfl (by decide +kernel) (by decide +kernel) (by rw [nI_toInt (by decide)]; rfl) (by decide) (wl_slip C hS hc hL h K)
    · exact wj_tabIn C (nI 5) 348 381 dL_law_33 rfl (by decide +kernel) (by decide +kernel) (by rw [nI_toInt (by decide)]; rfl) (by decide) (wl_of C hS hc hL h K)
    · exact wj_tabIn C (nI 6) 381 414 dL_law_33 rfl (by decide +kernel) (by decide +kernel) (by rw [nI_toInt (by decide)]; rfl) (by decide) (wl_change C hS hc hL h K)
    · exact wj_tabIn C (nI 7) 424 457 dL_law_33 rfl (by decide +kernel) (by decide +kernel) (by rw [nI_toInt (by decide)]; rfl) (by decide) (wl_cut C hS hc hL h K)
    · exact wj_tabIn C (nI 8) 457 490 dL_law_33 rfl (by decide +kernel) (by decide +kernel) (by rw [nI_toInt (by decide)]; rfl) (by decide) (wl_go C hS hc hL h K)
    · exact wj_tabIn C (nI 9) 480 513 dL_law_33 rfl (by decide +kernel) (by decide +kernel) (by rw [nI_toInt (by decide)]; rfl) (by decide) (wl_now C hS hc hL h K)
    · exact wj_tabIn C (nI 10) 503 536 dL_law_33 rfl (by decide +kernel) (by decide +kernel) (by rw [nI_toInt (by decide)]; rfl) (by decide) (wl_ahead C hS hc hL h K)
    · exact wj_tabIn C (nI 11) 546 579 dL_law_33 rfl (by decide +kernel) (by decide +kernel) (by rw [nI_toInt (by decide)]; rfl) (by decide) (wl_strong C hS hc hL h K)
    · exact wj_tabIn C (nI 12) 579 612 dL_law_33 rfl (by decide +kernel) (by decide +kernel) (by rw [nI_toInt (by decide)]; rfl) (by decide) (wl_closed C hS hc hL h K)
    · exact wj_tabIn C (nI 13) 602 635 dL_law_33 rfl (by decide +kernel) (by decide +kernel) (by rw [nI_toInt (by decide)]; rfl) (by decide) (wl_whole C hS hc hL h K)
    · exact wj_tabIn C (nI 14) 615 648 dL_law_33 rfl (by decide +kernel) (by decide +kernel) (by rw [nI_toInt (by decide)]; rfl) (by decide) (wl_breaks C hS hc hL h K)
    · exact wj_tabIn C (nI 15) 638 671 dL_law_33 rfl (by decide +kernel) (by decide +kernel) (by rw [nI_toInt (by decide)]; rfl) (by decide) (wl_lay C hS hc hL h K)
    · exact wj_tabIn C (nI 16) 671 704 dL_law_33 rfl (by decide +kernel) (by decide +kernel) (by rw [nI_toInt (by decide)]; rfl) (by decide) (wl_plant C hS hc hL h K)
    · exact wj_tabIn C (nI 17) 704 737 dL_law_33 rfl (by decide +kernel) (by decide +kernel) (by rw [nI_toInt (by decide)]; rfl) (by decide) (wl_kindFor C hS hc hL h K)
    · exact wj_tabIn C (nI 18) 737 770 dL_law_33 rfl (by decide +kernel) (by decide +kernel) (by rw [nI_toInt (by decide)]; rfl) (by decide) (wl_weightFor C hS hc hL h K)
    · exact wj_tabIn C (nI 19) 770 803 dL_law_33 rfl (by decide +kernel) (by decide +kernel) (by rw [nI_toInt (by decide)]; rfl) (by decide) (wl_layAll C hS hc hL h K)
    · exact wj_tabIn C (nI 20) 793 826 dL_law_33 rfl (by decide +kernel) (by decide +kernel) (by rw [nI_toInt (by decide)]; rfl) (by decide) (wl_hurdlesFor C hS hc hL h K)
    · exact wj_tabIn C (nI 21) 816 849 dL_law_33 rfl (by decide +kernel) (by decide +kernel) (by rw [nI_toInt (by decide)]; rfl) (by decide) (wl_words C hS hc hL h K)
    · exact wj_tabIn C (nI 22) 849 882 dL_law_33 rfl (by decide +kernel) (by decide +kernel) (by rw [nI_toInt (by decide)]; rfl) (by decide) (wl_kinds C hS hc hL h K)
    · exact wj_tabIn C (nI 23) 882 915 dL_law_33 rfl (by decide +kernel) (by decide +kernel) (by rw [nI_toInt (by decide)]; rfl) (by decide) (wl_fits C hS hc hL h K)
    · exact wj_tabIn C (nI 24) 915 948 dL_law_33 rfl (by decide +kernel) (by decide +kernel) (by rw [nI_toInt (by decide)]; rfl) (by decide) (wl_leans C hS hc hL h K)
    · exact wj_tabIn C (nI 25) 938 971 dL_law_33 rfl (by decide +kernel) (by decide +kernel) (by rw [nI_toInt (by decide)]; rfl) (by decide) (wl_odds C hS hc hL h K)
    · exact wj_tabIn C (nI 26) 982 1015 dL_law_33 rfl (by decide +kernel) (by decide +kernel) (by rw [nI_toInt (by decide)]; rfl) (by decide) (wl_seed C hS hc hL h K)
    · exact wj_tabIn C (nI 27) 1005 1038 dL_law_33 rfl (by decide +kernel) (by decide +kernel) (by rw [nI_toInt (by decide)]; rfl) (by decide) (wl_feed C hS hc hL h K)
    · exact wj_tabIn C (nI 28) 1038 1071 dL_law_33 rfl (by decide +kernel) (by decide +kernel) (by rw [nI_toInt (by decide)]; rfl) (by decide) (wl_wipe C hS hc hL h K)
    · exact wj_tabIn C (nI 29) 1051 1084 dL_law_33 rfl (by decide +kernel) (by decide +kernel) (by rw [nI_toInt (by decide)]; rfl) (by decide) (wl_text C hS hc hL h K)
    · exact wj_tabIn C (nI 30) 1064 1097 dL_law_33 rfl (by decide +kernel) (by decide +kernel) (by rw [nI_toInt (by decide)]; rfl) (by decide) (wl_hold C hS hc hL h K)
    · exact wj_tabIn C (nI 31) 1097 1130 dL_law_33 rfl (by decide +kernel) (by decide +kernel) (by rw [nI_toInt (by decide)]; rfl) (by decide) (wl_as C hS hc hL h K)
    · exact wj_tabIn C (nI 32) 1130 1163 dL_law_33 rfl (by decide +kernel) (by decide +kernel) (by rw [nI_toInt (by decide)]; rfl) (by decide) (wl_sheet C hS hc hL h K)
    · exact wj_tabIn C (nI 33) 1173 1206 dL_law_33 rfl (by decide +kernel) (by decide +kernel) (by rw [nI_toInt (by decide)]; rfl) (by decide) (wl_write C hS hc hL h K)
    · exact wj_tabIn C (nI 34) 1216 1249 dL_law_33 rfl (by decide +kernel) (by decide +kernel) (by rw [nI_toInt (by decide)]; rfl) (by decide) (wl_copy C hS hc hL h K)
    · exact wj_tabIn C (nI 35) 1279 1312 dL_law_33 rfl (by decide +kernel) (by decide +kernel) (by rw [nI_toInt (by decide)]; rfl) (by decide) (wl_load C hS hc hL h K)
    · exact wj_tabIn C (nI 36) 1302 1335 dL_law_33 rfl (by decide +kernel) (by decide +kernel) (by rw [nI_toInt (by decide)]; rfl) (by decide) (wl_judge C hS hc hL h K)
    · exact wj_tabIn C (nI 37) 1325 1358 dL_law_33 rfl (by decide +kernel) (by decide +kernel) (by rw [nI_toInt (by decide)]; rfl) (by decide) (wl_image C hS hc hL h K)
    · exact wj_tabIn C (nI 38) 1338 1371 dL_law_33 rfl (by decide +kernel) (by decide +kernel) (by rw [nI_toInt (by decide)]; rfl) (by decide) (wl_undo C hS hc hL h K)
    · exact wj_tabIn C (nI 39) 1351 1384 dL_law_33 rfl (by decide +kernel) (by decide +kernel) (by rw [nI_toInt (by decide)]; rfl) (by decide) (wl_tear C hS hc hL h K)
    · exact wj_tabIn C (nI 40) 1364 1397 dL_law_33 rfl (by decide +kernel) (by decide +kernel) (by rw [nI_toInt (by decide)]; rfl) (by decide) (wl_count C hS hc hL h K)
    · exact wj_tabIn C (nI 41) 1387 1420 dL_law_33 rfl (by decide +kernel) (by decide +kernel) (by rw [nI_toInt (by decide)]; rfl) (by decide) (wl_status C hS hc hL h K)
theorem wl_body (C : wj_C l V X cL_law 4 RL 13 508) (hS : wl_S V X b L xs) (hc : 6 * c + 6 ≤ L) (hL : L ≤ 3072) (h : ws_A c σ) (K : ∀ u, ws_A (c + 1) u → wj_J l V X 1443 [some (.ref b), some (.ref (V.2.2.1 0)), some (.ref (V.2.2.1 48)), some (.int (nI (6 * c)))] [] u) : wj_J l V X 27 [some (.ref b), some (.ref (V.2.2.1 0)), some (.ref (V.2.2.1 48)), some (.int (nI (6 * c)))] [] σ := by
  refine wj_aload_n C 0 dL_law_27 rfl rfl ?_
  refine wj_iload_n C 3 dL_law_28 rfl rfl ?_
  refine wl_sld C hS (vp_in_nI (by omega) (by omega)) dL_law_29 ?_
  refine wj_bipush C (v := 63) dL_law_30 (by decide +kernel) ?_
  refine wj_iand C dL_law_32 ?_
  exact wl_sw C hS hc hL h K _
theorem wl_loop (C : wj_C l V X cL_law 4 RL 13 508) (hS : wl_S V X b L xs) (hL : L ≤ 3072) (RET : ∀ lv u, wj_J l V X 1450 lv [.int 1] u) : ∀ (fuel c : Nat) (σ : wj_St), c ≤ 512 → 512 < fuel + c → ws_A c σ → wj_J l V X 18 [some (.ref b), some (.ref (V.2.2.1 0)), some (.ref (V.2.2.1 48)), some (.int (nI (6 * c)))] [] σ := by
  intro fuel
  induction fuel with
  | zero => intro c σ h1 h2; omega
  | succ fuel ih =>
    intro c σ h1 h2 h
    refine wj_iload_n C 3 dL_law_18 rfl rfl ?_
    refine wj_aload_n C 0 dL_law_19 rfl rfl ?_
    refine wl_slen C hS dL_law_20 ?_
    refine wj_bipush C (v := 6) dL_law_21 (by decide +kernel) ?_
    refine wj_isub C dL_law_23 ?_
    refine wj_icmp_gt C 1449 dL_law_24 (by decide) (fun _ => ?_) (fun hg => ?_)
    · refine wj_iconst C (v := 1) dL_law_1449 (by decide +kernel) ?_
      exact RET _ _
    · have hc := wl_gt hL (by omega) hg
      refine wl_body C hS hc hL h (fun u hu => ?_)
      refine wj_iinc C (v := nI (6 * (c + 1))) dL_law_1443 rfl ?_ (by decide) rfl ?_
      · rw [show Int32.ofInt 6 = nI 6 from by decide +kernel, nI_add, show 6 * (c + 1) = 6 * c + 6 by omega]
      · refine wj_goto C 18 dL_law_1446 (by decide) ?_
        exact ih (c + 1) u (by omega) (by omega) hu
end WLL
def wk_L4 (V : wj_V) (s : Nat → Nat) : va_W := [((s 0), .inr (4, [.ref (s 1), .ref (s 2), .ref (s 34), .int 1, .ref (s 3), .ref (s 35), .int 1, .int 0, .ref (s 37), .ref (s 46), .ref (s 36)])), ((s 1), .inr (0, [.ref (s 4), .ref (s 7), .int 0, .int 0, .int 0, .int 0])), ((s 4), .inl (V.2.1 3, 8, .inr (.inr (.inr (.inr (wk_g8 s 10)))))), ((s 7), .inl (V.2.1 0, 6, .inl (fun _ => 0))), ((s 10), .inr (2, [.int 0, .int 0, .int 0, .int 0, .int 0, .int 0, .int 0])), ((s 11), .inr (2, [.int 0, .int 0, .int 0, .int 0, .int 0, .int 0, .int 0])), ((s 12), .inr (2, [.int 0, .int 0, .int 0, .int 0, .int 0, .int 0, .int 0])), ((s 13), .inr (2, [.int 0, .int 0, .int 0, .int 0, .int 0, .int 0, .int 0])), ((s 14), .inr (2, [.int 0, .int 0, .int 0, .int 0, .int 0, .int 0, .int 0])), ((s 15), .inr (2, [.int 0, .int 0, .int 0, .int 0, .int 0, .int 0, .int 0])), ((s 16), .inr (2, [.int 0, .int 0, .int 0, .int 0, .int 0, .int 0, .int 0])), ((s 17), .inr (2, [.int 0, .int 0, .int 0, .int 0, .int 0, .int 0, .int 0])), ((s 2), .inr (0, [.ref (s 5), .ref (s 8), .int 0, .int 0, .int 0, .int 0])), ((s 5), .inl (V.2.1 3, 8, .inr (.inr (.inr (.inr (wk_g8 s 18)))))), ((s 8), .inl (V.2.1 0, 6, .inl (fun _ => 0))), ((s 18), .inr (2, [.int 0, .int 0, .int 0, .int 0, .int 0, .int 0, .int 0])), ((s 19), .inr (2, [.int 0, .int 0, .int 0, .int 0, .int 0, .int 0, .int 0])), ((s 20), .inr (2, [.int 0, .int 0, .int 0, .int 0, .int 0, .int 0, .int 0])), ((s 21), .inr (2, [.int 0, .int 0, .int 0, .int 0, .int 0, .int 0, .int 0])), ((s 22), .inr (2, [.int 0, .int 0, .int 0, .int 0, .int 0, .int 0, .int 0])), ((s 23), .inr (2, [.int 0, .int 0, .int 0, .int 0, .int 0, .int 0, .int 0])), ((s 24), .inr (2, [.int 0, .int 0, .int 0, .int 0, .int 0, .int 0, .int 0])), ((s 25), .inr (2, [.int 0, .int 0, .int 0, .int 0, .int 0, .int 0, .int 0])), ((s 3), .inr (0, [.ref (s 6), .ref (s 9), .int 0, .int 0, .int 0, .int 0])), ((s 6), .inl (V.2.1 3, 8, .inr (.inr (.inr (.inr (wk_g8 s 26)))))), ((s 9), .inl (V.2.1 0, 6, .inl (fun _ => 0))), ((s 26), .inr (2, [.int 0, .int 0, .int 0, .int 0, .int 0, .int 0, .int 0])), ((s 27), .inr (2, [.int 0, .int 0, .int 0, .int 0, .int 0, .int 0, .int 0])), ((s 28), .inr (2, [.int 0, .int 0, .int 0, .int 0, .int 0, .int 0, .int 0])), ((s 29), .inr (2, [.int 0, .int 0, .int 0, .int 0, .int 0, .int 0, .int 0])), ((s 30), .inr (2, [.int 0, .int 0, .int 0, .int 0, .int 0, .int 0, .int 0])), ((s 31), .inr (2, [.int 0, .int 0, .int 0, .int 0, .int 0, .int 0, .int 0])), ((s 32), .inr (2, [.int 0, .int 0, .int 0, .int 0, .int 0, .int 0, .int 0])), ((s 33), .inr (2, [.int 0, .int 0, .int 0, .int 0, .int 0, .int 0, .int 0])), ((s 37), .inl (V.2.1 2, 4, .inr (.inr (.inr (.inr (wk_f4 s)))))), ((s 46), .inr (3, [.ref (s 47), .int 0, .int 0, .int 0, .int 0])), ((s 47), .inl (V.2.1 1, 120, .inl (fun _ => 0))), ((s 36), .inl (V.2.1 0, 7, .inl (fun _ => 0))), ((s 34), .inl (V.2.1 0, 10, .inl (sp_fi (fun _ => 0) (-1) 10))), ((s 35), .inl (V.2.1 0, 10, .inl (sp_fi (fun _ => 0) (-1) 10))), ((s 38), .inr (1, [.ref (s 42), .int 0, .int 0])), ((s 42), .inl (V.2.1 0, 40, .inl (fun _ => 0))), ((s 39), .inr (1, [.ref (s 43), .int 0, .int 0])), ((s 43), .inl (V.2.1 0, 40, .inl (fun _ => 0))), ((s 40), .inr (1, [.ref (s 44), .int 0, .int 0])), ((s 44), .inl (V.2.1 0, 40, .inl (fun _ => 0))), ((s 41), .inr (1, [.ref (s 45), .int 0, .int 0])), ((s 45), .inl (V.2.1 0, 40, .inl (fun _ => 0)))]
def wk_L5 (V : wj_V) (t : Nat → Nat) : va_W := [((t 48), .inr (5, [.ref (t 49), .ref (t 50), .ref (t 51), .int 0, .ref (t 52), .int 0, .ref (t 53), .int 0, .int 0, .int 0, .int 0, .int 0, .int 0, .ref (t 59), .ref (t 54), .int 0, .int 0, .ref (t 55), .ref (t 56), .ref (t 57), .ref (t 58)])), ((t 49), .inl (V.2.1 0, 77, .inl wk_now)), ((t 50), .inl (V.2.1 0, 77, .inl (fun _ => 0))), ((t 51), .inl (V.2.1 0, 77, .inl (fun _ => 0))), ((t 52), .inl (V.2.1 0, 8, .inl (fun _ => 0))), ((t 53), .inl (V.2.1 0, 120, .inl (fun _ => 0))), ((t 59), .inl (V.2.1 4, 7, .inr (.inr (.inr (.inr (wk_kn V)))))), ((t 54), .inl (V.2.1 0, 600, .inl (fun _ => 0))), ((t 55), .inl (V.2.1 0, 4, .inl (fun _ => 0))), ((t 56), .inl (V.2.1 0, 4, .inl (fun _ => 0))), ((t 57), .inl (V.2.1 0, 160, .inl (fun _ => 0))), ((t 58), .inl (V.2.1 0, 40, .inl (fun _ => 0)))]
def wk_ad (s t : Nat → Nat) : Nat → Nat := fun k => if k < 48 then s k else t k
def wk_V (V : wj_V) (s t : Nat → Nat) : wj_V := (V.1, V.2.1, wk_ad s t, V.2.2.2)
def wk_pi : Nat → Nat := fun k => [0, 1, 12, 23, 2, 13, 24, 3, 14, 25, 4, 5, 6, 7, 8, 9, 10, 11, 15, 16, 17, 18, 19, 20, 21, 22, 26, 27, 28, 29, 30, 31, 32, 33, 38, 39, 37, 34, 40, 42, 44, 46, 41, 43, 45, 47, 35, 36, 48, 49, 50, 51, 52, 53, 55, 56, 57, 58, 59, 54].getD k 0
theorem wk_pi_inj : ∀ i, i < 60 → ∀ j, j < 60 → wk_pi i = wk_pi j → i = j := by decide +kernel
def wk_s0 : wj_St := fun k => if k = 0 then (fun j => if j = 3 then 1 else if j = 6 then 1 else 0) else if k = 34 then sp_fi (fun _ => 0) (-1) 10 else if k = 35 then sp_fi (fun _ => 0) (-1) 10 else if k = 49 then wk_now else fun _ => 0
theorem wk_s0_z {q : Nat} (h0 : q ≠ 0) (h1 : q ≠ 34) (h2 : q ≠ 35) (h3 : q ≠ 49) : wk_s0 q = fun _ => 0 := by unfold wk_s0; rw [if_neg h0, if_neg h1, if_neg h2, if_neg h3]
theorem wk_refE {D : va_G} {cl : List vw_C} {a : Nat} {cA : ClassId} {n : Nat} {f g : Nat → Option Nat} {H : Heap} (h : ∀ j, j < n → f j = g j) (hp : va_at D cl (a, .inl (cA, n, .inr (.inr (.inr (.inr f))))) H) : va_at D cl (a, .inl (cA, n, .inr (.inr (.inr (.inr g))))) H := by
  have e : vp_cell cA (n, .inr (.inr (.inr (.inr f)))) = vp_cell cA (n, .inr (.inr (.inr (.inr g)))) := by
    rw [vp_cell_q, vp_cell_q]
    unfold arrV
    congr 1
    congr 1
    funext j
    show va_rf (f j.val) = va_rf (g j.val)
    rw [h j.val j.isLt]
  show H[a]? = some (vp_cell cA (n, .inr (.inr (.inr (.inr g)))))
  rw [← e]
  exact hp
theorem wk_all {P : Nat → Prop} (h0 : P 0) (h1 : P 1) (h2 : P 2) (h3 : P 3) (h4 : P 4) (h5 : P 5) (h6 : P 6) (h7 : P 7) (h8 : P 8) (h9 : P 9) (h10 : P 10) (h11 : P 11) (h12 : P 12) (h13 : P 13) (h14 : P 14) (h15 : P 15) (h16 : P 16) (h17 : P 17) (h18 : P 18) (h19 : P 19) (h20 : P 20) (h21 : P 21) (h22 : P 22) (h23 : P 23) (h24 : P 24) (h25 : P 25) (h26 : P 26) (h27 : P 27) (h28 : P 28) (h29 : P 29) (h30 : P 30) (h31 : P 31) (h32 : P 32) (h33 : P 33) (h34 : P 34) (h35 : P 35) (h36 : P 36) (h37 : P 37) (h38 : P 38) (h39 : P 39) (h40 : P 40) (h41 : P 41) (h42 : P 42) (h43 : P 43) (h44 : P 44) (h45 : P 45) (h46 : P 46) (h47 : P 47) (h48 : P 48) (h49 : P 49) (h50 : P 50) (h51 : P 51) (h52 : P 52) (h53 : P 53) (h54 : P 54) (h55 : P 55) (h56 : P 56) (h57 : P 57) (h58 : P 58) (h59 : P 59) : ∀ k, k < 60 → P k := by
  intro k hk
  rcases (show k = 0 ∨ k = 1 ∨ k = 2 ∨ k = 3 ∨ k = 4 ∨ k = 5 ∨ k = 6 ∨ k = 7 ∨ k = 8 ∨ k = 9 ∨ k = 10 ∨ k = 11 ∨ k = 12 ∨ k = 13 ∨ k = 14 ∨ k = 15 ∨ k = 16 ∨ k = 17 ∨ k = 18 ∨ k = 19 ∨ k = 20 ∨ k = 21 ∨ k = 22 ∨ k = 23 ∨ k = 24 ∨ k = 25 ∨ k = 26 ∨ k = 27 ∨ k = 28 ∨ k = 29 ∨ k = 30 ∨ k = 31 ∨ k = 32 ∨ k = 33 ∨ k = 34 ∨ k = 35 ∨ k = 36 ∨ k = 37 ∨ k = 38 ∨ k = 39 ∨ k = 40 ∨ k = 41 ∨ k = 42 ∨ k = 43 ∨ k = 44 ∨ k = 45 ∨ k = 46 ∨ k = 47 ∨ k = 48 ∨ k = 49 ∨ k = 50 ∨ k = 51 ∨ k = 52 ∨ k = 53 ∨ k = 54 ∨ k = 55 ∨ k = 56 ∨ k = 57 ∨ k = 58 ∨ k = 59 by omega) with rfl | rfl | rfl | rfl | rfl | rfl | rfl | rfl | rfl | rfl | rfl | rfl | rfl | rfl | rfl | rfl | rfl | rfl | rfl | rfl | rfl | rfl | rfl | rfl | rfl | rfl | rfl | rfl | rfl | rfl | rfl | rfl | rfl | rfl | rfl | rfl | rfl | rfl | rfl | rfl | rfl | rfl | rfl | rfl | rfl | rfl | rfl | rfl | rfl | rfl | rfl | rfl | rfl | rfl | rfl | rfl | rfl | rfl | rfl | rfl <;> assumption
set_option maxHeartbeats 4000000 in
theorem wk_at {V : wj_V} {s t : Nat → Nat} : ∀ k, k < 60 → ∃ e, (wk_L4 V s ++ wk_L5 V t)[wk_pi k]? = some (wk_ad s t k, e) := wk_all ⟨_, rfl⟩ ⟨_, rfl⟩ ⟨_, rfl⟩ ⟨_, rfl⟩ ⟨_, rfl⟩ ⟨_, rfl⟩ ⟨_, rfl⟩ ⟨_, rfl⟩ ⟨_, rfl⟩ ⟨_, rfl⟩ ⟨_, rfl⟩ ⟨_, rfl⟩ ⟨_, rfl⟩ ⟨_, rfl⟩ ⟨_, rfl⟩ ⟨_, rfl⟩ ⟨_, rfl⟩ ⟨_, rfl⟩ ⟨_, rfl⟩ ⟨_, rfl⟩ ⟨_, rfl⟩ ⟨_, rfl⟩ ⟨_, rfl⟩ ⟨_, rfl⟩ ⟨_, rfl⟩ ⟨_, rfl⟩ ⟨_, rfl⟩ ⟨_, rfl⟩ ⟨_, rfl⟩ ⟨_, rfl⟩ ⟨_, rfl⟩ ⟨_, rfl⟩ ⟨_, rfl⟩ ⟨_, rfl⟩ ⟨_, rfl⟩ ⟨_, rfl⟩ ⟨_, rfl⟩ ⟨_, rfl⟩ ⟨_, rfl⟩ ⟨_, rfl⟩ ⟨_, rfl⟩ ⟨_, rfl⟩ ⟨_, rfl⟩ ⟨_, rfl⟩ ⟨_, rfl⟩ ⟨_, rfl⟩ ⟨_, rfl⟩ ⟨_, rfl⟩ ⟨_, rfl⟩ ⟨_, rfl⟩ ⟨_, rfl⟩ ⟨_, rfl⟩ ⟨_, rfl⟩ ⟨_, rfl⟩ ⟨_, rfl⟩ ⟨_, rfl⟩ ⟨_, rfl⟩ ⟨_, rfl⟩ ⟨_, rfl⟩ ⟨_, rfl⟩
set_option maxHeartbeats 4000000 in
theorem wk_cell {V : wj_V} {s t : Nat → Nat} {H : Heap} (hP : va_P V.1 vwCl (wk_L4 V s ++ wk_L5 V t) H) : ∀ k, k < 60 → va_at V.1 vwCl (wk_ad s t k, wj_d (wk_V V s t) (wk_s0 k) k) H := by
  refine wk_all ?_ ?_ ?_ ?_ ?_ ?_ ?_ ?_ ?_ ?_ ?_ ?_ ?_ ?_ ?_ ?_ ?_ ?_ ?_ ?_ ?_ ?_ ?_ ?_ ?_ ?_ ?_ ?_ ?_ ?_ ?_ ?_ ?_ ?_ ?_ ?_ ?_ ?_ ?_ ?_ ?_ ?_ ?_ ?_ ?_ ?_ ?_ ?_ ?_ ?_ ?_ ?_ ?_ ?_ ?_ ?_ ?_ ?_ ?_ ?_
  · exact hP 0 (wk_ad s t 0, _) rfl
  · exact hP 1 (wk_ad s t 1, _) rfl
  · exact hP 12 (wk_ad s t 2, _) rfl
  · exact hP 23 (wk_ad s t 3, _) rfl
  · refine wk_refE (f := (wk_g8 s 10)) (fun j hj => ?_) (hP 2 (wk_ad s t 4, _) rfl)
    rcases (show j = 0 ∨ j = 1 ∨ j = 2 ∨ j = 3 ∨ j = 4 ∨ j = 5 ∨ j = 6 ∨ j = 7 by omega) with rfl | rfl | rfl | rfl | rfl | rfl | rfl | rfl <;> rfl
  · refine wk_refE (f := (wk_g8 s 18)) (fun j hj => ?_) (hP 13 (wk_ad s t 5, _) rfl)
    rcases (show j = 0 ∨ j = 1 ∨ j = 2 ∨ j = 3 ∨ j = 4 ∨ j = 5 ∨ j = 6 ∨ j = 7 by omega) with rfl | rfl | rfl | rfl | rfl | rfl | rfl | rfl <;> rfl
  · refine wk_refE (f := (wk_g8 s 26)) (fun j hj => ?_) (hP 24 (wk_ad s t 6, _) rfl)
    rcases (show j = 0 ∨ j = 1 ∨ j = 2 ∨ j = 3 ∨ j = 4 ∨ j = 5 ∨ j = 6 ∨ j = 7 by omega) with rfl | rfl | rfl | rfl | rfl | rfl | rfl | rfl <;> rfl
  · exact hP 3 (wk_ad s t 7, _) rfl
  · exact hP 14 (wk_ad s t 8, _) rfl
  · exact hP 25 (wk_ad s t 9, _) rfl
  · exact hP 4 (wk_ad s t 10, _) rfl
  · exact hP 5 (wk_ad s t 11, _) rfl
  · exact hP 6 (wk_ad s t 12, _) rfl
  · exact hP 7 (wk_ad s t 13, _) rfl
  · exact hP 8 (wk_ad s t 14, _) rfl
  · exact hP 9 (wk_ad s t 15, _) rfl
  · exact hP 10 (wk_ad s t 16, _) rfl
  · exact hP 11 (wk_ad s t 17, _) rfl
  · exact hP 15 (wk_ad s t 18, _) rfl
  · exact hP 16 (wk_ad s t 19, _) rfl
  · exact hP 17 (wk_ad s t 20, _) rfl
  · exact hP 18 (wk_ad s t 21, _) rfl
  · exact hP 19 (wk_ad s t 22, _) rfl
  · exact hP 20 (wk_ad s t 23, _) rfl
  · exact hP 21 (wk_ad s t 24, _) rfl
  · exact hP 22 (wk_ad s t 25, _) rfl
  · exact hP 26 (wk_ad s t 26, _) rfl
  · exact hP 27 (wk_ad s t 27, _) rfl
  · exact hP 28 (wk_ad s t 28, _) rfl
  · exact hP 29 (wk_ad s t 29, _) rfl
  · exact hP 30 (wk_ad s t 30, _) rfl
  · exact hP 31 (wk_ad s t 31, _) rfl
  · exact hP 32 (wk_ad s t 32, _) rfl
  · exact hP 33 (wk_ad s t 33, _) rfl
  · exact hP 38 (wk_ad s t 34, _) rfl
  · exact hP 39 (wk_ad s t 35, _) rfl
  · exact hP 37 (wk_ad s t 36, _) rfl
  · refine wk_refE (f := (wk_f4 s)) (fun j hj => ?_) (hP 34 (wk_ad s t 37, _) rfl)
    rcases (show j = 0 ∨ j = 1 ∨ j = 2 ∨ j = 3 by omega) with rfl | rfl | rfl | rfl <;> rfl
  · exact hP 40 (wk_ad s t 38, _) rfl
  · exact hP 42 (wk_ad s t 39, _) rfl
  · exact hP 44 (wk_ad s t 40, _) rfl
  · exact hP 46 (wk_ad s t 41, _) rfl
  · exact hP 41 (wk_ad s t 42, _) rfl
  · exact hP 43 (wk_ad s t 43, _) rfl
  · exact hP 45 (wk_ad s t 44, _) rfl
  · exact hP 47 (wk_ad s t 45, _) rfl
  · exact hP 35 (wk_ad s t 46, _) rfl
  · exact hP 36 (wk_ad s t 47, _) rfl
  · exact hP 48 (wk_ad s t 48, _) rfl
  · exact hP 49 (wk_ad s t 49, _) rfl
  · exact hP 50 (wk_ad s t 50, _) rfl
  · exact hP 51 (wk_ad s t 51, _) rfl
  · exact hP 52 (wk_ad s t 52, _) rfl
  · exact hP 53 (wk_ad s t 53, _) rfl
  · exact hP 55 (wk_ad s t 54, _) rfl
  · exact hP 56 (wk_ad s t 55, _) rfl
  · exact hP 57 (wk_ad s t 56, _) rfl
  · exact hP 58 (wk_ad s t 57, _) rfl
  · exact hP 59 (wk_ad s t 58, _) rfl
  · refine wk_refE (f := (wk_kn V)) (fun j hj => ?_) (hP 54 (wk_ad s t 59, _) rfl)
    rcases (show j = 0 ∨ j = 1 ∨ j = 2 ∨ j = 3 ∨ j = 4 ∨ j = 5 ∨ j = 6 by omega) with rfl | rfl | rfl | rfl | rfl | rfl | rfl <;> rfl
theorem wk_born {V : wj_V} {s t : Nat → Nat} {A : Nat → Prop} {H : Heap} (hP : va_P V.1 vwCl (wk_L4 V s ++ wk_L5 V t) H) (hD : va_D A (wk_L4 V s ++ wk_L5 V t)) : va_P V.1 vwCl (wj_w (wk_V V s t) wk_s0) H ∧ wj_inj (wk_V V s t) ∧ ∀ k, k < 60 → A (wk_ad s t k) := by
  refine ⟨fun k q hq => ?_, fun i j hi hj e => ?_, fun k hk => ?_⟩
  · obtain ⟨hk, rfl⟩ := wj_w_of hq
    exact wk_cell hP k hk
  · obtain ⟨e1, h1⟩ := wk_at (V := V) (s := s) (t := t) i hi
    obtain ⟨e2, h2⟩ := wk_at (V := V) (s := s) (t := t) j hj
    exact wk_pi_inj i hi j hj (hD.1 _ _ _ _ h1 h2 e)
  · obtain ⟨e, h⟩ := wk_at (V := V) (s := s) (t := t) k hk
    exact hD.2 _ _ h
/-- the relation holds at the start -/
theorem wk_rel : ws_A 0 wk_s0 := by
  refine ⟨(0, 0, 0, 0, fun _ => 0, fun _ _ => 0), 1, fun _ => -1, fun _ => 0, 0, fun _ => 0, (fun _ => 0, fun _ => 0, fun _ _ => 0), false, (0, 0, 0, 0, fun _ => 0, fun _ _ => 0), 0, fun _ => 0, ⟨⟨⟨0, by omega, nI_0.symm⟩, rfl, rfl, rfl, rfl, fun i hi => ?_, fun i hi => ?_⟩, rfl, fun p hp => ?_, fun w hw => rfl, ⟨nI_0.symm, fun k hk => absurd hk (Nat.not_lt_zero k)⟩, fun s hs => ?_, rfl, fun h => absurd h (by decide)⟩, ⟨⟨?_, ?_, ?_, ?_, ?_, fun i hi => ?_⟩, ⟨?_, ?_⟩, ⟨fun w hw => rfl, ?_⟩, ⟨nI_0.symm, ?_⟩, fun s hs => ?_, rfl, rfl, fun h => absurd h (by decide)⟩, 0, 0, ?_, ?_, ?_, ?_, ?_, fun h => absurd h (by decide)⟩
  · rfl
  · exact absurd hi (by rw [show sp_N (0, 0, 0, 0, fun _ => 0, fun _ _ => 0) = 0 from by decide +kernel]; exact Nat.not_lt_zero i)
  · show sp_fi (fun _ => 0) (-1) 10 p = -1
    unfold sp_fi
    rw [if_pos hp]
  · refine ⟨?_, ?_, fun k hk => ?_⟩
    · show (0 : Int32) = wk_s0 (38 + s) 1
      rw [wk_s0_z (by omega) (by omega) (by omega) (by omega)]
    · show (0 : Int32) = wk_s0 (38 + s) 2
      rw [wk_s0_z (by omega) (by omega) (by omega) (by omega)]
    · show (0 : Int32) = wk_s0 (42 + s) k
      rw [wk_s0_z (by omega) (by omega) (by omega) (by omega)]
  · decide +kernel
  · decide +kernel
  · decide +kernel
  · decide +kernel
  · decide +kernel
  · exact absurd hi (by rw [show sp_N (0, 0, 0, 0, fun _ => 0, fun _ _ => 0) = 0 from by decide +kernel]; exact Nat.not_lt_zero i)
  · decide +kernel
  · decide +kernel
  · decide +kernel
  · intro k hk
    exact absurd hk (Nat.not_lt_zero k)
  · exact ⟨rfl, rfl, fun k hk => rfl⟩
  · refine ⟨nI_0.symm, by omega, nI_0.symm, fun i hi => absurd hi (Nat.not_lt_zero i), fun i hi => ?_, ?_⟩
    · show 0 ≤ (0 : Int32).toInt ∧ (0 : Int32).toInt < 1600
      decide +kernel
    · decide +kernel
  · omega
  · intro p hp
    exact Or.inl rfl
  · omega
  · intro s hs
    exact ⟨0, by omega, nI_0.symm⟩

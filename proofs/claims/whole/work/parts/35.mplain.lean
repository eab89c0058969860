/-! the reference's answers -/
theorem sp_mq_u9 {σ : wj_St} {A : sp_L} {q j : Nat} {x : Int32} (h : q ≠ 49) : wj_u (sp_mq σ A) q j x = sp_mq (wj_u σ q j x) A := by
  funext p i
  by_cases e : p = q
  · subst e
    rw [wj_u_same, sp_mq_o h, sp_mq_o h, wj_u_same]
  · rw [wj_u_ne e]
    by_cases e2 : p = 49
    · subst e2; rw [sp_mq_49, sp_mq_49, wj_u_ne e]
    · rw [sp_mq_o e2, sp_mq_o e2, wj_u_ne e]
theorem sp_mq_r9 {σ : wj_St} {A : sp_L} {q : Nat} {g : Nat → Int32} (h : q ≠ 49) : wj_r (sp_mq σ A) q g = sp_mq (wj_r σ q g) A := by
  funext p i
  by_cases e : p = q
  · subst e
    rw [wj_r_same, sp_mq_o h, wj_r_same]
  · rw [wj_r_ne e]
    by_cases e2 : p = 49
    · subst e2; rw [sp_mq_49, sp_mq_49, wj_r_ne e]
    · rw [sp_mq_o e2, sp_mq_o e2, wj_r_ne e]
theorem sp_fd_c {σ : wj_St} {A : sp_L} {w : Nat} : sp_fd (sp_mq σ A) w = sp_mq (sp_fd σ w) A := by
  unfold sp_fd
  rw [sp_mq_o (by decide), sp_mq_u9 (by decide), sp_mq_u9 (by decide)]
theorem sp_fd_r {σ : wj_St} {g : Nat → Int32} {w : Nat} : sp_fd (wj_r σ 51 g) w = wj_r (sp_fd σ w) 51 g := by
  have e : ∀ (τ : wj_St) j x, wj_u (wj_r τ 51 g) 52 j x = wj_r (wj_u τ 52 j x) 51 g := by
    intro τ j x
    funext p i
    by_cases e1 : p = 52
    · subst e1; rw [wj_u_same, wj_r_ne (by decide), wj_r_ne (by decide), wj_u_same]
    · rw [wj_u_ne e1]
      by_cases e2 : p = 51
      · subst e2; rw [wj_r_same, wj_r_same]
      · rw [wj_r_ne e2, wj_r_ne e2, wj_u_ne e1]
  unfold sp_fd
  rw [wj_r_ne (by decide), e, e]
theorem sp_rvM {σ σ2 : wj_St} {A A2 : sp_L} {a : Sum Nat Int32} {v : Int32} (h : a = .inr v) (h2 : A2 = A) (h3 : σ2 = σ) : v = sp_v a ∧ ∃ g, sp_mq σ A = sp_mq (wj_r (sp_fw σ2 a) 51 g) A2 := by
  subst h; subst h2; subst h3
  exact ⟨rfl, σ2 51, by show _ = sp_mq (wj_r σ2 51 (σ2 51)) A2; rw [wj_r_id]⟩
theorem sp_rvG {σ σ2 : wj_St} {A A2 : sp_L} {a : Sum Nat Int32} {v : Int32} {g : Nat → Int32} (h : a = .inr v) (h2 : A2 = A) (h3 : σ2 = σ) : v = sp_v a ∧ ∃ g2, sp_mq (wj_r σ 51 g) A = sp_mq (wj_r (sp_fw σ2 a) 51 g2) A2 := by
  subst h; subst h2; subst h3
  exact ⟨rfl, g, rfl⟩
theorem sp_rfM {σ σ2 : wj_St} {A A2 : sp_L} {a : Sum Nat Int32} {w : Nat} {x : Int32} (h : a = .inl w) (h2 : A2 = A) (h3 : σ2 = σ) (hx : x = -1000001 - nI w) : x = sp_v a ∧ ∃ g, sp_fd (sp_mq σ A) w = sp_mq (wj_r (sp_fw σ2 a) 51 g) A2 := by
  subst h; subst h2; subst h3
  exact ⟨hx, sp_fd σ2 w 51, by rw [sp_fd_c]; show _ = sp_mq (wj_r (sp_fd σ2 w) 51 _) A2; rw [wj_r_id]⟩
theorem sp_rfG {σ σ2 : wj_St} {A A2 : sp_L} {a : Sum Nat Int32} {w : Nat} {x : Int32} {g : Nat → Int32} (h : a = .inl w) (h2 : A2 = A) (h3 : σ2 = σ) (hx : x = -1000001 - nI w) : x = sp_v a ∧ ∃ g2, sp_fd (sp_mq (wj_r σ 51 g) A) w = sp_mq (wj_r (sp_fw σ2 a) 51 g2) A2 := by
  subst h; subst h2; subst h3
  exact ⟨hx, g, by rw [sp_fd_c, sp_fd_r]; rfl⟩
theorem sp_as_r {σ : wj_St} {A : sp_L} : sp_as σ A = wj_r σ 51 (sp_mr (σ 49) A) := rfl
theorem sp_as_rr {σ : wj_St} {A : sp_L} {g : Nat → Int32} : sp_as (wj_r σ 51 g) A = wj_r σ 51 (sp_mr (σ 49) A) := by
  unfold sp_as
  rw [wj_rr2, wj_r_ne (by decide)]
theorem sp_lm_no {w v : Int32} (h0 : ¬ w = 0) (h1 : ¬ w = 1) (h2 : ¬ w = 2) (h3 : ¬ w = 3) (h4 : ¬ w = 4) (h5 : ¬ w = 5) (h6 : ¬ w = 6) : ¬ (sp_lst w ≤ v ∧ v ≤ sp_mst w) := by
  intro q
  obtain ⟨f, hf, rfl⟩ := sp_lm q
  rcases f with _ | _ | _ | _ | _ | _ | _ | f
  · exact h0 rfl
  · exact h1 rfl
  · exact h2 rfl
  · exact h3 rfl
  · exact h4 rfl
  · exact h5 rfl
  · exact h6 rfl
  · omega
theorem sp_rgO {A : sp_L} {N : Nat} (hn : A.2.1 = nI N) (x : Int32) : (if 0 ≤ x ∧ x ≤ nI N - 1 then (1 : Int32) else 0) = (if sp_rg A x then 1 else 0) := by
  show _ = (if 0 ≤ x ∧ x ≤ A.2.1 - 1 then 1 else 0)
  rw [hn]
theorem sp_rgi {A : sp_L} {N : Nat} (hn : A.2.1 = nI N) (hN : N ≤ 8) {x : Int32} (h : sp_rg A x) : ∃ i, i < N ∧ x = nI i := wj_natB (hn ▸ h) (by omega)
set_option maxRecDepth 100000 in
set_option maxHeartbeats 4000000 in
theorem c_X5_hurdles (l : Launch) (V : wj_V) {σ : wj_St} {A : sp_L} {N y : Nat} {x : Int32} (hG : sp_G A N y) (hy : y < 90000) : wj_M l V yX5_hurdles cX5_hurdles 2 (some .int) 1 23 [.ref (V.2.2.1 48), .int x] (sp_mq σ A) (wj_QI V (fun r u => r = sp_v (a_hurdles A x) ∧ ∃ g, u = sp_mq (wj_r (sp_fw σ (a_hurdles A x)) 51 g) (n_hurdles A x))) := by
  refine wj_ofI (own := RX5) [some (.ref (V.2.2.1 48)), some (.int x)] (by decide) rfl rfl (Nat.le_of_ble_eq_true rfl) (fun X C hR => ?_)
  refine wj_iload_n C 1 dX5_hurdles_0 rfl rfl ?_
  refine wj_iconst (v := 0) C dX5_hurdles_1 (by decide) ?_
  refine wj_ldc C dX5_hurdles_2 kc_X5_74 ?_
  refine wj_cif C (wj_rS C dX5_hurdles_4 km_X5_within kl_X5_70 (c_X5_within l V) rfl rfl (Nat.le_of_ble_eq_true rfl) (by decide)) ?_
  refine wj_if_eq C 19 dX5_hurdles_7 (by decide) (fun h7 => ?_) (fun h7 => ?_)
  · 
    refine wj_aload_n C 0 dX5_hurdles_19 rfl rfl ?_
    refine wj_ldc C dX5_hurdles_20 kc_X5_60 ?_
    refine wj_cif C (wj_rV C dX5_hurdles_22 km_X5_finding kl_X5_66 is_X5 rfl rfl (c_X5_finding (w := 0) l V (by decide) (by decide)) rfl rfl (Nat.le_of_ble_eq_true rfl) (by decide)) ?_
    exact hR _ _ _ _ _ dX5_hurdles_25 (by first | exact sp_rvM (by rw [a_hurdles, if_pos (wj_c1 h7)]) (by rw [n_hurdles, if_pos (wj_c1 h7)]) rfl | exact sp_rfM (by rw [a_hurdles, if_neg (wj_c0 h7)]) (by rw [n_hurdles, if_neg (wj_c0 h7)]) rfl (by decide)) wj_rfl
  · refine wj_aload_n C 0 dX5_hurdles_10 rfl rfl ?_
    refine wj_iconst (v := 3) C dX5_hurdles_11 (by decide) ?_
    refine wj_iload_n C 1 dX5_hurdles_12 rfl rfl ?_
    refine wj_cif C (wj_rV C dX5_hurdles_13 km_X5_become kl_X5_75 is_X5 rfl rfl (c_X5_become (j := 3) l V (by decide)) rfl rfl (Nat.le_of_ble_eq_true rfl) (by decide)) ?_
    rw [sp_mq_49, sp_mr_3, sp_mq_u3]
    refine wj_goto C 25 dX5_hurdles_16 (by decide) ?_
    exact hR _ _ _ _ _ dX5_hurdles_25 (by first | exact sp_rvM (by rw [a_hurdles, if_pos (wj_c1 h7)]) (by rw [n_hurdles, if_pos (wj_c1 h7)]) rfl | exact sp_rfM (by rw [a_hurdles, if_neg (wj_c0 h7)]) (by rw [n_hurdles, if_neg (wj_c0 h7)]) rfl (by decide)) wj_rfl
set_option maxRecDepth 100000 in
set_option maxHeartbeats 4000000 in
theorem c_X5_place (l : Launch) (V : wj_V) {σ : wj_St} {A : sp_L} {N y : Nat} {x w : Int32} (hG : sp_G A N y) (hy : y < 90000) : wj_M l V yX5_place cX5_place 3 (some .int) 5 115 [.ref (V.2.2.1 48), .int x, .int w] (sp_mq σ A) (wj_QI V (fun r u => r = sp_v (a_place A x w) ∧ ∃ g, u = sp_mq (wj_r (sp_fw σ (a_place A x w)) 51 g) A)) := by
  refine wj_ofI (own := RX5) [some (.ref (V.2.2.1 48)), some (.int x), some (.int w)] (by decide) rfl rfl (Nat.le_of_ble_eq_true rfl) (fun X C hR => ?_)
  refine wj_iload_n C 1 dX5_place_0 rfl rfl ?_
  refine wj_cif C (wj_rS C dX5_place_1 km_X5_isPlace kl_X5_110 (c_X5_isPlace l V) rfl rfl (Nat.le_of_ble_eq_true rfl) (by decide)) ?_
  refine wj_if_eq C 16 dX5_place_4 (by decide) (fun h4 => ?_) (fun h4 => ?_)
  · refine wj_aload_n C 0 dX5_place_16 rfl rfl ?_
    refine wj_ldc C dX5_place_17 kc_X5_60 ?_
    refine wj_cif C (wj_rV C dX5_place_19 km_X5_finding kl_X5_66 is_X5 rfl rfl (c_X5_finding (w := 0) l V (by decide) (by decide)) rfl rfl (Nat.le_of_ble_eq_true rfl) (by decide)) ?_
    exact hR _ _ _ _ _ dX5_place_22 (sp_rfM (by rw [a_place, if_neg (fun q => by first | exact wj_c0 h4 q.1 | exact wj_c0 h13 q.2)]) rfl rfl (by decide)) wj_rfl
  · refine wj_iload_n C 2 dX5_place_7 rfl rfl ?_
    refine wj_iconst (v := 0) C dX5_place_8 (by decide) ?_
    refine wj_iconst (v := 3) C dX5_place_9 (by decide) ?_
    refine wj_cif C (wj_rS C dX5_place_10 km_X5_within kl_X5_70 (c_X5_within l V) rfl rfl (Nat.le_of_ble_eq_true rfl) (by decide)) ?_
    refine wj_if_ne C 23 dX5_place_13 (by decide) (fun h13 => ?_) (fun h13 => ?_)
    · obtain ⟨p, hp, rfl⟩ := wj_natC (N := 15) (wj_c1 h4)
      refine wj_iload_n C 2 dX5_place_23 rfl rfl ?_
      refine wj_swc C (0) (28) 52 dX5_place_24 (by decide) (by decide) (by decide) (by decide) (fun h24_0 => ?_) (fun h24_0 => ?_)
      · refine wj_aload_n C 0 dX5_place_52 rfl rfl ?_
        refine wj_iload_n C 1 dX5_place_53 rfl rfl ?_
        refine wj_cif C (wj_rV C dX5_place_54 km_X5_strength kl_X5_113 is_X5 rfl rfl (c_X5_strength l V hG (by omega)) rfl rfl (Nat.le_of_ble_eq_true rfl) (by decide)) ?_
        exact hR _ _ _ _ _ dX5_place_57 (sp_rvM (by rw [a_place, if_pos ⟨wj_c1 h4, wj_c1 h13⟩, sp_pl, if_pos h24_0]) rfl rfl) wj_rfl
      refine wj_swc C (1) (34) 58 dX5_place_24 (by decide) (by decide) (by decide) (by decide) (fun h24_1 => ?_) (fun h24_1 => ?_)
      · refine wj_aload_n C 0 dX5_place_58 rfl rfl ?_
        refine wj_iload_n C 1 dX5_place_59 rfl rfl ?_
        refine wj_cif C (wj_rV C dX5_place_60 km_X5_slipsIn kl_X5_116 is_X5 rfl rfl (c_X5_slipsIn l V hG) rfl rfl (Nat.le_of_ble_eq_true rfl) (by decide)) ?_
        exact hR _ _ _ _ _ dX5_place_63 (sp_rvM (by rw [a_place, if_pos ⟨wj_c1 h4, wj_c1 h13⟩, sp_pl, if_neg h24_0, if_pos h24_1]) rfl rfl) wj_rfl
      refine wj_swc C (2) (40) 64 dX5_place_24 (by decide) (by decide) (by decide) (by decide) (fun h24_2 => ?_) (fun h24_2 => ?_)
      · refine wj_aload_n C 0 dX5_place_64 rfl rfl ?_
        refine wj_iload_n C 1 dX5_place_65 rfl rfl ?_
        refine wj_cif C (wj_rV C dX5_place_66 km_X5_covering kl_X5_119 is_X5 rfl rfl (c_X5_covering l V hG (by omega)) rfl rfl (Nat.le_of_ble_eq_true rfl) (by decide)) ?_
        exact hR _ _ _ _ _ dX5_place_69 (sp_rvM (by rw [a_place, if_pos ⟨wj_c1 h4, wj_c1 h13⟩, sp_pl, if_neg h24_0, if_neg h24_1, if_pos h24_2]) rfl rfl) wj_rfl
      refine wj_tabOut C 70 dX5_place_24 (by have q0 := lv_neT h24_0 (a := 0) (by decide); have q1 := lv_neT h24_1 (a := 1) (by decide); have q2 := lv_neT h24_2 (a := 2) (by decide); omega) (by decide) ?_
      refine wj_aload_n C 0 dX5_place_70 rfl rfl ?_
      refine wj_cif C (wj_rV C dX5_place_71 km_X5_gaps kl_X5_122 is_X5 rfl rfl (c_X5_gaps l V hG) rfl rfl (Nat.le_of_ble_eq_true rfl) (by decide)) ?_
      refine wj_iload_n C 1 dX5_place_74 rfl rfl ?_
      refine wj_cif C (wj_rS C dX5_place_75 km_X5_hasBit kl_X5_103 (c_X5_hasBit l V) rfl rfl (Nat.le_of_ble_eq_true rfl) (by decide)) ?_
      refine wj_if_eq C 85 dX5_place_78 (by decide) (fun h78 => ?_) (fun h78 => ?_)
      · refine wj_iconst (v := 0) C dX5_place_85 (by decide) ?_
        exact hR _ _ _ _ _ dX5_place_86 (sp_rvM (by rw [a_place, if_pos ⟨wj_c1 h4, wj_c1 h13⟩, sp_pl, if_neg h24_0, if_neg h24_1, if_neg h24_2]; first | rw [if_pos (wj_c1 h78)] | rw [if_neg (wj_c0 h78)]) rfl rfl) wj_rfl
      · refine wj_iconst (v := 1) C dX5_place_81 (by decide) ?_
        refine wj_goto C 86 dX5_place_82 (by decide) ?_
        exact hR _ _ _ _ _ dX5_place_86 (sp_rvM (by rw [a_place, if_pos ⟨wj_c1 h4, wj_c1 h13⟩, sp_pl, if_neg h24_0, if_neg h24_1, if_neg h24_2]; first | rw [if_pos (wj_c1 h78)] | rw [if_neg (wj_c0 h78)]) rfl rfl) wj_rfl
    · refine wj_aload_n C 0 dX5_place_16 rfl rfl ?_
      refine wj_ldc C dX5_place_17 kc_X5_60 ?_
      refine wj_cif C (wj_rV C dX5_place_19 km_X5_finding kl_X5_66 is_X5 rfl rfl (c_X5_finding (w := 0) l V (by decide) (by decide)) rfl rfl (Nat.le_of_ble_eq_true rfl) (by decide)) ?_
      exact hR _ _ _ _ _ dX5_place_22 (sp_rfM (by rw [a_place, if_neg (fun q => by first | exact wj_c0 h4 q.1 | exact wj_c0 h13 q.2)]) rfl rfl (by decide)) wj_rfl
set_option maxRecDepth 100000 in
set_option maxHeartbeats 4000000 in
theorem c_X5_lean (l : Launch) (V : wj_V) {σ : wj_St} {A : sp_L} {N y : Nat} {x p w : Int32} (hG : sp_G A N y) (hy : y < 90000) : wj_M l V yX5_lean cX5_lean 5 (some .int) 2 42 [.ref (V.2.2.1 48), .int x, .int p, .int w] (sp_mq σ A) (wj_QI V (fun r u => r = sp_v (a_lean A x p w) ∧ ∃ g, u = sp_mq (wj_r (sp_fw σ (a_lean A x p w)) 51 g) (n_lean A x p w))) := by
  refine wj_ofI (own := RX5) [some (.ref (V.2.2.1 48)), some (.int x), some (.int p), some (.int w), none] (by decide) rfl rfl (Nat.le_of_ble_eq_true rfl) (fun X C hR => ?_)
  refine wj_iload_n C 1 dX5_lean_0 rfl rfl ?_
  refine wj_cif C (wj_rS C dX5_lean_1 km_X5_isLeaning kl_X5_126 (c_X5_isLeaning l V) rfl rfl (Nat.le_of_ble_eq_true rfl) (by decide)) ?_
  refine wj_if_eq C 28 dX5_lean_4 (by decide) (fun h4 => ?_) (fun h4 => ?_)
  · refine wj_iconst (v := 0) C dX5_lean_28 (by decide) ?_
    refine wj_istore C dX5_lean_29 (by decide) rfl ?_
    dsimp only [List.set]
    refine wj_iload C dX5_lean_31 rfl ?_
    refine wj_if_eq C 52 dX5_lean_33 (by decide) (fun h33 => ?_) (fun h33 => ?_)
    · refine wj_aload_n C 0 dX5_lean_52 rfl rfl ?_
      refine wj_ldc C dX5_lean_53 kc_X5_60 ?_
      refine wj_cif C (wj_rV C dX5_lean_55 km_X5_finding kl_X5_66 is_X5 rfl rfl (c_X5_finding (w := 0) l V (by decide) (by decide)) rfl rfl (Nat.le_of_ble_eq_true rfl) (by decide)) ?_
      exact hR _ _ _ _ _ dX5_lean_58 (by first | exact sp_rvM (by rw [a_lean, if_pos ⟨wj_c1 h4, wj_c1 h11, wj_c1 h21⟩, nI_clamp (by omega)]) (by rw [n_lean, if_pos ⟨wj_c1 h4, wj_c1 h11, wj_c1 h21⟩, nI_clamp (by omega)]) rfl | exact sp_rfM (by rw [a_lean, if_neg (fun q => by first | exact wj_c0 h4 q.1 | exact wj_c0 h11 q.2.1 | exact wj_c0 h21 q.2.2)]) (by rw [n_lean, if_neg (fun q => by first | exact wj_c0 h4 q.1 | exact wj_c0 h11 q.2.1 | exact wj_c0 h21 q.2.2)]) rfl (by decide)) wj_rfl
    · exact absurd rfl h33
  · refine wj_iload_n C 2 dX5_lean_7 rfl rfl ?_
    refine wj_cif C (wj_rS C dX5_lean_8 km_X5_isPlace kl_X5_110 (c_X5_isPlace l V) rfl rfl (Nat.le_of_ble_eq_true rfl) (by decide)) ?_
    refine wj_if_eq C 28 dX5_lean_11 (by decide) (fun h11 => ?_) (fun h11 => ?_)
    · refine wj_iconst (v := 0) C dX5_lean_28 (by decide) ?_
      refine wj_istore C dX5_lean_29 (by decide) rfl ?_
      dsimp only [List.set]
      refine wj_iload C dX5_lean_31 rfl ?_
      refine wj_if_eq C 52 dX5_lean_33 (by decide) (fun h33 => ?_) (fun h33 => ?_)
      · refine wj_aload_n C 0 dX5_lean_52 rfl rfl ?_
        refine wj_ldc C dX5_lean_53 kc_X5_60 ?_
        refine wj_cif C (wj_rV C dX5_lean_55 km_X5_finding kl_X5_66 is_X5 rfl rfl (c_X5_finding (w := 0) l V (by decide) (by decide)) rfl rfl (Nat.le_of_ble_eq_true rfl) (by decide)) ?_
        exact hR _ _ _ _ _ dX5_lean_58 (by first | exact sp_rvM (by rw [a_lean, if_pos ⟨wj_c1 h4, wj_c1 h11, wj_c1 h21⟩, nI_clamp (by omega)]) (by rw [n_lean, if_pos ⟨wj_c1 h4, wj_c1 h11, wj_c1 h21⟩, nI_clamp (by omega)]) rfl | exact sp_rfM (by rw [a_lean, if_neg (fun q => by first | exact wj_c0 h4 q.1 | exact wj_c0 h11 q.2.1 | exact wj_c0 h21 q.2.2)]) (by rw [n_lean, if_neg (fun q => by first | exact wj_c0 h4 q.1 | exact wj_c0 h11 q.2.1 | exact wj_c0 h21 q.2.2)]) rfl (by decide)) wj_rfl
      · exact absurd rfl h33
    · refine wj_iload_n C 3 dX5_lean_14 rfl rfl ?_
      refine wj_iconst (v := 0) C dX5_lean_15 (by decide) ?_
      refine wj_bipush (v := 99) C dX5_lean_16 (by decide) ?_
      refine wj_cif C (wj_rS C dX5_lean_18 km_X5_within kl_X5_70 (c_X5_within l V) rfl rfl (Nat.le_of_ble_eq_true rfl) (by decide)) ?_
      refine wj_if_eq C 28 dX5_lean_21 (by decide) (fun h21 => ?_) (fun h21 => ?_)
      · refine wj_iconst (v := 0) C dX5_lean_28 (by decide) ?_
        refine wj_istore C dX5_lean_29 (by decide) rfl ?_
        dsimp only [List.set]
        refine wj_iload C dX5_lean_31 rfl ?_
        refine wj_if_eq C 52 dX5_lean_33 (by decide) (fun h33 => ?_) (fun h33 => ?_)
        · refine wj_aload_n C 0 dX5_lean_52 rfl rfl ?_
          refine wj_ldc C dX5_lean_53 kc_X5_60 ?_
          refine wj_cif C (wj_rV C dX5_lean_55 km_X5_finding kl_X5_66 is_X5 rfl rfl (c_X5_finding (w := 0) l V (by decide) (by decide)) rfl rfl (Nat.le_of_ble_eq_true rfl) (by decide)) ?_
          exact hR _ _ _ _ _ dX5_lean_58 (by first | exact sp_rvM (by rw [a_lean, if_pos ⟨wj_c1 h4, wj_c1 h11, wj_c1 h21⟩, nI_clamp (by omega)]) (by rw [n_lean, if_pos ⟨wj_c1 h4, wj_c1 h11, wj_c1 h21⟩, nI_clamp (by omega)]) rfl | exact sp_rfM (by rw [a_lean, if_neg (fun q => by first | exact wj_c0 h4 q.1 | exact wj_c0 h11 q.2.1 | exact wj_c0 h21 q.2.2)]) (by rw [n_lean, if_neg (fun q => by first | exact wj_c0 h4 q.1 | exact wj_c0 h11 q.2.1 | exact wj_c0 h21 q.2.2)]) rfl (by decide)) wj_rfl
        · exact absurd rfl h33
      · obtain ⟨i, hi, rfl⟩ := wj_natC (N := 5) (wj_c1 h4)
        refine wj_iconst (v := 1) C dX5_lean_24 (by decide) ?_
        refine wj_goto C 29 dX5_lean_25 (by decide) ?_
        refine wj_istore C dX5_lean_29 (by decide) rfl ?_
        dsimp only [List.set]
        refine wj_iload C dX5_lean_31 rfl ?_
        refine wj_if_eq C 52 dX5_lean_33 (by decide) (fun h33 => ?_) (fun h33 => ?_)
        · exact absurd h33 (by decide)
        · refine wj_aload_n C 0 dX5_lean_36 rfl rfl ?_
          refine wj_iconst (v := 5) C dX5_lean_37 (by decide) ?_
          refine wj_iload_n C 1 dX5_lean_38 rfl rfl ?_
          refine wj_iadd C dX5_lean_39 ?_
          refine wj_top (y := nI (5 + i)) (nI_add 5 i) ?_
          refine wj_bipush (v := 100) C dX5_lean_40 (by decide) ?_
          refine wj_iload_n C 2 dX5_lean_42 rfl rfl ?_
          refine wj_imul C dX5_lean_43 ?_
          refine wj_iload_n C 3 dX5_lean_44 rfl rfl ?_
          refine wj_iadd C dX5_lean_45 ?_
          refine wj_cif C (wj_rV C dX5_lean_46 km_X5_become kl_X5_75 is_X5 rfl rfl (c_X5_become (j := 5 + i) l V (by omega)) rfl rfl (Nat.le_of_ble_eq_true rfl) (by decide)) ?_
          rw [sp_mq_49, sp_mr_l _ _ (by omega), sp_mq_ul (by omega)]
          refine wj_goto C 58 dX5_lean_49 (by decide) ?_
          exact hR _ _ _ _ _ dX5_lean_58 (by first | exact sp_rvM (by rw [a_lean, if_pos ⟨wj_c1 h4, wj_c1 h11, wj_c1 h21⟩, nI_clamp (by omega)]) (by rw [n_lean, if_pos ⟨wj_c1 h4, wj_c1 h11, wj_c1 h21⟩, nI_clamp (by omega)]) rfl | exact sp_rfM (by rw [a_lean, if_neg (fun q => by first | exact wj_c0 h4 q.1 | exact wj_c0 h11 q.2.1 | exact wj_c0 h21 q.2.2)]) (by rw [n_lean, if_neg (fun q => by first | exact wj_c0 h4 q.1 | exact wj_c0 h11 q.2.1 | exact wj_c0 h21 q.2.2)]) rfl (by decide)) wj_rfl
set_option maxRecDepth 100000 in
set_option maxHeartbeats 4000000 in
theorem c_X5_leaning (l : Launch) (V : wj_V) {σ : wj_St} {A : sp_L} {N y : Nat} {x : Int32} (hG : sp_G A N y) (hy : y < 90000) : wj_M l V yX5_leaning cX5_leaning 2 (some .int) 2 42 [.ref (V.2.2.1 48), .int x] (sp_mq σ A) (wj_QI V (fun r u => r = sp_v (a_leaning A x) ∧ ∃ g, u = sp_mq (wj_r (sp_fw σ (a_leaning A x)) 51 g) A)) := by
  refine wj_ofI (own := RX5) [some (.ref (V.2.2.1 48)), some (.int x)] (by decide) rfl rfl (Nat.le_of_ble_eq_true rfl) (fun X C hR => ?_)
  refine wj_iload_n C 1 dX5_leaning_0 rfl rfl ?_
  refine wj_cif C (wj_rS C dX5_leaning_1 km_X5_isLeaning kl_X5_126 (c_X5_isLeaning l V) rfl rfl (Nat.le_of_ble_eq_true rfl) (by decide)) ?_
  refine wj_if_eq C 18 dX5_leaning_4 (by decide) (fun h4 => ?_) (fun h4 => ?_)
  · refine wj_aload_n C 0 dX5_leaning_18 rfl rfl ?_
    refine wj_ldc C dX5_leaning_19 kc_X5_60 ?_
    refine wj_cif C (wj_rV C dX5_leaning_21 km_X5_finding kl_X5_66 is_X5 rfl rfl (c_X5_finding (w := 0) l V (by decide) (by decide)) rfl rfl (Nat.le_of_ble_eq_true rfl) (by decide)) ?_
    exact hR _ _ _ _ _ dX5_leaning_24 (by first | exact sp_rvM (by rw [a_leaning, if_pos (wj_c1 h4), nI_clamp (by omega)]) rfl rfl | exact sp_rfM (by rw [a_leaning, if_neg (wj_c0 h4)]) rfl rfl (by decide)) wj_rfl
  · obtain ⟨i, hi, rfl⟩ := wj_natC (N := 5) (wj_c1 h4)
    refine wj_aload_n C 0 dX5_leaning_7 rfl rfl ?_
    refine wg_X5_9 C dX5_leaning_8 ?_
    refine wj_iconst (v := 5) C dX5_leaning_11 (by decide) ?_
    refine wj_iload_n C 1 dX5_leaning_12 rfl rfl ?_
    refine wj_iadd C dX5_leaning_13 ?_
    refine wj_top (y := nI (5 + i)) (nI_add 5 i) ?_
    refine wj_ialdN C dX5_leaning_14 ar_now ⟨by omega, by decide⟩ ?_
    rw [sp_mq_49, sp_mr_l _ _ (by omega)]
    refine wj_goto C 24 dX5_leaning_15 (by decide) ?_
    exact hR _ _ _ _ _ dX5_leaning_24 (by first | exact sp_rvM (by rw [a_leaning, if_pos (wj_c1 h4), nI_clamp (by omega)]) rfl rfl | exact sp_rfM (by rw [a_leaning, if_neg (wj_c0 h4)]) rfl rfl (by decide)) wj_rfl
set_option maxRecDepth 100000 in
set_option maxHeartbeats 4000000 in
theorem c_X5_slip (l : Launch) (V : wj_V) {σ : wj_St} {A : sp_L} {N y : Nat} {k p w : Int32} (hG : sp_G A N y) (hy : y < 90000) : wj_M l V yX5_slip cX5_slip 4 (some .int) 2 45 [.ref (V.2.2.1 48), .int k, .int p, .int w] (sp_mq σ A) (wj_QI V (fun r u => r = sp_v (a_slip A k p w) ∧ ∃ g, u = sp_mq (wj_r (sp_fw σ (a_slip A k p w)) 51 g) (n_slip A k p w))) := by
  refine wj_ofI (own := RX5) [some (.ref (V.2.2.1 48)), some (.int k), some (.int p), some (.int w)] (by decide) rfl rfl (Nat.le_of_ble_eq_true rfl) (fun X C hR => ?_)
  refine wj_iload_n C 1 dX5_slip_0 rfl rfl ?_
  refine wj_cif C (wj_rS C dX5_slip_1 km_X5_isKind kl_X5_129 (c_X5_isKind l V) rfl rfl (Nat.le_of_ble_eq_true rfl) (by decide)) ?_
  refine wj_if_eq C 21 dX5_slip_4 (by decide) (fun h4 => ?_) (fun h4 => ?_)
  · refine wj_aload_n C 0 dX5_slip_21 rfl rfl ?_
    refine wj_ldc C dX5_slip_22 kc_X5_60 ?_
    refine wj_cif C (wj_rV C dX5_slip_24 km_X5_finding kl_X5_66 is_X5 rfl rfl (c_X5_finding (w := 0) l V (by decide) (by decide)) rfl rfl (Nat.le_of_ble_eq_true rfl) (by decide)) ?_
    exact hR _ _ _ _ _ dX5_slip_27 (sp_rfM (by rw [a_slip, if_neg (fun q => by first | exact wj_c0 h4 q.1 | exact wj_c0 h11 q.2.1 | exact wj_c0 h18 q.2.2)]) (by rw [n_slip, if_neg (fun q9 => (fun q => by first | exact wj_c0 h4 q.1 | exact wj_c0 h11 q.2.1 | exact wj_c0 h18 q.2.2) q9.1)]) rfl (by decide)) wj_rfl
  · refine wj_iload_n C 2 dX5_slip_7 rfl rfl ?_
    refine wj_cif C (wj_rS C dX5_slip_8 km_X5_isPlace kl_X5_110 (c_X5_isPlace l V) rfl rfl (Nat.le_of_ble_eq_true rfl) (by decide)) ?_
    refine wj_if_eq C 21 dX5_slip_11 (by decide) (fun h11 => ?_) (fun h11 => ?_)
    · refine wj_aload_n C 0 dX5_slip_21 rfl rfl ?_
      refine wj_ldc C dX5_slip_22 kc_X5_60 ?_
      refine wj_cif C (wj_rV C dX5_slip_24 km_X5_finding kl_X5_66 is_X5 rfl rfl (c_X5_finding (w := 0) l V (by decide) (by decide)) rfl rfl (Nat.le_of_ble_eq_true rfl) (by decide)) ?_
      exact hR _ _ _ _ _ dX5_slip_27 (sp_rfM (by rw [a_slip, if_neg (fun q => by first | exact wj_c0 h4 q.1 | exact wj_c0 h11 q.2.1 | exact wj_c0 h18 q.2.2)]) (by rw [n_slip, if_neg (fun q9 => (fun q => by first | exact wj_c0 h4 q.1 | exact wj_c0 h11 q.2.1 | exact wj_c0 h18 q.2.2) q9.1)]) rfl (by decide)) wj_rfl
    · refine wj_iload_n C 3 dX5_slip_14 rfl rfl ?_
      refine wj_cif C (wj_rS C dX5_slip_15 km_X5_areWords kl_X5_132 (c_X5_areWords l V) rfl rfl (Nat.le_of_ble_eq_true rfl) (by decide)) ?_
      refine wj_if_ne C 28 dX5_slip_18 (by decide) (fun h18 => ?_) (fun h18 => ?_)
      · have hok : sp_oks k p w := ⟨wj_c1 h4, wj_c1 h11, wj_c1 h18⟩
        have hNN := sp_N_of hG.1 hG.2.1
        have hN8 := hG.2.1
        refine wj_aload_n C 0 dX5_slip_28 rfl rfl ?_
        refine wg_X5_9 C dX5_slip_29 ?_
        refine wj_iconst (v := 1) C dX5_slip_32 (by decide) ?_
        refine wj_ialdN C dX5_slip_33 ar_now ⟨by decide, by decide⟩ ?_
        rw [sp_mq_49, sp_mr_1, hG.1]
        refine wj_bipush (v := 8) C dX5_slip_34 (by decide) ?_
        refine wj_icmp_ne C 48 dX5_slip_36 (by decide) (fun h36 => ?_) (fun h36 => ?_)
        · have h8 : N < 8 := by
            rcases Nat.lt_or_ge N 8 with q | q
            · exact q
            · exact absurd (by rw [show N = 8 by omega]; rfl) h36
          refine wj_aload_n C 0 dX5_slip_48 rfl rfl ?_
          refine wj_iload_n C 1 dX5_slip_49 rfl rfl ?_
          refine wj_iload_n C 2 dX5_slip_50 rfl rfl ?_
          refine wj_iload_n C 3 dX5_slip_51 rfl rfl ?_
          refine wj_cif C (wj_rV C dX5_slip_52 km_X5_comes kl_X5_136 is_X5 rfl rfl (c_X5_comes l V hG.1 h8) rfl rfl (Nat.le_of_ble_eq_true rfl) (by decide)) ?_
          exact hR _ _ _ _ _ dX5_slip_55 (by first | exact sp_rvM (by rw [a_slip, if_pos hok, hNN, if_pos h8, hG.1]) (by rw [n_slip, hNN, if_pos ⟨hok, h8⟩]) rfl | exact sp_rfM (by rw [a_slip, if_pos hok, hNN, if_neg h8]) (by rw [n_slip, if_neg (fun q => h8 (hNN ▸ q.2))]) rfl (by decide)) wj_rfl
        · have h8 : ¬ N < 8 := by
            have := congrArg Int32.toInt h36
            rw [nI_toInt (by omega), show (8 : Int32).toInt = 8 by decide] at this
            omega
          refine wj_aload_n C 0 dX5_slip_39 rfl rfl ?_
          refine wj_ldc C dX5_slip_40 kc_X5_135 ?_
          refine wj_cif C (wj_rV C dX5_slip_42 km_X5_finding kl_X5_66 is_X5 rfl rfl (c_X5_finding (w := 1) l V (by decide) (by decide)) rfl rfl (Nat.le_of_ble_eq_true rfl) (by decide)) ?_
          refine wj_goto C 55 dX5_slip_45 (by decide) ?_
          exact hR _ _ _ _ _ dX5_slip_55 (by first | exact sp_rvM (by rw [a_slip, if_pos hok, hNN, if_pos h8, hG.1]) (by rw [n_slip, hNN, if_pos ⟨hok, h8⟩]) rfl | exact sp_rfM (by rw [a_slip, if_pos hok, hNN, if_neg h8]) (by rw [n_slip, if_neg (fun q => h8 (hNN ▸ q.2))]) rfl (by decide)) wj_rfl
      · refine wj_aload_n C 0 dX5_slip_21 rfl rfl ?_
        refine wj_ldc C dX5_slip_22 kc_X5_60 ?_
        refine wj_cif C (wj_rV C dX5_slip_24 km_X5_finding kl_X5_66 is_X5 rfl rfl (c_X5_finding (w := 0) l V (by decide) (by decide)) rfl rfl (Nat.le_of_ble_eq_true rfl) (by decide)) ?_
        exact hR _ _ _ _ _ dX5_slip_27 (sp_rfM (by rw [a_slip, if_neg (fun q => by first | exact wj_c0 h4 q.1 | exact wj_c0 h11 q.2.1 | exact wj_c0 h18 q.2.2)]) (by rw [n_slip, if_neg (fun q9 => (fun q => by first | exact wj_c0 h4 q.1 | exact wj_c0 h11 q.2.1 | exact wj_c0 h18 q.2.2) q9.1)]) rfl (by decide)) wj_rfl
set_option maxRecDepth 100000 in
set_option maxHeartbeats 4000000 in
theorem c_X5_of (l : Launch) (V : wj_V) {σ : wj_St} {A : sp_L} {N y : Nat} {x w : Int32} (hG : sp_G A N y) (hy : y < 90000) : wj_M l V yX5_of cX5_of 3 (some .int) 5 114 [.ref (V.2.2.1 48), .int x, .int w] (sp_mq σ A) (wj_QI V (fun r u => r = sp_v (a_of A x w) ∧ ∃ g, u = sp_mq (wj_r (sp_fw σ (a_of A x w)) 51 g) A)) := by
  refine wj_ofI (own := RX5) [some (.ref (V.2.2.1 48)), some (.int x), some (.int w)] (by decide) rfl rfl (Nat.le_of_ble_eq_true rfl) (fun X C hR => ?_)
  refine wj_aload_n C 0 dX5_of_0 rfl rfl ?_
  refine wj_iload_n C 1 dX5_of_1 rfl rfl ?_
  refine wj_cif C (wj_rV C dX5_of_2 km_X5_isSlip kl_X5_146 is_X5 rfl rfl (c_X5_isSlip l V hG.1) rfl rfl (Nat.le_of_ble_eq_true rfl) (by decide)) ?_
  rw [sp_rgO hG.1]
  refine wj_if_eq C 27 dX5_of_5 (by decide) (fun h5 => ?_) (fun h5 => ?_)
  · refine wj_aload_n C 0 dX5_of_27 rfl rfl ?_
    refine wj_ldc C dX5_of_28 kc_X5_60 ?_
    refine wj_cif C (wj_rV C dX5_of_30 km_X5_finding kl_X5_66 is_X5 rfl rfl (c_X5_finding (w := 0) l V (by decide) (by decide)) rfl rfl (Nat.le_of_ble_eq_true rfl) (by decide)) ?_
    exact hR _ _ _ _ _ dX5_of_33 (by first | exact sp_rvM (by rw [a_of, if_pos ⟨h5a, h15a⟩, nI_clamp (by omega)]) rfl rfl | exact sp_rfM (by rw [a_of, if_neg (fun q => by first | exact wj_c0 h5 q.1 | exact wj_c0 h15 q.2)]) rfl rfl (by decide)) wj_rfl
  · refine wj_iload_n C 2 dX5_of_8 rfl rfl ?_
    refine wj_iconst (v := 0) C dX5_of_9 (by decide) ?_
    refine wj_bipush (v := 11) C dX5_of_10 (by decide) ?_
    refine wj_cif C (wj_rS C dX5_of_12 km_X5_within kl_X5_70 (c_X5_within l V) rfl rfl (Nat.le_of_ble_eq_true rfl) (by decide)) ?_
    refine wj_if_eq C 27 dX5_of_15 (by decide) (fun h15 => ?_) (fun h15 => ?_)
    · refine wj_aload_n C 0 dX5_of_27 rfl rfl ?_
      refine wj_ldc C dX5_of_28 kc_X5_60 ?_
      refine wj_cif C (wj_rV C dX5_of_30 km_X5_finding kl_X5_66 is_X5 rfl rfl (c_X5_finding (w := 0) l V (by decide) (by decide)) rfl rfl (Nat.le_of_ble_eq_true rfl) (by decide)) ?_
      exact hR _ _ _ _ _ dX5_of_33 (by first | exact sp_rvM (by rw [a_of, if_pos ⟨h5a, h15a⟩, nI_clamp (by omega)]) rfl rfl | exact sp_rfM (by rw [a_of, if_neg (fun q => by first | exact wj_c0 h5 q.1 | exact wj_c0 h15 q.2)]) rfl rfl (by decide)) wj_rfl
    · have h5a := wj_c1 h5
      have h15a := wj_c1 h15
      obtain ⟨i, hi, rfl⟩ := sp_rgi hG.1 hG.2.1 h5a
      obtain ⟨t, ht, rfl⟩ := wj_natC (N := 11) h15a
      have hN8 := hG.2.1
      refine wj_aload_n C 0 dX5_of_18 rfl rfl ?_
      refine wj_iload_n C 1 dX5_of_19 rfl rfl ?_
      refine wj_iload_n C 2 dX5_of_20 rfl rfl ?_
      refine wj_cif C (wj_rV C dX5_of_21 km_X5_told kl_X5_149 is_X5 rfl rfl (c_X5_told l V hG hi (by omega)) rfl rfl (Nat.le_of_ble_eq_true rfl) (by decide)) ?_
      refine wj_goto C 33 dX5_of_24 (by decide) ?_
      exact hR _ _ _ _ _ dX5_of_33 (by first | exact sp_rvM (by rw [a_of, if_pos ⟨h5a, h15a⟩, nI_clamp (by omega)]) rfl rfl | exact sp_rfM (by rw [a_of, if_neg (fun q => by first | exact wj_c0 h5 q.1 | exact wj_c0 h15 q.2)]) rfl rfl (by decide)) wj_rfl
set_option maxRecDepth 100000 in
set_option maxHeartbeats 4000000 in
theorem c_X5_isField (l : Launch) (V : wj_V) {σ : wj_St} {w v : Int32} : wj_M l V yX5_isField cX5_isField 2 (some .boolean) 2 42 [.int w, .int v] σ (wj_I V (if sp_lst w ≤ v ∧ v ≤ sp_mst w then 1 else 0) σ) := by
  refine wj_ofZ (own := RX5) [some (.int w), some (.int v)] (by decide) rfl rfl (Nat.le_of_ble_eq_true rfl) (fun X C hR => ?_)
  refine wj_iload_n C 0 dX5_isField_0 rfl rfl ?_
  refine wj_swc C (0) (43) 44 dX5_isField_1 (by decide) (by decide) (by decide) (by decide) (fun h1_0 => ?_) (fun h1_0 => ?_)
  · subst h1_0
    refine wj_iload_n C 1 dX5_isField_44 rfl rfl ?_
    refine wj_cif C (wj_rS C dX5_isField_45 km_X5_isKind kl_X5_129 (c_X5_isKind l V) rfl rfl (Nat.le_of_ble_eq_true rfl) (by decide)) ?_
    exact hR _ _ _ _ _ dX5_isField_48 ⟨wj_nzi, (by first | rfl | (simp only [show sp_lst 5 = 1 by decide, show sp_mst 5 = 12 by decide]; done) | (simp [sp_lst, sp_mst]; done)), rfl⟩ wj_rfl
  refine wj_swc C (1) (48) 49 dX5_isField_1 (by decide) (by decide) (by decide) (by decide) (fun h1_1 => ?_) (fun h1_1 => ?_)
  · subst h1_1
    refine wj_iload_n C 1 dX5_isField_49 rfl rfl ?_
    refine wj_cif C (wj_rS C dX5_isField_50 km_X5_isPlace kl_X5_110 (c_X5_isPlace l V) rfl rfl (Nat.le_of_ble_eq_true rfl) (by decide)) ?_
    exact hR _ _ _ _ _ dX5_isField_53 ⟨wj_nzi, (by first | rfl | (simp only [show sp_lst 5 = 1 by decide, show sp_mst 5 = 12 by decide]; done) | (simp [sp_lst, sp_mst]; done)), rfl⟩ wj_rfl
  refine wj_swc C (2) (53) 54 dX5_isField_1 (by decide) (by decide) (by decide) (by decide) (fun h1_2 => ?_) (fun h1_2 => ?_)
  · subst h1_2
    refine wj_iload_n C 1 dX5_isField_54 rfl rfl ?_
    refine wj_iconst (v := 0) C dX5_isField_55 (by decide) ?_
    refine wj_sipush (v := 199) C dX5_isField_56 (by decide) ?_
    refine wj_cif C (wj_rS C dX5_isField_59 km_X5_within kl_X5_70 (c_X5_within l V) rfl rfl (Nat.le_of_ble_eq_true rfl) (by decide)) ?_
    exact hR _ _ _ _ _ dX5_isField_62 ⟨wj_nzi, (by first | rfl | (simp only [show sp_lst 5 = 1 by decide, show sp_mst 5 = 12 by decide]; done) | (simp [sp_lst, sp_mst]; done)), rfl⟩ wj_rfl
  refine wj_swc C (3) (62) 63 dX5_isField_1 (by decide) (by decide) (by decide) (by decide) (fun h1_3 => ?_) (fun h1_3 => ?_)
  · subst h1_3
    refine wj_iload_n C 1 dX5_isField_63 rfl rfl ?_
    refine wj_iconst (v := 0) C dX5_isField_64 (by decide) ?_
    refine wj_bipush (v := 99) C dX5_isField_65 (by decide) ?_
    refine wj_cif C (wj_rS C dX5_isField_67 km_X5_within kl_X5_70 (c_X5_within l V) rfl rfl (Nat.le_of_ble_eq_true rfl) (by decide)) ?_
    exact hR _ _ _ _ _ dX5_isField_70 ⟨wj_nzi, (by first | rfl | (simp only [show sp_lst 5 = 1 by decide, show sp_mst 5 = 12 by decide]; done) | (simp [sp_lst, sp_mst]; done)), rfl⟩ wj_rfl
  refine wj_swc C (4) (70) 71 dX5_isField_1 (by decide) (by decide) (by decide) (by decide) (fun h1_4 => ?_) (fun h1_4 => ?_)
  · subst h1_4
    refine wj_iload_n C 1 dX5_isField_71 rfl rfl ?_
    refine wj_iconst (v := 0) C dX5_isField_72 (by decide) ?_
    refine wj_iconst (v := 2) C dX5_isField_73 (by decide) ?_
    refine wj_cif C (wj_rS C dX5_isField_74 km_X5_within kl_X5_70 (c_X5_within l V) rfl rfl (Nat.le_of_ble_eq_true rfl) (by decide)) ?_
    exact hR _ _ _ _ _ dX5_isField_77 ⟨wj_nzi, (by first | rfl | (simp only [show sp_lst 5 = 1 by decide, show sp_mst 5 = 12 by decide]; done) | (simp [sp_lst, sp_mst]; done)), rfl⟩ wj_rfl
  refine wj_swc C (5) (77) 78 dX5_isField_1 (by decide) (by decide) (by decide) (by decide) (fun h1_5 => ?_) (fun h1_5 => ?_)
  · subst h1_5
    refine wj_iload_n C 1 dX5_isField_78 rfl rfl ?_
    refine wj_cif C (wj_rS C dX5_isField_79 km_X5_areWords kl_X5_132 (c_X5_areWords l V) rfl rfl (Nat.le_of_ble_eq_true rfl) (by decide)) ?_
    exact hR _ _ _ _ _ dX5_isField_82 ⟨wj_nzi, (by first | rfl | (simp only [show sp_lst 5 = 1 by decide, show sp_mst 5 = 12 by decide]; done) | (simp [sp_lst, sp_mst]; done)), rfl⟩ wj_rfl
  refine wj_swc C (6) (82) 83 dX5_isField_1 (by decide) (by decide) (by decide) (by decide) (fun h1_6 => ?_) (fun h1_6 => ?_)
  · subst h1_6
    refine wj_iload_n C 1 dX5_isField_83 rfl rfl ?_
    refine wj_iconst (v := 0) C dX5_isField_84 (by decide) ?_
    refine wj_sipush (v := 9999) C dX5_isField_85 (by decide) ?_
    refine wj_cif C (wj_rS C dX5_isField_88 km_X5_within kl_X5_70 (c_X5_within l V) rfl rfl (Nat.le_of_ble_eq_true rfl) (by decide)) ?_
    exact hR _ _ _ _ _ dX5_isField_91 ⟨wj_nzi, (by first | rfl | (simp only [show sp_lst 5 = 1 by decide, show sp_mst 5 = 12 by decide]; done) | (simp [sp_lst, sp_mst]; done)), rfl⟩ wj_rfl
  refine wj_tabOut C 92 dX5_isField_1 (by have q0 := lv_neT h1_0 (a := 0) (by decide); have q1 := lv_neT h1_1 (a := 1) (by decide); have q2 := lv_neT h1_2 (a := 2) (by decide); have q3 := lv_neT h1_3 (a := 3) (by decide); have q4 := lv_neT h1_4 (a := 4) (by decide); have q5 := lv_neT h1_5 (a := 5) (by decide); have q6 := lv_neT h1_6 (a := 6) (by decide); omega) (by decide) ?_
  refine wj_iconst (v := 0) C dX5_isField_92 (by decide) ?_
  exact hR _ _ _ _ _ dX5_isField_93 ⟨by decide +kernel, (if_neg (sp_lm_no h1_0 h1_1 h1_2 h1_3 h1_4 h1_5 h1_6)).symm, rfl⟩ wj_rfl
set_option maxRecDepth 100000 in
set_option maxHeartbeats 4000000 in
theorem c_X5_change (l : Launch) (V : wj_V) {σ : wj_St} {A : sp_L} {N y : Nat} {x w v : Int32} (hG : sp_G A N y) (hy : y < 90000) : wj_M l V yX5_change cX5_change 4 (some .int) 3 63 [.ref (V.2.2.1 48), .int x, .int w, .int v] (sp_mq σ A) (wj_QI V (fun r u => r = sp_v (a_change A x w v) ∧ ∃ g, u = sp_mq (wj_r (sp_fw σ (a_change A x w v)) 51 g) (n_change A x w v))) := by
  refine wj_ofI (own := RX5) [some (.ref (V.2.2.1 48)), some (.int x), some (.int w), some (.int v)] (by decide) rfl rfl (Nat.le_of_ble_eq_true rfl) (fun X C hR => ?_)
  refine wj_aload_n C 0 dX5_change_0 rfl rfl ?_
  refine wj_iload_n C 1 dX5_change_1 rfl rfl ?_
  refine wj_cif C (wj_rV C dX5_change_2 km_X5_isSlip kl_X5_146 is_X5 rfl rfl (c_X5_isSlip l V hG.1) rfl rfl (Nat.le_of_ble_eq_true rfl) (by decide)) ?_
  rw [sp_rgO hG.1]
  refine wj_if_eq C 29 dX5_change_5 (by decide) (fun h5 => ?_) (fun h5 => ?_)
  · refine wj_aload_n C 0 dX5_change_29 rfl rfl ?_
    refine wj_ldc C dX5_change_30 kc_X5_60 ?_
    refine wj_cif C (wj_rV C dX5_change_32 km_X5_finding kl_X5_66 is_X5 rfl rfl (c_X5_finding (w := 0) l V (by decide) (by decide)) rfl rfl (Nat.le_of_ble_eq_true rfl) (by decide)) ?_
    exact hR _ _ _ _ _ dX5_change_35 (by first | exact sp_rvM (by rw [a_change, if_pos ⟨h5a, h13a⟩, nI_clamp (by omega), sp_tra_f _ _ _ hf]) (by rw [n_change, if_pos ⟨h5a, h13a⟩, nI_clamp (by omega), nI_clamp (by omega)]) rfl | exact sp_rfM (by rw [a_change, if_neg (fun q => by first | exact wj_c0 h5 q.1 | exact wj_c0 h13 q.2)]) (by rw [n_change, if_neg (fun q => by first | exact wj_c0 h5 q.1 | exact wj_c0 h13 q.2)]) rfl (by decide)) wj_rfl
  · refine wj_iload_n C 2 dX5_change_8 rfl rfl ?_
    refine wj_iload_n C 3 dX5_change_9 rfl rfl ?_
    refine wj_cif C (wj_rS C dX5_change_10 km_X5_isField kl_X5_152 (c_X5_isField l V) rfl rfl (Nat.le_of_ble_eq_true rfl) (by decide)) ?_
    refine wj_if_eq C 29 dX5_change_13 (by decide) (fun h13 => ?_) (fun h13 => ?_)
    · refine wj_aload_n C 0 dX5_change_29 rfl rfl ?_
      refine wj_ldc C dX5_change_30 kc_X5_60 ?_
      refine wj_cif C (wj_rV C dX5_change_32 km_X5_finding kl_X5_66 is_X5 rfl rfl (c_X5_finding (w := 0) l V (by decide) (by decide)) rfl rfl (Nat.le_of_ble_eq_true rfl) (by decide)) ?_
      exact hR _ _ _ _ _ dX5_change_35 (by first | exact sp_rvM (by rw [a_change, if_pos ⟨h5a, h13a⟩, nI_clamp (by omega), sp_tra_f _ _ _ hf]) (by rw [n_change, if_pos ⟨h5a, h13a⟩, nI_clamp (by omega), nI_clamp (by omega)]) rfl | exact sp_rfM (by rw [a_change, if_neg (fun q => by first | exact wj_c0 h5 q.1 | exact wj_c0 h13 q.2)]) (by rw [n_change, if_neg (fun q => by first | exact wj_c0 h5 q.1 | exact wj_c0 h13 q.2)]) rfl (by decide)) wj_rfl
    · have h5a := wj_c1 h5
      have h13a := wj_c1 h13
      obtain ⟨i, hi, rfl⟩ := sp_rgi hG.1 hG.2.1 h5a
      obtain ⟨f, hf, rfl⟩ := sp_lm h13a
      have hN8 := hG.2.1
      refine wj_aload_n C 0 dX5_change_16 rfl rfl ?_
      refine wj_iload_n C 1 dX5_change_17 rfl rfl ?_
      refine wj_iload_n C 2 dX5_change_18 rfl rfl ?_
      refine wj_cif C (wj_rS C dX5_change_19 km_X5_slipAt kl_X5_79 (c_X5_slipAt l V) rfl rfl (Nat.le_of_ble_eq_true rfl) (by decide)) ?_
      refine wj_iload_n C 3 dX5_change_22 rfl rfl ?_
      refine wj_cif C (wj_rV C dX5_change_23 km_X5_become kl_X5_75 is_X5 rfl rfl (c_X5_become (j := 21 + 7 * i + f) l V (by omega)) rfl rfl (Nat.le_of_ble_eq_true rfl) (by decide)) ?_
      rw [sp_mq_49, sp_mr_s _ _ (by omega) hf, sp_mq_us (by omega) hf]
      refine wj_goto C 35 dX5_change_26 (by decide) ?_
      exact hR _ _ _ _ _ dX5_change_35 (by first | exact sp_rvM (by rw [a_change, if_pos ⟨h5a, h13a⟩, nI_clamp (by omega), sp_tra_f _ _ _ hf]) (by rw [n_change, if_pos ⟨h5a, h13a⟩, nI_clamp (by omega), nI_clamp (by omega)]) rfl | exact sp_rfM (by rw [a_change, if_neg (fun q => by first | exact wj_c0 h5 q.1 | exact wj_c0 h13 q.2)]) (by rw [n_change, if_neg (fun q => by first | exact wj_c0 h5 q.1 | exact wj_c0 h13 q.2)]) rfl (by decide)) wj_rfl
theorem sp_min2 {a b : Nat} (ha : a < 2 ^ 31) (hb : b < 2 ^ 31) : (if nI a < nI b then nI a else nI b) = nI (min a b) := by
  by_cases h : a < b
  · rw [if_pos (nI_lt h hb), show min a b = a by omega]
  · rw [if_neg (nI_nlt (by omega) ha), show min a b = b by omega]
set_option maxRecDepth 100000 in
set_option maxHeartbeats 4000000 in
theorem c_X5_cut (l : Launch) (V : wj_V) {σ : wj_St} {A : sp_L} {N y : Nat} {x v : Int32} (hG : sp_G A N y) (hy : y < 90000) : wj_M l V yX5_cut cX5_cut 4 (some .int) 2 43 [.ref (V.2.2.1 48), .int x, .int v] (sp_mq σ A) (wj_QI V (fun r u => r = sp_v (a_cut A x v) ∧ ∃ g, u = sp_mq (wj_r (sp_fw σ (a_cut A x v)) 51 g) (n_cut A x v))) := by
  refine wj_ofI (own := RX5) [some (.ref (V.2.2.1 48)), some (.int x), some (.int v), none] (by decide) rfl rfl (Nat.le_of_ble_eq_true rfl) (fun X C hR => ?_)
  refine wj_aload_n C 0 dX5_cut_0 rfl rfl ?_
  refine wj_iload_n C 1 dX5_cut_1 rfl rfl ?_
  refine wj_cif C (wj_rV C dX5_cut_2 km_X5_isSlip kl_X5_146 is_X5 rfl rfl (c_X5_isSlip l V hG.1) rfl rfl (Nat.le_of_ble_eq_true rfl) (by decide)) ?_
  rw [sp_rgO hG.1]
  refine wj_if_eq C 19 dX5_cut_5 (by decide) (fun h5 => ?_) (fun h5 => ?_)
  · refine wj_aload_n C 0 dX5_cut_19 rfl rfl ?_
    refine wj_ldc C dX5_cut_20 kc_X5_60 ?_
    refine wj_cif C (wj_rV C dX5_cut_22 km_X5_finding kl_X5_66 is_X5 rfl rfl (c_X5_finding (w := 0) l V (by decide) (by decide)) rfl rfl (Nat.le_of_ble_eq_true rfl) (by decide)) ?_
    exact hR _ _ _ _ _ dX5_cut_25 (sp_rfM (by rw [a_cut, if_neg (fun q => by first | exact wj_c0 h5 q.1 | exact wj_c0 h16 q.2)]) (by rw [n_cut, if_neg (fun q => by first | exact wj_c0 h5 q.1 | exact wj_c0 h16 q.2)]) rfl (by decide)) wj_rfl
  · refine wj_iload_n C 2 dX5_cut_8 rfl rfl ?_
    refine wj_iconst (v := 0) C dX5_cut_9 (by decide) ?_
    refine wj_sipush (v := 199) C dX5_cut_10 (by decide) ?_
    refine wj_cif C (wj_rS C dX5_cut_13 km_X5_within kl_X5_70 (c_X5_within l V) rfl rfl (Nat.le_of_ble_eq_true rfl) (by decide)) ?_
    refine wj_if_ne C 26 dX5_cut_16 (by decide) (fun h16 => ?_) (fun h16 => ?_)
    · have h5a := wj_c1 h5
      have h16a := wj_c1 h16
      obtain ⟨i, hi, rfl⟩ := sp_rgi hG.1 hG.2.1 h5a
      obtain ⟨c, hc, rfl⟩ := wj_natC (N := 199) h16a
      have hN8 := hG.2.1
      obtain ⟨e, _, ee, he⟩ := wj_nat (hG.2.2.2.1 i hi).2.2.1.1
      have he2 := (hG.2.2.2.1 i hi).2.2.1.2
      refine wj_iload_n C 2 dX5_cut_26 rfl rfl ?_
      refine wj_aload_n C 0 dX5_cut_27 rfl rfl ?_
      refine wj_iload_n C 1 dX5_cut_28 rfl rfl ?_
      refine wj_iconst (v := 2) C dX5_cut_29 (by decide) ?_
      refine wj_cif C (wj_rV C dX5_cut_30 km_X5_slipIs kl_X5_82 is_X5 rfl rfl (c_X5_slipIs (f := 2) l V (by omega) (by decide)) rfl rfl (Nat.le_of_ble_eq_true rfl) (by decide)) ?_
      rw [ee]
      refine wj_min C dX5_cut_33 kx_X5_97 (by decide) (Nat.le_of_ble_eq_true rfl) ?_
      refine wj_top (y := nI (min c e)) (by rw [Nat.min_comm]; exact sp_min2 (by omega) (by omega)) ?_
      refine wj_istore_n C 3 dX5_cut_36 rfl (by decide) rfl ?_
      dsimp only [List.set]
      refine wj_aload_n C 0 dX5_cut_37 rfl rfl ?_
      refine wj_iload_n C 1 dX5_cut_38 rfl rfl ?_
      refine wj_iconst (v := 2) C dX5_cut_39 (by decide) ?_
      refine wj_cif C (wj_rS C dX5_cut_40 km_X5_slipAt kl_X5_79 (c_X5_slipAt (f := 2) l V) rfl rfl (Nat.le_of_ble_eq_true rfl) (by decide)) ?_
      refine wj_iload_n C 3 dX5_cut_43 rfl rfl ?_
      refine wj_cif C (wj_rV C dX5_cut_44 km_X5_become kl_X5_75 is_X5 rfl rfl (c_X5_become (j := 21 + 7 * i + 2) l V (by omega)) rfl rfl (Nat.le_of_ble_eq_true rfl) (by decide)) ?_
      rw [sp_mq_49, sp_mr_s _ _ (by omega) (by decide), sp_mq_us (by omega) (by decide), ee]
      refine wj_iload_n C 3 dX5_cut_47 rfl rfl ?_
      refine wj_isub C dX5_cut_48 ?_
      refine wj_top (y := nI (e - min c e)) (pk_sub (by omega)) ?_
      exact hR _ _ _ _ _ dX5_cut_49 (sp_rvM (by rw [a_cut, if_pos ⟨h5a, h16a⟩, nI_clamp (by omega), nI_clamp (by omega), ee, nI_clamp (by omega), show e - min c e = e - c by omega]) (by rw [n_cut, if_pos ⟨h5a, h16a⟩, nI_clamp (by omega), nI_clamp (by omega), ee, nI_clamp (by omega)]) rfl) wj_rfl
    · refine wj_aload_n C 0 dX5_cut_19 rfl rfl ?_
      refine wj_ldc C dX5_cut_20 kc_X5_60 ?_
      refine wj_cif C (wj_rV C dX5_cut_22 km_X5_finding kl_X5_66 is_X5 rfl rfl (c_X5_finding (w := 0) l V (by decide) (by decide)) rfl rfl (Nat.le_of_ble_eq_true rfl) (by decide)) ?_
      exact hR _ _ _ _ _ dX5_cut_25 (sp_rfM (by rw [a_cut, if_neg (fun q => by first | exact wj_c0 h5 q.1 | exact wj_c0 h16 q.2)]) (by rw [n_cut, if_neg (fun q => by first | exact wj_c0 h5 q.1 | exact wj_c0 h16 q.2)]) rfl (by decide)) wj_rfl
set_option maxRecDepth 100000 in
set_option maxHeartbeats 4000000 in
theorem c_X5_go (l : Launch) (V : wj_V) {σ : wj_St} {A : sp_L} {N y : Nat} {nn : Int32} (hG : sp_G A N y) (hy : y < 90000) (hc : σ 48 5 = 0) : wj_M l V yX5_go cX5_go 2 (some .int) 8 182 [.ref (V.2.2.1 48), .int nn] (sp_mq σ A) (wj_QI V (fun r u => r = sp_v (a_go A nn) ∧ ∃ g, u = sp_mq (wj_r (sp_fw σ (a_go A nn)) 51 g) (n_go A nn))) := by
  refine wj_ofI (own := RX5) [some (.ref (V.2.2.1 48)), some (.int nn)] (by decide) rfl rfl (Nat.le_of_ble_eq_true rfl) (fun X C hR => ?_)
  refine wj_iload_n C 1 dX5_go_0 rfl rfl ?_
  refine wj_iconst (v := 1) C dX5_go_1 (by decide) ?_
  refine wj_bipush (v := 60) C dX5_go_2 (by decide) ?_
  refine wj_cif C (wj_rS C dX5_go_4 km_X5_within kl_X5_70 (c_X5_within l V) rfl rfl (Nat.le_of_ble_eq_true rfl) (by decide)) ?_
  refine wj_if_ne C 17 dX5_go_7 (by decide) (fun h7 => ?_) (fun h7 => ?_)
  · have hok := wj_c1 h7
    obtain ⟨m, h1m, hm, rfl⟩ := sp_nat1 (M := 60) hok
    refine wj_aload_n C 0 dX5_go_17 rfl rfl ?_
    refine wg_X5_9 C dX5_go_18 ?_
    refine wj_iconst (v := 0) C dX5_go_21 (by decide) ?_
    refine wj_ialdN C dX5_go_22 ar_now ⟨by decide, by decide⟩ ?_
    rw [sp_mq_49, sp_mr_0, hG.2.2.1]
    refine wj_iload_n C 1 dX5_go_23 rfl rfl ?_
    refine wj_iadd C dX5_go_24 ?_
    rw [nI_add]
    refine wj_ldc C dX5_go_25 kc_X5_165 ?_
    refine wj_icmp_le C 37 dX5_go_27 (by decide) (fun h27 => ?_) (fun h27 => absurd (nI_le (a := y + m) (b := 99999) (by omega) (by decide)) h27)
    refine wj_aload_n C 0 dX5_go_37 rfl rfl ?_
    refine wj_iload_n C 1 dX5_go_38 rfl rfl ?_
    refine wj_cvf C (wj_rV C dX5_go_39 km_X5_yearsGo kl_X5_167 is_X5 rfl rfl (c_X5_yearsGo (c := false) l V hG hc (by omega)) rfl rfl (Nat.le_of_ble_eq_true rfl) (by decide)) ?_
    rw [sp_yxs_f]
    refine wj_aload_n C 0 dX5_go_42 rfl rfl ?_
    refine wj_cif C (wj_rV C dX5_go_43 km_X5_gaps kl_X5_122 is_X5 rfl rfl (c_X5_gaps l V (sp_G_yrs hG m)) rfl rfl (Nat.le_of_ble_eq_true rfl) (by decide)) ?_
    exact hR _ _ _ _ _ dX5_go_46 (sp_rvM (by rw [a_go, if_pos hok, nI_clamp (by omega)]) (by rw [n_go, if_pos hok, nI_clamp (by omega)]) rfl) wj_rfl
  · refine wj_aload_n C 0 dX5_go_10 rfl rfl ?_
    refine wj_ldc C dX5_go_11 kc_X5_60 ?_
    refine wj_cif C (wj_rV C dX5_go_13 km_X5_finding kl_X5_66 is_X5 rfl rfl (c_X5_finding (w := 0) l V (by decide) (by decide)) rfl rfl (Nat.le_of_ble_eq_true rfl) (by decide)) ?_
    exact hR _ _ _ _ _ dX5_go_16 (sp_rfM (by rw [a_go, if_neg (wj_c0 h7)]) (by rw [n_go, if_neg (wj_c0 h7)]) rfl (by decide)) wj_rfl
set_option maxRecDepth 100000 in
set_option maxHeartbeats 4000000 in
theorem c_X5_now (l : Launch) (V : wj_V) {σ : wj_St} {A : sp_L} {N y : Nat} {w : Int32} (hG : sp_G A N y) (hy : y < 90000) : wj_M l V yX5_now cX5_now 2 (some .int) 6 139 [.ref (V.2.2.1 48), .int w] (sp_mq σ A) (wj_QI V (fun r u => r = sp_v (a_now A w) ∧ ∃ g, u = sp_mq (wj_r (sp_fw σ (a_now A w)) 51 g) A)) := by
  refine wj_ofI (own := RX5) [some (.ref (V.2.2.1 48)), some (.int w)] (by decide) rfl rfl (Nat.le_of_ble_eq_true rfl) (fun X C hR => ?_)
  refine wj_iload_n C 1 dX5_now_0 rfl rfl ?_
  refine wj_swc C (0) (47) 48 dX5_now_1 (by decide) (by decide) (by decide) (by decide) (fun h1_0 => ?_) (fun h1_0 => ?_)
  · subst h1_0
    refine wj_aload_n C 0 dX5_now_48 rfl rfl ?_
    refine wg_X5_9 C dX5_now_49 ?_
    refine wj_iconst (v := 0) C dX5_now_52 (by decide) ?_
    refine wj_ialdN C dX5_now_53 ar_now ⟨by decide, by decide⟩ ?_
    rw [sp_mq_49, sp_mr_0]
    exact hR _ _ _ _ _ dX5_now_54 (sp_rvM rfl rfl rfl) wj_rfl
  refine wj_swc C (1) (54) 55 dX5_now_1 (by decide) (by decide) (by decide) (by decide) (fun h1_1 => ?_) (fun h1_1 => ?_)
  · subst h1_1
    refine wj_aload_n C 0 dX5_now_55 rfl rfl ?_
    refine wj_cif C (wj_rV C dX5_now_56 km_X5_gaps kl_X5_122 is_X5 rfl rfl (c_X5_gaps l V hG) rfl rfl (Nat.le_of_ble_eq_true rfl) (by decide)) ?_
    exact hR _ _ _ _ _ dX5_now_59 (sp_rvM rfl rfl rfl) wj_rfl
  refine wj_swc C (2) (59) 60 dX5_now_1 (by decide) (by decide) (by decide) (by decide) (fun h1_2 => ?_) (fun h1_2 => ?_)
  · subst h1_2
    refine wj_aload_n C 0 dX5_now_60 rfl rfl ?_
    refine wg_X5_9 C dX5_now_61 ?_
    refine wj_iconst (v := 4) C dX5_now_64 (by decide) ?_
    refine wj_ialdN C dX5_now_65 ar_now ⟨by decide, by decide⟩ ?_
    rw [sp_mq_49, sp_mr_4]
    exact hR _ _ _ _ _ dX5_now_66 (sp_rvM rfl rfl rfl) wj_rfl
  refine wj_swc C (3) (66) 67 dX5_now_1 (by decide) (by decide) (by decide) (by decide) (fun h1_3 => ?_) (fun h1_3 => ?_)
  · subst h1_3
    refine wj_aload_n C 0 dX5_now_67 rfl rfl ?_
    refine wg_X5_9 C dX5_now_68 ?_
    refine wj_iconst (v := 3) C dX5_now_71 (by decide) ?_
    refine wj_ialdN C dX5_now_72 ar_now ⟨by decide, by decide⟩ ?_
    rw [sp_mq_49, sp_mr_3]
    exact hR _ _ _ _ _ dX5_now_73 (sp_rvM rfl rfl rfl) wj_rfl
  refine wj_swc C (4) (73) 74 dX5_now_1 (by decide) (by decide) (by decide) (by decide) (fun h1_4 => ?_) (fun h1_4 => ?_)
  · subst h1_4
    refine wj_aload_n C 0 dX5_now_74 rfl rfl ?_
    refine wj_cif C (wj_rV C dX5_now_75 km_X5_weakest kl_X5_171 is_X5 rfl rfl (c_X5_weakest l V hG) rfl rfl (Nat.le_of_ble_eq_true rfl) (by decide)) ?_
    exact hR _ _ _ _ _ dX5_now_78 (sp_rvM rfl rfl rfl) wj_rfl
  refine wj_swc C (5) (78) 79 dX5_now_1 (by decide) (by decide) (by decide) (by decide) (fun h1_5 => ?_) (fun h1_5 => ?_)
  · subst h1_5
    refine wj_aload_n C 0 dX5_now_79 rfl rfl ?_
    refine wj_iconst (v := 3) C dX5_now_80 (by decide) ?_
    refine wj_cif C (wj_rV C dX5_now_81 km_X5_sumOf kl_X5_174 is_X5 rfl rfl (c_X5_sumOf (f := 3) l V hG (by decide)) rfl rfl (Nat.le_of_ble_eq_true rfl) (by decide)) ?_
    exact hR _ _ _ _ _ dX5_now_84 (sp_rvM rfl rfl rfl) wj_rfl
  refine wj_swc C (6) (84) 85 dX5_now_1 (by decide) (by decide) (by decide) (by decide) (fun h1_6 => ?_) (fun h1_6 => ?_)
  · subst h1_6
    refine wj_aload_n C 0 dX5_now_85 rfl rfl ?_
    refine wj_bipush (v := 6) C dX5_now_86 (by decide) ?_
    refine wj_cif C (wj_rV C dX5_now_88 km_X5_sumOf kl_X5_174 is_X5 rfl rfl (c_X5_sumOf (f := 6) l V hG (by decide)) rfl rfl (Nat.le_of_ble_eq_true rfl) (by decide)) ?_
    exact hR _ _ _ _ _ dX5_now_91 (sp_rvM rfl rfl rfl) wj_rfl
  refine wj_swc C (7) (91) 92 dX5_now_1 (by decide) (by decide) (by decide) (by decide) (fun h1_7 => ?_) (fun h1_7 => ?_)
  · subst h1_7
    refine wj_aload_n C 0 dX5_now_92 rfl rfl ?_
    refine wj_iconst (v := 2) C dX5_now_93 (by decide) ?_
    refine wj_cif C (wj_rV C dX5_now_94 km_X5_sumOf kl_X5_174 is_X5 rfl rfl (c_X5_sumOf (f := 2) l V hG (by decide)) rfl rfl (Nat.le_of_ble_eq_true rfl) (by decide)) ?_
    exact hR _ _ _ _ _ dX5_now_97 (sp_rvM rfl rfl rfl) wj_rfl
  refine wj_tabOut C 98 dX5_now_1 (by have q0 := lv_neT h1_0 (a := 0) (by decide); have q1 := lv_neT h1_1 (a := 1) (by decide); have q2 := lv_neT h1_2 (a := 2) (by decide); have q3 := lv_neT h1_3 (a := 3) (by decide); have q4 := lv_neT h1_4 (a := 4) (by decide); have q5 := lv_neT h1_5 (a := 5) (by decide); have q6 := lv_neT h1_6 (a := 6) (by decide); have q7 := lv_neT h1_7 (a := 7) (by decide); omega) (by decide) ?_
  refine wj_aload_n C 0 dX5_now_98 rfl rfl ?_
  refine wj_ldc C dX5_now_99 kc_X5_60 ?_
  refine wj_cif C (wj_rV C dX5_now_101 km_X5_finding kl_X5_66 is_X5 rfl rfl (c_X5_finding (w := 0) l V (by decide) (by decide)) rfl rfl (Nat.le_of_ble_eq_true rfl) (by decide)) ?_
  exact hR _ _ _ _ _ dX5_now_104 (sp_rfM (by rw [a_now, if_neg h1_0, if_neg h1_1, if_neg h1_2, if_neg h1_3, if_neg h1_4, if_neg h1_5, if_neg h1_6, if_neg h1_7]) rfl rfl (by decide)) wj_rfl
set_option maxRecDepth 100000 in
set_option maxHeartbeats 4000000 in
theorem c_X5_seed (l : Launch) (V : wj_V) {σ : wj_St} {A : sp_L} {N y : Nat} {x : Int32} (hG : sp_G A N y) (hy : y < 90000) : wj_M l V yX5_seed cX5_seed 2 (some .int) 1 23 [.ref (V.2.2.1 48), .int x] (sp_mq σ A) (wj_QI V (fun r u => r = sp_v (Sum.inr (σ 49 2)) ∧ ∃ g, u = sp_mq (wj_r (sp_fw (wj_u σ 49 2 x) (Sum.inr (σ 49 2))) 51 g) A)) := by
  refine wj_ofI (own := RX5) [some (.ref (V.2.2.1 48)), some (.int x)] (by decide) rfl rfl (Nat.le_of_ble_eq_true rfl) (fun X C hR => ?_)
  refine wj_aload_n C 0 dX5_seed_0 rfl rfl ?_
  refine wj_iconst (v := 2) C dX5_seed_1 (by decide) ?_
  refine wj_iload_n C 1 dX5_seed_2 rfl rfl ?_
  refine wj_cif C (wj_rV C dX5_seed_3 km_X5_become kl_X5_75 is_X5 rfl rfl (c_X5_become (j := 2) l V (by decide)) rfl rfl (Nat.le_of_ble_eq_true rfl) (by decide)) ?_
  rw [sp_mq_49, sp_mr_o _ _ (Or.inl rfl), sp_mq_u2]
  exact hR _ _ _ _ _ dX5_seed_6 (sp_rvM rfl rfl rfl) wj_rfl
set_option maxRecDepth 100000 in
set_option maxHeartbeats 4000000 in
theorem c_X5_wipe (l : Launch) (V : wj_V) {σ : wj_St} {A : sp_L} {N y : Nat} (hG : sp_G A N y) (hy : y < 90000) : wj_M l V yX5_wipe cX5_wipe 2 (some .int) 0 0 [.ref (V.2.2.1 48)] (sp_mq σ A) (wj_QI V (fun r u => r = sp_v (Sum.inr (σ 48 7)) ∧ ∃ g, u = sp_mq (wj_r (sp_fw (wj_u σ 48 7 0) (Sum.inr (σ 48 7))) 51 g) A)) := by
  refine wj_ofI (own := RX5) [some (.ref (V.2.2.1 48)), none] (by decide) rfl rfl (Nat.le_of_ble_eq_true rfl) (fun X C hR => ?_)
  refine wj_aload_n C 0 dX5_wipe_0 rfl rfl ?_
  refine wg_X5_229 C dX5_wipe_1 ?_
  rw [sp_mq_o (by decide)]
  refine wj_istore_n C 1 dX5_wipe_4 rfl (by decide) rfl ?_
  dsimp only [List.set]
  refine wj_aload_n C 0 dX5_wipe_5 rfl rfl ?_
  refine wj_iconst (v := 0) C dX5_wipe_6 (by decide) ?_
  refine wp_X5_229 C dX5_wipe_7 ?_
  rw [sp_mq_u9 (by decide)]
  refine wj_iload_n C 1 dX5_wipe_10 rfl rfl ?_
  exact hR _ _ _ _ _ dX5_wipe_11 (sp_rvM rfl rfl rfl) wj_rfl
set_option maxRecDepth 100000 in
set_option maxHeartbeats 4000000 in
theorem c_X5_tear (l : Launch) (V : wj_V) {σ : wj_St} {A : sp_L} {N y : Nat} (hG : sp_G A N y) (hy : y < 90000) : wj_M l V yX5_tear cX5_tear 2 (some .int) 0 0 [.ref (V.2.2.1 48)] (sp_mq σ A) (wj_QI V (fun r u => r = sp_v (Sum.inr (if σ 48 3 = 0 then 0 else 1)) ∧ ∃ g, u = sp_mq (wj_r (sp_fw (wj_u σ 48 3 0) (Sum.inr (if σ 48 3 = 0 then 0 else 1))) 51 g) A)) := by
  refine wj_ofI (own := RX5) [some (.ref (V.2.2.1 48)), none] (by decide) rfl rfl (Nat.le_of_ble_eq_true rfl) (fun X C hR => ?_)
  refine wj_aload_n C 0 dX5_tear_0 rfl rfl ?_
  refine wg_X5_326 C dX5_tear_1 ?_
  rw [sp_mq_o (by decide)]
  refine wj_if_eq C 11 dX5_tear_4 (by decide) (fun h4 => ?_) (fun h4 => ?_)
  · refine wj_iconst (v := 0) C dX5_tear_11 (by decide) ?_
    refine wj_istore_n C 1 dX5_tear_12 rfl (by decide) rfl ?_
    dsimp only [List.set]
    refine wj_aload_n C 0 dX5_tear_13 rfl rfl ?_
    refine wj_iconst (v := 0) C dX5_tear_14 (by decide) ?_
    refine wp_X5_326 C dX5_tear_15 (by first | exact Or.inl rfl | exact Or.inr rfl | assumption) ?_
    rw [sp_mq_u9 (by decide)]
    refine wj_iload_n C 1 dX5_tear_18 rfl rfl ?_
    exact hR _ _ _ _ _ dX5_tear_19 (sp_rvM (by simp [*]) rfl rfl) wj_rfl
  · refine wj_iconst (v := 1) C dX5_tear_7 (by decide) ?_
    refine wj_goto C 12 dX5_tear_8 (by decide) ?_
    refine wj_istore_n C 1 dX5_tear_12 rfl (by decide) rfl ?_
    dsimp only [List.set]
    refine wj_aload_n C 0 dX5_tear_13 rfl rfl ?_
    refine wj_iconst (v := 0) C dX5_tear_14 (by decide) ?_
    refine wp_X5_326 C dX5_tear_15 (by first | exact Or.inl rfl | exact Or.inr rfl | assumption) ?_
    rw [sp_mq_u9 (by decide)]
    refine wj_iload_n C 1 dX5_tear_18 rfl rfl ?_
    exact hR _ _ _ _ _ dX5_tear_19 (sp_rvM (by simp [*]) rfl rfl) wj_rfl
def a_statusM (f : Nat → Int32) (w : Int32) : Sum Nat Int32 := if -1 ≤ w ∧ w ≤ 6 then .inr (f (w + 1).toNatClampNeg) else .inl 0
theorem sp_nm1 {w : Int32} (h : -1 ≤ w ∧ w ≤ 6) : ∃ t, t < 8 ∧ w + 1 = nI t := by
  by_cases e : w = -1
  · exact ⟨0, by decide, by rw [e]; rfl⟩
  · have h0 : 0 ≤ w := by
      have h1 := Int32.le_iff_toInt_le.mp h.1
      rw [Int32.le_iff_toInt_le, Int32.toInt_zero]
      have h2 : w.toInt ≠ -1 := fun q => e (Int32.toInt_inj.mp (by rw [q]; decide))
      rw [show (-1 : Int32).toInt = -1 by decide] at h1
      omega
    obtain ⟨t, ht, rfl⟩ := wj_natC (N := 6) ⟨h0, h.2⟩
    exact ⟨t + 1, by omega, nI_1 t⟩
set_option maxRecDepth 100000 in
set_option maxHeartbeats 4000000 in
theorem c_X5_status (l : Launch) (V : wj_V) {σ : wj_St} {A : sp_L} {N y : Nat} {w : Int32} (hG : sp_G A N y) (hy : y < 90000) : wj_M l V yX5_status cX5_status 2 (some .int) 1 22 [.ref (V.2.2.1 48), .int w] (sp_mq σ A) (wj_QI V (fun r u => r = sp_v (a_statusM (σ 52) w) ∧ ∃ g, u = sp_mq (wj_r (sp_fw σ (a_statusM (σ 52) w)) 51 g) A)) := by
  refine wj_ofI (own := RX5) [some (.ref (V.2.2.1 48)), some (.int w)] (by decide) rfl rfl (Nat.le_of_ble_eq_true rfl) (fun X C hR => ?_)
  refine wj_iload_n C 1 dX5_status_0 rfl rfl ?_
  refine wj_iconst (v := -1) C dX5_status_1 (by decide) ?_
  refine wj_bipush (v := 6) C dX5_status_2 (by decide) ?_
  refine wj_cif C (wj_rS C dX5_status_4 km_X5_within kl_X5_70 (c_X5_within l V) rfl rfl (Nat.le_of_ble_eq_true rfl) (by decide)) ?_
  refine wj_if_eq C 21 dX5_status_7 (by decide) (fun h7 => ?_) (fun h7 => ?_)
  · refine wj_aload_n C 0 dX5_status_21 rfl rfl ?_
    refine wj_ldc C dX5_status_22 kc_X5_60 ?_
    refine wj_cif C (wj_rV C dX5_status_24 km_X5_finding kl_X5_66 is_X5 rfl rfl (c_X5_finding (w := 0) l V (by decide) (by decide)) rfl rfl (Nat.le_of_ble_eq_true rfl) (by decide)) ?_
    exact hR _ _ _ _ _ dX5_status_27 (by first | exact sp_rvM (by rw [a_statusM, if_pos h7a, et, nI_clamp (by omega)]) rfl rfl | exact sp_rfM (by rw [a_statusM, if_neg (wj_c0 h7)]) rfl rfl (by decide)) wj_rfl
  · have h7a := wj_c1 h7
    obtain ⟨t, ht, et⟩ := sp_nm1 h7a
    refine wj_aload_n C 0 dX5_status_10 rfl rfl ?_
    refine wg_X5_19 C dX5_status_11 ?_
    refine wj_iload_n C 1 dX5_status_14 rfl rfl ?_
    refine wj_iconst (v := 1) C dX5_status_15 (by decide) ?_
    refine wj_iadd C dX5_status_16 ?_
    rw [et]
    refine wj_ialdN C dX5_status_17 ar_found ⟨by omega, by decide⟩ ?_
    rw [sp_mq_o (by decide)]
    refine wj_goto C 27 dX5_status_18 (by decide) ?_
    exact hR _ _ _ _ _ dX5_status_27 (by first | exact sp_rvM (by rw [a_statusM, if_pos h7a, et, nI_clamp (by omega)]) rfl rfl | exact sp_rfM (by rw [a_statusM, if_neg (wj_c0 h7)]) rfl rfl (by decide)) wj_rfl

set_option maxRecDepth 100000 in
set_option maxHeartbeats 4000000 in
theorem c_X5_isStrongSo (l : Launch) (V : wj_V) {σ : wj_St} {A : sp_L} {N y : Nat} {t m : Nat} (hG : sp_G A N y) (hy : y < 90000) (ht : t < 4) (hm : σ 56 t = nI m) (h40 : m ≤ 40) : wj_M l V yX5_isStrongSo cX5_isStrongSo 5 (some .boolean) 5 115 [.ref (V.2.2.1 48), .int (nI t)] (sp_mq σ A) (wj_I V (if sp_ss (fun k => σ 57 (40 * t + k)) A (min m 16) = true then 1 else 0) (sp_mq σ A)) := by
  refine wj_ofZ (own := RX5) [some (.ref (V.2.2.1 48)), some (.int (nI t)), none, none, none] (by decide) rfl rfl (Nat.le_of_ble_eq_true rfl) (fun X C hR => ?_)
  have hN8 := hG.2.1
  have lp : ∀ n q j, q ≤ min m 16 → m - q < n → wj_J l V X 4 [some (.ref (V.2.2.1 48)), some (.int (nI t)), some (.int (if sp_ss (fun k => σ 57 (40 * t + k)) A q = true then 1 else 0)), some (.int (nI q)), j] [] (sp_mq σ A) := by
    intro n
    induction n with
    | zero => intro q j _ h; omega
    | succ n ih =>
      intro q j hq hlt9
      refine wj_iload_n C 3 dX5_isStrongSo_4 rfl rfl ?_
      refine wj_aload_n C 0 dX5_isStrongSo_5 rfl rfl ?_
      refine wg_X5_51 C dX5_isStrongSo_6 ?_
      refine wj_iload_n C 1 dX5_isStrongSo_9 rfl rfl ?_
      refine wj_ialdN C dX5_isStrongSo_10 ar_sizes ⟨by omega, by decide⟩ ?_
      rw [sp_mq_o (by decide), hm]
      refine wj_icmp_ge C 65 dX5_isStrongSo_11 (by decide) (fun h11 => ?_) (fun h11 => ?_)
      · have e9 : q = min m 16 := by have := wj_ge (N := m) (by omega) (by omega) h11; omega
        have hr9 : (if sp_ss (fun k => σ 57 (40 * t + k)) A q = true then (1 : Int32) else 0) = if sp_ss (fun k => σ 57 (40 * t + k)) A (min m 16) = true then 1 else 0 := by rw [e9]
        refine wj_iload_n C 2 dX5_isStrongSo_65 rfl rfl ?_
        exact hR _ _ _ _ _ dX5_isStrongSo_66 ⟨wj_nzi, hr9, rfl⟩ wj_rfl
      · have hlt := wj_nge (N := m) (by omega) (by omega) h11
        refine wj_iload_n C 3 dX5_isStrongSo_14 rfl rfl ?_
        refine wj_bipush (v := 16) C dX5_isStrongSo_15 (by decide) ?_
        refine wj_icmp_ge C 65 dX5_isStrongSo_17 (by decide) (fun h17 => ?_) (fun h17 => ?_)
        · have e9 : q = min m 16 := by have := wj_ge (N := 16) (by omega) (by omega) h17; omega
          have hr9 : (if sp_ss (fun k => σ 57 (40 * t + k)) A q = true then (1 : Int32) else 0) = if sp_ss (fun k => σ 57 (40 * t + k)) A (min m 16) = true then 1 else 0 := by rw [e9]
          refine wj_iload_n C 2 dX5_isStrongSo_65 rfl rfl ?_
          exact hR _ _ _ _ _ dX5_isStrongSo_66 ⟨wj_nzi, hr9, rfl⟩ wj_rfl
        · have hlt2 := wj_nge (N := 16) (by omega) (by omega) h17
          refine wj_iload_n C 2 dX5_isStrongSo_20 rfl rfl ?_
          refine wj_if_eq C 65 dX5_isStrongSo_21 (by decide) (fun h21 => ?_) (fun h21 => ?_)
          · have hr9 : (if sp_ss (fun k => σ 57 (40 * t + k)) A q = true then (1 : Int32) else 0) = if sp_ss (fun k => σ 57 (40 * t + k)) A (min m 16) = true then 1 else 0 := by rw [if_neg (wj_c0 h21), if_neg (sp_ss_mo (wj_c0 h21) (min m 16) hq)]
            refine wj_iload_n C 2 dX5_isStrongSo_65 rfl rfl ?_
            exact hR _ _ _ _ _ dX5_isStrongSo_66 ⟨wj_nzi, hr9, rfl⟩ wj_rfl
          · have hb := wj_c1 h21
            refine wj_aload_n C 0 dX5_isStrongSo_24 rfl rfl ?_
            refine wg_X5_54 C dX5_isStrongSo_25 ?_
            refine wj_bipush (v := 40) C dX5_isStrongSo_28 (by decide) ?_
            refine wj_iload_n C 1 dX5_isStrongSo_30 rfl rfl ?_
            refine wj_imul C dX5_isStrongSo_31 ?_
            refine wj_top (y := nI (40 * t)) (pk_mul 40 t) ?_
            refine wj_iload_n C 3 dX5_isStrongSo_32 rfl rfl ?_
            refine wj_iadd C dX5_isStrongSo_33 ?_
            refine wj_top (y := nI (40 * t + q)) (nI_add (40 * t) q) ?_
            refine wj_ialdN C dX5_isStrongSo_34 ar_mnumbers ⟨by omega, by decide⟩ ?_
            rw [sp_mq_o (by decide)]
            refine wj_istore C dX5_isStrongSo_35 (by decide) rfl ?_
            dsimp only [List.set]
            refine wj_iload C dX5_isStrongSo_37 rfl ?_
            refine wj_iconst (v := -1) C dX5_isStrongSo_39 (by decide) ?_
            refine wj_icmp_eq C 53 dX5_isStrongSo_40 (by decide) (fun h40 => ?_) (fun h40 => ?_)
            · refine wj_iconst (v := 1) C dX5_isStrongSo_53 (by decide) ?_
              refine wj_goto C 58 dX5_isStrongSo_54 (by decide) ?_
              refine wj_top (y := if sp_ss (fun k => σ 57 (40 * t + k)) A (q + 1) = true then 1 else 0) (by rw [sp_ss, hb]; first | (rw [decide_eq_true (Or.inl h40)]; rfl) | (rw [decide_eq_true (Or.inr h50)]; rfl) | (rw [decide_eq_false (fun z => z.elim h40 h50)]; rfl)) ?_
              refine wj_istore_n C 2 dX5_isStrongSo_58 rfl (by decide) rfl ?_
              dsimp only [List.set]
              refine wj_iinc C (v := nI (q + 1)) dX5_isStrongSo_59 rfl (wj_i1 q) (by decide) rfl ?_
              dsimp only [List.set]
              refine wj_goto C 4 dX5_isStrongSo_62 (by decide) ?_
              exact ih (q + 1) _ (by omega) (by omega)
            · refine wj_iload C dX5_isStrongSo_43 rfl ?_
              refine wj_aload_n C 0 dX5_isStrongSo_45 rfl rfl ?_
              refine wj_iload_n C 3 dX5_isStrongSo_46 rfl rfl ?_
              refine wj_cif C (wj_rV C dX5_isStrongSo_47 km_X5_strength kl_X5_113 is_X5 rfl rfl (c_X5_strength l V hG (by omega)) rfl rfl (Nat.le_of_ble_eq_true rfl) (by decide)) ?_
              refine wj_icmp_ne C 57 dX5_isStrongSo_50 (by decide) (fun h50 => ?_) (fun h50 => ?_)
              · refine wj_iconst (v := 0) C dX5_isStrongSo_57 (by decide) ?_
                refine wj_top (y := if sp_ss (fun k => σ 57 (40 * t + k)) A (q + 1) = true then 1 else 0) (by rw [sp_ss, hb]; first | (rw [decide_eq_true (Or.inl h40)]; rfl) | (rw [decide_eq_true (Or.inr h50)]; rfl) | (rw [decide_eq_false (fun z => z.elim h40 h50)]; rfl)) ?_
                refine wj_istore_n C 2 dX5_isStrongSo_58 rfl (by decide) rfl ?_
                dsimp only [List.set]
                refine wj_iinc C (v := nI (q + 1)) dX5_isStrongSo_59 rfl (wj_i1 q) (by decide) rfl ?_
                dsimp only [List.set]
                refine wj_goto C 4 dX5_isStrongSo_62 (by decide) ?_
                exact ih (q + 1) _ (by omega) (by omega)
              · refine wj_iconst (v := 1) C dX5_isStrongSo_53 (by decide) ?_
                refine wj_goto C 58 dX5_isStrongSo_54 (by decide) ?_
                refine wj_top (y := if sp_ss (fun k => σ 57 (40 * t + k)) A (q + 1) = true then 1 else 0) (by rw [sp_ss, hb]; first | (rw [decide_eq_true (Or.inl h40)]; rfl) | (rw [decide_eq_true (Or.inr h50)]; rfl) | (rw [decide_eq_false (fun z => z.elim h40 h50)]; rfl)) ?_
                refine wj_istore_n C 2 dX5_isStrongSo_58 rfl (by decide) rfl ?_
                dsimp only [List.set]
                refine wj_iinc C (v := nI (q + 1)) dX5_isStrongSo_59 rfl (wj_i1 q) (by decide) rfl ?_
                dsimp only [List.set]
                refine wj_goto C 4 dX5_isStrongSo_62 (by decide) ?_
                exact ih (q + 1) _ (by omega) (by omega)
  refine wj_iconst (v := 1) C dX5_isStrongSo_0 (by decide) ?_
  refine wj_istore_n C 2 dX5_isStrongSo_1 rfl (by decide) rfl ?_
  dsimp only [List.set]
  refine wj_iconst (v := 0) C dX5_isStrongSo_2 (by decide) ?_
  refine wj_istore_n C 3 dX5_isStrongSo_3 rfl (by decide) rfl ?_
  dsimp only [List.set]
  exact lp (m + 1) 0 _ (by omega) (by omega)
set_option maxRecDepth 100000 in
set_option maxHeartbeats 4000000 in
theorem c_X5_fits (l : Launch) (V : wj_V) {σ : wj_St} {A : sp_L} {N y : Nat} {s x : Int32} (hG : sp_G A N y) (hy : y < 90000) (hH : sp_shok (sp_shM σ)) : wj_M l V yX5_fits cX5_fits 8 (some .int) 6 139 [.ref (V.2.2.1 48), .int s, .int x] (sp_mq σ A) (wj_QI V (fun r u => r = sp_v (a_fits (sp_shM σ) A s x) ∧ ∃ g, u = sp_mq (wj_r (sp_fw σ (a_fits (sp_shM σ) A s x)) 51 g) A)) := by
  refine wj_ofI (own := RX5) [some (.ref (V.2.2.1 48)), some (.int s), some (.int x), none, none, none, none, none] (by decide) rfl rfl (Nat.le_of_ble_eq_true rfl) (fun X C hR => ?_)
  have lp : ∀ t i m P, s = nI t → x = nI i → t < 4 → i < N → (sp_shM σ).2.1 t = nI m → m ≤ 40 → P = (fun v => sp_ss (fun k => σ 57 (40 * t + k)) (sp_us A i 1 (nI v)) (min m 16)) → a_fits (sp_shM σ) A s x = .inr (sp_ors P 16) → ∀ n v z, v ≤ 16 → 16 - v < n → wj_J l V X 43 [some (.ref (V.2.2.1 48)), some (.int (nI t)), some (.int (nI i)), some (.int 0), some (.int (nI (21 + 7 * i + 1))), some (.int (sp_sl A i 1)), some (.int (sp_ors P v)), some (.int (nI v))] [] (sp_mq σ (sp_us A i 1 z)) := by
    intro t i m P hst hxi ht hi0 hm h40 hPd ha n
    subst hst
    subst hxi
    have hN8 := hG.2.1
    induction n with
    | zero => intro v z _ h; omega
    | succ n ih =>
      intro v z hv hlt9
      have hP : P v = sp_ss (fun k => σ 57 (40 * t + k)) (sp_us A i 1 (nI v)) (min m 16) := by rw [hPd]
      refine wj_iload C dX5_fits_43 rfl ?_
      refine wj_bipush (v := 16) C dX5_fits_45 (by decide) ?_
      refine wj_icmp_ge C 86 dX5_fits_47 (by decide) (fun h47 => ?_) (fun h47 => ?_)
      · have e9 : v = 16 := wj_ge (N := 16) (by decide) hv h47
        subst e9
        refine wj_aload_n C 0 dX5_fits_86 rfl rfl ?_
        refine wg_X5_9 C dX5_fits_87 ?_
        refine wj_iload C dX5_fits_90 rfl ?_
        refine wj_iload C dX5_fits_92 rfl ?_
        refine wj_iastN C dX5_fits_94 ar_now ⟨by omega, by decide⟩ ?_
        rw [sp_mq_us (by omega) (by decide), sp_us_ov, sp_us_id]
        refine wj_iload C dX5_fits_95 rfl ?_
        exact hR _ _ _ _ _ dX5_fits_97 (sp_rvM ha rfl rfl) wj_rfl
      · have hlt : v < 16 := wj_nge (N := 16) (by decide) hv h47
        refine wj_aload_n C 0 dX5_fits_50 rfl rfl ?_
        refine wg_X5_9 C dX5_fits_51 ?_
        refine wj_iload C dX5_fits_54 rfl ?_
        refine wj_iload C dX5_fits_56 rfl ?_
        refine wj_iastN C dX5_fits_58 ar_now ⟨by omega, by decide⟩ ?_
        rw [sp_mq_us (by omega) (by decide), sp_us_ov]
        refine wj_iload C dX5_fits_59 rfl ?_
        refine wj_aload_n C 0 dX5_fits_61 rfl rfl ?_
        refine wj_iload_n C 1 dX5_fits_62 rfl rfl ?_
        refine wj_cif C (wj_rV C dX5_fits_63 km_X5_isStrongSo kl_X5_222 is_X5 rfl rfl (c_X5_isStrongSo (m := m) l V (sp_G_fv hG (show sp_fv 1 v from Or.inr (Or.inl ⟨rfl, by omega⟩))) hy ht hm h40) rfl rfl (Nat.le_of_ble_eq_true rfl) (by decide)) ?_
        refine wj_if_eq C 76 dX5_fits_66 (by decide) (fun h66 => ?_) (fun h66 => ?_)
        · have e8 : sp_ors P (v + 1) = sp_ors P v ||| 0 := by rw [sp_ors, hP, if_neg (wj_c0 h66), sp_or0]
          refine wj_iconst (v := 0) C dX5_fits_76 (by decide) ?_
          refine wj_ior C dX5_fits_77 ?_
          refine wj_istore C dX5_fits_78 (by decide) rfl ?_
          dsimp only [List.set]
          refine wj_iinc C (v := nI (v + 1)) dX5_fits_80 rfl (wj_i1 v) (by decide) rfl ?_
          dsimp only [List.set]
          refine wj_goto C 43 dX5_fits_83 (by decide) ?_
          exact (by have hh := ih (v + 1) (nI v) (by omega) (by omega); rw [e8] at hh; exact hh)
        · have e8 : sp_ors P (v + 1) = sp_ors P v ||| ((1 : Int32) <<< (nI v &&& 31)) := by rw [sp_ors, hP, if_pos (wj_c1 h66)]
          refine wj_iconst (v := 1) C dX5_fits_69 (by decide) ?_
          refine wj_iload C dX5_fits_70 rfl ?_
          refine wj_ishl C dX5_fits_72 ?_
          refine wj_goto C 77 dX5_fits_73 (by decide) ?_
          refine wj_ior C dX5_fits_77 ?_
          refine wj_istore C dX5_fits_78 (by decide) rfl ?_
          dsimp only [List.set]
          refine wj_iinc C (v := nI (v + 1)) dX5_fits_80 rfl (wj_i1 v) (by decide) rfl ?_
          dsimp only [List.set]
          refine wj_goto C 43 dX5_fits_83 (by decide) ?_
          exact (by have hh := ih (v + 1) (nI v) (by omega) (by omega); rw [e8] at hh; exact hh)
  refine wj_aload_n C 0 dX5_fits_0 rfl rfl ?_
  refine wj_iload_n C 1 dX5_fits_1 rfl rfl ?_
  refine wj_aload_n C 0 dX5_fits_2 rfl rfl ?_
  refine wj_iload_n C 2 dX5_fits_3 rfl rfl ?_
  refine wj_cif C (wj_rV C dX5_fits_4 km_X5_isSlip kl_X5_146 is_X5 rfl rfl (c_X5_isSlip l V hG.1) rfl rfl (Nat.le_of_ble_eq_true rfl) (by decide)) ?_
  rw [sp_rgO hG.1]
  refine wj_cif C (wj_rV C dX5_fits_7 km_X5_lacks kl_X5_214 is_X5 rfl rfl (c_X5_lacks l V) rfl rfl (Nat.le_of_ble_eq_true rfl) (by decide)) ?_
  rw [sp_shM_q]
  refine wj_istore_n C 3 dX5_fits_10 rfl (by decide) rfl ?_
  dsimp only [List.set]
  refine wj_iload_n C 3 dX5_fits_11 rfl rfl ?_
  refine wj_if_eq C 21 dX5_fits_12 (by decide) (fun h12 => ?_) (fun h12 => ?_)
  · obtain ⟨t, ht, hst, hg, ea⟩ := sp_lk_t h12
    have hrx := wj_c1 hg
    obtain ⟨i, hi0, hxi⟩ := sp_rgi hG.1 hG.2.1 hrx
    obtain ⟨m, h40, hm⟩ := hH t ht
    have hN8 := hG.2.1
    have ha : a_fits (sp_shM σ) A s x = .inr (sp_ors (fun v => sp_ss (fun k => σ 57 (40 * t + k)) (sp_us A i 1 (nI v)) (min m 16)) 16) := ((sp_lk_if (c := sp_rg A x)).symm.trans (ea _)).trans (by rw [hst, hxi, nI_clamp (by omega), nI_clamp (by omega), hm, nI_clamp (by omega)]; rfl)
    rw [h12]
    subst hst
    subst hxi
    refine wj_iload_n C 2 dX5_fits_21 rfl rfl ?_
    refine wj_iconst (v := 1) C dX5_fits_22 (by decide) ?_
    refine wj_cif C (wj_rS C dX5_fits_23 km_X5_slipAt kl_X5_79 (c_X5_slipAt (f := 1) l V) rfl rfl (Nat.le_of_ble_eq_true rfl) (by decide)) ?_
    refine wj_istore C dX5_fits_26 (by decide) rfl ?_
    dsimp only [List.set]
    refine wj_aload_n C 0 dX5_fits_28 rfl rfl ?_
    refine wg_X5_9 C dX5_fits_29 ?_
    refine wj_iload C dX5_fits_32 rfl ?_
    refine wj_ialdN C dX5_fits_34 ar_now ⟨by omega, by decide⟩ ?_
    rw [sp_mq_49, sp_mr_s _ _ (by omega) (by decide)]
    refine wj_istore C dX5_fits_35 (by decide) rfl ?_
    dsimp only [List.set]
    rw [show sp_mq σ A = sp_mq σ (sp_us A i 1 (sp_sl A i 1)) by rw [sp_us_id]]
    refine wj_iconst (v := 0) C dX5_fits_37 (by decide) ?_
    refine wj_istore C dX5_fits_38 (by decide) rfl ?_
    dsimp only [List.set]
    refine wj_iconst (v := 0) C dX5_fits_40 (by decide) ?_
    refine wj_istore C dX5_fits_41 (by decide) rfl ?_
    dsimp only [List.set]
    exact lp t i m _ rfl rfl ht hi0 hm h40 rfl ha 17 0 _ (by omega) (by omega)
  · obtain ⟨w, hw, eL, ea⟩ := sp_lk_f h12
    have ha : a_fits (sp_shM σ) A s x = .inl w := (sp_lk_if (c := sp_rg A x)).symm.trans (ea _)
    refine wj_aload_n C 0 dX5_fits_15 rfl rfl ?_
    refine wj_iload_n C 3 dX5_fits_16 rfl rfl ?_
    refine wj_cif C (wj_rV C dX5_fits_17 km_X5_finding kl_X5_66 is_X5 rfl rfl (c_X5_finding (w := w) l V hw eL) rfl rfl (Nat.le_of_ble_eq_true rfl) (by decide)) ?_
    exact hR _ _ _ _ _ dX5_fits_20 (sp_rfM ha rfl rfl eL) wj_rfl
theorem sp_nl {H : sp_Sh} {A : sp_L} {s : Int32} {w : Nat} (h : a_load H s = .inl w) : n_load H A s = A := by
  unfold a_load at h
  unfold n_load
  split
  · rename_i h1
    rw [if_pos h1] at h
    split
    · rfl
    · rename_i h2
      rw [if_neg h2] at h
      exact absurd h (by simp)
  · rfl
theorem sp_nl2 {H : sp_Sh} {A : sp_L} {s v : Int32} (h : a_load H s = .inr v) : n_load H A s = sp_ldl A (H.2.2 s.toNatClampNeg) (sp_ld (H.2.2 s.toNatClampNeg) (H.2.1 s.toNatClampNeg).toNatClampNeg) := by
  unfold a_load at h
  unfold n_load
  split
  · rename_i h1
    rw [if_pos h1] at h
    split
    · rename_i h2
      rw [if_pos h2] at h
      exact absurd h (by simp)
    · rfl
  · rename_i h1
    rw [if_neg h1] at h
    exact absurd h (by simp)
set_option maxRecDepth 100000 in
set_option maxHeartbeats 4000000 in
theorem c_X5_load (l : Launch) (V : wj_V) {σ : wj_St} {A : sp_L} {N y : Nat} {s : Int32} (hG : sp_G A N y) (hy : y < 90000) (hH : sp_shok (sp_shM σ)) : wj_M l V yX5_load cX5_load 3 (some .int) 3 64 [.ref (V.2.2.1 48), .int s] (sp_mq σ A) (wj_QI V (fun r u => r = sp_v (a_load (sp_shM σ) s) ∧ ∃ g, u = sp_mq (wj_r (sp_fw σ (a_load (sp_shM σ) s)) 51 g) (n_load (sp_shM σ) A s))) := by
  refine wj_ofI (own := RX5) [some (.ref (V.2.2.1 48)), some (.int s), none] (by decide) rfl rfl (Nat.le_of_ble_eq_true rfl) (fun X C hR => ?_)
  have lp : ∀ t m, s = nI t → t < 4 → (sp_shM σ).2.1 t = nI m → m ≤ 40 → a_load (sp_shM σ) s = .inr (nI (sp_ld (fun k => σ 57 (40 * t + k)) m)) → n_load (sp_shM σ) A s = sp_ldl A (fun k => σ 57 (40 * t + k)) (sp_ld (fun k => σ 57 (40 * t + k)) m) → ∀ n q, q ≤ min m 6 → 6 - q < n → (∀ k, k < q → sp_ldp (fun k => σ 57 (40 * t + k)) k = false) → wj_J l V X 22 [some (.ref (V.2.2.1 48)), some (.int (nI t)), some (.int (nI q))] [] (sp_mq σ (sp_ldl A (fun k => σ 57 (40 * t + k)) q)) := by
    intro t m hst ht hm h40 ha hn9 n
    subst hst
    induction n with
    | zero => intro q _ h _; omega
    | succ n ih =>
      intro q hq hlt9 hno
      refine wj_iload_n C 2 dX5_load_22 rfl rfl ?_
      refine wj_aload_n C 0 dX5_load_23 rfl rfl ?_
      refine wg_X5_51 C dX5_load_24 ?_
      refine wj_iload_n C 1 dX5_load_27 rfl rfl ?_
      refine wj_ialdN C dX5_load_28 ar_sizes ⟨by omega, by decide⟩ ?_
      rw [sp_mq_o (by decide), show σ 56 t = nI m from hm]
      refine wj_icmp_ge C 84 dX5_load_29 (by decide) (fun h29 => ?_) (fun h29 => ?_)
      · have e9 : q = min m 6 := by have := wj_ge (N := m) (by omega) (by omega) h29; omega
        have ef : sp_ld (fun k => σ 57 (40 * t + k)) m = q := by rw [sp_ld, e9]; exact fa_first_none (e9 ▸ hno)
        refine wj_iload_n C 2 dX5_load_84 rfl rfl ?_
        exact hR _ _ _ _ _ dX5_load_85 (sp_rvM (by rw [ha, ef]) (by rw [hn9, ef]) rfl) wj_rfl
      · have hlt2 := wj_nge (N := m) (by omega) (by omega) h29
        refine wj_iload_n C 2 dX5_load_32 rfl rfl ?_
        refine wj_bipush (v := 6) C dX5_load_33 (by decide) ?_
        refine wj_icmp_ge C 84 dX5_load_35 (by decide) (fun h35 => ?_) (fun h35 => ?_)
        · have e9 : q = min m 6 := by have := wj_ge (N := 6) (by decide) (by omega) h35; omega
          have ef : sp_ld (fun k => σ 57 (40 * t + k)) m = q := by rw [sp_ld, e9]; exact fa_first_none (e9 ▸ hno)
          refine wj_iload_n C 2 dX5_load_84 rfl rfl ?_
          exact hR _ _ _ _ _ dX5_load_85 (sp_rvM (by rw [ha, ef]) (by rw [hn9, ef]) rfl) wj_rfl
        · have hlt := wj_nge (N := 6) (by decide) (by omega) h35
          refine wj_aload_n C 0 dX5_load_38 rfl rfl ?_
          refine wg_X5_54 C dX5_load_39 ?_
          refine wj_bipush (v := 40) C dX5_load_42 (by decide) ?_
          refine wj_iload_n C 1 dX5_load_44 rfl rfl ?_
          refine wj_imul C dX5_load_45 ?_
          refine wj_top (y := nI (40 * t)) (pk_mul 40 t) ?_
          refine wj_iload_n C 2 dX5_load_46 rfl rfl ?_
          refine wj_iadd C dX5_load_47 ?_
          refine wj_top (y := nI (40 * t + q)) (nI_add (40 * t) q) ?_
          refine wj_ialdN C dX5_load_48 ar_mnumbers ⟨by omega, by decide⟩ ?_
          rw [sp_mq_o (by decide)]
          refine wj_iconst (v := 0) C dX5_load_49 (by decide) ?_
          refine wj_sipush (v := 1599) C dX5_load_50 (by decide) ?_
          refine wj_cif C (wj_rS C dX5_load_53 km_X5_within kl_X5_70 (c_X5_within l V) rfl rfl (Nat.le_of_ble_eq_true rfl) (by decide)) ?_
          refine wj_if_eq C 84 dX5_load_56 (by decide) (fun h56 => ?_) (fun h56 => ?_)
          · have ef : sp_ld (fun k => σ 57 (40 * t + k)) m = q := fa_first_is hno (decide_eq_true (wj_c0 h56)) (by omega)
            refine wj_iload_n C 2 dX5_load_84 rfl rfl ?_
            exact hR _ _ _ _ _ dX5_load_85 (sp_rvM (by rw [ha, ef]) (by rw [hn9, ef]) rfl) wj_rfl
          · have hp : sp_ldp (fun k => σ 57 (40 * t + k)) q = false := decide_eq_false (fun z => z (wj_c1 h56))
            refine wj_aload_n C 0 dX5_load_59 rfl rfl ?_
            refine wg_X5_9 C dX5_load_60 ?_
            refine wj_iconst (v := 5) C dX5_load_63 (by decide) ?_
            refine wj_iload_n C 2 dX5_load_64 rfl rfl ?_
            refine wj_iadd C dX5_load_65 ?_
            refine wj_top (y := nI (5 + q)) (nI_add 5 q) ?_
            refine wj_aload_n C 0 dX5_load_66 rfl rfl ?_
            refine wg_X5_54 C dX5_load_67 ?_
            refine wj_bipush (v := 40) C dX5_load_70 (by decide) ?_
            refine wj_iload_n C 1 dX5_load_72 rfl rfl ?_
            refine wj_imul C dX5_load_73 ?_
            refine wj_top (y := nI (40 * t)) (pk_mul 40 t) ?_
            refine wj_iload_n C 2 dX5_load_74 rfl rfl ?_
            refine wj_iadd C dX5_load_75 ?_
            refine wj_top (y := nI (40 * t + q)) (nI_add (40 * t) q) ?_
            refine wj_ialdN C dX5_load_76 ar_mnumbers ⟨by omega, by decide⟩ ?_
            rw [sp_mq_o (by decide)]
            refine wj_iastN C dX5_load_77 ar_now ⟨by omega, by decide⟩ ?_
            rw [sp_mq_ul (by omega)]
            have el := sp_ldl_s (A := A) (g := (fun k => σ 57 (40 * t + k))) (q := q)
            rw [show σ 57 (40 * t + q) = (fun k => σ 57 (40 * t + k)) q from rfl, el]
            refine wj_iinc C (v := nI (q + 1)) dX5_load_78 rfl (wj_i1 q) (by decide) rfl ?_
            dsimp only [List.set]
            refine wj_goto C 22 dX5_load_81 (by decide) ?_
            exact ih (q + 1) (by omega) (by omega) (sp_nxt hno hp)
  refine wj_aload_n C 0 dX5_load_0 rfl rfl ?_
  refine wj_iload_n C 1 dX5_load_1 rfl rfl ?_
  refine wj_iconst (v := 1) C dX5_load_2 (by decide) ?_
  refine wj_cif C (wj_rV C dX5_load_3 km_X5_lacks kl_X5_214 is_X5 rfl rfl (c_X5_lacks l V) rfl rfl (Nat.le_of_ble_eq_true rfl) (by decide)) ?_
  rw [sp_shM_q]
  refine wj_if_eq C 20 dX5_load_6 (by decide) (fun h6 => ?_) (fun h6 => ?_)
  · obtain ⟨t, ht, hst, hg, ea⟩ := sp_lk_t h6
    obtain ⟨m, h40, hm⟩ := hH t ht
    have ha : a_load (sp_shM σ) s = .inr (nI (sp_ld (fun k => σ 57 (40 * t + k)) m)) := (sp_lk_1.symm.trans (ea _)).trans (by rw [hst, nI_clamp (by omega), hm, nI_clamp (by omega)]; rfl)
    have hn9 : n_load (sp_shM σ) A s = sp_ldl A (fun k => σ 57 (40 * t + k)) (sp_ld (fun k => σ 57 (40 * t + k)) m) := (sp_nl2 ha).trans (by rw [hst, nI_clamp (by omega), hm, nI_clamp (by omega)]; rfl)
    subst hst
    refine wj_iconst (v := 0) C dX5_load_20 (by decide) ?_
    refine wj_istore_n C 2 dX5_load_21 rfl (by decide) rfl ?_
    dsimp only [List.set]
    exact (by have hh := lp t m rfl ht hm h40 ha hn9 7 0 (Nat.zero_le _) (by omega) (fun k hk => absurd hk (by omega)); rw [sp_ldl_0] at hh; exact hh)
  · obtain ⟨w, hw, eL, ea⟩ := sp_lk_f h6
    have ha : a_load (sp_shM σ) s = .inl w := sp_lk_1.symm.trans (ea _)
    have hn9 : n_load (sp_shM σ) A s = A := sp_nl ha
    refine wj_aload_n C 0 dX5_load_9 rfl rfl ?_
    refine wj_aload_n C 0 dX5_load_10 rfl rfl ?_
    refine wj_iload_n C 1 dX5_load_11 rfl rfl ?_
    refine wj_iconst (v := 1) C dX5_load_12 (by decide) ?_
    refine wj_cif C (wj_rV C dX5_load_13 km_X5_lacks kl_X5_214 is_X5 rfl rfl (c_X5_lacks l V) rfl rfl (Nat.le_of_ble_eq_true rfl) (by decide)) ?_
    rw [sp_shM_q]
    refine wj_cif C (wj_rV C dX5_load_16 km_X5_finding kl_X5_66 is_X5 rfl rfl (c_X5_finding (w := w) l V hw eL) rfl rfl (Nat.le_of_ble_eq_true rfl) (by decide)) ?_
    exact hR _ _ _ _ _ dX5_load_19 (sp_rfM ha hn9 rfl eL) wj_rfl
set_option maxRecDepth 100000 in
set_option maxHeartbeats 4000000 in
theorem c_X5_judge (l : Launch) (V : wj_V) {σ : wj_St} {A : sp_L} {N y : Nat} {s : Int32} (hG : sp_G A N y) (hy : y < 90000) (hH : sp_shok (sp_shM σ)) : wj_M l V yX5_judge cX5_judge 3 (some .int) 3 64 [.ref (V.2.2.1 48), .int s] (sp_mq σ A) (wj_QI V (fun r u => r = sp_v (a_judge (sp_shM σ) A s) ∧ ∃ g, u = sp_mq (wj_r (sp_fw σ (a_judge (sp_shM σ) A s)) 51 g) A)) := by
  refine wj_ofI (own := RX5) [some (.ref (V.2.2.1 48)), some (.int s), none] (by decide) rfl rfl (Nat.le_of_ble_eq_true rfl) (fun X C hR => ?_)
  have lp : ∀ t m, s = nI t → t < 4 → (sp_shM σ).2.1 t = nI m → m ≤ 40 → a_judge (sp_shM σ) A s = .inr (sp_jd A (fun k => σ 57 (40 * t + k)) m) → ∀ n q, q ≤ m → m - q < n → (∀ k, k < q → sp_jp A (fun k => σ 57 (40 * t + k)) k = false) → wj_J l V X 22 [some (.ref (V.2.2.1 48)), some (.int (nI t)), some (.int (nI q))] [] (sp_mq σ A) := by
    intro t m hst ht hm h40 ha n
    subst hst
    induction n with
    | zero => intro q _ h _; omega
    | succ n ih =>
      intro q hq hlt9 hno
      refine wj_iload_n C 2 dX5_judge_22 rfl rfl ?_
      refine wj_aload_n C 0 dX5_judge_23 rfl rfl ?_
      refine wg_X5_51 C dX5_judge_24 ?_
      refine wj_iload_n C 1 dX5_judge_27 rfl rfl ?_
      refine wj_ialdN C dX5_judge_28 ar_sizes ⟨by omega, by decide⟩ ?_
      rw [sp_mq_o (by decide), show σ 56 t = nI m from hm]
      refine wj_icmp_ge C 66 dX5_judge_29 (by decide) (fun h29 => ?_) (fun h29 => ?_)
      · have e9 := wj_ge (N := m) (by omega) hq h29
        have hv : fa_first (sp_jp A (fun k => σ 57 (40 * t + k))) m = q := by rw [e9]; exact fa_first_none (e9 ▸ hno)
        refine wj_iload_n C 2 dX5_judge_66 rfl rfl ?_
        refine wj_aload_n C 0 dX5_judge_67 rfl rfl ?_
        refine wg_X5_51 C dX5_judge_68 ?_
        refine wj_iload_n C 1 dX5_judge_71 rfl rfl ?_
        refine wj_ialdN C dX5_judge_72 ar_sizes ⟨by omega, by decide⟩ ?_
        rw [sp_mq_o (by decide), show σ 56 t = nI m from hm]
        refine wj_icmp_ne C 80 dX5_judge_73 (by decide) (fun h73 => ?_) (fun h73 => ?_)
        · have hr9 : nI (1 + q) = sp_jd A (fun k => σ 57 (40 * t + k)) m := by rw [sp_jd, hv, if_neg (fun z => h73 (by rw [z]))]
          refine wj_iconst (v := 1) C dX5_judge_80 (by decide) ?_
          refine wj_iload_n C 2 dX5_judge_81 rfl rfl ?_
          refine wj_iadd C dX5_judge_82 ?_
          refine wj_top (y := sp_jd A (fun k => σ 57 (40 * t + k)) m) (by first | exact hr9 | (rw [show (1 : Int32) = nI 1 from rfl, nI_add]; exact hr9)) ?_
          exact hR _ _ _ _ _ dX5_judge_83 (sp_rvM ha rfl rfl) wj_rfl
        · have hr9 : 0 = sp_jd A (fun k => σ 57 (40 * t + k)) m := by
            rw [sp_jd, hv, if_pos]
            have := congrArg Int32.toInt h73
            rw [nI_toInt (by omega), nI_toInt (by omega)] at this
            omega
          refine wj_iconst (v := 0) C dX5_judge_76 (by decide) ?_
          refine wj_goto C 83 dX5_judge_77 (by decide) ?_
          refine wj_top (y := sp_jd A (fun k => σ 57 (40 * t + k)) m) (by first | exact hr9 | (rw [show (1 : Int32) = nI 1 from rfl, nI_add]; exact hr9)) ?_
          exact hR _ _ _ _ _ dX5_judge_83 (sp_rvM ha rfl rfl) wj_rfl
      · have hlt := wj_nge (N := m) (by omega) hq h29
        refine wj_aload_n C 0 dX5_judge_32 rfl rfl ?_
        refine wj_iload_n C 2 dX5_judge_33 rfl rfl ?_
        refine wj_cif C (wj_rV C dX5_judge_34 km_X5_isSlip kl_X5_146 is_X5 rfl rfl (c_X5_isSlip l V hG.1) rfl rfl (Nat.le_of_ble_eq_true rfl) (by decide)) ?_
        rw [sp_rgO hG.1]
        refine wj_if_eq C 66 dX5_judge_37 (by decide) (fun h37 => ?_) (fun h37 => ?_)
        · have hp : sp_jp A (fun k => σ 57 (40 * t + k)) q = true := decide_eq_true (fun z => wj_c0 h37 (sp_rgN hG.1 hG.2.1 (by rw [← sp_N_of hG.1 hG.2.1]; exact z.1)))
          have hv := fa_first_is hno hp hlt
          refine wj_iload_n C 2 dX5_judge_66 rfl rfl ?_
          refine wj_aload_n C 0 dX5_judge_67 rfl rfl ?_
          refine wg_X5_51 C dX5_judge_68 ?_
          refine wj_iload_n C 1 dX5_judge_71 rfl rfl ?_
          refine wj_ialdN C dX5_judge_72 ar_sizes ⟨by omega, by decide⟩ ?_
          rw [sp_mq_o (by decide), show σ 56 t = nI m from hm]
          refine wj_icmp_ne C 80 dX5_judge_73 (by decide) (fun h73 => ?_) (fun h73 => ?_)
          · have hr9 : nI (1 + q) = sp_jd A (fun k => σ 57 (40 * t + k)) m := by rw [sp_jd, hv, if_neg (fun z => h73 (by rw [z]))]
            refine wj_iconst (v := 1) C dX5_judge_80 (by decide) ?_
            refine wj_iload_n C 2 dX5_judge_81 rfl rfl ?_
            refine wj_iadd C dX5_judge_82 ?_
            refine wj_top (y := sp_jd A (fun k => σ 57 (40 * t + k)) m) (by first | exact hr9 | (rw [show (1 : Int32) = nI 1 from rfl, nI_add]; exact hr9)) ?_
            exact hR _ _ _ _ _ dX5_judge_83 (sp_rvM ha rfl rfl) wj_rfl
          · have hr9 : 0 = sp_jd A (fun k => σ 57 (40 * t + k)) m := by
              rw [sp_jd, hv, if_pos]
              have := congrArg Int32.toInt h73
              rw [nI_toInt (by omega), nI_toInt (by omega)] at this
              omega
            refine wj_iconst (v := 0) C dX5_judge_76 (by decide) ?_
            refine wj_goto C 83 dX5_judge_77 (by decide) ?_
            refine wj_top (y := sp_jd A (fun k => σ 57 (40 * t + k)) m) (by first | exact hr9 | (rw [show (1 : Int32) = nI 1 from rfl, nI_add]; exact hr9)) ?_
            exact hR _ _ _ _ _ dX5_judge_83 (sp_rvM ha rfl rfl) wj_rfl
        · have hq8 : q < N := by
            obtain ⟨j, hj, hqj⟩ := sp_rgi hG.1 hG.2.1 (wj_c1 h37)
            have hN8 := hG.2.1
            have := congrArg Int32.toInt hqj
            rw [nI_toInt (by omega), nI_toInt (by omega)] at this
            omega
          have hN8 := hG.2.1
          refine wj_aload_n C 0 dX5_judge_40 rfl rfl ?_
          refine wg_X5_54 C dX5_judge_41 ?_
          refine wj_bipush (v := 40) C dX5_judge_44 (by decide) ?_
          refine wj_iload_n C 1 dX5_judge_46 rfl rfl ?_
          refine wj_imul C dX5_judge_47 ?_
          refine wj_top (y := nI (40 * t)) (pk_mul 40 t) ?_
          refine wj_iload_n C 2 dX5_judge_48 rfl rfl ?_
          refine wj_iadd C dX5_judge_49 ?_
          refine wj_top (y := nI (40 * t + q)) (nI_add (40 * t) q) ?_
          refine wj_ialdN C dX5_judge_50 ar_mnumbers ⟨by omega, by decide⟩ ?_
          rw [sp_mq_o (by decide)]
          refine wj_aload_n C 0 dX5_judge_51 rfl rfl ?_
          refine wj_iload_n C 2 dX5_judge_52 rfl rfl ?_
          refine wj_iconst (v := 3) C dX5_judge_53 (by decide) ?_
          refine wj_cif C (wj_rV C dX5_judge_54 km_X5_slipIs kl_X5_82 is_X5 rfl rfl (c_X5_slipIs (f := 3) l V (by omega) (by decide)) rfl rfl (Nat.le_of_ble_eq_true rfl) (by decide)) ?_
          refine wj_icmp_ne C 66 dX5_judge_57 (by decide) (fun h57 => ?_) (fun h57 => ?_)
          · have hp : sp_jp A (fun k => σ 57 (40 * t + k)) q = true := decide_eq_true (fun z => h57 z.2.symm)
            have hv := fa_first_is hno hp hlt
            refine wj_iload_n C 2 dX5_judge_66 rfl rfl ?_
            refine wj_aload_n C 0 dX5_judge_67 rfl rfl ?_
            refine wg_X5_51 C dX5_judge_68 ?_
            refine wj_iload_n C 1 dX5_judge_71 rfl rfl ?_
            refine wj_ialdN C dX5_judge_72 ar_sizes ⟨by omega, by decide⟩ ?_
            rw [sp_mq_o (by decide), show σ 56 t = nI m from hm]
            refine wj_icmp_ne C 80 dX5_judge_73 (by decide) (fun h73 => ?_) (fun h73 => ?_)
            · have hr9 : nI (1 + q) = sp_jd A (fun k => σ 57 (40 * t + k)) m := by rw [sp_jd, hv, if_neg (fun z => h73 (by rw [z]))]
              refine wj_iconst (v := 1) C dX5_judge_80 (by decide) ?_
              refine wj_iload_n C 2 dX5_judge_81 rfl rfl ?_
              refine wj_iadd C dX5_judge_82 ?_
              refine wj_top (y := sp_jd A (fun k => σ 57 (40 * t + k)) m) (by first | exact hr9 | (rw [show (1 : Int32) = nI 1 from rfl, nI_add]; exact hr9)) ?_
              exact hR _ _ _ _ _ dX5_judge_83 (sp_rvM ha rfl rfl) wj_rfl
            · have hr9 : 0 = sp_jd A (fun k => σ 57 (40 * t + k)) m := by
                rw [sp_jd, hv, if_pos]
                have := congrArg Int32.toInt h73
                rw [nI_toInt (by omega), nI_toInt (by omega)] at this
                omega
              refine wj_iconst (v := 0) C dX5_judge_76 (by decide) ?_
              refine wj_goto C 83 dX5_judge_77 (by decide) ?_
              refine wj_top (y := sp_jd A (fun k => σ 57 (40 * t + k)) m) (by first | exact hr9 | (rw [show (1 : Int32) = nI 1 from rfl, nI_add]; exact hr9)) ?_
              exact hR _ _ _ _ _ dX5_judge_83 (sp_rvM ha rfl rfl) wj_rfl
          · have hp : sp_jp A (fun k => σ 57 (40 * t + k)) q = false := decide_eq_false (fun z => z ⟨by rw [sp_N_of hG.1 hG.2.1]; exact hq8, h57.symm⟩)
            refine wj_iinc C (v := nI (q + 1)) dX5_judge_60 rfl (wj_i1 q) (by decide) rfl ?_
            dsimp only [List.set]
            refine wj_goto C 22 dX5_judge_63 (by decide) ?_
            exact ih (q + 1) (by omega) (by omega) (sp_nxt hno hp)
  refine wj_aload_n C 0 dX5_judge_0 rfl rfl ?_
  refine wj_iload_n C 1 dX5_judge_1 rfl rfl ?_
  refine wj_iconst (v := 1) C dX5_judge_2 (by decide) ?_
  refine wj_cif C (wj_rV C dX5_judge_3 km_X5_lacks kl_X5_214 is_X5 rfl rfl (c_X5_lacks l V) rfl rfl (Nat.le_of_ble_eq_true rfl) (by decide)) ?_
  rw [sp_shM_q]
  refine wj_if_eq C 20 dX5_judge_6 (by decide) (fun h6 => ?_) (fun h6 => ?_)
  · obtain ⟨t, ht, hst, hg, ea⟩ := sp_lk_t h6
    obtain ⟨m, h40, hm⟩ := hH t ht
    have ha : a_judge (sp_shM σ) A s = .inr (sp_jd A (fun k => σ 57 (40 * t + k)) m) := (sp_lk_1.symm.trans (ea _)).trans (by rw [hst, nI_clamp (by omega), hm, nI_clamp (by omega)]; rfl)
    subst hst
    refine wj_iconst (v := 0) C dX5_judge_20 (by decide) ?_
    refine wj_istore_n C 2 dX5_judge_21 rfl (by decide) rfl ?_
    dsimp only [List.set]
    exact lp t m rfl ht hm h40 ha (m + 1) 0 (by omega) (by omega) (fun k hk => absurd hk (by omega))
  · obtain ⟨w, hw, eL, ea⟩ := sp_lk_f h6
    have ha : a_judge (sp_shM σ) A s = .inl w := sp_lk_1.symm.trans (ea _)
    refine wj_aload_n C 0 dX5_judge_9 rfl rfl ?_
    refine wj_aload_n C 0 dX5_judge_10 rfl rfl ?_
    refine wj_iload_n C 1 dX5_judge_11 rfl rfl ?_
    refine wj_iconst (v := 1) C dX5_judge_12 (by decide) ?_
    refine wj_cif C (wj_rV C dX5_judge_13 km_X5_lacks kl_X5_214 is_X5 rfl rfl (c_X5_lacks l V) rfl rfl (Nat.le_of_ble_eq_true rfl) (by decide)) ?_
    rw [sp_shM_q]
    refine wj_cif C (wj_rV C dX5_judge_16 km_X5_finding kl_X5_66 is_X5 rfl rfl (c_X5_finding (w := w) l V hw eL) rfl rfl (Nat.le_of_ble_eq_true rfl) (by decide)) ?_
    exact hR _ _ _ _ _ dX5_judge_19 (sp_rfM ha rfl rfl eL) wj_rfl

set_option maxRecDepth 100000 in
set_option maxHeartbeats 4000000 in
theorem c_X5_leans (l : Launch) (V : wj_V) {σ : wj_St} {A : sp_L} {N y : Nat} {nn : Int32} (hG : sp_G A N y) (hy : y < 90000) (hc : σ 48 5 = 0) : wj_M l V yX5_leans cX5_leans 4 (some .int) 7 160 [.ref (V.2.2.1 48), .int nn] (sp_mq σ A) (wj_QI V (fun r u => r = sp_v (a_leans (σ 49 2) A nn) ∧ ∃ g, u = sp_mq (wj_r (sp_fw (wj_u σ 49 2 (z_leans (σ 49 2) A nn)) (a_leans (σ 49 2) A nn)) 51 g) (n_leans (σ 49 2) A nn))) := by
  refine wj_ofI (own := RX5) [some (.ref (V.2.2.1 48)), some (.int nn), none, none] (by decide) rfl rfl (Nat.le_of_ble_eq_true rfl) (fun X C hR => ?_)
  have lp : ∀ m, nn = nI m → m ≤ 20 → 1 ≤ m → ∀ n t j, t ≤ m → m - t < n → wj_J l V X 39 [some (.ref (V.2.2.1 48)), some (.int (nI m)), some (.int (nI t)), j] [] (sp_mq (wj_u σ 49 2 (sp_lz (σ 49 2) A t).1) (sp_lz (σ 49 2) A t).2) := by
    intro m hn2 hm h1m n
    subst hn2
    have hok : (1 : Int32) ≤ nI m ∧ nI m ≤ 20 := ⟨nI_le (a := 1) (b := m) (by omega) (by omega), nI_le (a := m) (b := 20) (by omega) (by omega)⟩
    induction n with
    | zero => intro t j _ h; omega
    | succ n ih =>
      intro t j hi hlt9
      refine wj_iload_n C 2 dX5_leans_39 rfl rfl ?_
      refine wj_iload_n C 1 dX5_leans_40 rfl rfl ?_
      refine wj_icmp_ge C 90 dX5_leans_41 (by decide) (fun h41 => ?_) (fun h41 => ?_)
      · have e9 := wj_ge (N := m) (by omega) hi h41
        subst e9
        refine wj_aload_n C 0 dX5_leans_90 rfl rfl ?_
        refine wj_cif C (wj_rV C dX5_leans_91 km_X5_gaps kl_X5_122 is_X5 rfl rfl (c_X5_gaps l V (sp_lz_G (z := σ 49 2) hG t)) rfl rfl (Nat.le_of_ble_eq_true rfl) (by decide)) ?_
        exact hR _ _ _ _ _ dX5_leans_94 (sp_rvM (by rw [a_leans, if_pos hok, nI_clamp (by omega)]) (by rw [n_leans, if_pos hok, nI_clamp (by omega)]) (by rw [z_leans, if_pos hok, nI_clamp (by omega)])) wj_rfl
      · have hlt := wj_nge (N := m) (by omega) hi h41
        refine wj_aload_n C 0 dX5_leans_44 rfl rfl ?_
        refine wj_cif C (wj_rV C dX5_leans_45 km_X5_drawn kl_X5_226 is_X5 rfl rfl (c_X5_drawn l V) rfl rfl (Nat.le_of_ble_eq_true rfl) (by decide)) ?_
        rw [sp_mq_49, sp_mr_o _ _ (Or.inl rfl), wj_u_same, sp_mq_u2, wj_u_u]
        refine wj_top (y := sp_du (sp_dr (sp_lz (σ 49 2) A t).1)) (by simp [upd, sp_du, sp_dr]) ?_
        rw [show upd (σ 49) 2 (sp_lz (σ 49 2) A t).1 2 * 1103515245 + 12345 = sp_dr (sp_lz (σ 49 2) A t).1 by simp [upd, sp_dr]]
        refine wj_bipush (v := 16) C dX5_leans_48 (by decide) ?_
        refine wj_irem C dX5_leans_50 (by decide) ?_
        refine wj_istore_n C 3 dX5_leans_51 rfl (by decide) rfl ?_
        dsimp only [List.set]
        refine wj_aload_n C 0 dX5_leans_52 rfl rfl ?_
        refine wg_X5_9 C dX5_leans_53 ?_
        refine wj_iconst (v := 5) C dX5_leans_56 (by decide) ?_
        refine wj_aload_n C 0 dX5_leans_57 rfl rfl ?_
        refine wg_X5_9 C dX5_leans_58 ?_
        refine wj_iconst (v := 0) C dX5_leans_61 (by decide) ?_
        refine wj_ialdN C dX5_leans_62 ar_now ⟨by decide, by decide⟩ ?_
        rw [sp_mq_49, sp_mr_0, (sp_lz_G (z := σ 49 2) hG t).2.2.1]
        refine wj_bipush (v := 6) C dX5_leans_63 (by decide) ?_
        refine wj_irem C dX5_leans_65 (by decide) ?_
        refine wj_top (y := nI ((y + t) % 6)) (by rw [show (6 : Int32) = nI 6 from rfl, pk_rem (by omega) (by decide) (by decide)]) ?_
        refine wj_iadd C dX5_leans_66 ?_
        refine wj_top (y := nI (5 + (y + t) % 6)) (nI_add 5 _) ?_
        refine wj_bipush (v := 100) C dX5_leans_67 (by decide) ?_
        refine wj_iload_n C 3 dX5_leans_69 rfl rfl ?_
        refine wj_imul C dX5_leans_70 ?_
        refine wj_aload_n C 0 dX5_leans_71 rfl rfl ?_
        refine wj_cif C (wj_rV C dX5_leans_72 km_X5_drawn kl_X5_226 is_X5 rfl rfl (c_X5_drawn l V) rfl rfl (Nat.le_of_ble_eq_true rfl) (by decide)) ?_
        rw [sp_mq_49, sp_mr_o _ _ (Or.inl rfl), wj_u_same, sp_mq_u2, wj_u_u]
        refine wj_top (y := sp_du (sp_dr (sp_dr (sp_lz (σ 49 2) A t).1))) (by simp [upd, sp_du, sp_dr]) ?_
        rw [show upd (σ 49) 2 (sp_dr (sp_lz (σ 49 2) A t).1) 2 * 1103515245 + 12345 = sp_dr (sp_dr (sp_lz (σ 49 2) A t).1) by simp [upd, sp_dr]]
        refine wj_bipush (v := 100) C dX5_leans_75 (by decide) ?_
        refine wj_irem C dX5_leans_77 (by decide) ?_
        refine wj_iadd C dX5_leans_78 ?_
        refine wj_iastN C dX5_leans_79 ar_now ⟨by omega, by decide⟩ ?_
        rw [sp_mq_ul (Nat.mod_lt _ (by decide))]
        obtain ⟨e, he, ee⟩ := sp_ent_b (sp_lz (σ 49 2) A t).1
        have hGe : sp_G (sp_wL (sp_lz (σ 49 2) A t).2 (upd (sp_lz (σ 49 2) A t).2.2.2.2.2.1 ((y + t) % 6) (sp_ent (sp_lz (σ 49 2) A t).1))) N (y + t) := by rw [ee]; exact sp_G_ent (sp_lz_G (z := σ 49 2) hG t) he
        have ez : sp_lz (σ 49 2) A (t + 1) = (sp_dr (sp_dr (sp_lz (σ 49 2) A t).1), sp_yr (sp_wL (sp_lz (σ 49 2) A t).2 (upd (sp_lz (σ 49 2) A t).2.2.2.2.2.1 ((y + t) % 6) (sp_ent (sp_lz (σ 49 2) A t).1)))) := by
          rw [sp_lz, (sp_lz_G (z := σ 49 2) hG t).2.2.1, show (6 : Int32) = nI 6 from rfl, pk_rem (by omega) (by decide) (by decide), nI_clamp (by omega)]
        refine wj_aload_n C 0 dX5_leans_80 rfl rfl ?_
        refine wj_cvf C (wj_rV C dX5_leans_81 km_X5_year kl_X5_162 is_X5 rfl rfl (c_X5_year (A := (sp_wL (sp_lz (σ 49 2) A t).2 (upd (sp_lz (σ 49 2) A t).2.2.2.2.2.1 ((y + t) % 6) (sp_ent (sp_lz (σ 49 2) A t).1)))) (c := false) l V hGe (by rw [wj_u_ne (by decide)]; exact hc) (by omega)) rfl rfl (Nat.le_of_ble_eq_true rfl) (by decide)) ?_
        rw [sp_yx_f]
        refine wj_iinc C (v := nI (t + 1)) dX5_leans_84 rfl (wj_i1 t) (by decide) rfl ?_
        dsimp only [List.set]
        refine wj_goto C 39 dX5_leans_87 (by decide) ?_
        exact (by have hh := fun j3 => ih (t + 1) j3 (by omega) (by omega); rw [ez] at hh; exact hh _)
  refine wj_iload_n C 1 dX5_leans_0 rfl rfl ?_
  refine wj_iconst (v := 1) C dX5_leans_1 (by decide) ?_
  refine wj_bipush (v := 20) C dX5_leans_2 (by decide) ?_
  refine wj_cif C (wj_rS C dX5_leans_4 km_X5_within kl_X5_70 (c_X5_within l V) rfl rfl (Nat.le_of_ble_eq_true rfl) (by decide)) ?_
  refine wj_if_ne C 17 dX5_leans_7 (by decide) (fun h7 => ?_) (fun h7 => ?_)
  · obtain ⟨m, h1m, hm, rfl⟩ := sp_nat1 (M := 20) (wj_c1 h7)
    refine wj_aload_n C 0 dX5_leans_17 rfl rfl ?_
    refine wg_X5_9 C dX5_leans_18 ?_
    refine wj_iconst (v := 0) C dX5_leans_21 (by decide) ?_
    refine wj_ialdN C dX5_leans_22 ar_now ⟨by decide, by decide⟩ ?_
    rw [sp_mq_49, sp_mr_0, hG.2.2.1]
    refine wj_iload_n C 1 dX5_leans_23 rfl rfl ?_
    refine wj_iadd C dX5_leans_24 ?_
    rw [nI_add]
    refine wj_ldc C dX5_leans_25 kc_X5_165 ?_
    refine wj_icmp_le C 37 dX5_leans_27 (by decide) (fun h27 => ?_) (fun h27 => absurd (nI_le (a := y + m) (b := 99999) (by omega) (by decide)) h27)
    refine wj_iconst (v := 0) C dX5_leans_37 (by decide) ?_
    refine wj_istore_n C 2 dX5_leans_38 rfl (by decide) rfl ?_
    dsimp only [List.set]
    exact (by have hh := lp m rfl hm h1m (m + 1) 0 none (by omega) (by omega); rw [sp_lz, wj_u_id] at hh; exact hh)
  · refine wj_aload_n C 0 dX5_leans_10 rfl rfl ?_
    refine wj_ldc C dX5_leans_11 kc_X5_60 ?_
    refine wj_cif C (wj_rV C dX5_leans_13 km_X5_finding kl_X5_66 is_X5 rfl rfl (c_X5_finding (w := 0) l V (by decide) (by decide)) rfl rfl (Nat.le_of_ble_eq_true rfl) (by decide)) ?_
    exact hR _ _ _ _ _ dX5_leans_16 (sp_rfM (by rw [a_leans, if_neg (wj_c0 h7)]) (by rw [n_leans, if_neg (wj_c0 h7)]) (by rw [z_leans, if_neg (wj_c0 h7), wj_u_id]) (by decide)) wj_rfl
theorem sp_and255 (x : Int32) : (x &&& 255).toInt8.toInt32 = x.toInt8.toInt32 := by rw [fa_byte_low]
/-- the bytes as the reference has them -/
def sp_fbM (f : Nat → Int32) (b : Int32) (m n t : Nat) : Nat → Int32 := fun k => if m ≤ k ∧ k < m + t then (b >>> (nI (8 * (n - 1 - (k - m))) &&& 31)) &&& 255 else f k
theorem sp_fbM_s {f : Nat → Int32} {b : Int32} {m n t : Nat} : upd (sp_fbM f b m n t) (m + t) ((b >>> (nI (8 * (n - 1 - t)) &&& 31)) &&& 255) = sp_fbM f b m n (t + 1) := by
  funext k
  simp only [upd, sp_fbM]
  by_cases h : k = m + t
  · subst h; rw [if_pos rfl, if_pos (by omega), show m + t - m = t by omega]
  · rw [if_neg h]
    by_cases h2 : m ≤ k ∧ k < m + t
    · rw [if_pos h2, if_pos (by omega)]
    · rw [if_neg h2, if_neg (by omega)]
theorem sp_fbM_0 {f : Nat → Int32} {b : Int32} {m n : Nat} : sp_fbM f b m n 0 = f := funext fun k => if_neg (by omega)
def sp_fedM (σ : wj_St) (b : Int32) (m n t : Nat) : wj_St := wj_u (wj_r σ 53 (sp_fbM (σ 53) b m n t)) 48 7 (nI (m + t))
theorem sp_fedM_0 {σ : wj_St} {b : Int32} {m n : Nat} (hm : σ 48 7 = nI m) : sp_fedM σ b m n 0 = σ := by
  rw [sp_fedM, sp_fbM_0, wj_r_id, Nat.add_zero, ← hm, wj_u_id]
theorem sp_fedM_s {σ : wj_St} {b : Int32} {m n t : Nat} : wj_u (wj_u (sp_fedM σ b m n t) 53 (m + t) ((b >>> (nI (8 * (n - 1 - t)) &&& 31)) &&& 255)) 48 7 (nI (m + t + 1)) = sp_fedM σ b m n (t + 1) := by
  unfold sp_fedM
  funext q i
  by_cases h : q = 48
  · subst h
    rw [wj_u_same, wj_u_ne (by decide), wj_u_same, wj_u_same, wj_r_ne (by decide), wj_r_ne (by decide)]
    simp only [upd]
    split <;> rfl
  · rw [wj_u_ne h, wj_u_ne h]
    by_cases h2 : q = 53
    · subst h2
      rw [wj_u_same, wj_u_ne (by decide), wj_r_same, wj_r_same, sp_fbM_s]
    · rw [wj_u_ne h2, wj_u_ne h, wj_r_ne h2, wj_r_ne h2]
theorem sp_fedM_48 {σ : wj_St} {b : Int32} {m n t : Nat} : sp_fedM σ b m n t 48 7 = nI (m + t) := by rw [sp_fedM, wj_u_same]; simp [upd]
def n_feedM (σ : wj_St) (m : Nat) (b n : Int32) : wj_St := if (1 ≤ n ∧ n ≤ 4) ∧ m + n.toNatClampNeg ≤ 120 then sp_fedM σ b m n.toNatClampNeg n.toNatClampNeg else σ
set_option maxRecDepth 100000 in
set_option maxHeartbeats 4000000 in
theorem c_X5_feed (l : Launch) (V : wj_V) {σ : wj_St} {A : sp_L} {N y : Nat} {b nn : Int32} {m : Nat} (hG : sp_G A N y) (hy : y < 90000) (hm : σ 48 7 = nI m) (hm2 : m ≤ 120) : wj_M l V yX5_feed cX5_feed 4 (some .int) 1 22 [.ref (V.2.2.1 48), .int b, .int nn] (sp_mq σ A) (wj_QI V (fun r u => r = sp_v (a_feed m nn) ∧ ∃ g, u = sp_mq (wj_r (sp_fw (n_feedM σ m b nn) (a_feed m nn)) 51 g) A)) := by
  refine wj_ofI (own := RX5) [some (.ref (V.2.2.1 48)), some (.int b), some (.int nn), none] (by decide) rfl rfl (Nat.le_of_ble_eq_true rfl) (fun X C hR => ?_)
  have lp : ∀ q, nn = nI q → 1 ≤ q → q ≤ 4 → m + q ≤ 120 → (1 ≤ nI q ∧ nI q ≤ 4) → ∀ n t, t ≤ q → q - t < n → wj_J l V X 38 [some (.ref (V.2.2.1 48)), some (.int b), some (.int (nI q)), some (.int (nI (q - 1) - nI t))] [] (sp_mq (sp_fedM σ b m q t) A) := by
    intro q hn2 h1q hq hle hok n
    subst hn2
    induction n with
    | zero => intro t _ h; omega
    | succ n ih =>
      intro t hi hlt9
      refine wj_iload_n C 3 dX5_feed_38 rfl rfl ?_
      refine wj_if_lt C 77 dX5_feed_39 (by decide) (fun h39 => ?_) (fun h39 => ?_)
      · have e9 : t = q := by
          rcases Nat.lt_or_ge t q with z | z
          · rw [pk_sub (by omega)] at h39; exact absurd h39 (Int32.not_lt.mpr (nI_pos' (by omega)))
          · omega
        subst e9
        refine wj_aload_n C 0 dX5_feed_77 rfl rfl ?_
        refine wg_X5_229 C dX5_feed_78 ?_
        rw [sp_mq_o (by decide), sp_fedM_48]
        exact hR _ _ _ _ _ dX5_feed_81 (sp_rvM (by rw [a_feed, if_pos hok, nI_clamp (by omega), if_pos hle]) rfl (by rw [n_feedM, nI_clamp (by omega), if_pos ⟨hok, hle⟩])) wj_rfl
      · have hlt : t < q := by
          rcases Nat.lt_or_ge t q with z | z
          · exact z
          · exact absurd (show nI (q - 1) - nI t < 0 by
              rw [show t = q by omega, Int32.lt_iff_toInt_lt, pk_sub_toInt (by omega) (by omega), Int32.toInt_zero]
              omega) h39
        refine wj_aload_n C 0 dX5_feed_42 rfl rfl ?_
        refine wg_X5_22 C dX5_feed_43 ?_
        refine wj_aload_n C 0 dX5_feed_46 rfl rfl ?_
        refine wg_X5_229 C dX5_feed_47 ?_
        rw [sp_mq_o (by decide), sp_fedM_48]
        refine wj_iload_n C 1 dX5_feed_50 rfl rfl ?_
        refine wj_bipush (v := 8) C dX5_feed_51 (by decide) ?_
        refine wj_iload_n C 3 dX5_feed_53 rfl rfl ?_
        refine wj_top (y := nI (q - 1 - t)) (pk_sub (by omega)) ?_
        refine wj_imul C dX5_feed_54 ?_
        refine wj_top (y := nI (8 * (q - 1 - t))) (pk_mul 8 (q - 1 - t)) ?_
        refine wj_ishr C dX5_feed_55 ?_
        refine wj_sipush (v := 255) C dX5_feed_56 (by decide) ?_
        refine wj_iand C dX5_feed_59 ?_
        refine wj_iastN C dX5_feed_60 ar_mtape ⟨by omega, by decide⟩ ?_
        rw [sp_mq_u9 (by decide)]
        refine wj_aload_n C 0 dX5_feed_61 rfl rfl ?_
        refine wj_dup C dX5_feed_62 rfl ?_
        refine wg_X5_229 C dX5_feed_63 ?_
        rw [sp_mq_o (by decide), wj_u_ne (by decide), sp_fedM_48]
        refine wj_iconst (v := 1) C dX5_feed_66 (by decide) ?_
        refine wj_iadd C dX5_feed_67 ?_
        rw [nI_1]
        refine wp_X5_229 C dX5_feed_68 ?_
        rw [sp_mq_u9 (by decide), sp_fedM_s]
        refine wj_iinc C (v := nI (q - 1) - nI (t + 1)) dX5_feed_71 rfl (sp_wva (q - 1) t) (by decide) rfl ?_
        dsimp only [List.set]
        refine wj_goto C 38 dX5_feed_74 (by decide) ?_
        exact ih (t + 1) (by omega) (by omega)
  refine wj_iload_n C 2 dX5_feed_0 rfl rfl ?_
  refine wj_iconst (v := 1) C dX5_feed_1 (by decide) ?_
  refine wj_iconst (v := 4) C dX5_feed_2 (by decide) ?_
  refine wj_cif C (wj_rS C dX5_feed_3 km_X5_within kl_X5_70 (c_X5_within l V) rfl rfl (Nat.le_of_ble_eq_true rfl) (by decide)) ?_
  refine wj_if_ne C 16 dX5_feed_6 (by decide) (fun h6 => ?_) (fun h6 => ?_)
  · obtain ⟨q, h1q, hq, rfl⟩ := sp_nat1 (M := 4) (wj_c1 h6)
    have hok := wj_c1 h6
    refine wj_aload_n C 0 dX5_feed_16 rfl rfl ?_
    refine wg_X5_229 C dX5_feed_17 ?_
    rw [sp_mq_o (by decide), hm]
    refine wj_iload_n C 2 dX5_feed_20 rfl rfl ?_
    refine wj_iadd C dX5_feed_21 ?_
    rw [nI_add]
    refine wj_bipush (v := 120) C dX5_feed_22 (by decide) ?_
    refine wj_icmp_le C 34 dX5_feed_24 (by decide) (fun h24 => ?_) (fun h24 => ?_)
    · have hle : m + q ≤ 120 := (nI_leI (a := m + q) (b := 120) (by omega) (by omega)).mp h24
      refine wj_iload_n C 2 dX5_feed_34 rfl rfl ?_
      refine wj_iconst (v := 1) C dX5_feed_35 (by decide) ?_
      refine wj_isub C dX5_feed_36 ?_
      rw [show (1 : Int32) = nI 1 from rfl, pk_sub (by omega)]
      refine wj_istore_n C 3 dX5_feed_37 rfl (by decide) rfl ?_
      dsimp only [List.set]
      exact (by have hh := lp q rfl h1q hq hle hok (q + 1) 0 (by omega) (by omega); rw [sp_fedM_0 hm, show nI (q - 1) - nI 0 = nI (q - 1) from pk_sub (Nat.zero_le _)] at hh; exact hh)
    · have hle : ¬ m + q ≤ 120 := fun z => h24 (nI_le (a := m + q) (b := 120) (by omega) (by omega))
      refine wj_aload_n C 0 dX5_feed_27 rfl rfl ?_
      refine wj_ldc C dX5_feed_28 kc_X5_135 ?_
      refine wj_cif C (wj_rV C dX5_feed_30 km_X5_finding kl_X5_66 is_X5 rfl rfl (c_X5_finding (w := 1) l V (by decide) (by decide)) rfl rfl (Nat.le_of_ble_eq_true rfl) (by decide)) ?_
      exact hR _ _ _ _ _ dX5_feed_33 (sp_rfM (by rw [a_feed, if_pos hok, nI_clamp (by omega), if_neg hle]) rfl (by rw [n_feedM, nI_clamp (by omega), if_neg (fun q9 => hle q9.2)]) (by decide)) wj_rfl
  · refine wj_aload_n C 0 dX5_feed_9 rfl rfl ?_
    refine wj_ldc C dX5_feed_10 kc_X5_60 ?_
    refine wj_cif C (wj_rV C dX5_feed_12 km_X5_finding kl_X5_66 is_X5 rfl rfl (c_X5_finding (w := 0) l V (by decide) (by decide)) rfl rfl (Nat.le_of_ble_eq_true rfl) (by decide)) ?_
    exact hR _ _ _ _ _ dX5_feed_15 (sp_rfM (by rw [a_feed, if_neg (wj_c0 h6)]) rfl (by rw [n_feedM, if_neg (fun q => wj_c0 h6 q.1)]) (by decide)) wj_rfl
set_option maxRecDepth 100000 in
set_option maxHeartbeats 4000000 in
theorem c_X5_image (l : Launch) (V : wj_V) {σ : wj_St} {A : sp_L} {N y : Nat} (hG : sp_G A N y) (hy : y < 90000) : wj_M l V yX5_image cX5_image 1 (some .int) 1 22 [.ref (V.2.2.1 48)] (sp_mq σ A) (wj_I V 1 (sp_mq (wj_u (wj_r σ 50 (sp_mr (σ 49) A)) 48 3 1) A)) := by
  refine wj_ofI (own := RX5) [some (.ref (V.2.2.1 48))] (by decide) rfl rfl (Nat.le_of_ble_eq_true rfl) (fun X C hR => ?_)
  refine wj_aload_n C 0 dX5_image_0 rfl rfl ?_
  refine wg_X5_9 C dX5_image_1 ?_
  refine wj_aload_n C 0 dX5_image_4 rfl rfl ?_
  refine wg_X5_13 C dX5_image_5 ?_
  refine wj_cvf C (wj_rS C dX5_image_8 km_X5_copyRow kl_X5_61 (c_X5_copyRow (a := 49) (b := 50) l V (by decide) (by decide) (by decide)) rfl rfl (Nat.le_of_ble_eq_true rfl) (by decide)) ?_
  rw [sp_mq_49, sp_mq_r9 (by decide)]
  refine wj_aload_n C 0 dX5_image_11 rfl rfl ?_
  refine wj_iconst (v := 1) C dX5_image_12 (by decide) ?_
  refine wp_X5_326 C dX5_image_13 (by first | exact Or.inl rfl | exact Or.inr rfl | assumption) ?_
  rw [sp_mq_u9 (by decide)]
  refine wj_iconst (v := 1) C dX5_image_16 (by decide) ?_
  exact hR _ _ _ _ _ dX5_image_17 ⟨rfl, rfl⟩ wj_rfl
set_option maxRecDepth 100000 in
set_option maxHeartbeats 4000000 in
theorem c_X5_undo (l : Launch) (V : wj_V) {σ : wj_St} (hk : σ 48 3 = 1) : wj_M l V yX5_undo cX5_undo 1 (some .int) 1 22 [.ref (V.2.2.1 48)] σ (wj_I V (σ 50 0) (wj_r σ 49 (σ 50))) := by
  refine wj_ofI (own := RX5) [some (.ref (V.2.2.1 48))] (by decide) rfl rfl (Nat.le_of_ble_eq_true rfl) (fun X C hR => ?_)
  refine wj_aload_n C 0 dX5_undo_0 rfl rfl ?_
  refine wg_X5_326 C dX5_undo_1 ?_
  rw [hk]
  refine wj_if_ne C 14 dX5_undo_4 (by decide) (fun h4 => ?_) (fun h4 => ?_)
  · refine wj_aload_n C 0 dX5_undo_14 rfl rfl ?_
    refine wg_X5_13 C dX5_undo_15 ?_
    refine wj_aload_n C 0 dX5_undo_18 rfl rfl ?_
    refine wg_X5_9 C dX5_undo_19 ?_
    refine wj_cvf C (wj_rS C dX5_undo_22 km_X5_copyRow kl_X5_61 (c_X5_copyRow (a := 50) (b := 49) l V (by decide) (by decide) (by decide)) rfl rfl (Nat.le_of_ble_eq_true rfl) (by decide)) ?_
    refine wj_aload_n C 0 dX5_undo_25 rfl rfl ?_
    refine wg_X5_9 C dX5_undo_26 ?_
    refine wj_iconst (v := 0) C dX5_undo_29 (by decide) ?_
    refine wj_ialdN C dX5_undo_30 ar_now ⟨by decide, by decide⟩ ?_
    rw [wj_r_same]
    exact hR _ _ _ _ _ dX5_undo_31 ⟨rfl, rfl⟩ wj_rfl
  · exact absurd h4 (by decide)
set_option maxRecDepth 100000 in
set_option maxHeartbeats 4000000 in
theorem c_X5_undo_no (l : Launch) (V : wj_V) {σ : wj_St} (hk : σ 48 3 = 0) : wj_M l V yX5_undo cX5_undo 1 (some .int) 1 22 [.ref (V.2.2.1 48)] σ (wj_I V (-1000004) (sp_fd σ 3)) := by
  refine wj_ofI (own := RX5) [some (.ref (V.2.2.1 48))] (by decide) rfl rfl (Nat.le_of_ble_eq_true rfl) (fun X C hR => ?_)
  refine wj_aload_n C 0 dX5_undo_0 rfl rfl ?_
  refine wg_X5_326 C dX5_undo_1 ?_
  rw [hk]
  refine wj_if_ne C 14 dX5_undo_4 (by decide) (fun h4 => ?_) (fun h4 => ?_)
  · exact absurd rfl h4
  · refine wj_aload_n C 0 dX5_undo_7 rfl rfl ?_
    refine wj_ldc C dX5_undo_8 kc_X5_65 ?_
    refine wj_cif C (wj_rV C dX5_undo_10 km_X5_finding kl_X5_66 is_X5 rfl rfl (c_X5_finding (w := 3) l V (by decide) (by decide)) rfl rfl (Nat.le_of_ble_eq_true rfl) (by decide)) ?_
    exact hR _ _ _ _ _ dX5_undo_13 ⟨rfl, rfl⟩ wj_rfl

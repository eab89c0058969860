theorem tx_ap_c {T : sp_L} {it : tx_I} {n : Nat} (hN : T.2.1 = nI n) (hn : n ≤ 8) : (tx_ap T it).2.1 = nI (if it.1 < 10 then n + 1 else if it.1 ≤ 11 then n else n + 1) := by
  rw [tx_ap]
  by_cases h : it.1 = 10
  · rw [if_pos h, if_neg (by omega), if_pos (by omega)]; exact hN
  · rw [if_neg h]
    by_cases h2 : it.1 = 11
    · rw [if_pos h2, if_neg (by omega), if_pos (by omega)]; exact hN
    · rw [if_neg h2, show (if it.1 < 10 then n + 1 else if it.1 ≤ 11 then n else n + 1) = n + 1 by
        by_cases q : it.1 < 10
        · rw [if_pos q]
        · rw [if_neg q, if_neg (by omega)], sp_N_of hN hn]
      rfl
theorem tx_ap_n {T : sp_L} {it : tx_I} {n : Nat} (hN : T.2.1 = nI n) (hn : n ≤ 8) (ho : tx_oki it) : (tx_ap T it).2.1 = nI (tx_up it n) := by
  rw [tx_ap_c hN hn, tx_up]
  congr 1
  rcases ho with h | h | h
  · rw [if_pos (by omega), if_pos (by omega)]
  · rw [if_neg (by omega), if_pos (by omega), if_neg (by omega)]
  · rw [if_neg (by omega), if_pos (by omega), if_neg (by omega)]
theorem tx_up_8 {it : tx_I} {n : Nat} (hn : n ≤ 8) (h : it.1 < 10 → n < 8) : tx_up it n ≤ 8 := by
  rw [tx_up]
  split
  · rename_i q; have := h q; omega
  · exact hn
set_option maxRecDepth 100000 in
set_option maxHeartbeats 4000000 in
theorem c_X3_readItem_l (l : Launch) (V : wj_V) {σ : wj_St} {f : Nat → Int32} {m c : Nat} {T : sp_L} (hf : σ 47 = f) (hm : σ 46 1 = nI m) (h120 : m ≤ 120) (hc : c ≤ m) {n x c1 : Nat} {it : tx_I} (hN : T.2.1 = nI n) (h8n : n ≤ 8) (hn : tx_it f m n c = .inl x) : wj_M l V yX3_readItem cX3_readItem 3 (some .boolean) 7 156 [.ref (V.2.2.1 46), .ref (V.2.2.1 2)] (tx_C f m (sp_put σ 2 T) c) (wj_I V 0 (tx_C f m (sp_put σ 2 T) x)) := by
  refine wj_ofZ (own := RX3) [some (.ref (V.2.2.1 46)), some (.ref (V.2.2.1 2)), none] (by decide) rfl rfl (Nat.le_of_ble_eq_true rfl) (fun X C hR => ?_)
  have hf2 : sp_put σ 2 T 47 = f := by rw [sp_put_o (by decide)]; exact hf
  have hm2 : sp_put σ 2 T 46 1 = nI m := by rw [sp_put_o (by decide)]; exact hm
  have hce := tx_e_le (f := f) hc
  have tN : ∀ j2, tx_kd f m c = none → (.inl c : Sum Nat (tx_I × Nat)) = .inl x → wj_J l V X 30 [some (.ref (V.2.2.1 46)), some (.ref (V.2.2.1 2)), j2] [] (tx_C f m (sp_put σ 2 T) c) := by
    intro j2 hk hn
    cases hn
    refine wj_aload_n C 0 dX3_readItem_30 rfl rfl ?_
    refine wj_cif C (wj_rV C dX3_readItem_31 km_X3_kindNamed kl_X3_49 is_X3 rfl rfl (c_X3_kindNamed l V hf2 hm2 h120 hc) rfl rfl (Nat.le_of_ble_eq_true rfl) (by decide)) ?_
    rw [hk, tx_kdI]
    refine wj_istore_n C 2 dX3_readItem_34 rfl (by decide) rfl ?_
    dsimp only [List.set]
    refine wj_iload_n C 2 dX3_readItem_35 rfl rfl ?_
    refine wj_iconst (v := -1) C dX3_readItem_36 (by decide) ?_
    refine wj_icmp_eq C 49 dX3_readItem_37 (by decide) (fun h37 => ?_) (fun h37 => absurd rfl h37)
    refine wj_iconst (v := 0) C dX3_readItem_49 (by decide) ?_
    exact hR _ _ _ _ _ dX3_readItem_50 ⟨by decide +kernel, rfl, rfl⟩ wj_rfl
  have tS : ∀ k j2, tx_kd f m c = some k → (if n < 8 then tx_sl f m k (tx_e f m c) else .inl c) = (.inl x : Sum Nat (tx_I × Nat)) → wj_J l V X 30 [some (.ref (V.2.2.1 46)), some (.ref (V.2.2.1 2)), j2] [] (tx_C f m (sp_put σ 2 T) c) := by
    intro k j2 hk hn
    have h6 := tx_kd_6 hk
    by_cases h8 : n < 8
    · rw [if_pos h8] at hn
      refine wj_aload_n C 0 dX3_readItem_30 rfl rfl ?_
      refine wj_cif C (wj_rV C dX3_readItem_31 km_X3_kindNamed kl_X3_49 is_X3 rfl rfl (c_X3_kindNamed l V hf2 hm2 h120 hc) rfl rfl (Nat.le_of_ble_eq_true rfl) (by decide)) ?_
      rw [hk, tx_kdI]
      refine wj_istore_n C 2 dX3_readItem_34 rfl (by decide) rfl ?_
      dsimp only [List.set]
      refine wj_iload_n C 2 dX3_readItem_35 rfl rfl ?_
      refine wj_iconst (v := -1) C dX3_readItem_36 (by decide) ?_
      refine wj_icmp_eq C 49 dX3_readItem_37 (by decide) (fun h37 => absurd h37 (fun z => nI_pos (n := k) (by omega) (by rw [z]; decide))) (fun h37 => ?_)
      refine wj_aload_n C 1 dX3_readItem_40 rfl rfl ?_
      refine wg_X3_53 C dX3_readItem_41 (by first | assumption | omega) ?_
      rw [tx_C_o (by decide), sp_put_2, hN]
      refine wj_bipush (v := 8) C dX3_readItem_44 (by decide) ?_
      refine wj_icmp_lt C 51 dX3_readItem_46 (by decide) (fun h46 => ?_) (fun h46 => absurd (nI_lt (a := n) (b := 8) h8 (by decide)) h46)
      refine wj_aload_n C 0 dX3_readItem_51 rfl rfl ?_
      refine wj_cvf C (wj_rV C dX3_readItem_52 km_X3_step kl_X3_28 is_X3 rfl rfl (c_X3_step_C l V hf2 hm2 h120 hc) rfl rfl (Nat.le_of_ble_eq_true rfl) (by decide)) ?_
      refine wj_aload_n C 0 dX3_readItem_55 rfl rfl ?_
      refine wj_aload_n C 1 dX3_readItem_56 rfl rfl ?_
      refine wj_iload_n C 2 dX3_readItem_57 rfl rfl ?_
      refine wj_cif C (wj_rV C dX3_readItem_58 km_X3_readSlip kl_X3_56 is_X3 rfl rfl (c_X3_readSlip_l l V hf hm h120 hce hn) rfl rfl (Nat.le_of_ble_eq_true rfl) (by decide)) ?_
      exact hR _ _ _ _ _ dX3_readItem_61 ⟨by decide +kernel, rfl, rfl⟩ wj_rfl
    · rw [if_neg h8] at hn
      cases hn
      refine wj_aload_n C 0 dX3_readItem_30 rfl rfl ?_
      refine wj_cif C (wj_rV C dX3_readItem_31 km_X3_kindNamed kl_X3_49 is_X3 rfl rfl (c_X3_kindNamed l V hf2 hm2 h120 hc) rfl rfl (Nat.le_of_ble_eq_true rfl) (by decide)) ?_
      rw [hk, tx_kdI]
      refine wj_istore_n C 2 dX3_readItem_34 rfl (by decide) rfl ?_
      dsimp only [List.set]
      refine wj_iload_n C 2 dX3_readItem_35 rfl rfl ?_
      refine wj_iconst (v := -1) C dX3_readItem_36 (by decide) ?_
      refine wj_icmp_eq C 49 dX3_readItem_37 (by decide) (fun h37 => absurd h37 (fun z => nI_pos (n := k) (by omega) (by rw [z]; decide))) (fun h37 => ?_)
      refine wj_aload_n C 1 dX3_readItem_40 rfl rfl ?_
      refine wg_X3_53 C dX3_readItem_41 (by first | assumption | omega) ?_
      rw [tx_C_o (by decide), sp_put_2, hN]
      refine wj_bipush (v := 8) C dX3_readItem_44 (by decide) ?_
      refine wj_icmp_lt C 51 dX3_readItem_46 (by decide) (fun h46 => absurd h46 (nI_nlt (a := n) (b := 8) (by omega) (by omega))) (fun h46 => ?_)
      refine wj_iconst (v := 0) C dX3_readItem_49 (by decide) ?_
      exact hR _ _ _ _ _ dX3_readItem_50 ⟨by decide +kernel, rfl, rfl⟩ wj_rfl
  refine wj_aload_n C 0 dX3_readItem_0 rfl rfl ?_
  refine wj_ldcS C dX3_readItem_1 kt_X3_35 ?_
  refine wj_cif C (wj_rV C dX3_readItem_3 km_X3_isWord kl_X3_37 is_X3 rfl rfl (c_X3_isWord l V hf2 hm2 h120 hc (q := 12) (by decide)) rfl rfl (Nat.le_of_ble_eq_true rfl) (by decide)) ?_
  refine wj_if_eq C 15 dX3_readItem_6 (by decide) (fun h6 => ?_) (fun h6 => ?_)
  · replace h6 := wj_b0 h6
    rw [tx_it, if_neg (by rw [h6]; decide)] at hn
    refine wj_aload_n C 0 dX3_readItem_15 rfl rfl ?_
    refine wj_ldcS C dX3_readItem_16 kt_X3_44 ?_
    refine wj_cif C (wj_rV C dX3_readItem_18 km_X3_isWord kl_X3_37 is_X3 rfl rfl (c_X3_isWord l V hf2 hm2 h120 hc (q := 13) (by decide)) rfl rfl (Nat.le_of_ble_eq_true rfl) (by decide)) ?_
    refine wj_if_eq C 30 dX3_readItem_21 (by decide) (fun h21 => ?_) (fun h21 => ?_)
    · replace h21 := wj_b0 h21
      rw [if_neg (by rw [h21]; decide)] at hn
      rcases hk : tx_kd f m c with _ | k
      · rw [hk] at hn
        exact tN _ hk hn
      · rw [hk] at hn
        exact tS k _ hk hn
    · replace h21 := wj_b1 h21
      rw [if_pos h21] at hn
      refine wj_aload_n C 0 dX3_readItem_24 rfl rfl ?_
      refine wj_aload_n C 1 dX3_readItem_25 rfl rfl ?_
      refine wj_cif C (wj_rV C dX3_readItem_26 km_X3_readLeaning kl_X3_46 is_X3 rfl rfl (c_X3_readLeaning_l l V hf hm h120 hc hn) rfl rfl (Nat.le_of_ble_eq_true rfl) (by decide)) ?_
      exact hR _ _ _ _ _ dX3_readItem_29 ⟨by decide +kernel, rfl, rfl⟩ wj_rfl
  · replace h6 := wj_b1 h6
    rw [tx_it, if_pos h6] at hn
    refine wj_aload_n C 0 dX3_readItem_9 rfl rfl ?_
    refine wj_aload_n C 1 dX3_readItem_10 rfl rfl ?_
    refine wj_cif C (wj_rV C dX3_readItem_11 km_X3_readHurdles kl_X3_41 is_X3 rfl rfl (c_X3_readHurdles_l l V hf hm h120 hc (it := (0, 0, 0, 0, 0)) (c1 := 0) hn) rfl rfl (Nat.le_of_ble_eq_true rfl) (by decide)) ?_
    exact hR _ _ _ _ _ dX3_readItem_14 ⟨by decide +kernel, rfl, rfl⟩ wj_rfl
set_option maxRecDepth 100000 in
set_option maxHeartbeats 4000000 in
theorem c_X3_readItem_r (l : Launch) (V : wj_V) {σ : wj_St} {f : Nat → Int32} {m c : Nat} {T : sp_L} (hf : σ 47 = f) (hm : σ 46 1 = nI m) (h120 : m ≤ 120) (hc : c ≤ m) {n x c1 : Nat} {it : tx_I} (hN : T.2.1 = nI n) (h8n : n ≤ 8) (hn : tx_it f m n c = .inr (it, c1)) : wj_M l V yX3_readItem cX3_readItem 3 (some .boolean) 7 156 [.ref (V.2.2.1 46), .ref (V.2.2.1 2)] (tx_C f m (sp_put σ 2 T) c) (wj_I V 1 (tx_C f m (sp_put σ 2 (tx_ap T it)) c1)) := by
  refine wj_ofZ (own := RX3) [some (.ref (V.2.2.1 46)), some (.ref (V.2.2.1 2)), none] (by decide) rfl rfl (Nat.le_of_ble_eq_true rfl) (fun X C hR => ?_)
  have hf2 : sp_put σ 2 T 47 = f := by rw [sp_put_o (by decide)]; exact hf
  have hm2 : sp_put σ 2 T 46 1 = nI m := by rw [sp_put_o (by decide)]; exact hm
  have hce := tx_e_le (f := f) hc
  have tS : ∀ k j2, tx_kd f m c = some k → (if n < 8 then tx_sl f m k (tx_e f m c) else .inl c) = (.inr (it, c1) : Sum Nat (tx_I × Nat)) → wj_J l V X 30 [some (.ref (V.2.2.1 46)), some (.ref (V.2.2.1 2)), j2] [] (tx_C f m (sp_put σ 2 T) c) := by
    intro k j2 hk hn
    have h6 := tx_kd_6 hk
    by_cases h8 : n < 8
    · rw [if_pos h8] at hn
      refine wj_aload_n C 0 dX3_readItem_30 rfl rfl ?_
      refine wj_cif C (wj_rV C dX3_readItem_31 km_X3_kindNamed kl_X3_49 is_X3 rfl rfl (c_X3_kindNamed l V hf2 hm2 h120 hc) rfl rfl (Nat.le_of_ble_eq_true rfl) (by decide)) ?_
      rw [hk, tx_kdI]
      refine wj_istore_n C 2 dX3_readItem_34 rfl (by decide) rfl ?_
      dsimp only [List.set]
      refine wj_iload_n C 2 dX3_readItem_35 rfl rfl ?_
      refine wj_iconst (v := -1) C dX3_readItem_36 (by decide) ?_
      refine wj_icmp_eq C 49 dX3_readItem_37 (by decide) (fun h37 => absurd h37 (fun z => nI_pos (n := k) (by omega) (by rw [z]; decide))) (fun h37 => ?_)
      refine wj_aload_n C 1 dX3_readItem_40 rfl rfl ?_
      refine wg_X3_53 C dX3_readItem_41 (by first | assumption | omega) ?_
      rw [tx_C_o (by decide), sp_put_2, hN]
      refine wj_bipush (v := 8) C dX3_readItem_44 (by decide) ?_
      refine wj_icmp_lt C 51 dX3_readItem_46 (by decide) (fun h46 => ?_) (fun h46 => absurd (nI_lt (a := n) (b := 8) h8 (by decide)) h46)
      refine wj_aload_n C 0 dX3_readItem_51 rfl rfl ?_
      refine wj_cvf C (wj_rV C dX3_readItem_52 km_X3_step kl_X3_28 is_X3 rfl rfl (c_X3_step_C l V hf2 hm2 h120 hc) rfl rfl (Nat.le_of_ble_eq_true rfl) (by decide)) ?_
      refine wj_aload_n C 0 dX3_readItem_55 rfl rfl ?_
      refine wj_aload_n C 1 dX3_readItem_56 rfl rfl ?_
      refine wj_iload_n C 2 dX3_readItem_57 rfl rfl ?_
      refine wj_cif C (wj_rV C dX3_readItem_58 km_X3_readSlip kl_X3_56 is_X3 rfl rfl (c_X3_readSlip_r l V hf hm h120 hce hN h8 h6.1 hn) rfl rfl (Nat.le_of_ble_eq_true rfl) (by decide)) ?_
      exact hR _ _ _ _ _ dX3_readItem_61 ⟨by decide +kernel, rfl, rfl⟩ wj_rfl
    · rw [if_neg h8] at hn
      cases hn
  refine wj_aload_n C 0 dX3_readItem_0 rfl rfl ?_
  refine wj_ldcS C dX3_readItem_1 kt_X3_35 ?_
  refine wj_cif C (wj_rV C dX3_readItem_3 km_X3_isWord kl_X3_37 is_X3 rfl rfl (c_X3_isWord l V hf2 hm2 h120 hc (q := 12) (by decide)) rfl rfl (Nat.le_of_ble_eq_true rfl) (by decide)) ?_
  refine wj_if_eq C 15 dX3_readItem_6 (by decide) (fun h6 => ?_) (fun h6 => ?_)
  · replace h6 := wj_b0 h6
    rw [tx_it, if_neg (by rw [h6]; decide)] at hn
    refine wj_aload_n C 0 dX3_readItem_15 rfl rfl ?_
    refine wj_ldcS C dX3_readItem_16 kt_X3_44 ?_
    refine wj_cif C (wj_rV C dX3_readItem_18 km_X3_isWord kl_X3_37 is_X3 rfl rfl (c_X3_isWord l V hf2 hm2 h120 hc (q := 13) (by decide)) rfl rfl (Nat.le_of_ble_eq_true rfl) (by decide)) ?_
    refine wj_if_eq C 30 dX3_readItem_21 (by decide) (fun h21 => ?_) (fun h21 => ?_)
    · replace h21 := wj_b0 h21
      rw [if_neg (by rw [h21]; decide)] at hn
      rcases hk : tx_kd f m c with _ | k
      · rw [hk] at hn
        cases hn
      · rw [hk] at hn
        exact tS k _ hk hn
    · replace h21 := wj_b1 h21
      rw [if_pos h21] at hn
      refine wj_aload_n C 0 dX3_readItem_24 rfl rfl ?_
      refine wj_aload_n C 1 dX3_readItem_25 rfl rfl ?_
      refine wj_cif C (wj_rV C dX3_readItem_26 km_X3_readLeaning kl_X3_46 is_X3 rfl rfl (c_X3_readLeaning_r l V hf hm h120 hc hn) rfl rfl (Nat.le_of_ble_eq_true rfl) (by decide)) ?_
      exact hR _ _ _ _ _ dX3_readItem_29 ⟨by decide +kernel, rfl, rfl⟩ wj_rfl
  · replace h6 := wj_b1 h6
    rw [tx_it, if_pos h6] at hn
    refine wj_aload_n C 0 dX3_readItem_9 rfl rfl ?_
    refine wj_aload_n C 1 dX3_readItem_10 rfl rfl ?_
    refine wj_cif C (wj_rV C dX3_readItem_11 km_X3_readHurdles kl_X3_41 is_X3 rfl rfl (c_X3_readHurdles_r l V hf hm h120 hc (x := 0) hn) rfl rfl (Nat.le_of_ble_eq_true rfl) (by decide)) ?_
    exact hR _ _ _ _ _ dX3_readItem_14 ⟨by decide +kernel, rfl, rfl⟩ wj_rfl
theorem tx_C_0 {f : Nat → Int32} {m c : Nat} {σ : wj_St} : tx_C f m (wj_u σ 46 4 0) c = tx_C f m σ c := by
  rw [tx_C, tx_P, tx_C, tx_P]
  funext q
  by_cases e : q = 46
  · subst e
    rw [wj_r_same, wj_r_same]
    funext j
    by_cases h2 : j = 2
    · simp [h2]
    · by_cases h3 : j = 3
      · simp [h3]
      · by_cases h4 : j = 4
        · simp [h4]
        · simp [h2, h3, h4, wj_u_same, upd]
  · rw [wj_r_ne e, wj_r_ne e, wj_u_ne e]
set_option maxRecDepth 100000 in
set_option maxHeartbeats 4000000 in
theorem c_X3_readText_l (l : Launch) (V : wj_V) {σ : wj_St} {f : Nat → Int32} {m : Nat} {T : sp_L} (hf : σ 47 = f) (hm : σ 46 1 = nI m) (h120 : m ≤ 120) {n : Nat} (hN : T.2.1 = nI n) (h8n : n ≤ 8) {d : Nat} (hn : tx_tx f m 120 n 0 = .inl d) : wj_M l V yX3_readText cX3_readText 3 (some .int) 8 178 [.ref (V.2.2.1 46), .ref (V.2.2.1 2)] (sp_put σ 2 T) (wj_QI V (fun r u => r = -1 - nI (tx_b f m d) ∧ ∃ T2, u = tx_C f m (sp_put σ 2 T2) d)) := by
  refine wj_ofI (own := RX3) [some (.ref (V.2.2.1 46)), some (.ref (V.2.2.1 2)), none] (by decide) rfl rfl (Nat.le_of_ble_eq_true rfl) (fun X C hR => ?_)
  have lp : ∀ q n c T, q ≤ 120 → c ≤ m → T.2.1 = nI n → n ≤ 8 → tx_tx f m q n c = .inl d → wj_J l V X 11 [some (.ref (V.2.2.1 46)), some (.ref (V.2.2.1 2)), some (.int (nI (121 - q)))] [] (tx_C f m (sp_put σ 2 T) c) := by
    intro q
    induction q with
    | zero =>
      intro n c T _ hc hN h8 hn
      rw [tx_tx] at hn
      cases hn
      refine wj_iload_n C 2 dX3_readText_11 rfl rfl ?_
      refine wj_bipush (v := 120) C dX3_readText_12 (by decide) ?_
      refine wj_icmp_gt C 66 dX3_readText_14 (by decide) (fun h14 => ?_) (fun h14 => absurd (nI_lt (a := 120) (b := 121) (by decide) (by decide)) h14)
      refine wj_iconst (v := -1) C dX3_readText_66 (by decide) ?_
      refine wj_aload_n C 0 dX3_readText_67 rfl rfl ?_
      refine wg_X3_22 C dX3_readText_68 ?_
      rw [tx_C_3]
      refine wj_isub C dX3_readText_71 ?_
      exact hR _ _ _ _ _ dX3_readText_72 ⟨rfl, T, rfl⟩ wj_rfl
    | succ q ih =>
      intro n c T hq hc hN h8 hn
      rw [tx_tx] at hn
      rcases hi : tx_it f m n c with x | ⟨it, c1⟩
      · rw [hi] at hn
        cases hn
        refine wj_iload_n C 2 dX3_readText_11 rfl rfl ?_
        refine wj_bipush (v := 120) C dX3_readText_12 (by decide) ?_
        refine wj_icmp_gt C 66 dX3_readText_14 (by decide) (fun h14 => absurd h14 (nI_nlt (a := 120) (b := 121 - (q + 1)) (by omega) (by decide))) (fun h14 => ?_)
        refine wj_aload_n C 0 dX3_readText_17 rfl rfl ?_
        refine wj_aload_n C 1 dX3_readText_18 rfl rfl ?_
        refine wj_cif C (wj_rV C dX3_readText_19 km_X3_readItem kl_X3_31 is_X3 rfl rfl (c_X3_readItem_l l V hf hm h120 hc (it := (0, 0, 0, 0, 0)) (c1 := 0) hN h8 hi) rfl rfl (Nat.le_of_ble_eq_true rfl) (by decide)) ?_
        refine wj_if_ne C 32 dX3_readText_22 (by decide) (fun h22 => absurd h22 (fun z => z rfl)) (fun h22 => ?_)
        refine wj_iconst (v := -1) C dX3_readText_25 (by decide) ?_
        refine wj_aload_n C 0 dX3_readText_26 rfl rfl ?_
        refine wg_X3_22 C dX3_readText_27 ?_
        rw [tx_C_3]
        refine wj_isub C dX3_readText_30 ?_
        exact hR _ _ _ _ _ dX3_readText_31 ⟨rfl, T, rfl⟩ wj_rfl
      · have hg := tx_it_c hc hi
        have hs5 := tx_s5 (f := f) (m := m) (c := c1)
        have hf2 : sp_put σ 2 (tx_ap T it) 47 = f := by rw [sp_put_o (by decide)]; exact hf
        have hm2 : sp_put σ 2 (tx_ap T it) 46 1 = nI m := by rw [sp_put_o (by decide)]; exact hm
        rw [hi] at hn
        dsimp only at hn
        refine wj_iload_n C 2 dX3_readText_11 rfl rfl ?_
        refine wj_bipush (v := 120) C dX3_readText_12 (by decide) ?_
        refine wj_icmp_gt C 66 dX3_readText_14 (by decide) (fun h14 => absurd h14 (nI_nlt (a := 120) (b := 121 - (q + 1)) (by omega) (by decide))) (fun h14 => ?_)
        refine wj_aload_n C 0 dX3_readText_17 rfl rfl ?_
        refine wj_aload_n C 1 dX3_readText_18 rfl rfl ?_
        refine wj_cif C (wj_rV C dX3_readText_19 km_X3_readItem kl_X3_31 is_X3 rfl rfl (c_X3_readItem_r l V hf hm h120 hc (x := 0) hN h8 hi) rfl rfl (Nat.le_of_ble_eq_true rfl) (by decide)) ?_
        refine wj_if_ne C 32 dX3_readText_22 (by decide) (fun h22 => ?_) (fun h22 => ?_)
        · refine wj_aload_n C 0 dX3_readText_32 rfl rfl ?_
          refine wg_X3_19 C dX3_readText_33 ?_
          rw [tx_C_2]
          refine wj_if_ne C 41 dX3_readText_36 (by decide) (fun h36 => ?_) (fun h36 => ?_)
          · have hz : ¬ tx_s f m c1 = 0 := fun z => h36 (by rw [z]; rfl)
            rw [if_neg hz] at hn
            refine wj_aload_n C 0 dX3_readText_41 rfl rfl ?_
            refine wg_X3_19 C dX3_readText_42 ?_
            rw [tx_C_2]
            refine wj_iconst (v := 3) C dX3_readText_45 (by decide) ?_
            refine wj_icmp_eq C 56 dX3_readText_46 (by decide) (fun h46 => ?_) (fun h46 => ?_)
            · have h3 : tx_s f m c1 = 3 := (nI_eq (a := tx_s f m c1) (b := 3) (by omega) (by omega)).mp h46
              rw [if_pos h3] at hn
              refine wj_aload_n C 0 dX3_readText_56 rfl rfl ?_
              refine wj_cvf C (wj_rV C dX3_readText_57 km_X3_step kl_X3_28 is_X3 rfl rfl (c_X3_step_C l V hf2 hm2 h120 hg.1) rfl rfl (Nat.le_of_ble_eq_true rfl) (by decide)) ?_
              refine wj_iinc C (v := nI (121 - q)) dX3_readText_60 rfl (by rw [show (121 : Nat) - q = 121 - (q + 1) + 1 by omega]; exact wj_i1 _) (by decide) rfl ?_
              dsimp only [List.set]
              refine wj_goto C 11 dX3_readText_63 (by decide) ?_
              exact ih (tx_up it n) (tx_e f m c1) (tx_ap T it) (by omega) (tx_e_le hg.1) (tx_ap_n hN h8 hg.2.2.1) (tx_up_8 h8 hg.2.2.2) (by
                split at hn
                · cases hn; assumption
                · cases hn)
            · have h3 : ¬ tx_s f m c1 = 3 := fun z => h46 (by rw [z]; rfl)
              rw [if_neg h3] at hn
              cases hn
              refine wj_iconst (v := -1) C dX3_readText_49 (by decide) ?_
              refine wj_aload_n C 0 dX3_readText_50 rfl rfl ?_
              refine wg_X3_22 C dX3_readText_51 ?_
              rw [tx_C_3]
              refine wj_isub C dX3_readText_54 ?_
              exact hR _ _ _ _ _ dX3_readText_55 ⟨rfl, tx_ap T it, rfl⟩ wj_rfl
          · exact absurd hn (by rw [if_pos ((nI_eq (a := tx_s f m c1) (b := 0) (by omega) (by omega)).mp h36)]; exact fun z => by cases z)
        · exact absurd h22 (by decide)
  have e0 : wj_u (sp_put σ 2 T) 46 4 0 = sp_put (wj_u σ 46 4 0) 2 T := sp_put_u (by decide)
  have hf1 : wj_u (sp_put σ 2 T) 46 4 0 47 = f := by rw [wj_u_ne (by decide), sp_put_o (by decide)]; exact hf
  have hm1 : wj_u (sp_put σ 2 T) 46 4 0 46 1 = nI m := by rw [wj_u_same, sp_put_o (by decide)]; simp [upd]; exact hm
  have h41 : wj_u (sp_put σ 2 T) 46 4 0 46 4 = nI 0 := by rw [wj_u_same]; simp [upd]; rfl
  refine wj_aload_n C 0 dX3_readText_0 rfl rfl ?_
  refine wj_iconst (v := 0) C dX3_readText_1 (by decide) ?_
  refine wp_X3_25 C dX3_readText_2 ?_
  refine wj_aload_n C 0 dX3_readText_5 rfl rfl ?_
  refine wj_cvf C (wj_rV C dX3_readText_6 km_X3_step kl_X3_28 is_X3 rfl rfl (c_X3_step l V hf1 hm1 h120 (Nat.zero_le _) h41) rfl rfl (Nat.le_of_ble_eq_true rfl) (by decide)) ?_
  rw [tx_C_0]
  refine wj_iconst (v := 1) C dX3_readText_9 (by decide) ?_
  refine wj_istore_n C 2 dX3_readText_10 rfl (by decide) rfl ?_
  dsimp only [List.set]
  exact lp 120 n 0 T (Nat.le_refl _) (Nat.zero_le _) hN h8n hn
set_option maxRecDepth 100000 in
set_option maxHeartbeats 4000000 in
theorem c_X3_readText_r (l : Launch) (V : wj_V) {σ : wj_St} {f : Nat → Int32} {m : Nat} {T : sp_L} (hf : σ 47 = f) (hm : σ 46 1 = nI m) (h120 : m ≤ 120) {n : Nat} (hN : T.2.1 = nI n) (h8n : n ≤ 8) {l1 : List tx_I} (hn : tx_tx f m 120 n 0 = .inr l1) : wj_M l V yX3_readText cX3_readText 3 (some .int) 8 178 [.ref (V.2.2.1 46), .ref (V.2.2.1 2)] (sp_put σ 2 T) (wj_QI V (fun r u => r = nI l1.length ∧ ∃ c, u = tx_C f m (sp_put σ 2 (tx_aps T l1)) c)) := by
  refine wj_ofI (own := RX3) [some (.ref (V.2.2.1 46)), some (.ref (V.2.2.1 2)), none] (by decide) rfl rfl (Nat.le_of_ble_eq_true rfl) (fun X C hR => ?_)
  have lp : ∀ q n c (B : sp_L) l2, q ≤ 120 → c ≤ m → B.2.1 = nI n → n ≤ 8 → tx_tx f m q n c = .inr l2 → 120 - q + l2.length = l1.length → tx_aps B l2 = tx_aps T l1 → wj_J l V X 11 [some (.ref (V.2.2.1 46)), some (.ref (V.2.2.1 2)), some (.int (nI (121 - q)))] [] (tx_C f m (sp_put σ 2 B) c) := by
    intro q
    induction q with
    | zero =>
      intro n c B l2 _ hc hN h8 hn hlen hfin
      rw [tx_tx] at hn
      cases hn
    | succ q ih =>
      intro n c B l2 hq hc hN h8 hn hlen hfin
      rw [tx_tx] at hn
      rcases hi : tx_it f m n c with x | ⟨it, c1⟩
      · rw [hi] at hn
        cases hn
      · have hg := tx_it_c hc hi
        have hs5 := tx_s5 (f := f) (m := m) (c := c1)
        have hf2 : sp_put σ 2 (tx_ap B it) 47 = f := by rw [sp_put_o (by decide)]; exact hf
        have hm2 : sp_put σ 2 (tx_ap B it) 46 1 = nI m := by rw [sp_put_o (by decide)]; exact hm
        rw [hi] at hn
        dsimp only at hn
        refine wj_iload_n C 2 dX3_readText_11 rfl rfl ?_
        refine wj_bipush (v := 120) C dX3_readText_12 (by decide) ?_
        refine wj_icmp_gt C 66 dX3_readText_14 (by decide) (fun h14 => absurd h14 (nI_nlt (a := 120) (b := 121 - (q + 1)) (by omega) (by decide))) (fun h14 => ?_)
        refine wj_aload_n C 0 dX3_readText_17 rfl rfl ?_
        refine wj_aload_n C 1 dX3_readText_18 rfl rfl ?_
        refine wj_cif C (wj_rV C dX3_readText_19 km_X3_readItem kl_X3_31 is_X3 rfl rfl (c_X3_readItem_r l V hf hm h120 hc (x := 0) hN h8 hi) rfl rfl (Nat.le_of_ble_eq_true rfl) (by decide)) ?_
        refine wj_if_ne C 32 dX3_readText_22 (by decide) (fun h22 => ?_) (fun h22 => ?_)
        · refine wj_aload_n C 0 dX3_readText_32 rfl rfl ?_
          refine wg_X3_19 C dX3_readText_33 ?_
          rw [tx_C_2]
          refine wj_if_ne C 41 dX3_readText_36 (by decide) (fun h36 => ?_) (fun h36 => ?_)
          · have hz : ¬ tx_s f m c1 = 0 := fun z => h36 (by rw [z]; rfl)
            rw [if_neg hz] at hn
            refine wj_aload_n C 0 dX3_readText_41 rfl rfl ?_
            refine wg_X3_19 C dX3_readText_42 ?_
            rw [tx_C_2]
            refine wj_iconst (v := 3) C dX3_readText_45 (by decide) ?_
            refine wj_icmp_eq C 56 dX3_readText_46 (by decide) (fun h46 => ?_) (fun h46 => ?_)
            · have h3 : tx_s f m c1 = 3 := (nI_eq (a := tx_s f m c1) (b := 3) (by omega) (by omega)).mp h46
              rw [if_pos h3] at hn
              refine wj_aload_n C 0 dX3_readText_56 rfl rfl ?_
              refine wj_cvf C (wj_rV C dX3_readText_57 km_X3_step kl_X3_28 is_X3 rfl rfl (c_X3_step_C l V hf2 hm2 h120 hg.1) rfl rfl (Nat.le_of_ble_eq_true rfl) (by decide)) ?_
              refine wj_iinc C (v := nI (121 - q)) dX3_readText_60 rfl (by rw [show (121 : Nat) - q = 121 - (q + 1) + 1 by omega]; exact wj_i1 _) (by decide) rfl ?_
              dsimp only [List.set]
              refine wj_goto C 11 dX3_readText_63 (by decide) ?_
              obtain ⟨l3, hl3, rfl⟩ : ∃ l3, tx_tx f m q (tx_up it n) (tx_e f m c1) = .inr l3 ∧ l2 = it :: l3 := by
                split at hn
                · cases hn
                · rename_i l3 h3
                  cases hn
                  exact ⟨l3, h3, rfl⟩
              exact ih (tx_up it n) (tx_e f m c1) (tx_ap B it) l3 (by omega) (tx_e_le hg.1) (tx_ap_n hN h8 hg.2.2.1) (tx_up_8 h8 hg.2.2.2) hl3 (by rw [List.length_cons] at hlen; omega) hfin
            · exact absurd hn (by rw [if_neg (fun z => h46 (by rw [z]; rfl))]; exact fun z => by cases z)
          · have hz : tx_s f m c1 = 0 := (nI_eq (a := tx_s f m c1) (b := 0) (by omega) (by omega)).mp h36
            rw [if_pos hz] at hn
            cases hn
            refine wj_iload_n C 2 dX3_readText_39 rfl rfl ?_
            exact hR _ _ _ _ _ dX3_readText_40 ⟨congrArg nI (by have : [it].length = 1 := rfl; omega), c1, by rw [← hfin]; rfl⟩ wj_rfl
        · exact absurd h22 (by decide)
  have e0 : wj_u (sp_put σ 2 T) 46 4 0 = sp_put (wj_u σ 46 4 0) 2 T := sp_put_u (by decide)
  have hf1 : wj_u (sp_put σ 2 T) 46 4 0 47 = f := by rw [wj_u_ne (by decide), sp_put_o (by decide)]; exact hf
  have hm1 : wj_u (sp_put σ 2 T) 46 4 0 46 1 = nI m := by rw [wj_u_same, sp_put_o (by decide)]; simp [upd]; exact hm
  have h41 : wj_u (sp_put σ 2 T) 46 4 0 46 4 = nI 0 := by rw [wj_u_same]; simp [upd]; rfl
  refine wj_aload_n C 0 dX3_readText_0 rfl rfl ?_
  refine wj_iconst (v := 0) C dX3_readText_1 (by decide) ?_
  refine wp_X3_25 C dX3_readText_2 ?_
  refine wj_aload_n C 0 dX3_readText_5 rfl rfl ?_
  refine wj_cvf C (wj_rV C dX3_readText_6 km_X3_step kl_X3_28 is_X3 rfl rfl (c_X3_step l V hf1 hm1 h120 (Nat.zero_le _) h41) rfl rfl (Nat.le_of_ble_eq_true rfl) (by decide)) ?_
  rw [tx_C_0]
  refine wj_iconst (v := 1) C dX3_readText_9 (by decide) ?_
  refine wj_istore_n C 2 dX3_readText_10 rfl (by decide) rfl ?_
  dsimp only [List.set]
  exact lp 120 n 0 T l1 (Nat.le_refl _) (Nat.zero_le _) hN h8n hn (by omega) rfl
theorem tx_neg (b : Nat) (h : b < 1000) : (-1 - nI b : Int32) ≤ 0 := by
  rw [Int32.le_iff_toInt_le, Int32.toInt_sub, nI_toInt (by omega), Int32.toInt_zero, show (-1 : Int32).toInt = -1 by decide, Int.bmod_eq_of_le (by omega) (by omega)]
  omega
set_option maxRecDepth 100000 in
set_option maxHeartbeats 4000000 in
theorem c_X4_text_l (l : Launch) (V : wj_V) {σ : wj_St} {f : Nat → Int32} {m : Nat} {A T : sp_L} {N y : Nat} (hf : σ 47 = f) (hm : σ 46 1 = nI m) (h120 : m ≤ 120) (hG : sp_G A N y) {d : Nat} (hn : tx_tx f m 120 N 0 = .inl d) (hd : d ≤ m) : wj_M l V yX4_text cX4_text 2 (some .int) 9 200 [.ref (V.2.2.1 0)] (sp_put (sp_put σ 1 A) 2 T) (wj_QI V (fun r u => r = -1 - nI (tx_b f m d) ∧ ∃ T2, u = sp_put (sp_put (wj_u (tx_C f m σ d) 46 1 0) 1 A) 2 T2)) := by
  refine wj_ofI (own := RX4) [some (.ref (V.2.2.1 0)), none] (by decide) rfl rfl (Nat.le_of_ble_eq_true rfl) (fun X C hR => ?_)
  have hf2 : sp_put σ 1 A 47 = f := by rw [sp_put_o (by decide)]; exact hf
  have hm2 : sp_put σ 1 A 46 1 = nI m := by rw [sp_put_o (by decide)]; exact hm
  have hb := tx_b_le (f := f) (m := m) (c := d) hd
  have hneg : (-1 - nI (tx_b f m d) : Int32) ≤ 0 := tx_neg _ (by omega)
  refine wj_aload_n C 0 dX4_text_0 rfl rfl ?_
  refine wg_X4_16 C dX4_text_1 ?_
  refine wj_aload_n C 0 dX4_text_4 rfl rfl ?_
  refine wg_X4_12 C dX4_text_5 ?_
  refine wj_cvf C (wj_rV C dX4_text_8 km_X0_become kl_X4_160 (is_X0 (by first | assumption | omega)) rfl rfl (c_X0_become l V (by decide) (by decide) (by decide) (sp_put_2.trans hG.1) hG.2.1) rfl rfl (Nat.le_of_ble_eq_true rfl) (by decide)) ?_
  rw [sp_bgt hG.1 hG.2.1]
  refine wj_aload_n C 0 dX4_text_11 rfl rfl ?_
  refine wg_X4_49 C dX4_text_12 ?_
  refine wj_aload_n C 0 dX4_text_15 rfl rfl ?_
  refine wg_X4_16 C dX4_text_16 ?_
  refine wj_ci C (wj_rV C dX4_text_19 km_X3_readText kl_X4_228 is_X3 rfl rfl (c_X3_readText_l l V hf2 hm2 h120 (T := sp_bec T A) hG.1 hG.2.1 hn) rfl rfl (Nat.le_of_ble_eq_true rfl) (by decide)) (fun r9 u9 hp9 => ?_)
  obtain ⟨rfl, T2, rfl⟩ := hp9
  refine wj_istore_n C 1 dX4_text_22 rfl (by decide) rfl ?_
  dsimp only [List.set]
  refine wj_iload_n C 1 dX4_text_23 rfl rfl ?_
  refine wj_if_le C 38 dX4_text_24 (by decide) (fun h24 => ?_) (fun h24 => absurd hneg h24)
  refine wj_aload_n C 0 dX4_text_38 rfl rfl ?_
  refine wg_X4_49 C dX4_text_39 ?_
  refine wj_iconst (v := 0) C dX4_text_42 (by decide) ?_
  rw [tx_C_put, tx_C_put]
  refine wp_X4_224 C dX4_text_43 ?_
  rw [sp_put_u (by decide), sp_put_u (by decide)]
  refine wj_iload_n C 1 dX4_text_46 rfl rfl ?_
  exact hR _ _ _ _ _ dX4_text_47 ⟨rfl, T2, rfl⟩ wj_rfl
set_option maxRecDepth 100000 in
set_option maxHeartbeats 4000000 in
theorem c_X4_text_r (l : Launch) (V : wj_V) {σ : wj_St} {f : Nat → Int32} {m : Nat} {A T : sp_L} {N y : Nat} (hf : σ 47 = f) (hm : σ 46 1 = nI m) (h120 : m ≤ 120) (hG : sp_G A N y) {l1 : List tx_I} (hn : tx_tx f m 120 N 0 = .inr l1) {N2 : Nat} (hK : (tx_aps (sp_bec T A) l1).2.1 = nI N2) (hK8 : N2 ≤ 8) : wj_M l V yX4_text cX4_text 2 (some .int) 9 200 [.ref (V.2.2.1 0)] (sp_put (sp_put σ 1 A) 2 T) (wj_QI V (fun r u => r = nI l1.length ∧ ∃ c T2, u = sp_put (sp_put (wj_u (tx_C f m σ c) 46 1 0) 1 (sp_bec A (tx_aps (sp_bec T A) l1))) 2 T2)) := by
  refine wj_ofI (own := RX4) [some (.ref (V.2.2.1 0)), none] (by decide) rfl rfl (Nat.le_of_ble_eq_true rfl) (fun X C hR => ?_)
  have hf2 : sp_put σ 1 A 47 = f := by rw [sp_put_o (by decide)]; exact hf
  have hm2 : sp_put σ 1 A 46 1 = nI m := by rw [sp_put_o (by decide)]; exact hm
  have hl := tx_tx_len 120 N 0 l1 (Nat.zero_le _) hn
  refine wj_aload_n C 0 dX4_text_0 rfl rfl ?_
  refine wg_X4_16 C dX4_text_1 ?_
  refine wj_aload_n C 0 dX4_text_4 rfl rfl ?_
  refine wg_X4_12 C dX4_text_5 ?_
  refine wj_cvf C (wj_rV C dX4_text_8 km_X0_become kl_X4_160 (is_X0 (by first | assumption | omega)) rfl rfl (c_X0_become l V (by decide) (by decide) (by decide) (sp_put_2.trans hG.1) hG.2.1) rfl rfl (Nat.le_of_ble_eq_true rfl) (by decide)) ?_
  rw [sp_bgt hG.1 hG.2.1]
  refine wj_aload_n C 0 dX4_text_11 rfl rfl ?_
  refine wg_X4_49 C dX4_text_12 ?_
  refine wj_aload_n C 0 dX4_text_15 rfl rfl ?_
  refine wg_X4_16 C dX4_text_16 ?_
  refine wj_ci C (wj_rV C dX4_text_19 km_X3_readText kl_X4_228 is_X3 rfl rfl (c_X3_readText_r l V hf2 hm2 h120 (T := sp_bec T A) hG.1 hG.2.1 hn) rfl rfl (Nat.le_of_ble_eq_true rfl) (by decide)) (fun r9 u9 hp9 => ?_)
  obtain ⟨rfl, c, rfl⟩ := hp9
  rw [tx_C_put, tx_C_put]
  refine wj_istore_n C 1 dX4_text_22 rfl (by decide) rfl ?_
  dsimp only [List.set]
  refine wj_iload_n C 1 dX4_text_23 rfl rfl ?_
  refine wj_if_le C 38 dX4_text_24 (by decide) (fun h24 => absurd h24 (nI_nle (n := l1.length) (by omega) (by omega))) (fun h24 => ?_)
  refine wj_aload_n C 0 dX4_text_27 rfl rfl ?_
  refine wg_X4_12 C dX4_text_28 ?_
  refine wj_aload_n C 0 dX4_text_31 rfl rfl ?_
  refine wg_X4_16 C dX4_text_32 ?_
  rw [sp_sw]
  refine wj_cvf C (wj_rV C dX4_text_35 km_X0_become kl_X4_160 (is_X0 (by first | assumption | omega)) rfl rfl (c_X0_become l V (by decide) (by decide) (by decide) (sp_put_2.trans hK) hK8) rfl rfl (Nat.le_of_ble_eq_true rfl) (by decide)) ?_
  rw [sp_bgt hK hK8, ← sp_sw]
  refine wj_aload_n C 0 dX4_text_38 rfl rfl ?_
  refine wg_X4_49 C dX4_text_39 ?_
  refine wj_iconst (v := 0) C dX4_text_42 (by decide) ?_
  refine wp_X4_224 C dX4_text_43 ?_
  rw [sp_put_u (by decide), sp_put_u (by decide)]
  refine wj_iload_n C 1 dX4_text_46 rfl rfl ?_
  exact hR _ _ _ _ _ dX4_text_47 ⟨rfl, c, _, rfl⟩ wj_rfl

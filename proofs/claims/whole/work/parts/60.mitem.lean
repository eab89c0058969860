/-- an item is put down -/
def tyi (h : Nat → Int32) (i : Nat) (it : tx_I) : Nat → Int32 := ty_ad h i (nI it.1) (nI it.2.1) (nI it.2.2.1) (nI it.2.2.2.1) (nI it.2.2.2.2)
set_option maxRecDepth 100000 in
set_option maxHeartbeats 4000000 in
theorem c_X5_readSlip_l (l : Launch) (V : wj_V) {σ : wj_St} {f g : Nat → Int32} {m c : Nat} (hg : σ 53 = g) (hm : σ 48 7 = nI m) (h120 : m ≤ 120) (ht : tx_tg g f m) {i n : Nat} {h : Nat → Int32} (hc : c ≤ m) (hi : i < 120) {k x : Nat} (h100 : n < 1000) (hn : n < 8 → tx_sl f m k (tx_e f m c) = .inl x) (hn2 : ¬ n < 8 → x = c) : wj_M l V yX5_readSlip cX5_readSlip 7 none 6 130 [.ref (V.2.2.1 48), .int (nI k)] (tm f m σ c 0 i n h) (wj_QV V (fun u => ∃ i2 n2 h2, u = tm f m σ x 1 i2 n2 h2)) := by
  refine wj_ofV (own := RX5) [some (.ref (V.2.2.1 48)), some (.int (nI k)), none, none, none, none, none] (by decide) rfl rfl (Nat.le_of_ble_eq_true rfl) (fun X C hR => ?_)
  have hce := tx_e_le (f := f) hc
  have e87 : ∀ p w g2, x ≤ m → wj_J l V X 87 [some (.ref (V.2.2.1 48)), some (.int (nI k)), some (.int (nI p)), some (.int (nI w)), some (.int (nI g2)), none, none] [] (tm f m σ x 1 i n h) := by
    intro p w g2 hx
    refine wj_aload_n C 0 dX5_readSlip_87 rfl rfl ?_
    refine wj_ldcSW C dX5_readSlip_88 kt_X5_288 ?_
    refine wj_cif C (wj_rV C dX5_readSlip_91 km_X5_takesWord kl_X5_278 is_X5 rfl rfl (c_X5_takesWord_n l V hg hm h120 ht hx (q := 10) (by decide) (Or.inr rfl)) rfl rfl (Nat.le_of_ble_eq_true rfl) (by decide)) ?_
    refine wj_istore C dX5_readSlip_94 (by decide) rfl ?_
    dsimp only [List.set]
    refine wj_iload C dX5_readSlip_96 rfl ?_
    refine wj_if_eq C 105 dX5_readSlip_98 (by decide) (fun h98 => ?_) (fun h98 => absurd rfl h98)
    refine wj_aload_n C 0 dX5_readSlip_105 rfl rfl ?_
    refine wj_ldcSW C dX5_readSlip_106 kt_X5_290 ?_
    refine wj_cif C (wj_rV C dX5_readSlip_109 km_X5_takesWord kl_X5_278 is_X5 rfl rfl (c_X5_takesWord_n l V hg hm h120 ht hx (q := 11) (by decide) (Or.inr rfl)) rfl rfl (Nat.le_of_ble_eq_true rfl) (by decide)) ?_
    refine wj_if_eq C 119 dX5_readSlip_112 (by decide) (fun h112 => ?_) (fun h112 => absurd rfl h112)
    refine wj_iconst (v := 0) C dX5_readSlip_119 (by decide) ?_
    refine wj_istore C dX5_readSlip_120 (by decide) rfl ?_
    dsimp only [List.set]
    refine wj_aload_n C 0 dX5_readSlip_122 rfl rfl ?_
    refine wj_iload_n C 1 dX5_readSlip_123 rfl rfl ?_
    refine wj_iload_n C 2 dX5_readSlip_124 rfl rfl ?_
    refine wj_iload_n C 3 dX5_readSlip_125 rfl rfl ?_
    refine wj_iload C dX5_readSlip_126 rfl ?_
    refine wj_iload C dX5_readSlip_128 rfl ?_
    refine wj_cvf C (wj_rV C dX5_readSlip_130 km_X5_addItem kl_X5_292 is_X5 rfl rfl (c_X5_addItem l V hi) rfl rfl (Nat.le_of_ble_eq_true rfl) (by decide)) ?_
    refine wj_aload_n C 0 dX5_readSlip_133 rfl rfl ?_
    refine wj_dup C dX5_readSlip_134 rfl ?_
    refine wg_X5_273 C dX5_readSlip_135 ?_
    rw [tm_16]
    refine wj_iconst (v := 1) C dX5_readSlip_138 (by decide) ?_
    refine wj_iadd C dX5_readSlip_139 ?_
    rw [nI_1]
    refine wp_X5_273 C dX5_readSlip_140 ?_
    rw [tm_u16]
    exact hR _ _ _ _ dX5_readSlip_143 ⟨_, _, _, rfl⟩ wj_rfl
  have e62 : ∀ p w, x ≤ m → wj_J l V X 62 [some (.ref (V.2.2.1 48)), some (.int (nI k)), some (.int (nI p)), some (.int (nI w)), none, none, none] [] (tm f m σ x 1 i n h) := by
    intro p w hx
    refine wj_aload_n C 0 dX5_readSlip_62 rfl rfl ?_
    refine wj_ldcSW C dX5_readSlip_63 kt_X5_286 ?_
    refine wj_cif C (wj_rV C dX5_readSlip_66 km_X5_takesWord kl_X5_278 is_X5 rfl rfl (c_X5_takesWord_n l V hg hm h120 ht hx (q := 9) (by decide) (Or.inr rfl)) rfl rfl (Nat.le_of_ble_eq_true rfl) (by decide)) ?_
    refine wj_if_eq C 83 dX5_readSlip_69 (by decide) (fun h69 => ?_) (fun h69 => absurd rfl h69)
    refine wj_bipush (v := 20) C dX5_readSlip_83 (by decide) ?_
    refine wj_istore C dX5_readSlip_85 (by decide) rfl ?_
    dsimp only [List.set]
    exact e87 p w 20 hx
  have e40 : ∀ p, x ≤ m → wj_J l V X 40 [some (.ref (V.2.2.1 48)), some (.int (nI k)), some (.int (nI p)), none, none, none, none] [] (tm f m σ x 1 i n h) := by
    intro p hx
    refine wj_aload_n C 0 dX5_readSlip_40 rfl rfl ?_
    refine wj_ldcSW C dX5_readSlip_41 kt_X5_284 ?_
    refine wj_cif C (wj_rV C dX5_readSlip_44 km_X5_takesWord kl_X5_278 is_X5 rfl rfl (c_X5_takesWord_n l V hg hm h120 ht hx (q := 8) (by decide) (Or.inr rfl)) rfl rfl (Nat.le_of_ble_eq_true rfl) (by decide)) ?_
    refine wj_if_eq C 60 dX5_readSlip_47 (by decide) (fun h47 => ?_) (fun h47 => absurd rfl h47)
    refine wj_iconst (v := 4) C dX5_readSlip_60 (by decide) ?_
    refine wj_istore_n C 3 dX5_readSlip_61 rfl (by decide) rfl ?_
    dsimp only [List.set]
    exact e62 p 4 hx
  have e18 : x ≤ m → wj_J l V X 18 [some (.ref (V.2.2.1 48)), some (.int (nI k)), none, none, none, none, none] [] (tm f m σ x 1 i n h) := by
    intro hx
    refine wj_aload_n C 0 dX5_readSlip_18 rfl rfl ?_
    refine wj_ldcSW C dX5_readSlip_19 kt_X5_276 ?_
    refine wj_cif C (wj_rV C dX5_readSlip_22 km_X5_takesWord kl_X5_278 is_X5 rfl rfl (c_X5_takesWord_n l V hg hm h120 ht hx (q := 7) (by decide) (Or.inr rfl)) rfl rfl (Nat.le_of_ble_eq_true rfl) (by decide)) ?_
    refine wj_if_eq C 38 dX5_readSlip_25 (by decide) (fun h25 => ?_) (fun h25 => absurd rfl h25)
    refine wj_iconst (v := 0) C dX5_readSlip_38 (by decide) ?_
    refine wj_istore_n C 2 dX5_readSlip_39 rfl (by decide) rfl ?_
    dsimp only [List.set]
    exact e40 0 hx
  have s18 : ∀ c1 p c2, c1 ≤ m → tx_prt f m 7 0 15 0 c1 = .inr (p, c2) → wj_J l V X 40 [some (.ref (V.2.2.1 48)), some (.int (nI k)), some (.int (nI p)), none, none, none, none] [] (tm f m σ c2 0 i n h) → wj_J l V X 18 [some (.ref (V.2.2.1 48)), some (.int (nI k)), none, none, none, none, none] [] (tm f m σ c1 0 i n h) := by
    intro c1 p c2 hc1 hp kk
    have hc2 := tx_e_le (f := f) hc1
    rw [tx_prt] at hp
    rcases hw : tx_w f m 7 c1 with _ | _
    · rw [if_neg (by rw [hw]; decide)] at hp
      cases hp
      refine wj_aload_n C 0 dX5_readSlip_18 rfl rfl ?_
      refine wj_ldcSW C dX5_readSlip_19 kt_X5_276 ?_
      refine wj_cif C (wj_rV C dX5_readSlip_22 km_X5_takesWord kl_X5_278 is_X5 rfl rfl (c_X5_takesWord_n l V hg hm h120 ht hc1 (q := 7) (by decide) (Or.inl hw)) rfl rfl (Nat.le_of_ble_eq_true rfl) (by decide)) ?_
      refine wj_if_eq C 38 dX5_readSlip_25 (by decide) (fun h25 => ?_) (fun h25 => absurd rfl h25)
      refine wj_iconst (v := 0) C dX5_readSlip_38 (by decide) ?_
      refine wj_istore_n C 2 dX5_readSlip_39 rfl (by decide) rfl ?_
      dsimp only [List.set]
      exact kk
    · rw [if_pos hw] at hp
      refine wj_aload_n C 0 dX5_readSlip_18 rfl rfl ?_
      refine wj_ldcSW C dX5_readSlip_19 kt_X5_276 ?_
      refine wj_cif C (wj_rV C dX5_readSlip_22 km_X5_takesWord kl_X5_278 is_X5 rfl rfl (c_X5_takesWord_y l V hg hm h120 ht hc1 (q := 7) (by decide) hw) rfl rfl (Nat.le_of_ble_eq_true rfl) (by decide)) ?_
      refine wj_if_eq C 38 dX5_readSlip_25 (by decide) (fun h25 => absurd h25 (by decide)) (fun h25 => ?_)
      refine wj_aload_n C 0 dX5_readSlip_28 rfl rfl ?_
      refine wj_iconst (v := 0) C dX5_readSlip_29 (by decide) ?_
      refine wj_bipush (v := 15) C dX5_readSlip_30 (by decide) ?_
      refine wj_cif C (wj_rV C dX5_readSlip_32 km_X5_number kl_X5_281 is_X5 rfl rfl (c_X5_number_r l V hg hm h120 ht hc2 (lo := 0) (hi := 15) (by decide) (by decide) hp) rfl rfl (Nat.le_of_ble_eq_true rfl) (by decide)) ?_
      refine wj_goto C 39 dX5_readSlip_35 (by decide) ?_
      refine wj_istore_n C 2 dX5_readSlip_39 rfl (by decide) rfl ?_
      dsimp only [List.set]
      exact kk
  have z18 : ∀ c1, c1 ≤ m → tx_prt f m 7 0 15 0 c1 = .inl x → wj_J l V X 18 [some (.ref (V.2.2.1 48)), some (.int (nI k)), none, none, none, none, none] [] (tm f m σ c1 0 i n h) := by
    intro c1 hc1 hp
    have hc2 := tx_e_le (f := f) hc1
    rw [tx_prt] at hp
    rcases hw : tx_w f m 7 c1 with _ | _
    · rw [if_neg (by rw [hw]; decide)] at hp
      cases hp
    · rw [if_pos hw] at hp
      have hx := tx_num_l hp
      subst hx
      refine wj_aload_n C 0 dX5_readSlip_18 rfl rfl ?_
      refine wj_ldcSW C dX5_readSlip_19 kt_X5_276 ?_
      refine wj_cif C (wj_rV C dX5_readSlip_22 km_X5_takesWord kl_X5_278 is_X5 rfl rfl (c_X5_takesWord_y l V hg hm h120 ht hc1 (q := 7) (by decide) hw) rfl rfl (Nat.le_of_ble_eq_true rfl) (by decide)) ?_
      refine wj_if_eq C 38 dX5_readSlip_25 (by decide) (fun h25 => absurd h25 (by decide)) (fun h25 => ?_)
      refine wj_aload_n C 0 dX5_readSlip_28 rfl rfl ?_
      refine wj_iconst (v := 0) C dX5_readSlip_29 (by decide) ?_
      refine wj_bipush (v := 15) C dX5_readSlip_30 (by decide) ?_
      refine wj_cif C (wj_rV C dX5_readSlip_32 km_X5_number kl_X5_281 is_X5 rfl rfl (c_X5_number_l l V hg hm h120 ht hc2 (lo := 0) (hi := 15) (by decide) (by decide) (Or.inl hp)) rfl rfl (Nat.le_of_ble_eq_true rfl) (by decide)) ?_
      refine wj_goto C 39 dX5_readSlip_35 (by decide) ?_
      refine wj_istore_n C 2 dX5_readSlip_39 rfl (by decide) rfl ?_
      dsimp only [List.set]
      exact e40 _ hc2
  have s40 : ∀ c1 p w c2, c1 ≤ m → tx_prt f m 8 1 12 4 c1 = .inr (w, c2) → wj_J l V X 62 [some (.ref (V.2.2.1 48)), some (.int (nI k)), some (.int (nI p)), some (.int (nI w)), none, none, none] [] (tm f m σ c2 0 i n h) → wj_J l V X 40 [some (.ref (V.2.2.1 48)), some (.int (nI k)), some (.int (nI p)), none, none, none, none] [] (tm f m σ c1 0 i n h) := by
    intro c1 p w c2 hc1 hp kk
    have hc2 := tx_e_le (f := f) hc1
    rw [tx_prt] at hp
    rcases hw : tx_w f m 8 c1 with _ | _
    · rw [if_neg (by rw [hw]; decide)] at hp
      cases hp
      refine wj_aload_n C 0 dX5_readSlip_40 rfl rfl ?_
      refine wj_ldcSW C dX5_readSlip_41 kt_X5_284 ?_
      refine wj_cif C (wj_rV C dX5_readSlip_44 km_X5_takesWord kl_X5_278 is_X5 rfl rfl (c_X5_takesWord_n l V hg hm h120 ht hc1 (q := 8) (by decide) (Or.inl hw)) rfl rfl (Nat.le_of_ble_eq_true rfl) (by decide)) ?_
      refine wj_if_eq C 60 dX5_readSlip_47 (by decide) (fun h47 => ?_) (fun h47 => absurd rfl h47)
      refine wj_iconst (v := 4) C dX5_readSlip_60 (by decide) ?_
      refine wj_istore_n C 3 dX5_readSlip_61 rfl (by decide) rfl ?_
      dsimp only [List.set]
      exact kk
    · rw [if_pos hw] at hp
      refine wj_aload_n C 0 dX5_readSlip_40 rfl rfl ?_
      refine wj_ldcSW C dX5_readSlip_41 kt_X5_284 ?_
      refine wj_cif C (wj_rV C dX5_readSlip_44 km_X5_takesWord kl_X5_278 is_X5 rfl rfl (c_X5_takesWord_y l V hg hm h120 ht hc1 (q := 8) (by decide) hw) rfl rfl (Nat.le_of_ble_eq_true rfl) (by decide)) ?_
      refine wj_if_eq C 60 dX5_readSlip_47 (by decide) (fun h47 => absurd h47 (by decide)) (fun h47 => ?_)
      refine wj_aload_n C 0 dX5_readSlip_50 rfl rfl ?_
      refine wj_iconst (v := 1) C dX5_readSlip_51 (by decide) ?_
      refine wj_bipush (v := 12) C dX5_readSlip_52 (by decide) ?_
      refine wj_cif C (wj_rV C dX5_readSlip_54 km_X5_number kl_X5_281 is_X5 rfl rfl (c_X5_number_r l V hg hm h120 ht hc2 (lo := 1) (hi := 12) (by decide) (by decide) hp) rfl rfl (Nat.le_of_ble_eq_true rfl) (by decide)) ?_
      refine wj_goto C 61 dX5_readSlip_57 (by decide) ?_
      refine wj_istore_n C 3 dX5_readSlip_61 rfl (by decide) rfl ?_
      dsimp only [List.set]
      exact kk
  have z40 : ∀ c1 p, c1 ≤ m → tx_prt f m 8 1 12 4 c1 = .inl x → wj_J l V X 40 [some (.ref (V.2.2.1 48)), some (.int (nI k)), some (.int (nI p)), none, none, none, none] [] (tm f m σ c1 0 i n h) := by
    intro c1 p hc1 hp
    have hc2 := tx_e_le (f := f) hc1
    rw [tx_prt] at hp
    rcases hw : tx_w f m 8 c1 with _ | _
    · rw [if_neg (by rw [hw]; decide)] at hp
      cases hp
    · rw [if_pos hw] at hp
      have hx := tx_num_l hp
      subst hx
      refine wj_aload_n C 0 dX5_readSlip_40 rfl rfl ?_
      refine wj_ldcSW C dX5_readSlip_41 kt_X5_284 ?_
      refine wj_cif C (wj_rV C dX5_readSlip_44 km_X5_takesWord kl_X5_278 is_X5 rfl rfl (c_X5_takesWord_y l V hg hm h120 ht hc1 (q := 8) (by decide) hw) rfl rfl (Nat.le_of_ble_eq_true rfl) (by decide)) ?_
      refine wj_if_eq C 60 dX5_readSlip_47 (by decide) (fun h47 => absurd h47 (by decide)) (fun h47 => ?_)
      refine wj_aload_n C 0 dX5_readSlip_50 rfl rfl ?_
      refine wj_iconst (v := 1) C dX5_readSlip_51 (by decide) ?_
      refine wj_bipush (v := 12) C dX5_readSlip_52 (by decide) ?_
      refine wj_cif C (wj_rV C dX5_readSlip_54 km_X5_number kl_X5_281 is_X5 rfl rfl (c_X5_number_l l V hg hm h120 ht hc2 (lo := 1) (hi := 12) (by decide) (by decide) (Or.inl hp)) rfl rfl (Nat.le_of_ble_eq_true rfl) (by decide)) ?_
      refine wj_goto C 61 dX5_readSlip_57 (by decide) ?_
      refine wj_istore_n C 3 dX5_readSlip_61 rfl (by decide) rfl ?_
      dsimp only [List.set]
      exact e62 p _ hc2
  have s62 : ∀ c1 p w g2 c2, c1 ≤ m → tx_prt f m 9 0 199 20 c1 = .inr (g2, c2) → wj_J l V X 87 [some (.ref (V.2.2.1 48)), some (.int (nI k)), some (.int (nI p)), some (.int (nI w)), some (.int (nI g2)), none, none] [] (tm f m σ c2 0 i n h) → wj_J l V X 62 [some (.ref (V.2.2.1 48)), some (.int (nI k)), some (.int (nI p)), some (.int (nI w)), none, none, none] [] (tm f m σ c1 0 i n h) := by
    intro c1 p w g2 c2 hc1 hp kk
    have hc2 := tx_e_le (f := f) hc1
    rw [tx_prt] at hp
    rcases hw : tx_w f m 9 c1 with _ | _
    · rw [if_neg (by rw [hw]; decide)] at hp
      cases hp
      refine wj_aload_n C 0 dX5_readSlip_62 rfl rfl ?_
      refine wj_ldcSW C dX5_readSlip_63 kt_X5_286 ?_
      refine wj_cif C (wj_rV C dX5_readSlip_66 km_X5_takesWord kl_X5_278 is_X5 rfl rfl (c_X5_takesWord_n l V hg hm h120 ht hc1 (q := 9) (by decide) (Or.inl hw)) rfl rfl (Nat.le_of_ble_eq_true rfl) (by decide)) ?_
      refine wj_if_eq C 83 dX5_readSlip_69 (by decide) (fun h69 => ?_) (fun h69 => absurd rfl h69)
      refine wj_bipush (v := 20) C dX5_readSlip_83 (by decide) ?_
      refine wj_istore C dX5_readSlip_85 (by decide) rfl ?_
      dsimp only [List.set]
      exact kk
    · rw [if_pos hw] at hp
      refine wj_aload_n C 0 dX5_readSlip_62 rfl rfl ?_
      refine wj_ldcSW C dX5_readSlip_63 kt_X5_286 ?_
      refine wj_cif C (wj_rV C dX5_readSlip_66 km_X5_takesWord kl_X5_278 is_X5 rfl rfl (c_X5_takesWord_y l V hg hm h120 ht hc1 (q := 9) (by decide) hw) rfl rfl (Nat.le_of_ble_eq_true rfl) (by decide)) ?_
      refine wj_if_eq C 83 dX5_readSlip_69 (by decide) (fun h69 => absurd h69 (by decide)) (fun h69 => ?_)
      refine wj_aload_n C 0 dX5_readSlip_72 rfl rfl ?_
      refine wj_iconst (v := 0) C dX5_readSlip_73 (by decide) ?_
      refine wj_sipush (v := 199) C dX5_readSlip_74 (by decide) ?_
      refine wj_cif C (wj_rV C dX5_readSlip_77 km_X5_number kl_X5_281 is_X5 rfl rfl (c_X5_number_r l V hg hm h120 ht hc2 (lo := 0) (hi := 199) (by decide) (by decide) hp) rfl rfl (Nat.le_of_ble_eq_true rfl) (by decide)) ?_
      refine wj_goto C 85 dX5_readSlip_80 (by decide) ?_
      refine wj_istore C dX5_readSlip_85 (by decide) rfl ?_
      dsimp only [List.set]
      exact kk
  have z62 : ∀ c1 p w, c1 ≤ m → tx_prt f m 9 0 199 20 c1 = .inl x → wj_J l V X 62 [some (.ref (V.2.2.1 48)), some (.int (nI k)), some (.int (nI p)), some (.int (nI w)), none, none, none] [] (tm f m σ c1 0 i n h) := by
    intro c1 p w hc1 hp
    have hc2 := tx_e_le (f := f) hc1
    rw [tx_prt] at hp
    rcases hw : tx_w f m 9 c1 with _ | _
    · rw [if_neg (by rw [hw]; decide)] at hp
      cases hp
    · rw [if_pos hw] at hp
      have hx := tx_num_l hp
      subst hx
      refine wj_aload_n C 0 dX5_readSlip_62 rfl rfl ?_
      refine wj_ldcSW C dX5_readSlip_63 kt_X5_286 ?_
      refine wj_cif C (wj_rV C dX5_readSlip_66 km_X5_takesWord kl_X5_278 is_X5 rfl rfl (c_X5_takesWord_y l V hg hm h120 ht hc1 (q := 9) (by decide) hw) rfl rfl (Nat.le_of_ble_eq_true rfl) (by decide)) ?_
      refine wj_if_eq C 83 dX5_readSlip_69 (by decide) (fun h69 => absurd h69 (by decide)) (fun h69 => ?_)
      refine wj_aload_n C 0 dX5_readSlip_72 rfl rfl ?_
      refine wj_iconst (v := 0) C dX5_readSlip_73 (by decide) ?_
      refine wj_sipush (v := 199) C dX5_readSlip_74 (by decide) ?_
      refine wj_cif C (wj_rV C dX5_readSlip_77 km_X5_number kl_X5_281 is_X5 rfl rfl (c_X5_number_l l V hg hm h120 ht hc2 (lo := 0) (hi := 199) (by decide) (by decide) (Or.inl hp)) rfl rfl (Nat.le_of_ble_eq_true rfl) (by decide)) ?_
      refine wj_goto C 85 dX5_readSlip_80 (by decide) ?_
      refine wj_istore C dX5_readSlip_85 (by decide) rfl ?_
      dsimp only [List.set]
      exact e87 p w _ hc2
  have t18 : n < 8 → wj_J l V X 18 [some (.ref (V.2.2.1 48)), some (.int (nI k)), none, none, none, none, none] [] (tm f m σ (tx_e f m c) 0 i n h) := by
    intro h8
    have hn := hn h8
    rw [tx_sl] at hn
    rcases h1 : tx_prt f m 7 0 15 0 (tx_e f m c) with x1 | ⟨p, d1⟩
    · rw [h1] at hn
      cases hn
      exact z18 _ hce h1
    · have hb1 := tx_prt_c hce h1 (by decide)
      rw [h1] at hn
      dsimp only at hn
      refine s18 _ p d1 hce h1 ?_
      rcases h2 : tx_prt f m 8 1 12 4 d1 with x2 | ⟨w, d2⟩
      · rw [h2] at hn
        cases hn
        exact z40 _ _ hb1.1 h2
      · have hb2 := tx_prt_c hb1.1 h2 (by decide)
        rw [h2] at hn
        dsimp only at hn
        refine s40 _ _ w d2 hb1.1 h2 ?_
        rcases h3 : tx_prt f m 9 0 199 20 d2 with x3 | ⟨g2, d3⟩
        · rw [h3] at hn
          cases hn
          exact z62 _ _ _ hb2.1 h3
        · rw [h3] at hn
          cases hn
  refine wj_aload_n C 0 dX5_readSlip_0 rfl rfl ?_
  refine wj_aload_n C 0 dX5_readSlip_1 rfl rfl ?_
  refine wg_X5_273 C dX5_readSlip_2 ?_
  rw [tm_16]
  refine wj_bipush (v := 8) C dX5_readSlip_5 (by decide) ?_
  refine wj_icmp_ge C 14 dX5_readSlip_7 (by decide) (fun h7 => ?_) (fun h7 => ?_)
  · have h8 : ¬ n < 8 := fun z => absurd h7 (nI_ge z (by decide))
    have hx := hn2 h8
    subst hx
    refine wj_iconst (v := 0) C dX5_readSlip_14 (by decide) ?_
    refine wj_cvf C (wj_rV C dX5_readSlip_15 km_X5_must kl_X5_262 is_X5 rfl rfl (c_X5_must_no l V hg hm h120 ht hc (w := 0) (Or.inl rfl)) rfl rfl (Nat.le_of_ble_eq_true rfl) (by decide)) ?_
    first | exact t18 h8 | exact e18 hc
  · have h8 : n < 8 := by
      rcases Nat.lt_or_ge n 8 with q | q
      · exact q
      · exact absurd (nI_le (a := 8) (b := n) q (by omega)) h7
    refine wj_iconst (v := 1) C dX5_readSlip_10 (by decide) ?_
    refine wj_goto C 15 dX5_readSlip_11 (by decide) ?_
    refine wj_cvf C (wj_rV C dX5_readSlip_15 km_X5_must kl_X5_262 is_X5 rfl rfl (c_X5_must_go l V hg hm h120 ht hc) rfl rfl (Nat.le_of_ble_eq_true rfl) (by decide)) ?_
    first | exact t18 h8 | exact e18 hc
set_option maxRecDepth 100000 in
set_option maxHeartbeats 4000000 in
theorem c_X5_readSlip_r (l : Launch) (V : wj_V) {σ : wj_St} {f g : Nat → Int32} {m c : Nat} (hg : σ 53 = g) (hm : σ 48 7 = nI m) (h120 : m ≤ 120) (ht : tx_tg g f m) {i n : Nat} {h : Nat → Int32} (hc : c ≤ m) (hi : i < 120) {k c1 : Nat} {it : tx_I} (h8 : n < 8) (hn : tx_sl f m k (tx_e f m c) = .inr (it, c1)) : wj_M l V yX5_readSlip cX5_readSlip 7 none 6 130 [.ref (V.2.2.1 48), .int (nI k)] (tm f m σ c 0 i n h) (wj_Vd V (tm f m σ c1 0 (i + 1) (n + 1) (tyi h i it))) := by
  refine wj_ofV (own := RX5) [some (.ref (V.2.2.1 48)), some (.int (nI k)), none, none, none, none, none] (by decide) rfl rfl (Nat.le_of_ble_eq_true rfl) (fun X C hR => ?_)
  have hce := tx_e_le (f := f) hc
  have s18 : ∀ c1 p c2, c1 ≤ m → tx_prt f m 7 0 15 0 c1 = .inr (p, c2) → wj_J l V X 40 [some (.ref (V.2.2.1 48)), some (.int (nI k)), some (.int (nI p)), none, none, none, none] [] (tm f m σ c2 0 i n h) → wj_J l V X 18 [some (.ref (V.2.2.1 48)), some (.int (nI k)), none, none, none, none, none] [] (tm f m σ c1 0 i n h) := by
    intro c1 p c2 hc1 hp kk
    have hc2 := tx_e_le (f := f) hc1
    rw [tx_prt] at hp
    rcases hw : tx_w f m 7 c1 with _ | _
    · rw [if_neg (by rw [hw]; decide)] at hp
      cases hp
      refine wj_aload_n C 0 dX5_readSlip_18 rfl rfl ?_
      refine wj_ldcSW C dX5_readSlip_19 kt_X5_276 ?_
      refine wj_cif C (wj_rV C dX5_readSlip_22 km_X5_takesWord kl_X5_278 is_X5 rfl rfl (c_X5_takesWord_n l V hg hm h120 ht hc1 (q := 7) (by decide) (Or.inl hw)) rfl rfl (Nat.le_of_ble_eq_true rfl) (by decide)) ?_
      refine wj_if_eq C 38 dX5_readSlip_25 (by decide) (fun h25 => ?_) (fun h25 => absurd rfl h25)
      refine wj_iconst (v := 0) C dX5_readSlip_38 (by decide) ?_
      refine wj_istore_n C 2 dX5_readSlip_39 rfl (by decide) rfl ?_
      dsimp only [List.set]
      exact kk
    · rw [if_pos hw] at hp
      refine wj_aload_n C 0 dX5_readSlip_18 rfl rfl ?_
      refine wj_ldcSW C dX5_readSlip_19 kt_X5_276 ?_
      refine wj_cif C (wj_rV C dX5_readSlip_22 km_X5_takesWord kl_X5_278 is_X5 rfl rfl (c_X5_takesWord_y l V hg hm h120 ht hc1 (q := 7) (by decide) hw) rfl rfl (Nat.le_of_ble_eq_true rfl) (by decide)) ?_
      refine wj_if_eq C 38 dX5_readSlip_25 (by decide) (fun h25 => absurd h25 (by decide)) (fun h25 => ?_)
      refine wj_aload_n C 0 dX5_readSlip_28 rfl rfl ?_
      refine wj_iconst (v := 0) C dX5_readSlip_29 (by decide) ?_
      refine wj_bipush (v := 15) C dX5_readSlip_30 (by decide) ?_
      refine wj_cif C (wj_rV C dX5_readSlip_32 km_X5_number kl_X5_281 is_X5 rfl rfl (c_X5_number_r l V hg hm h120 ht hc2 (lo := 0) (hi := 15) (by decide) (by decide) hp) rfl rfl (Nat.le_of_ble_eq_true rfl) (by decide)) ?_
      refine wj_goto C 39 dX5_readSlip_35 (by decide) ?_
      refine wj_istore_n C 2 dX5_readSlip_39 rfl (by decide) rfl ?_
      dsimp only [List.set]
      exact kk
  have s40 : ∀ c1 p w c2, c1 ≤ m → tx_prt f m 8 1 12 4 c1 = .inr (w, c2) → wj_J l V X 62 [some (.ref (V.2.2.1 48)), some (.int (nI k)), some (.int (nI p)), some (.int (nI w)), none, none, none] [] (tm f m σ c2 0 i n h) → wj_J l V X 40 [some (.ref (V.2.2.1 48)), some (.int (nI k)), some (.int (nI p)), none, none, none, none] [] (tm f m σ c1 0 i n h) := by
    intro c1 p w c2 hc1 hp kk
    have hc2 := tx_e_le (f := f) hc1
    rw [tx_prt] at hp
    rcases hw : tx_w f m 8 c1 with _ | _
    · rw [if_neg (by rw [hw]; decide)] at hp
      cases hp
      refine wj_aload_n C 0 dX5_readSlip_40 rfl rfl ?_
      refine wj_ldcSW C dX5_readSlip_41 kt_X5_284 ?_
      refine wj_cif C (wj_rV C dX5_readSlip_44 km_X5_takesWord kl_X5_278 is_X5 rfl rfl (c_X5_takesWord_n l V hg hm h120 ht hc1 (q := 8) (by decide) (Or.inl hw)) rfl rfl (Nat.le_of_ble_eq_true rfl) (by decide)) ?_
      refine wj_if_eq C 60 dX5_readSlip_47 (by decide) (fun h47 => ?_) (fun h47 => absurd rfl h47)
      refine wj_iconst (v := 4) C dX5_readSlip_60 (by decide) ?_
      refine wj_istore_n C 3 dX5_readSlip_61 rfl (by decide) rfl ?_
      dsimp only [List.set]
      exact kk
    · rw [if_pos hw] at hp
      refine wj_aload_n C 0 dX5_readSlip_40 rfl rfl ?_
      refine wj_ldcSW C dX5_readSlip_41 kt_X5_284 ?_
      refine wj_cif C (wj_rV C dX5_readSlip_44 km_X5_takesWord kl_X5_278 is_X5 rfl rfl (c_X5_takesWord_y l V hg hm h120 ht hc1 (q := 8) (by decide) hw) rfl rfl (Nat.le_of_ble_eq_true rfl) (by decide)) ?_
      refine wj_if_eq C 60 dX5_readSlip_47 (by decide) (fun h47 => absurd h47 (by decide)) (fun h47 => ?_)
      refine wj_aload_n C 0 dX5_readSlip_50 rfl rfl ?_
      refine wj_iconst (v := 1) C dX5_readSlip_51 (by decide) ?_
      refine wj_bipush (v := 12) C dX5_readSlip_52 (by decide) ?_
      refine wj_cif C (wj_rV C dX5_readSlip_54 km_X5_number kl_X5_281 is_X5 rfl rfl (c_X5_number_r l V hg hm h120 ht hc2 (lo := 1) (hi := 12) (by decide) (by decide) hp) rfl rfl (Nat.le_of_ble_eq_true rfl) (by decide)) ?_
      refine wj_goto C 61 dX5_readSlip_57 (by decide) ?_
      refine wj_istore_n C 3 dX5_readSlip_61 rfl (by decide) rfl ?_
      dsimp only [List.set]
      exact kk
  have s62 : ∀ c1 p w g2 c2, c1 ≤ m → tx_prt f m 9 0 199 20 c1 = .inr (g2, c2) → wj_J l V X 87 [some (.ref (V.2.2.1 48)), some (.int (nI k)), some (.int (nI p)), some (.int (nI w)), some (.int (nI g2)), none, none] [] (tm f m σ c2 0 i n h) → wj_J l V X 62 [some (.ref (V.2.2.1 48)), some (.int (nI k)), some (.int (nI p)), some (.int (nI w)), none, none, none] [] (tm f m σ c1 0 i n h) := by
    intro c1 p w g2 c2 hc1 hp kk
    have hc2 := tx_e_le (f := f) hc1
    rw [tx_prt] at hp
    rcases hw : tx_w f m 9 c1 with _ | _
    · rw [if_neg (by rw [hw]; decide)] at hp
      cases hp
      refine wj_aload_n C 0 dX5_readSlip_62 rfl rfl ?_
      refine wj_ldcSW C dX5_readSlip_63 kt_X5_286 ?_
      refine wj_cif C (wj_rV C dX5_readSlip_66 km_X5_takesWord kl_X5_278 is_X5 rfl rfl (c_X5_takesWord_n l V hg hm h120 ht hc1 (q := 9) (by decide) (Or.inl hw)) rfl rfl (Nat.le_of_ble_eq_true rfl) (by decide)) ?_
      refine wj_if_eq C 83 dX5_readSlip_69 (by decide) (fun h69 => ?_) (fun h69 => absurd rfl h69)
      refine wj_bipush (v := 20) C dX5_readSlip_83 (by decide) ?_
      refine wj_istore C dX5_readSlip_85 (by decide) rfl ?_
      dsimp only [List.set]
      exact kk
    · rw [if_pos hw] at hp
      refine wj_aload_n C 0 dX5_readSlip_62 rfl rfl ?_
      refine wj_ldcSW C dX5_readSlip_63 kt_X5_286 ?_
      refine wj_cif C (wj_rV C dX5_readSlip_66 km_X5_takesWord kl_X5_278 is_X5 rfl rfl (c_X5_takesWord_y l V hg hm h120 ht hc1 (q := 9) (by decide) hw) rfl rfl (Nat.le_of_ble_eq_true rfl) (by decide)) ?_
      refine wj_if_eq C 83 dX5_readSlip_69 (by decide) (fun h69 => absurd h69 (by decide)) (fun h69 => ?_)
      refine wj_aload_n C 0 dX5_readSlip_72 rfl rfl ?_
      refine wj_iconst (v := 0) C dX5_readSlip_73 (by decide) ?_
      refine wj_sipush (v := 199) C dX5_readSlip_74 (by decide) ?_
      refine wj_cif C (wj_rV C dX5_readSlip_77 km_X5_number kl_X5_281 is_X5 rfl rfl (c_X5_number_r l V hg hm h120 ht hc2 (lo := 0) (hi := 199) (by decide) (by decide) hp) rfl rfl (Nat.le_of_ble_eq_true rfl) (by decide)) ?_
      refine wj_goto C 85 dX5_readSlip_80 (by decide) ?_
      refine wj_istore C dX5_readSlip_85 (by decide) rfl ?_
      dsimp only [List.set]
      exact kk
  obtain ⟨p, d1, w, d2, g2, d3, h1, h2, h3, rfl, rfl⟩ : ∃ p d1 w d2 g2 d3, tx_prt f m 7 0 15 0 (tx_e f m c) = .inr (p, d1) ∧ tx_prt f m 8 1 12 4 d1 = .inr (w, d2) ∧ tx_prt f m 9 0 199 20 d2 = .inr (g2, d3) ∧ it = (k, p, w, g2, (tx_ld f m d3).1) ∧ c1 = (tx_ld f m d3).2 := by
    rw [tx_sl] at hn
    split at hn
    · cases hn
    · rename_i p d1 h1
      split at hn
      · cases hn
      · rename_i w d2 h2
        split at hn
        · cases hn
        · rename_i g2 d3 h3
          cases hn
          exact ⟨p, d1, w, d2, g2, d3, h1, h2, h3, rfl, rfl⟩
  have hb1 := tx_prt_c hce h1 (by decide)
  have hb2 := tx_prt_c hb1.1 h2 (by decide)
  have hb3 := tx_prt_c hb2.1 h3 (by decide)
  have t87 : wj_J l V X 87 [some (.ref (V.2.2.1 48)), some (.int (nI k)), some (.int (nI p)), some (.int (nI w)), some (.int (nI g2)), none, none] [] (tm f m σ d3 0 i n h) := by
    rcases hw1 : tx_w f m 10 d3 with _ | _
    · rcases hw2 : tx_w f m 11 d3 with _ | _
      · have hld : tx_ld f m d3 = (0, d3) := by rw [tx_ld, if_neg (by rw [hw1]; decide), if_neg (by rw [hw2]; decide)]
        refine wj_aload_n C 0 dX5_readSlip_87 rfl rfl ?_
        refine wj_ldcSW C dX5_readSlip_88 kt_X5_288 ?_
        refine wj_cif C (wj_rV C dX5_readSlip_91 km_X5_takesWord kl_X5_278 is_X5 rfl rfl (c_X5_takesWord_n l V hg hm h120 ht hb3.1 (q := 10) (by decide) (Or.inl hw1)) rfl rfl (Nat.le_of_ble_eq_true rfl) (by decide)) ?_
        refine wj_istore C dX5_readSlip_94 (by decide) rfl ?_
        dsimp only [List.set]
        refine wj_iload C dX5_readSlip_96 rfl ?_
        refine wj_if_eq C 105 dX5_readSlip_98 (by decide) (fun h98 => ?_) (fun h98 => absurd rfl h98)
        refine wj_aload_n C 0 dX5_readSlip_105 rfl rfl ?_
        refine wj_ldcSW C dX5_readSlip_106 kt_X5_290 ?_
        refine wj_cif C (wj_rV C dX5_readSlip_109 km_X5_takesWord kl_X5_278 is_X5 rfl rfl (c_X5_takesWord_n l V hg hm h120 ht hb3.1 (q := 11) (by decide) (Or.inl hw2)) rfl rfl (Nat.le_of_ble_eq_true rfl) (by decide)) ?_
        refine wj_if_eq C 119 dX5_readSlip_112 (by decide) (fun h112 => ?_) (fun h112 => absurd rfl h112)
        refine wj_iconst (v := 0) C dX5_readSlip_119 (by decide) ?_
        refine wj_istore C dX5_readSlip_120 (by decide) rfl ?_
        dsimp only [List.set]
        refine wj_aload_n C 0 dX5_readSlip_122 rfl rfl ?_
        refine wj_iload_n C 1 dX5_readSlip_123 rfl rfl ?_
        refine wj_iload_n C 2 dX5_readSlip_124 rfl rfl ?_
        refine wj_iload_n C 3 dX5_readSlip_125 rfl rfl ?_
        refine wj_iload C dX5_readSlip_126 rfl ?_
        refine wj_iload C dX5_readSlip_128 rfl ?_
        refine wj_cvf C (wj_rV C dX5_readSlip_130 km_X5_addItem kl_X5_292 is_X5 rfl rfl (c_X5_addItem l V hi) rfl rfl (Nat.le_of_ble_eq_true rfl) (by decide)) ?_
        refine wj_aload_n C 0 dX5_readSlip_133 rfl rfl ?_
        refine wj_dup C dX5_readSlip_134 rfl ?_
        refine wg_X5_273 C dX5_readSlip_135 ?_
        rw [tm_16]
        refine wj_iconst (v := 1) C dX5_readSlip_138 (by decide) ?_
        refine wj_iadd C dX5_readSlip_139 ?_
        rw [nI_1]
        refine wp_X5_273 C dX5_readSlip_140 ?_
        rw [tm_u16]
        exact hR _ _ _ _ dX5_readSlip_143 rfl (by rw [hld]; exact wj_rfl)
      · have hld : tx_ld f m d3 = (2, tx_e f m d3) := by rw [tx_ld, if_neg (by rw [hw1]; decide), if_pos hw2]
        refine wj_aload_n C 0 dX5_readSlip_87 rfl rfl ?_
        refine wj_ldcSW C dX5_readSlip_88 kt_X5_288 ?_
        refine wj_cif C (wj_rV C dX5_readSlip_91 km_X5_takesWord kl_X5_278 is_X5 rfl rfl (c_X5_takesWord_n l V hg hm h120 ht hb3.1 (q := 10) (by decide) (Or.inl hw1)) rfl rfl (Nat.le_of_ble_eq_true rfl) (by decide)) ?_
        refine wj_istore C dX5_readSlip_94 (by decide) rfl ?_
        dsimp only [List.set]
        refine wj_iload C dX5_readSlip_96 rfl ?_
        refine wj_if_eq C 105 dX5_readSlip_98 (by decide) (fun h98 => ?_) (fun h98 => absurd rfl h98)
        refine wj_aload_n C 0 dX5_readSlip_105 rfl rfl ?_
        refine wj_ldcSW C dX5_readSlip_106 kt_X5_290 ?_
        refine wj_cif C (wj_rV C dX5_readSlip_109 km_X5_takesWord kl_X5_278 is_X5 rfl rfl (c_X5_takesWord_y l V hg hm h120 ht hb3.1 (q := 11) (by decide) hw2) rfl rfl (Nat.le_of_ble_eq_true rfl) (by decide)) ?_
        refine wj_if_eq C 119 dX5_readSlip_112 (by decide) (fun h112 => absurd h112 (by decide)) (fun h112 => ?_)
        refine wj_iconst (v := 2) C dX5_readSlip_115 (by decide) ?_
        refine wj_goto C 120 dX5_readSlip_116 (by decide) ?_
        refine wj_istore C dX5_readSlip_120 (by decide) rfl ?_
        dsimp only [List.set]
        refine wj_aload_n C 0 dX5_readSlip_122 rfl rfl ?_
        refine wj_iload_n C 1 dX5_readSlip_123 rfl rfl ?_
        refine wj_iload_n C 2 dX5_readSlip_124 rfl rfl ?_
        refine wj_iload_n C 3 dX5_readSlip_125 rfl rfl ?_
        refine wj_iload C dX5_readSlip_126 rfl ?_
        refine wj_iload C dX5_readSlip_128 rfl ?_
        refine wj_cvf C (wj_rV C dX5_readSlip_130 km_X5_addItem kl_X5_292 is_X5 rfl rfl (c_X5_addItem l V hi) rfl rfl (Nat.le_of_ble_eq_true rfl) (by decide)) ?_
        refine wj_aload_n C 0 dX5_readSlip_133 rfl rfl ?_
        refine wj_dup C dX5_readSlip_134 rfl ?_
        refine wg_X5_273 C dX5_readSlip_135 ?_
        rw [tm_16]
        refine wj_iconst (v := 1) C dX5_readSlip_138 (by decide) ?_
        refine wj_iadd C dX5_readSlip_139 ?_
        rw [nI_1]
        refine wp_X5_273 C dX5_readSlip_140 ?_
        rw [tm_u16]
        exact hR _ _ _ _ dX5_readSlip_143 rfl (by rw [hld]; exact wj_rfl)
    · have hld : tx_ld f m d3 = (1, tx_e f m d3) := by rw [tx_ld, if_pos hw1]
      refine wj_aload_n C 0 dX5_readSlip_87 rfl rfl ?_
      refine wj_ldcSW C dX5_readSlip_88 kt_X5_288 ?_
      refine wj_cif C (wj_rV C dX5_readSlip_91 km_X5_takesWord kl_X5_278 is_X5 rfl rfl (c_X5_takesWord_y l V hg hm h120 ht hb3.1 (q := 10) (by decide) hw1) rfl rfl (Nat.le_of_ble_eq_true rfl) (by decide)) ?_
      refine wj_istore C dX5_readSlip_94 (by decide) rfl ?_
      dsimp only [List.set]
      refine wj_iload C dX5_readSlip_96 rfl ?_
      refine wj_if_eq C 105 dX5_readSlip_98 (by decide) (fun h98 => absurd h98 (by decide)) (fun h98 => ?_)
      refine wj_iconst (v := 1) C dX5_readSlip_101 (by decide) ?_
      refine wj_goto C 120 dX5_readSlip_102 (by decide) ?_
      refine wj_istore C dX5_readSlip_120 (by decide) rfl ?_
      dsimp only [List.set]
      refine wj_aload_n C 0 dX5_readSlip_122 rfl rfl ?_
      refine wj_iload_n C 1 dX5_readSlip_123 rfl rfl ?_
      refine wj_iload_n C 2 dX5_readSlip_124 rfl rfl ?_
      refine wj_iload_n C 3 dX5_readSlip_125 rfl rfl ?_
      refine wj_iload C dX5_readSlip_126 rfl ?_
      refine wj_iload C dX5_readSlip_128 rfl ?_
      refine wj_cvf C (wj_rV C dX5_readSlip_130 km_X5_addItem kl_X5_292 is_X5 rfl rfl (c_X5_addItem l V hi) rfl rfl (Nat.le_of_ble_eq_true rfl) (by decide)) ?_
      refine wj_aload_n C 0 dX5_readSlip_133 rfl rfl ?_
      refine wj_dup C dX5_readSlip_134 rfl ?_
      refine wg_X5_273 C dX5_readSlip_135 ?_
      rw [tm_16]
      refine wj_iconst (v := 1) C dX5_readSlip_138 (by decide) ?_
      refine wj_iadd C dX5_readSlip_139 ?_
      rw [nI_1]
      refine wp_X5_273 C dX5_readSlip_140 ?_
      rw [tm_u16]
      exact hR _ _ _ _ dX5_readSlip_143 rfl (by rw [hld]; exact wj_rfl)
  refine wj_aload_n C 0 dX5_readSlip_0 rfl rfl ?_
  refine wj_aload_n C 0 dX5_readSlip_1 rfl rfl ?_
  refine wg_X5_273 C dX5_readSlip_2 ?_
  rw [tm_16]
  refine wj_bipush (v := 8) C dX5_readSlip_5 (by decide) ?_
  refine wj_icmp_ge C 14 dX5_readSlip_7 (by decide) (fun h7 => absurd h7 (nI_ge (a := n) (b := 8) h8 (by decide))) (fun h7 => ?_)
  refine wj_iconst (v := 1) C dX5_readSlip_10 (by decide) ?_
  refine wj_goto C 15 dX5_readSlip_11 (by decide) ?_
  refine wj_cvf C (wj_rV C dX5_readSlip_15 km_X5_must kl_X5_262 is_X5 rfl rfl (c_X5_must_go l V hg hm h120 ht hc) rfl rfl (Nat.le_of_ble_eq_true rfl) (by decide)) ?_
  exact s18 _ p d1 hce h1 (s40 _ _ w d2 hb1.1 h2 (s62 _ _ _ g2 d3 hb2.1 h3 t87))
set_option maxRecDepth 100000 in
set_option maxHeartbeats 4000000 in
theorem c_X5_readLean_r (l : Launch) (V : wj_V) {σ : wj_St} {f g : Nat → Int32} {m c : Nat} (hg : σ 53 = g) (hm : σ 48 7 = nI m) (h120 : m ≤ 120) (ht : tx_tg g f m) {i n : Nat} {h : Nat → Int32} (hc : c ≤ m) (hi : i < 120) {c1 : Nat} {it : tx_I} (hn : tx_le f m c = .inr (it, c1)) : wj_M l V yX5_readLean cX5_readLean 3 none 4 87 [.ref (V.2.2.1 48)] (tm f m σ c 0 i n h) (wj_Vd V (tm f m σ c1 0 (i + 1) n (tyi h i it))) := by
  refine wj_ofV (own := RX5) [some (.ref (V.2.2.1 48)), none, none] (by decide) rfl rfl (Nat.le_of_ble_eq_true rfl) (fun X C hR => ?_)
  obtain ⟨a, d1, p, d2, w, h1, h2, h3, rfl⟩ : ∃ a d1 p d2 w, tx_num f m 0 5 c = .inr (a, d1) ∧ tx_num f m 0 15 d1 = .inr (p, d2) ∧ tx_num f m 0 99 d2 = .inr (w, c1) ∧ it = (11, a, 100 * p + w, 0, 0) := by
    rw [tx_le] at hn
    split at hn
    · cases hn
    · rename_i a d1 h1
      split at hn
      · cases hn
      · rename_i p d2 h2
        split at hn
        · cases hn
        · rename_i w d3 h3
          cases hn
          exact ⟨a, d1, p, d2, w, h1, h2, h3, rfl⟩
  have hb1 := tx_num_c hc h1
  have hb2 := tx_num_c hb1.1 h2
  refine wj_aload_n C 0 dX5_readLean_0 rfl rfl ?_
  refine wj_iconst (v := 0) C dX5_readLean_1 (by decide) ?_
  refine wj_iconst (v := 5) C dX5_readLean_2 (by decide) ?_
  refine wj_cif C (wj_rV C dX5_readLean_3 km_X5_number kl_X5_281 is_X5 rfl rfl (c_X5_number_r l V hg hm h120 ht hc (lo := 0) (hi := 5) (by decide) (by decide) h1) rfl rfl (Nat.le_of_ble_eq_true rfl) (by decide)) ?_
  refine wj_istore_n C 1 dX5_readLean_6 rfl (by decide) rfl ?_
  dsimp only [List.set]
  refine wj_aload_n C 0 dX5_readLean_7 rfl rfl ?_
  refine wj_iconst (v := 0) C dX5_readLean_8 (by decide) ?_
  refine wj_bipush (v := 15) C dX5_readLean_9 (by decide) ?_
  refine wj_cif C (wj_rV C dX5_readLean_11 km_X5_number kl_X5_281 is_X5 rfl rfl (c_X5_number_r l V hg hm h120 ht hb1.1 (lo := 0) (hi := 15) (by decide) (by decide) h2) rfl rfl (Nat.le_of_ble_eq_true rfl) (by decide)) ?_
  refine wj_istore_n C 2 dX5_readLean_14 rfl (by decide) rfl ?_
  dsimp only [List.set]
  refine wj_aload_n C 0 dX5_readLean_15 rfl rfl ?_
  refine wj_bipush (v := 11) C dX5_readLean_16 (by decide) ?_
  refine wj_iload_n C 1 dX5_readLean_18 rfl rfl ?_
  refine wj_bipush (v := 100) C dX5_readLean_19 (by decide) ?_
  refine wj_iload_n C 2 dX5_readLean_21 rfl rfl ?_
  refine wj_imul C dX5_readLean_22 ?_
  rw [show (100 : Int32) = nI 100 from rfl, pk_mul]
  refine wj_aload_n C 0 dX5_readLean_23 rfl rfl ?_
  refine wj_iconst (v := 0) C dX5_readLean_24 (by decide) ?_
  refine wj_bipush (v := 99) C dX5_readLean_25 (by decide) ?_
  refine wj_cif C (wj_rV C dX5_readLean_27 km_X5_number kl_X5_281 is_X5 rfl rfl (c_X5_number_r l V hg hm h120 ht hb2.1 (lo := 0) (hi := 99) (by decide) (by decide) h3) rfl rfl (Nat.le_of_ble_eq_true rfl) (by decide)) ?_
  refine wj_iadd C dX5_readLean_30 ?_
  rw [nI_add]
  refine wj_iconst (v := 0) C dX5_readLean_31 (by decide) ?_
  refine wj_iconst (v := 0) C dX5_readLean_32 (by decide) ?_
  refine wj_cvf C (wj_rV C dX5_readLean_33 km_X5_addItem kl_X5_292 is_X5 rfl rfl (c_X5_addItem l V hi) rfl rfl (Nat.le_of_ble_eq_true rfl) (by decide)) ?_
  exact hR _ _ _ _ dX5_readLean_36 rfl wj_rfl
set_option maxRecDepth 100000 in
set_option maxHeartbeats 4000000 in
theorem c_X5_readLean_l (l : Launch) (V : wj_V) {σ : wj_St} {f g : Nat → Int32} {m c : Nat} (hg : σ 53 = g) (hm : σ 48 7 = nI m) (h120 : m ≤ 120) (ht : tx_tg g f m) {i n : Nat} {h : Nat → Int32} (hc : c ≤ m) (hi : i < 120) {x : Nat} (hn : tx_le f m c = .inl x) : wj_M l V yX5_readLean cX5_readLean 3 none 4 87 [.ref (V.2.2.1 48)] (tm f m σ c 0 i n h) (wj_QV V (fun u => ∃ i2 n2 h2, u = tm f m σ x 1 i2 n2 h2)) := by
  refine wj_ofV (own := RX5) [some (.ref (V.2.2.1 48)), none, none] (by decide) rfl rfl (Nat.le_of_ble_eq_true rfl) (fun X C hR => ?_)
  rw [tx_le] at hn
  rcases h1 : tx_num f m 0 5 c with x1 | ⟨a, d1⟩
  · rw [h1] at hn
    cases hn
    have hx := tx_num_l h1
    subst hx
    refine wj_aload_n C 0 dX5_readLean_0 rfl rfl ?_
    refine wj_iconst (v := 0) C dX5_readLean_1 (by decide) ?_
    refine wj_iconst (v := 5) C dX5_readLean_2 (by decide) ?_
    refine wj_cif C (wj_rV C dX5_readLean_3 km_X5_number kl_X5_281 is_X5 rfl rfl (c_X5_number_l l V hg hm h120 ht hc (lo := 0) (hi := 5) (by decide) (by decide) (Or.inl h1)) rfl rfl (Nat.le_of_ble_eq_true rfl) (by decide)) ?_
    refine wj_istore_n C 1 dX5_readLean_6 rfl (by decide) rfl ?_
    dsimp only [List.set]
    refine wj_aload_n C 0 dX5_readLean_7 rfl rfl ?_
    refine wj_iconst (v := 0) C dX5_readLean_8 (by decide) ?_
    refine wj_bipush (v := 15) C dX5_readLean_9 (by decide) ?_
    refine wj_cif C (wj_rV C dX5_readLean_11 km_X5_number kl_X5_281 is_X5 rfl rfl (c_X5_number_l l V hg hm h120 ht hc (lo := 0) (hi := 15) (by decide) (by decide) (Or.inr rfl)) rfl rfl (Nat.le_of_ble_eq_true rfl) (by decide)) ?_
    refine wj_istore_n C 2 dX5_readLean_14 rfl (by decide) rfl ?_
    dsimp only [List.set]
    refine wj_aload_n C 0 dX5_readLean_15 rfl rfl ?_
    refine wj_bipush (v := 11) C dX5_readLean_16 (by decide) ?_
    refine wj_iload_n C 1 dX5_readLean_18 rfl rfl ?_
    refine wj_bipush (v := 100) C dX5_readLean_19 (by decide) ?_
    refine wj_iload_n C 2 dX5_readLean_21 rfl rfl ?_
    refine wj_imul C dX5_readLean_22 ?_
    refine wj_aload_n C 0 dX5_readLean_23 rfl rfl ?_
    refine wj_iconst (v := 0) C dX5_readLean_24 (by decide) ?_
    refine wj_bipush (v := 99) C dX5_readLean_25 (by decide) ?_
    refine wj_cif C (wj_rV C dX5_readLean_27 km_X5_number kl_X5_281 is_X5 rfl rfl (c_X5_number_l l V hg hm h120 ht hc (lo := 0) (hi := 99) (by decide) (by decide) (Or.inr rfl)) rfl rfl (Nat.le_of_ble_eq_true rfl) (by decide)) ?_
    refine wj_iadd C dX5_readLean_30 ?_
    refine wj_iconst (v := 0) C dX5_readLean_31 (by decide) ?_
    refine wj_iconst (v := 0) C dX5_readLean_32 (by decide) ?_
    refine wj_cvf C (wj_rV C dX5_readLean_33 km_X5_addItem kl_X5_292 is_X5 rfl rfl (c_X5_addItem l V hi) rfl rfl (Nat.le_of_ble_eq_true rfl) (by decide)) ?_
    exact hR _ _ _ _ dX5_readLean_36 ⟨_, _, _, rfl⟩ wj_rfl
  · have hb1 := tx_num_c hc h1
    rw [h1] at hn
    dsimp only at hn
    rcases h2 : tx_num f m 0 15 d1 with x2 | ⟨p, d2⟩
    · rw [h2] at hn
      cases hn
      have hx := tx_num_l h2
      subst hx
      refine wj_aload_n C 0 dX5_readLean_0 rfl rfl ?_
      refine wj_iconst (v := 0) C dX5_readLean_1 (by decide) ?_
      refine wj_iconst (v := 5) C dX5_readLean_2 (by decide) ?_
      refine wj_cif C (wj_rV C dX5_readLean_3 km_X5_number kl_X5_281 is_X5 rfl rfl (c_X5_number_r l V hg hm h120 ht hc (lo := 0) (hi := 5) (by decide) (by decide) h1) rfl rfl (Nat.le_of_ble_eq_true rfl) (by decide)) ?_
      refine wj_istore_n C 1 dX5_readLean_6 rfl (by decide) rfl ?_
      dsimp only [List.set]
      refine wj_aload_n C 0 dX5_readLean_7 rfl rfl ?_
      refine wj_iconst (v := 0) C dX5_readLean_8 (by decide) ?_
      refine wj_bipush (v := 15) C dX5_readLean_9 (by decide) ?_
      refine wj_cif C (wj_rV C dX5_readLean_11 km_X5_number kl_X5_281 is_X5 rfl rfl (c_X5_number_l l V hg hm h120 ht hb1.1 (lo := 0) (hi := 15) (by decide) (by decide) (Or.inl h2)) rfl rfl (Nat.le_of_ble_eq_true rfl) (by decide)) ?_
      refine wj_istore_n C 2 dX5_readLean_14 rfl (by decide) rfl ?_
      dsimp only [List.set]
      refine wj_aload_n C 0 dX5_readLean_15 rfl rfl ?_
      refine wj_bipush (v := 11) C dX5_readLean_16 (by decide) ?_
      refine wj_iload_n C 1 dX5_readLean_18 rfl rfl ?_
      refine wj_bipush (v := 100) C dX5_readLean_19 (by decide) ?_
      refine wj_iload_n C 2 dX5_readLean_21 rfl rfl ?_
      refine wj_imul C dX5_readLean_22 ?_
      refine wj_aload_n C 0 dX5_readLean_23 rfl rfl ?_
      refine wj_iconst (v := 0) C dX5_readLean_24 (by decide) ?_
      refine wj_bipush (v := 99) C dX5_readLean_25 (by decide) ?_
      refine wj_cif C (wj_rV C dX5_readLean_27 km_X5_number kl_X5_281 is_X5 rfl rfl (c_X5_number_l l V hg hm h120 ht hb1.1 (lo := 0) (hi := 99) (by decide) (by decide) (Or.inr rfl)) rfl rfl (Nat.le_of_ble_eq_true rfl) (by decide)) ?_
      refine wj_iadd C dX5_readLean_30 ?_
      refine wj_iconst (v := 0) C dX5_readLean_31 (by decide) ?_
      refine wj_iconst (v := 0) C dX5_readLean_32 (by decide) ?_
      refine wj_cvf C (wj_rV C dX5_readLean_33 km_X5_addItem kl_X5_292 is_X5 rfl rfl (c_X5_addItem l V hi) rfl rfl (Nat.le_of_ble_eq_true rfl) (by decide)) ?_
      exact hR _ _ _ _ dX5_readLean_36 ⟨_, _, _, rfl⟩ wj_rfl
    · have hb2 := tx_num_c hb1.1 h2
      rw [h2] at hn
      dsimp only at hn
      rcases h3 : tx_num f m 0 99 d2 with x3 | ⟨w, d3⟩
      · rw [h3] at hn
        cases hn
        have hx := tx_num_l h3
        subst hx
        refine wj_aload_n C 0 dX5_readLean_0 rfl rfl ?_
        refine wj_iconst (v := 0) C dX5_readLean_1 (by decide) ?_
        refine wj_iconst (v := 5) C dX5_readLean_2 (by decide) ?_
        refine wj_cif C (wj_rV C dX5_readLean_3 km_X5_number kl_X5_281 is_X5 rfl rfl (c_X5_number_r l V hg hm h120 ht hc (lo := 0) (hi := 5) (by decide) (by decide) h1) rfl rfl (Nat.le_of_ble_eq_true rfl) (by decide)) ?_
        refine wj_istore_n C 1 dX5_readLean_6 rfl (by decide) rfl ?_
        dsimp only [List.set]
        refine wj_aload_n C 0 dX5_readLean_7 rfl rfl ?_
        refine wj_iconst (v := 0) C dX5_readLean_8 (by decide) ?_
        refine wj_bipush (v := 15) C dX5_readLean_9 (by decide) ?_
        refine wj_cif C (wj_rV C dX5_readLean_11 km_X5_number kl_X5_281 is_X5 rfl rfl (c_X5_number_r l V hg hm h120 ht hb1.1 (lo := 0) (hi := 15) (by decide) (by decide) h2) rfl rfl (Nat.le_of_ble_eq_true rfl) (by decide)) ?_
        refine wj_istore_n C 2 dX5_readLean_14 rfl (by decide) rfl ?_
        dsimp only [List.set]
        refine wj_aload_n C 0 dX5_readLean_15 rfl rfl ?_
        refine wj_bipush (v := 11) C dX5_readLean_16 (by decide) ?_
        refine wj_iload_n C 1 dX5_readLean_18 rfl rfl ?_
        refine wj_bipush (v := 100) C dX5_readLean_19 (by decide) ?_
        refine wj_iload_n C 2 dX5_readLean_21 rfl rfl ?_
        refine wj_imul C dX5_readLean_22 ?_
        refine wj_aload_n C 0 dX5_readLean_23 rfl rfl ?_
        refine wj_iconst (v := 0) C dX5_readLean_24 (by decide) ?_
        refine wj_bipush (v := 99) C dX5_readLean_25 (by decide) ?_
        refine wj_cif C (wj_rV C dX5_readLean_27 km_X5_number kl_X5_281 is_X5 rfl rfl (c_X5_number_l l V hg hm h120 ht hb2.1 (lo := 0) (hi := 99) (by decide) (by decide) (Or.inl h3)) rfl rfl (Nat.le_of_ble_eq_true rfl) (by decide)) ?_
        refine wj_iadd C dX5_readLean_30 ?_
        refine wj_iconst (v := 0) C dX5_readLean_31 (by decide) ?_
        refine wj_iconst (v := 0) C dX5_readLean_32 (by decide) ?_
        refine wj_cvf C (wj_rV C dX5_readLean_33 km_X5_addItem kl_X5_292 is_X5 rfl rfl (c_X5_addItem l V hi) rfl rfl (Nat.le_of_ble_eq_true rfl) (by decide)) ?_
        exact hR _ _ _ _ dX5_readLean_36 ⟨_, _, _, rfl⟩ wj_rfl
      · rw [h3] at hn
        cases hn


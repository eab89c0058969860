def tx_kdI : Option Nat → Int32
  | none => -1
  | some k => nI k
theorem tx_P_put {σ : wj_St} {s : Int32} {b e k : Nat} {A : sp_L} (hk : 1 ≤ k ∧ k < 4) : tx_P (sp_put σ k A) s b e = sp_put (tx_P σ s b e) k A := by
  rw [tx_P, sp_put_r (by omega), sp_put_o (by omega), tx_P]
theorem tx_C_put {f : Nat → Int32} {m : Nat} {σ : wj_St} {c k : Nat} {A : sp_L} (hk : 1 ≤ k ∧ k < 4 := by decide) : tx_C f m (sp_put σ k A) c = sp_put (tx_C f m σ c) k A := tx_P_put hk
theorem sp_put_us {σ : wj_St} {k i j : Nat} {A : sp_L} {x : Int32} (hk : 1 ≤ k ∧ k < 4) (hi : i < 8) : wj_u (sp_put σ k A) (2 + 8 * k + i) j x = sp_put σ k (sp_us A i j x) := by
  rw [wj_u_r, sp_put_s hk hi, sp_put_rs hk hi]
  rfl
set_option maxRecDepth 100000 in
set_option maxHeartbeats 4000000 in
theorem c_X3_kindNamed (l : Launch) (V : wj_V) {σ : wj_St} {f : Nat → Int32} {m c : Nat} (hf : σ 47 = f) (hm : σ 46 1 = nI m) (h120 : m ≤ 120) (hc : c ≤ m) : wj_M l V yX3_kindNamed cX3_kindNamed 1 (some .int) 5 107 [.ref (V.2.2.1 46)] (tx_C f m σ c) (wj_I V (tx_kdI (tx_kd f m c)) (tx_C f m σ c)) := by
  refine wj_ofI (own := RX3) [some (.ref (V.2.2.1 46))] (by decide) rfl rfl (Nat.le_of_ble_eq_true rfl) (fun X C hR => ?_)
  refine wj_aload_n C 0 dX3_kindNamed_0 rfl rfl ?_
  refine wj_ldcS C dX3_kindNamed_1 kt_X3_119 ?_
  refine wj_cif C (wj_rV C dX3_kindNamed_3 km_X3_isWord kl_X3_37 is_X3 rfl rfl (c_X3_isWord l V hf hm h120 hc (by decide)) rfl rfl (Nat.le_of_ble_eq_true rfl) (by decide)) ?_
  refine wj_if_eq C 11 dX3_kindNamed_6 (by decide) (fun h6 => ?_) (fun h6 => ?_)
  · replace h6 := wj_b0 h6
    refine wj_aload_n C 0 dX3_kindNamed_11 rfl rfl ?_
    refine wj_ldcS C dX3_kindNamed_12 kt_X3_121 ?_
    refine wj_cif C (wj_rV C dX3_kindNamed_14 km_X3_isWord kl_X3_37 is_X3 rfl rfl (c_X3_isWord l V hf hm h120 hc (by decide)) rfl rfl (Nat.le_of_ble_eq_true rfl) (by decide)) ?_
    refine wj_if_eq C 22 dX3_kindNamed_17 (by decide) (fun h17 => ?_) (fun h17 => ?_)
    · replace h17 := wj_b0 h17
      refine wj_aload_n C 0 dX3_kindNamed_22 rfl rfl ?_
      refine wj_ldcS C dX3_kindNamed_23 kt_X3_123 ?_
      refine wj_cif C (wj_rV C dX3_kindNamed_25 km_X3_isWord kl_X3_37 is_X3 rfl rfl (c_X3_isWord l V hf hm h120 hc (by decide)) rfl rfl (Nat.le_of_ble_eq_true rfl) (by decide)) ?_
      refine wj_if_eq C 33 dX3_kindNamed_28 (by decide) (fun h28 => ?_) (fun h28 => ?_)
      · replace h28 := wj_b0 h28
        refine wj_aload_n C 0 dX3_kindNamed_33 rfl rfl ?_
        refine wj_ldcS C dX3_kindNamed_34 kt_X3_125 ?_
        refine wj_cif C (wj_rV C dX3_kindNamed_36 km_X3_isWord kl_X3_37 is_X3 rfl rfl (c_X3_isWord l V hf hm h120 hc (by decide)) rfl rfl (Nat.le_of_ble_eq_true rfl) (by decide)) ?_
        refine wj_if_eq C 44 dX3_kindNamed_39 (by decide) (fun h39 => ?_) (fun h39 => ?_)
        · replace h39 := wj_b0 h39
          refine wj_aload_n C 0 dX3_kindNamed_44 rfl rfl ?_
          refine wj_ldcS C dX3_kindNamed_45 kt_X3_127 ?_
          refine wj_cif C (wj_rV C dX3_kindNamed_47 km_X3_isWord kl_X3_37 is_X3 rfl rfl (c_X3_isWord l V hf hm h120 hc (by decide)) rfl rfl (Nat.le_of_ble_eq_true rfl) (by decide)) ?_
          refine wj_if_eq C 55 dX3_kindNamed_50 (by decide) (fun h50 => ?_) (fun h50 => ?_)
          · replace h50 := wj_b0 h50
            refine wj_aload_n C 0 dX3_kindNamed_55 rfl rfl ?_
            refine wj_ldcS C dX3_kindNamed_56 kt_X3_129 ?_
            refine wj_cif C (wj_rV C dX3_kindNamed_58 km_X3_isWord kl_X3_37 is_X3 rfl rfl (c_X3_isWord l V hf hm h120 hc (by decide)) rfl rfl (Nat.le_of_ble_eq_true rfl) (by decide)) ?_
            refine wj_if_eq C 66 dX3_kindNamed_61 (by decide) (fun h61 => ?_) (fun h61 => ?_)
            · replace h61 := wj_b0 h61
              refine wj_aload_n C 0 dX3_kindNamed_66 rfl rfl ?_
              refine wj_ldcS C dX3_kindNamed_67 kt_X3_131 ?_
              refine wj_cif C (wj_rV C dX3_kindNamed_69 km_X3_isWord kl_X3_37 is_X3 rfl rfl (c_X3_isWord l V hf hm h120 hc (by decide)) rfl rfl (Nat.le_of_ble_eq_true rfl) (by decide)) ?_
              refine wj_if_eq C 78 dX3_kindNamed_72 (by decide) (fun h72 => ?_) (fun h72 => ?_)
              · replace h72 := wj_b0 h72
                refine wj_iconst (v := -1) C dX3_kindNamed_78 (by decide) ?_
                exact hR _ _ _ _ _ dX3_kindNamed_79 ⟨(by simp [tx_kd, tx_kdI, *]; try rfl), rfl⟩ wj_rfl
              · replace h72 := wj_b1 h72
                refine wj_bipush (v := 6) C dX3_kindNamed_75 (by decide) ?_
                exact hR _ _ _ _ _ dX3_kindNamed_77 ⟨(by simp [tx_kd, tx_kdI, *]; try rfl), rfl⟩ wj_rfl
            · replace h61 := wj_b1 h61
              refine wj_iconst (v := 5) C dX3_kindNamed_64 (by decide) ?_
              exact hR _ _ _ _ _ dX3_kindNamed_65 ⟨(by simp [tx_kd, tx_kdI, *]; try rfl), rfl⟩ wj_rfl
          · replace h50 := wj_b1 h50
            refine wj_iconst (v := 4) C dX3_kindNamed_53 (by decide) ?_
            exact hR _ _ _ _ _ dX3_kindNamed_54 ⟨(by simp [tx_kd, tx_kdI, *]; try rfl), rfl⟩ wj_rfl
        · replace h39 := wj_b1 h39
          refine wj_iconst (v := 3) C dX3_kindNamed_42 (by decide) ?_
          exact hR _ _ _ _ _ dX3_kindNamed_43 ⟨(by simp [tx_kd, tx_kdI, *]; try rfl), rfl⟩ wj_rfl
      · replace h28 := wj_b1 h28
        refine wj_iconst (v := 2) C dX3_kindNamed_31 (by decide) ?_
        exact hR _ _ _ _ _ dX3_kindNamed_32 ⟨(by simp [tx_kd, tx_kdI, *]; try rfl), rfl⟩ wj_rfl
    · replace h17 := wj_b1 h17
      refine wj_iconst (v := 1) C dX3_kindNamed_20 (by decide) ?_
      exact hR _ _ _ _ _ dX3_kindNamed_21 ⟨(by simp [tx_kd, tx_kdI, *]; try rfl), rfl⟩ wj_rfl
  · replace h6 := wj_b1 h6
    refine wj_iconst (v := 0) C dX3_kindNamed_9 (by decide) ?_
    exact hR _ _ _ _ _ dX3_kindNamed_10 ⟨(by simp [tx_kd, tx_kdI, *]; try rfl), rfl⟩ wj_rfl
set_option maxRecDepth 100000 in
set_option maxHeartbeats 4000000 in
theorem c_X3_readPart_l (l : Launch) (V : wj_V) {σ : wj_St} {f : Nat → Int32} {m c : Nat} (hf : σ 47 = f) (hm : σ 46 1 = nI m) (h120 : m ≤ 120) (hc : c ≤ m) {q lo hi d x v c1 : Nat} {w : Int32} (hq : q < 14) (hlo : sp_lst w = nI lo) (hhi : sp_mst w = nI hi) (h9 : hi ≤ 65535) (h8 : lo ≤ hi) (hn : tx_prt f m q lo hi d c = .inl x) : wj_M l V yX3_readPart cX3_readPart 4 (some .int) 5 107 [.ref (V.2.2.1 46), .ref (V.2.2.2.1 q), .int w, .int (nI d)] (tx_C f m σ c) (wj_I V (-1) (tx_C f m σ x)) := by
  refine wj_ofI (own := RX3) [some (.ref (V.2.2.1 46)), some (.ref (V.2.2.2.1 q)), some (.int w), some (.int (nI d))] (by decide) rfl rfl (Nat.le_of_ble_eq_true rfl) (fun X C hR => ?_)
  refine wj_aload_n C 0 dX3_readPart_0 rfl rfl ?_
  refine wj_aload_n C 1 dX3_readPart_1 rfl rfl ?_
  refine wj_cif C (wj_rV C dX3_readPart_2 km_X3_isWord kl_X3_37 is_X3 rfl rfl (c_X3_isWord l V hf hm h120 hc hq) rfl rfl (Nat.le_of_ble_eq_true rfl) (by decide)) ?_
  refine wj_if_ne C 10 dX3_readPart_5 (by decide) (fun h5 => ?_) (fun h5 => ?_)
  · replace h5 := wj_b1 h5
    rw [tx_prt, if_pos h5] at hn
    have hx := tx_num_l hn
    refine wj_aload_n C 0 dX3_readPart_10 rfl rfl ?_
    refine wj_cvf C (wj_rV C dX3_readPart_11 km_X3_step kl_X3_28 is_X3 rfl rfl (c_X3_step_C l V hf hm h120 hc) rfl rfl (Nat.le_of_ble_eq_true rfl) (by decide)) ?_
    refine wj_aload_n C 0 dX3_readPart_14 rfl rfl ?_
    refine wj_iload_n C 2 dX3_readPart_15 rfl rfl ?_
    refine wj_cif C (wj_rS C dX3_readPart_16 km_X2_least kl_X3_100 (c_X2_least l V) rfl rfl (Nat.le_of_ble_eq_true rfl) (by decide)) ?_
    rw [hlo]
    refine wj_iload_n C 2 dX3_readPart_19 rfl rfl ?_
    refine wj_cif C (wj_rS C dX3_readPart_20 km_X2_most kl_X3_104 (c_X2_most l V) rfl rfl (Nat.le_of_ble_eq_true rfl) (by decide)) ?_
    rw [hhi]
    refine wj_cif C (wj_rV C dX3_readPart_23 km_X3_readNumber kl_X3_61 is_X3 rfl rfl (c_X3_readNumber_l l V hf hm h120 (tx_e_le hc) (v := 0) h9 h8 hn) rfl rfl (Nat.le_of_ble_eq_true rfl) (by decide)) ?_
    exact hR _ _ _ _ _ dX3_readPart_26 ⟨rfl, by rw [hx]⟩ wj_rfl
  · exact absurd hn (by rw [tx_prt, if_neg (by rw [wj_b0 h5]; decide)]; exact fun z => by cases z)
set_option maxRecDepth 100000 in
set_option maxHeartbeats 4000000 in
theorem c_X3_readPart_r (l : Launch) (V : wj_V) {σ : wj_St} {f : Nat → Int32} {m c : Nat} (hf : σ 47 = f) (hm : σ 46 1 = nI m) (h120 : m ≤ 120) (hc : c ≤ m) {q lo hi d x v c1 : Nat} {w : Int32} (hq : q < 14) (hlo : sp_lst w = nI lo) (hhi : sp_mst w = nI hi) (h9 : hi ≤ 65535) (h8 : lo ≤ hi) (hn : tx_prt f m q lo hi d c = .inr (v, c1)) : wj_M l V yX3_readPart cX3_readPart 4 (some .int) 5 107 [.ref (V.2.2.1 46), .ref (V.2.2.2.1 q), .int w, .int (nI d)] (tx_C f m σ c) (wj_I V (nI v) (tx_C f m σ c1)) := by
  refine wj_ofI (own := RX3) [some (.ref (V.2.2.1 46)), some (.ref (V.2.2.2.1 q)), some (.int w), some (.int (nI d))] (by decide) rfl rfl (Nat.le_of_ble_eq_true rfl) (fun X C hR => ?_)
  refine wj_aload_n C 0 dX3_readPart_0 rfl rfl ?_
  refine wj_aload_n C 1 dX3_readPart_1 rfl rfl ?_
  refine wj_cif C (wj_rV C dX3_readPart_2 km_X3_isWord kl_X3_37 is_X3 rfl rfl (c_X3_isWord l V hf hm h120 hc hq) rfl rfl (Nat.le_of_ble_eq_true rfl) (by decide)) ?_
  refine wj_if_ne C 10 dX3_readPart_5 (by decide) (fun h5 => ?_) (fun h5 => ?_)
  · replace h5 := wj_b1 h5
    rw [tx_prt, if_pos h5] at hn
    refine wj_aload_n C 0 dX3_readPart_10 rfl rfl ?_
    refine wj_cvf C (wj_rV C dX3_readPart_11 km_X3_step kl_X3_28 is_X3 rfl rfl (c_X3_step_C l V hf hm h120 hc) rfl rfl (Nat.le_of_ble_eq_true rfl) (by decide)) ?_
    refine wj_aload_n C 0 dX3_readPart_14 rfl rfl ?_
    refine wj_iload_n C 2 dX3_readPart_15 rfl rfl ?_
    refine wj_cif C (wj_rS C dX3_readPart_16 km_X2_least kl_X3_100 (c_X2_least l V) rfl rfl (Nat.le_of_ble_eq_true rfl) (by decide)) ?_
    rw [hlo]
    refine wj_iload_n C 2 dX3_readPart_19 rfl rfl ?_
    refine wj_cif C (wj_rS C dX3_readPart_20 km_X2_most kl_X3_104 (c_X2_most l V) rfl rfl (Nat.le_of_ble_eq_true rfl) (by decide)) ?_
    rw [hhi]
    refine wj_cif C (wj_rV C dX3_readPart_23 km_X3_readNumber kl_X3_61 is_X3 rfl rfl (c_X3_readNumber_r l V hf hm h120 (tx_e_le hc) h9 h8 hn) rfl rfl (Nat.le_of_ble_eq_true rfl) (by decide)) ?_
    exact hR _ _ _ _ _ dX3_readPart_26 ⟨rfl, rfl⟩ wj_rfl
  · replace h5 := wj_b0 h5
    rw [tx_prt, if_neg (by rw [h5]; decide)] at hn
    cases hn
    refine wj_iload_n C 3 dX3_readPart_8 rfl rfl ?_
    exact hR _ _ _ _ _ dX3_readPart_9 ⟨rfl, rfl⟩ wj_rfl
set_option maxRecDepth 100000 in
set_option maxHeartbeats 4000000 in
theorem c_X3_readLaid (l : Launch) (V : wj_V) {σ : wj_St} {f : Nat → Int32} {m c : Nat} (hf : σ 47 = f) (hm : σ 46 1 = nI m) (h120 : m ≤ 120) (hc : c ≤ m) : wj_M l V yX3_readLaid cX3_readLaid 2 (some .int) 5 107 [.ref (V.2.2.1 46)] (tx_C f m σ c) (wj_I V (nI (tx_ld f m c).1) (tx_C f m σ (tx_ld f m c).2)) := by
  refine wj_ofI (own := RX3) [some (.ref (V.2.2.1 46)), none] (by decide) rfl rfl (Nat.le_of_ble_eq_true rfl) (fun X C hR => ?_)
  refine wj_aload_n C 0 dX3_readLaid_0 rfl rfl ?_
  refine wj_ldcS C dX3_readLaid_1 kt_X3_107 ?_
  refine wj_cif C (wj_rV C dX3_readLaid_3 km_X3_isWord kl_X3_37 is_X3 rfl rfl (c_X3_isWord l V hf hm h120 hc (by decide)) rfl rfl (Nat.le_of_ble_eq_true rfl) (by decide)) ?_
  refine wj_if_eq C 13 dX3_readLaid_6 (by decide) (fun h6 => ?_) (fun h6 => ?_)
  · replace h6 := wj_b0 h6
    refine wj_aload_n C 0 dX3_readLaid_13 rfl rfl ?_
    refine wj_ldcS C dX3_readLaid_14 kt_X3_109 ?_
    refine wj_cif C (wj_rV C dX3_readLaid_16 km_X3_isWord kl_X3_37 is_X3 rfl rfl (c_X3_isWord l V hf hm h120 hc (by decide)) rfl rfl (Nat.le_of_ble_eq_true rfl) (by decide)) ?_
    refine wj_if_eq C 26 dX3_readLaid_19 (by decide) (fun h19 => ?_) (fun h19 => ?_)
    · replace h19 := wj_b0 h19
      refine wj_iconst (v := 0) C dX3_readLaid_26 (by decide) ?_
      refine wj_istore_n C 1 dX3_readLaid_27 rfl (by decide) rfl ?_
      dsimp only [List.set]
      refine wj_iload_n C 1 dX3_readLaid_28 rfl rfl ?_
      refine wj_if_eq C 36 dX3_readLaid_29 (by decide) (fun h29 => ?_) (fun h29 => ?_)
      · refine wj_iload_n C 1 dX3_readLaid_36 rfl rfl ?_
        exact hR _ _ _ _ _ dX3_readLaid_37 ⟨(by simp [tx_ld, *]; try rfl), (by simp [tx_ld, *])⟩ wj_rfl
      · exact absurd rfl h29
    · replace h19 := wj_b1 h19
      refine wj_iconst (v := 2) C dX3_readLaid_22 (by decide) ?_
      refine wj_goto C 27 dX3_readLaid_23 (by decide) ?_
      refine wj_istore_n C 1 dX3_readLaid_27 rfl (by decide) rfl ?_
      dsimp only [List.set]
      refine wj_iload_n C 1 dX3_readLaid_28 rfl rfl ?_
      refine wj_if_eq C 36 dX3_readLaid_29 (by decide) (fun h29 => ?_) (fun h29 => ?_)
      · exact absurd h29 (by decide)
      · refine wj_aload_n C 0 dX3_readLaid_32 rfl rfl ?_
        refine wj_cvf C (wj_rV C dX3_readLaid_33 km_X3_step kl_X3_28 is_X3 rfl rfl (c_X3_step_C l V hf hm h120 hc) rfl rfl (Nat.le_of_ble_eq_true rfl) (by decide)) ?_
        refine wj_iload_n C 1 dX3_readLaid_36 rfl rfl ?_
        exact hR _ _ _ _ _ dX3_readLaid_37 ⟨(by simp [tx_ld, *]; try rfl), (by simp [tx_ld, *])⟩ wj_rfl
  · replace h6 := wj_b1 h6
    refine wj_iconst (v := 1) C dX3_readLaid_9 (by decide) ?_
    refine wj_goto C 27 dX3_readLaid_10 (by decide) ?_
    refine wj_istore_n C 1 dX3_readLaid_27 rfl (by decide) rfl ?_
    dsimp only [List.set]
    refine wj_iload_n C 1 dX3_readLaid_28 rfl rfl ?_
    refine wj_if_eq C 36 dX3_readLaid_29 (by decide) (fun h29 => ?_) (fun h29 => ?_)
    · exact absurd h29 (by decide)
    · refine wj_aload_n C 0 dX3_readLaid_32 rfl rfl ?_
      refine wj_cvf C (wj_rV C dX3_readLaid_33 km_X3_step kl_X3_28 is_X3 rfl rfl (c_X3_step_C l V hf hm h120 hc) rfl rfl (Nat.le_of_ble_eq_true rfl) (by decide)) ?_
      refine wj_iload_n C 1 dX3_readLaid_36 rfl rfl ?_
      exact hR _ _ _ _ _ dX3_readLaid_37 ⟨(by simp [tx_ld, *]; try rfl), (by simp [tx_ld, *])⟩ wj_rfl
set_option maxRecDepth 100000 in
set_option maxHeartbeats 4000000 in
theorem c_X3_readHurdles_l (l : Launch) (V : wj_V) {σ : wj_St} {f : Nat → Int32} {m c : Nat} {T : sp_L} (hf : σ 47 = f) (hm : σ 46 1 = nI m) (h120 : m ≤ 120) (hc : c ≤ m) {x c1 : Nat} {it : tx_I} (hn : tx_hu f m (tx_e f m c) = .inl x) : wj_M l V yX3_readHurdles cX3_readHurdles 3 (some .boolean) 2 45 [.ref (V.2.2.1 46), .ref (V.2.2.1 2)] (tx_C f m (sp_put σ 2 T) c) (wj_I V 0 (tx_C f m (sp_put σ 2 T) x)) := by
  refine wj_ofZ (own := RX3) [some (.ref (V.2.2.1 46)), some (.ref (V.2.2.1 2)), none] (by decide) rfl rfl (Nat.le_of_ble_eq_true rfl) (fun X C hR => ?_)
  have hf2 : sp_put σ 2 T 47 = f := by rw [sp_put_o (by decide)]; exact hf
  have hm2 : sp_put σ 2 T 46 1 = nI m := by rw [sp_put_o (by decide)]; exact hm
  have hce := tx_e_le (f := f) hc
  have hn2 : tx_num f m 0 65535 (tx_e f m c) = .inl x := by
    rw [tx_hu] at hn
    split at hn
    · cases hn; assumption
    · cases hn
  have hx := tx_num_l hn2
  refine wj_aload_n C 0 dX3_readHurdles_0 rfl rfl ?_
  refine wj_cvf C (wj_rV C dX3_readHurdles_1 km_X3_step kl_X3_28 is_X3 rfl rfl (c_X3_step_C l V hf2 hm2 h120 hc) rfl rfl (Nat.le_of_ble_eq_true rfl) (by decide)) ?_
  refine wj_aload_n C 0 dX3_readHurdles_4 rfl rfl ?_
  refine wj_iconst (v := 0) C dX3_readHurdles_5 (by decide) ?_
  refine wj_ldc C dX3_readHurdles_6 kc_X3_60 ?_
  refine wj_cif C (wj_rV C dX3_readHurdles_8 km_X3_readNumber kl_X3_61 is_X3 rfl rfl (c_X3_readNumber_l l V hf2 hm2 h120 hce (v := 0) (lo := 0) (hi := 65535) (by decide) (by decide) hn2) rfl rfl (Nat.le_of_ble_eq_true rfl) (by decide)) ?_
  refine wj_istore_n C 2 dX3_readHurdles_11 rfl (by decide) rfl ?_
  dsimp only [List.set]
  refine wj_iload_n C 2 dX3_readHurdles_12 rfl rfl ?_
  refine wj_iconst (v := -1) C dX3_readHurdles_13 (by decide) ?_
  refine wj_icmp_ne C 19 dX3_readHurdles_14 (by decide) (fun h14 => absurd h14 (fun z => z rfl)) (fun h14 => ?_)
  refine wj_iconst (v := 0) C dX3_readHurdles_17 (by decide) ?_
  exact hR _ _ _ _ _ dX3_readHurdles_18 ⟨by decide +kernel, rfl, by rw [hx]⟩ wj_rfl
set_option maxRecDepth 100000 in
set_option maxHeartbeats 4000000 in
theorem c_X3_readHurdles_r (l : Launch) (V : wj_V) {σ : wj_St} {f : Nat → Int32} {m c : Nat} {T : sp_L} (hf : σ 47 = f) (hm : σ 46 1 = nI m) (h120 : m ≤ 120) (hc : c ≤ m) {x c1 : Nat} {it : tx_I} (hn : tx_hu f m (tx_e f m c) = .inr (it, c1)) : wj_M l V yX3_readHurdles cX3_readHurdles 3 (some .boolean) 2 45 [.ref (V.2.2.1 46), .ref (V.2.2.1 2)] (tx_C f m (sp_put σ 2 T) c) (wj_I V 1 (tx_C f m (sp_put σ 2 (tx_ap T it)) c1)) := by
  refine wj_ofZ (own := RX3) [some (.ref (V.2.2.1 46)), some (.ref (V.2.2.1 2)), none] (by decide) rfl rfl (Nat.le_of_ble_eq_true rfl) (fun X C hR => ?_)
  have hf2 : sp_put σ 2 T 47 = f := by rw [sp_put_o (by decide)]; exact hf
  have hm2 : sp_put σ 2 T 46 1 = nI m := by rw [sp_put_o (by decide)]; exact hm
  have hce := tx_e_le (f := f) hc
  obtain ⟨v, hn2, rfl⟩ : ∃ v, tx_num f m 0 65535 (tx_e f m c) = .inr (v, c1) ∧ it = (10, v, 0, 0, 0) := by
    rw [tx_hu] at hn
    split at hn
    · cases hn
    · rename_i v c2 h2
      cases hn
      exact ⟨v, h2, rfl⟩
  have hb := tx_num_c hce hn2
  refine wj_aload_n C 0 dX3_readHurdles_0 rfl rfl ?_
  refine wj_cvf C (wj_rV C dX3_readHurdles_1 km_X3_step kl_X3_28 is_X3 rfl rfl (c_X3_step_C l V hf2 hm2 h120 hc) rfl rfl (Nat.le_of_ble_eq_true rfl) (by decide)) ?_
  refine wj_aload_n C 0 dX3_readHurdles_4 rfl rfl ?_
  refine wj_iconst (v := 0) C dX3_readHurdles_5 (by decide) ?_
  refine wj_ldc C dX3_readHurdles_6 kc_X3_60 ?_
  refine wj_cif C (wj_rV C dX3_readHurdles_8 km_X3_readNumber kl_X3_61 is_X3 rfl rfl (c_X3_readNumber_r l V hf2 hm2 h120 hce (lo := 0) (hi := 65535) (by decide) (by decide) hn2) rfl rfl (Nat.le_of_ble_eq_true rfl) (by decide)) ?_
  refine wj_istore_n C 2 dX3_readHurdles_11 rfl (by decide) rfl ?_
  dsimp only [List.set]
  refine wj_iload_n C 2 dX3_readHurdles_12 rfl rfl ?_
  refine wj_iconst (v := -1) C dX3_readHurdles_13 (by decide) ?_
  refine wj_icmp_ne C 19 dX3_readHurdles_14 (by decide) (fun h14 => ?_) (fun h14 => ?_)
  · refine wj_aload_n C 1 dX3_readHurdles_19 rfl rfl ?_
    refine wj_iload_n C 2 dX3_readHurdles_20 rfl rfl ?_
    rw [tx_C_put]
    refine wp_X3_65 C dX3_readHurdles_21 (by first | assumption | omega) ?_
    rw [sp_put_u3, ← tx_C_put]
    refine wj_iconst (v := 1) C dX3_readHurdles_24 (by decide) ?_
    exact hR _ _ _ _ _ dX3_readHurdles_25 ⟨by decide +kernel, rfl, rfl⟩ wj_rfl
  · exact absurd h14 (fun z => nI_pos (n := v) (by omega) (by rw [z]; decide))
set_option maxRecDepth 100000 in
set_option maxHeartbeats 4000000 in
theorem c_X3_readLeaning_l (l : Launch) (V : wj_V) {σ : wj_St} {f : Nat → Int32} {m c : Nat} {T : sp_L} (hf : σ 47 = f) (hm : σ 46 1 = nI m) (h120 : m ≤ 120) (hc : c ≤ m) {x : Nat} (hn : tx_le f m (tx_e f m c) = .inl x) : wj_M l V yX3_readLeaning cX3_readLeaning 5 (some .boolean) 2 45 [.ref (V.2.2.1 46), .ref (V.2.2.1 2)] (tx_C f m (sp_put σ 2 T) c) (wj_I V 0 (tx_C f m (sp_put σ 2 T) x)) := by
  refine wj_ofZ (own := RX3) [some (.ref (V.2.2.1 46)), some (.ref (V.2.2.1 2)), none, none, none] (by decide) rfl rfl (Nat.le_of_ble_eq_true rfl) (fun X C hR => ?_)
  have hf2 : sp_put σ 2 T 47 = f := by rw [sp_put_o (by decide)]; exact hf
  have hm2 : sp_put σ 2 T 46 1 = nI m := by rw [sp_put_o (by decide)]; exact hm
  have hce := tx_e_le (f := f) hc
  rw [tx_le] at hn
  rcases h1 : tx_num f m 0 5 (tx_e f m c) with x1 | ⟨i, d1⟩
  · rw [h1] at hn
    cases hn
    have hx := tx_num_l h1
    refine wj_aload_n C 0 dX3_readLeaning_0 rfl rfl ?_
    refine wj_cvf C (wj_rV C dX3_readLeaning_1 km_X3_step kl_X3_28 is_X3 rfl rfl (c_X3_step_C l V hf2 hm2 h120 hc) rfl rfl (Nat.le_of_ble_eq_true rfl) (by decide)) ?_
    refine wj_aload_n C 0 dX3_readLeaning_4 rfl rfl ?_
    refine wj_iconst (v := 0) C dX3_readLeaning_5 (by decide) ?_
    refine wj_iconst (v := 5) C dX3_readLeaning_6 (by decide) ?_
    refine wj_cif C (wj_rV C dX3_readLeaning_7 km_X3_readNumber kl_X3_61 is_X3 rfl rfl (c_X3_readNumber_l l V hf2 hm2 h120 hce (v := 0) (lo := 0) (hi := 5) (by decide) (by decide) h1) rfl rfl (Nat.le_of_ble_eq_true rfl) (by decide)) ?_
    refine wj_istore_n C 2 dX3_readLeaning_10 rfl (by decide) rfl ?_
    dsimp only [List.set]
    refine wj_iload_n C 2 dX3_readLeaning_11 rfl rfl ?_
    refine wj_cif C (wj_rSN C dX3_readLeaning_12 km_X4_isListed kl_X3_68 (c_X4_isListed l V) rfl rfl (Nat.le_of_ble_eq_true rfl) (by decide)) ?_
    refine wj_if_ne C 20 dX3_readLeaning_15 (by decide) (fun h15 => absurd h15 (by decide)) (fun h15 => ?_)
    refine wj_iconst (v := 0) C dX3_readLeaning_18 (by decide) ?_
    exact hR _ _ _ _ _ dX3_readLeaning_19 ⟨by decide +kernel, rfl, by rw [hx]⟩ wj_rfl
  · have hb1 := tx_num_c hce h1
    rw [h1] at hn
    dsimp only at hn
    rcases h2 : tx_num f m 0 15 d1 with x2 | ⟨p, d2⟩
    · rw [h2] at hn
      cases hn
      have hx := tx_num_l h2
      refine wj_aload_n C 0 dX3_readLeaning_0 rfl rfl ?_
      refine wj_cvf C (wj_rV C dX3_readLeaning_1 km_X3_step kl_X3_28 is_X3 rfl rfl (c_X3_step_C l V hf2 hm2 h120 hc) rfl rfl (Nat.le_of_ble_eq_true rfl) (by decide)) ?_
      refine wj_aload_n C 0 dX3_readLeaning_4 rfl rfl ?_
      refine wj_iconst (v := 0) C dX3_readLeaning_5 (by decide) ?_
      refine wj_iconst (v := 5) C dX3_readLeaning_6 (by decide) ?_
      refine wj_cif C (wj_rV C dX3_readLeaning_7 km_X3_readNumber kl_X3_61 is_X3 rfl rfl (c_X3_readNumber_r l V hf2 hm2 h120 hce (lo := 0) (hi := 5) (by decide) (by decide) h1) rfl rfl (Nat.le_of_ble_eq_true rfl) (by decide)) ?_
      refine wj_istore_n C 2 dX3_readLeaning_10 rfl (by decide) rfl ?_
      dsimp only [List.set]
      refine wj_iload_n C 2 dX3_readLeaning_11 rfl rfl ?_
      refine wj_cif C (wj_rSN C dX3_readLeaning_12 km_X4_isListed kl_X3_68 (c_X4_isListed l V) rfl rfl (Nat.le_of_ble_eq_true rfl) (by decide)) ?_
      refine wj_if_ne C 20 dX3_readLeaning_15 (by decide) (fun h15 => ?_) (fun h15 => ?_)
      · refine wj_aload_n C 0 dX3_readLeaning_20 rfl rfl ?_
        refine wj_iconst (v := 0) C dX3_readLeaning_21 (by decide) ?_
        refine wj_bipush (v := 15) C dX3_readLeaning_22 (by decide) ?_
        refine wj_cif C (wj_rV C dX3_readLeaning_24 km_X3_readNumber kl_X3_61 is_X3 rfl rfl (c_X3_readNumber_l l V hf2 hm2 h120 hb1.1 (v := 0) (lo := 0) (hi := 15) (by decide) (by decide) h2) rfl rfl (Nat.le_of_ble_eq_true rfl) (by decide)) ?_
        refine wj_istore_n C 3 dX3_readLeaning_27 rfl (by decide) rfl ?_
        dsimp only [List.set]
        refine wj_iload_n C 3 dX3_readLeaning_28 rfl rfl ?_
        refine wj_iconst (v := -1) C dX3_readLeaning_29 (by decide) ?_
        refine wj_icmp_ne C 35 dX3_readLeaning_30 (by decide) (fun h30 => absurd h30 (fun z => z rfl)) (fun h30 => ?_)
        refine wj_iconst (v := 0) C dX3_readLeaning_33 (by decide) ?_
        exact hR _ _ _ _ _ dX3_readLeaning_34 ⟨by decide +kernel, rfl, by rw [hx]⟩ wj_rfl
      · exact absurd h15 (by rw [if_pos (show 0 ≤ nI i ∧ nI i ≤ (5 : Int32) from wj_rngCI (i := i) (N := 5) (by omega) (by decide))]; decide)
    · have hb2 := tx_num_c hb1.1 h2
      rw [h2] at hn
      dsimp only at hn
      rcases h3 : tx_num f m 0 99 d2 with x3 | ⟨w, d3⟩
      · rw [h3] at hn
        cases hn
        have hx := tx_num_l h3
        refine wj_aload_n C 0 dX3_readLeaning_0 rfl rfl ?_
        refine wj_cvf C (wj_rV C dX3_readLeaning_1 km_X3_step kl_X3_28 is_X3 rfl rfl (c_X3_step_C l V hf2 hm2 h120 hc) rfl rfl (Nat.le_of_ble_eq_true rfl) (by decide)) ?_
        refine wj_aload_n C 0 dX3_readLeaning_4 rfl rfl ?_
        refine wj_iconst (v := 0) C dX3_readLeaning_5 (by decide) ?_
        refine wj_iconst (v := 5) C dX3_readLeaning_6 (by decide) ?_
        refine wj_cif C (wj_rV C dX3_readLeaning_7 km_X3_readNumber kl_X3_61 is_X3 rfl rfl (c_X3_readNumber_r l V hf2 hm2 h120 hce (lo := 0) (hi := 5) (by decide) (by decide) h1) rfl rfl (Nat.le_of_ble_eq_true rfl) (by decide)) ?_
        refine wj_istore_n C 2 dX3_readLeaning_10 rfl (by decide) rfl ?_
        dsimp only [List.set]
        refine wj_iload_n C 2 dX3_readLeaning_11 rfl rfl ?_
        refine wj_cif C (wj_rSN C dX3_readLeaning_12 km_X4_isListed kl_X3_68 (c_X4_isListed l V) rfl rfl (Nat.le_of_ble_eq_true rfl) (by decide)) ?_
        refine wj_if_ne C 20 dX3_readLeaning_15 (by decide) (fun h15 => ?_) (fun h15 => ?_)
        · refine wj_aload_n C 0 dX3_readLeaning_20 rfl rfl ?_
          refine wj_iconst (v := 0) C dX3_readLeaning_21 (by decide) ?_
          refine wj_bipush (v := 15) C dX3_readLeaning_22 (by decide) ?_
          refine wj_cif C (wj_rV C dX3_readLeaning_24 km_X3_readNumber kl_X3_61 is_X3 rfl rfl (c_X3_readNumber_r l V hf2 hm2 h120 hb1.1 (lo := 0) (hi := 15) (by decide) (by decide) h2) rfl rfl (Nat.le_of_ble_eq_true rfl) (by decide)) ?_
          refine wj_istore_n C 3 dX3_readLeaning_27 rfl (by decide) rfl ?_
          dsimp only [List.set]
          refine wj_iload_n C 3 dX3_readLeaning_28 rfl rfl ?_
          refine wj_iconst (v := -1) C dX3_readLeaning_29 (by decide) ?_
          refine wj_icmp_ne C 35 dX3_readLeaning_30 (by decide) (fun h30 => ?_) (fun h30 => ?_)
          · refine wj_aload_n C 0 dX3_readLeaning_35 rfl rfl ?_
            refine wj_iconst (v := 0) C dX3_readLeaning_36 (by decide) ?_
            refine wj_bipush (v := 99) C dX3_readLeaning_37 (by decide) ?_
            refine wj_cif C (wj_rV C dX3_readLeaning_39 km_X3_readNumber kl_X3_61 is_X3 rfl rfl (c_X3_readNumber_l l V hf2 hm2 h120 hb2.1 (v := 0) (lo := 0) (hi := 99) (by decide) (by decide) h3) rfl rfl (Nat.le_of_ble_eq_true rfl) (by decide)) ?_
            refine wj_istore C dX3_readLeaning_42 (by decide) rfl ?_
            dsimp only [List.set]
            refine wj_iload C dX3_readLeaning_44 rfl ?_
            refine wj_iconst (v := -1) C dX3_readLeaning_46 (by decide) ?_
            refine wj_icmp_ne C 52 dX3_readLeaning_47 (by decide) (fun h47 => absurd h47 (fun z => z rfl)) (fun h47 => ?_)
            refine wj_iconst (v := 0) C dX3_readLeaning_50 (by decide) ?_
            exact hR _ _ _ _ _ dX3_readLeaning_51 ⟨by decide +kernel, rfl, by rw [hx]⟩ wj_rfl
          · exact absurd h30 (fun z => nI_pos (n := p) (by omega) (by rw [z]; decide))
        · exact absurd h15 (by rw [if_pos (show 0 ≤ nI i ∧ nI i ≤ (5 : Int32) from wj_rngCI (i := i) (N := 5) (by omega) (by decide))]; decide)
      · rw [h3] at hn
        cases hn

set_option maxRecDepth 100000 in
set_option maxHeartbeats 4000000 in
theorem c_X3_readLeaning_r (l : Launch) (V : wj_V) {σ : wj_St} {f : Nat → Int32} {m c : Nat} {T : sp_L} (hf : σ 47 = f) (hm : σ 46 1 = nI m) (h120 : m ≤ 120) (hc : c ≤ m) {c1 : Nat} {it : tx_I} (hn : tx_le f m (tx_e f m c) = .inr (it, c1)) : wj_M l V yX3_readLeaning cX3_readLeaning 5 (some .boolean) 2 45 [.ref (V.2.2.1 46), .ref (V.2.2.1 2)] (tx_C f m (sp_put σ 2 T) c) (wj_I V 1 (tx_C f m (sp_put σ 2 (tx_ap T it)) c1)) := by
  refine wj_ofZ (own := RX3) [some (.ref (V.2.2.1 46)), some (.ref (V.2.2.1 2)), none, none, none] (by decide) rfl rfl (Nat.le_of_ble_eq_true rfl) (fun X C hR => ?_)
  have hf2 : sp_put σ 2 T 47 = f := by rw [sp_put_o (by decide)]; exact hf
  have hm2 : sp_put σ 2 T 46 1 = nI m := by rw [sp_put_o (by decide)]; exact hm
  have hce := tx_e_le (f := f) hc
  obtain ⟨i, d1, p, d2, w, h1, h2, h3, rfl⟩ : ∃ i d1 p d2 w, tx_num f m 0 5 (tx_e f m c) = .inr (i, d1) ∧ tx_num f m 0 15 d1 = .inr (p, d2) ∧ tx_num f m 0 99 d2 = .inr (w, c1) ∧ it = (11, i, 100 * p + w, 0, 0) := by
    rw [tx_le] at hn
    split at hn
    · cases hn
    · rename_i i d1 h1
      split at hn
      · cases hn
      · rename_i p d2 h2
        split at hn
        · cases hn
        · rename_i w d3 h3
          cases hn
          exact ⟨i, d1, p, d2, w, h1, h2, h3, rfl⟩
  have hb1 := tx_num_c hce h1
  have hb2 := tx_num_c hb1.1 h2
  have hb3 := tx_num_c hb2.1 h3
  refine wj_aload_n C 0 dX3_readLeaning_0 rfl rfl ?_
  refine wj_cvf C (wj_rV C dX3_readLeaning_1 km_X3_step kl_X3_28 is_X3 rfl rfl (c_X3_step_C l V hf2 hm2 h120 hc) rfl rfl (Nat.le_of_ble_eq_true rfl) (by decide)) ?_
  refine wj_aload_n C 0 dX3_readLeaning_4 rfl rfl ?_
  refine wj_iconst (v := 0) C dX3_readLeaning_5 (by decide) ?_
  refine wj_iconst (v := 5) C dX3_readLeaning_6 (by decide) ?_
  refine wj_cif C (wj_rV C dX3_readLeaning_7 km_X3_readNumber kl_X3_61 is_X3 rfl rfl (c_X3_readNumber_r l V hf2 hm2 h120 hce (lo := 0) (hi := 5) (by decide) (by decide) h1) rfl rfl (Nat.le_of_ble_eq_true rfl) (by decide)) ?_
  refine wj_istore_n C 2 dX3_readLeaning_10 rfl (by decide) rfl ?_
  dsimp only [List.set]
  refine wj_iload_n C 2 dX3_readLeaning_11 rfl rfl ?_
  refine wj_cif C (wj_rSN C dX3_readLeaning_12 km_X4_isListed kl_X3_68 (c_X4_isListed l V) rfl rfl (Nat.le_of_ble_eq_true rfl) (by decide)) ?_
  refine wj_if_ne C 20 dX3_readLeaning_15 (by decide) (fun h15 => ?_) (fun h15 => ?_)
  · refine wj_aload_n C 0 dX3_readLeaning_20 rfl rfl ?_
    refine wj_iconst (v := 0) C dX3_readLeaning_21 (by decide) ?_
    refine wj_bipush (v := 15) C dX3_readLeaning_22 (by decide) ?_
    refine wj_cif C (wj_rV C dX3_readLeaning_24 km_X3_readNumber kl_X3_61 is_X3 rfl rfl (c_X3_readNumber_r l V hf2 hm2 h120 hb1.1 (lo := 0) (hi := 15) (by decide) (by decide) h2) rfl rfl (Nat.le_of_ble_eq_true rfl) (by decide)) ?_
    refine wj_istore_n C 3 dX3_readLeaning_27 rfl (by decide) rfl ?_
    dsimp only [List.set]
    refine wj_iload_n C 3 dX3_readLeaning_28 rfl rfl ?_
    refine wj_iconst (v := -1) C dX3_readLeaning_29 (by decide) ?_
    refine wj_icmp_ne C 35 dX3_readLeaning_30 (by decide) (fun h30 => ?_) (fun h30 => ?_)
    · refine wj_aload_n C 0 dX3_readLeaning_35 rfl rfl ?_
      refine wj_iconst (v := 0) C dX3_readLeaning_36 (by decide) ?_
      refine wj_bipush (v := 99) C dX3_readLeaning_37 (by decide) ?_
      refine wj_cif C (wj_rV C dX3_readLeaning_39 km_X3_readNumber kl_X3_61 is_X3 rfl rfl (c_X3_readNumber_r l V hf2 hm2 h120 hb2.1 (lo := 0) (hi := 99) (by decide) (by decide) h3) rfl rfl (Nat.le_of_ble_eq_true rfl) (by decide)) ?_
      refine wj_istore C dX3_readLeaning_42 (by decide) rfl ?_
      dsimp only [List.set]
      refine wj_iload C dX3_readLeaning_44 rfl ?_
      refine wj_iconst (v := -1) C dX3_readLeaning_46 (by decide) ?_
      refine wj_icmp_ne C 52 dX3_readLeaning_47 (by decide) (fun h47 => ?_) (fun h47 => ?_)
      · refine wj_aload_n C 1 dX3_readLeaning_52 rfl rfl ?_
        refine wg_X3_72 C dX3_readLeaning_53 (by first | assumption | omega) ?_
        refine wj_iload_n C 2 dX3_readLeaning_56 rfl rfl ?_
        refine wj_bipush (v := 100) C dX3_readLeaning_57 (by decide) ?_
        refine wj_iload_n C 3 dX3_readLeaning_59 rfl rfl ?_
        refine wj_imul C dX3_readLeaning_60 ?_
        rw [show (100 : Int32) = nI 100 from rfl, pk_mul]
        refine wj_iload C dX3_readLeaning_61 rfl ?_
        refine wj_iadd C dX3_readLeaning_63 ?_
        rw [nI_add]
        rw [tx_C_put]
        refine wj_iastN C dX3_readLeaning_64 (ar_leanings (by first | assumption | omega)) ⟨by omega, by decide⟩ ?_
        rw [wj_u_r, sp_put_l, sp_put_rl, ← tx_C_put]
        refine wj_iconst (v := 1) C dX3_readLeaning_65 (by decide) ?_
        exact hR _ _ _ _ _ dX3_readLeaning_66 ⟨by decide +kernel, rfl, rfl⟩ wj_rfl
      · exact absurd h47 (fun z => nI_pos (n := w) (by omega) (by rw [z]; decide))
    · exact absurd h30 (fun z => nI_pos (n := p) (by omega) (by rw [z]; decide))
  · exact absurd h15 (by rw [if_pos (show 0 ≤ nI i ∧ nI i ≤ (5 : Int32) from wj_rngCI (i := i) (N := 5) (by omega) (by decide))]; decide)
set_option maxRecDepth 100000 in
set_option maxHeartbeats 4000000 in
theorem c_X3_readSlip_l (l : Launch) (V : wj_V) {σ : wj_St} {f : Nat → Int32} {m c : Nat} {T : sp_L} (hf : σ 47 = f) (hm : σ 46 1 = nI m) (h120 : m ≤ 120) (hc : c ≤ m) {k x : Nat} (hn : tx_sl f m k c = .inl x) : wj_M l V yX3_readSlip cX3_readSlip 7 (some .boolean) 6 130 [.ref (V.2.2.1 46), .ref (V.2.2.1 2), .int (nI k)] (tx_C f m (sp_put σ 2 T) c) (wj_I V 0 (tx_C f m (sp_put σ 2 T) x)) := by
  refine wj_ofZ (own := RX3) [some (.ref (V.2.2.1 46)), some (.ref (V.2.2.1 2)), some (.int (nI k)), none, none, none, none] (by decide) rfl rfl (Nat.le_of_ble_eq_true rfl) (fun X C hR => ?_)
  have hf2 : sp_put σ 2 T 47 = f := by rw [sp_put_o (by decide)]; exact hf
  have hm2 : sp_put σ 2 T 46 1 = nI m := by rw [sp_put_o (by decide)]; exact hm
  have hce := tx_e_le (f := f) hc
  rw [tx_sl] at hn
  rcases h1 : tx_prt f m 7 0 15 0 c with x1 | ⟨p, d1⟩
  · rw [h1] at hn
    cases hn
    refine wj_aload_n C 0 dX3_readSlip_0 rfl rfl ?_
    refine wj_ldcS C dX3_readSlip_1 kt_X3_76 ?_
    refine wj_iconst (v := 1) C dX3_readSlip_3 (by decide) ?_
    refine wj_iconst (v := 0) C dX3_readSlip_4 (by decide) ?_
    refine wj_cif C (wj_rV C dX3_readSlip_5 km_X3_readPart kl_X3_78 is_X3 rfl rfl (c_X3_readPart_l l V hf2 hm2 h120 hc (v := 0) (c1 := 0) (q := 7) (lo := 0) (hi := 15) (by decide) rfl rfl (by decide) (by decide) h1) rfl rfl (Nat.le_of_ble_eq_true rfl) (by decide)) ?_
    refine wj_istore_n C 3 dX3_readSlip_8 rfl (by decide) rfl ?_
    dsimp only [List.set]
    refine wj_iload_n C 3 dX3_readSlip_9 rfl rfl ?_
    refine wj_iconst (v := -1) C dX3_readSlip_10 (by decide) ?_
    refine wj_icmp_ne C 16 dX3_readSlip_11 (by decide) (fun h11 => absurd h11 (fun z => z rfl)) (fun h11 => ?_)
    refine wj_iconst (v := 0) C dX3_readSlip_14 (by decide) ?_
    exact hR _ _ _ _ _ dX3_readSlip_15 ⟨by decide +kernel, rfl, rfl⟩ wj_rfl
  · have hb1 := tx_prt_c hc h1 (by decide)
    rw [h1] at hn
    dsimp only at hn
    rcases h2 : tx_prt f m 8 1 12 4 d1 with x2 | ⟨w, d2⟩
    · rw [h2] at hn
      cases hn
      refine wj_aload_n C 0 dX3_readSlip_0 rfl rfl ?_
      refine wj_ldcS C dX3_readSlip_1 kt_X3_76 ?_
      refine wj_iconst (v := 1) C dX3_readSlip_3 (by decide) ?_
      refine wj_iconst (v := 0) C dX3_readSlip_4 (by decide) ?_
      refine wj_cif C (wj_rV C dX3_readSlip_5 km_X3_readPart kl_X3_78 is_X3 rfl rfl (c_X3_readPart_r l V hf2 hm2 h120 hc (x := 0) (q := 7) (lo := 0) (hi := 15) (by decide) rfl rfl (by decide) (by decide) h1) rfl rfl (Nat.le_of_ble_eq_true rfl) (by decide)) ?_
      refine wj_istore_n C 3 dX3_readSlip_8 rfl (by decide) rfl ?_
      dsimp only [List.set]
      refine wj_iload_n C 3 dX3_readSlip_9 rfl rfl ?_
      refine wj_iconst (v := -1) C dX3_readSlip_10 (by decide) ?_
      refine wj_icmp_ne C 16 dX3_readSlip_11 (by decide) (fun h11 => ?_) (fun h11 => ?_)
      · refine wj_aload_n C 0 dX3_readSlip_16 rfl rfl ?_
        refine wj_ldcS C dX3_readSlip_17 kt_X3_82 ?_
        refine wj_iconst (v := 5) C dX3_readSlip_19 (by decide) ?_
        refine wj_iconst (v := 4) C dX3_readSlip_20 (by decide) ?_
        refine wj_cif C (wj_rV C dX3_readSlip_21 km_X3_readPart kl_X3_78 is_X3 rfl rfl (c_X3_readPart_l l V hf2 hm2 h120 hb1.1 (v := 0) (c1 := 0) (q := 8) (lo := 1) (hi := 12) (by decide) rfl rfl (by decide) (by decide) h2) rfl rfl (Nat.le_of_ble_eq_true rfl) (by decide)) ?_
        refine wj_istore C dX3_readSlip_24 (by decide) rfl ?_
        dsimp only [List.set]
        refine wj_iload C dX3_readSlip_26 rfl ?_
        refine wj_iconst (v := -1) C dX3_readSlip_28 (by decide) ?_
        refine wj_icmp_ne C 34 dX3_readSlip_29 (by decide) (fun h29 => absurd h29 (fun z => z rfl)) (fun h29 => ?_)
        refine wj_iconst (v := 0) C dX3_readSlip_32 (by decide) ?_
        exact hR _ _ _ _ _ dX3_readSlip_33 ⟨by decide +kernel, rfl, rfl⟩ wj_rfl
      · exact absurd h11 (fun z => nI_pos (n := p) (by omega) (by rw [z]; decide))
    · have hb2 := tx_prt_c hb1.1 h2 (by decide)
      rw [h2] at hn
      dsimp only at hn
      rcases h3 : tx_prt f m 9 0 199 20 d2 with x3 | ⟨g, d3⟩
      · rw [h3] at hn
        cases hn
        refine wj_aload_n C 0 dX3_readSlip_0 rfl rfl ?_
        refine wj_ldcS C dX3_readSlip_1 kt_X3_76 ?_
        refine wj_iconst (v := 1) C dX3_readSlip_3 (by decide) ?_
        refine wj_iconst (v := 0) C dX3_readSlip_4 (by decide) ?_
        refine wj_cif C (wj_rV C dX3_readSlip_5 km_X3_readPart kl_X3_78 is_X3 rfl rfl (c_X3_readPart_r l V hf2 hm2 h120 hc (x := 0) (q := 7) (lo := 0) (hi := 15) (by decide) rfl rfl (by decide) (by decide) h1) rfl rfl (Nat.le_of_ble_eq_true rfl) (by decide)) ?_
        refine wj_istore_n C 3 dX3_readSlip_8 rfl (by decide) rfl ?_
        dsimp only [List.set]
        refine wj_iload_n C 3 dX3_readSlip_9 rfl rfl ?_
        refine wj_iconst (v := -1) C dX3_readSlip_10 (by decide) ?_
        refine wj_icmp_ne C 16 dX3_readSlip_11 (by decide) (fun h11 => ?_) (fun h11 => ?_)
        · refine wj_aload_n C 0 dX3_readSlip_16 rfl rfl ?_
          refine wj_ldcS C dX3_readSlip_17 kt_X3_82 ?_
          refine wj_iconst (v := 5) C dX3_readSlip_19 (by decide) ?_
          refine wj_iconst (v := 4) C dX3_readSlip_20 (by decide) ?_
          refine wj_cif C (wj_rV C dX3_readSlip_21 km_X3_readPart kl_X3_78 is_X3 rfl rfl (c_X3_readPart_r l V hf2 hm2 h120 hb1.1 (x := 0) (q := 8) (lo := 1) (hi := 12) (by decide) rfl rfl (by decide) (by decide) h2) rfl rfl (Nat.le_of_ble_eq_true rfl) (by decide)) ?_
          refine wj_istore C dX3_readSlip_24 (by decide) rfl ?_
          dsimp only [List.set]
          refine wj_iload C dX3_readSlip_26 rfl ?_
          refine wj_iconst (v := -1) C dX3_readSlip_28 (by decide) ?_
          refine wj_icmp_ne C 34 dX3_readSlip_29 (by decide) (fun h29 => ?_) (fun h29 => ?_)
          · refine wj_aload_n C 0 dX3_readSlip_34 rfl rfl ?_
            refine wj_ldcS C dX3_readSlip_35 kt_X3_84 ?_
            refine wj_iconst (v := 2) C dX3_readSlip_37 (by decide) ?_
            refine wj_bipush (v := 20) C dX3_readSlip_38 (by decide) ?_
            refine wj_cif C (wj_rV C dX3_readSlip_40 km_X3_readPart kl_X3_78 is_X3 rfl rfl (c_X3_readPart_l l V hf2 hm2 h120 hb2.1 (v := 0) (c1 := 0) (q := 9) (lo := 0) (hi := 199) (by decide) rfl rfl (by decide) (by decide) h3) rfl rfl (Nat.le_of_ble_eq_true rfl) (by decide)) ?_
            refine wj_istore C dX3_readSlip_43 (by decide) rfl ?_
            dsimp only [List.set]
            refine wj_iload C dX3_readSlip_45 rfl ?_
            refine wj_iconst (v := -1) C dX3_readSlip_47 (by decide) ?_
            refine wj_icmp_ne C 53 dX3_readSlip_48 (by decide) (fun h48 => absurd h48 (fun z => z rfl)) (fun h48 => ?_)
            refine wj_iconst (v := 0) C dX3_readSlip_51 (by decide) ?_
            exact hR _ _ _ _ _ dX3_readSlip_52 ⟨by decide +kernel, rfl, rfl⟩ wj_rfl
          · exact absurd h29 (fun z => nI_pos (n := w) (by omega) (by rw [z]; decide))
        · exact absurd h11 (fun z => nI_pos (n := p) (by omega) (by rw [z]; decide))
      · rw [h3] at hn
        cases hn

set_option maxRecDepth 100000 in
set_option maxHeartbeats 4000000 in
theorem c_X3_readSlip_r (l : Launch) (V : wj_V) {σ : wj_St} {f : Nat → Int32} {m c : Nat} {T : sp_L} (hf : σ 47 = f) (hm : σ 46 1 = nI m) (h120 : m ≤ 120) (hc : c ≤ m) {k c1 N : Nat} {it : tx_I} (hN : T.2.1 = nI N) (h8 : N < 8) (hk : k ≤ 6) (hn : tx_sl f m k c = .inr (it, c1)) : wj_M l V yX3_readSlip cX3_readSlip 7 (some .boolean) 6 130 [.ref (V.2.2.1 46), .ref (V.2.2.1 2), .int (nI k)] (tx_C f m (sp_put σ 2 T) c) (wj_I V 1 (tx_C f m (sp_put σ 2 (tx_ap T it)) c1)) := by
  refine wj_ofZ (own := RX3) [some (.ref (V.2.2.1 46)), some (.ref (V.2.2.1 2)), some (.int (nI k)), none, none, none, none] (by decide) rfl rfl (Nat.le_of_ble_eq_true rfl) (fun X C hR => ?_)
  have hf2 : sp_put σ 2 T 47 = f := by rw [sp_put_o (by decide)]; exact hf
  have hm2 : sp_put σ 2 T 46 1 = nI m := by rw [sp_put_o (by decide)]; exact hm
  have hce := tx_e_le (f := f) hc
  obtain ⟨p, d1, w, d2, g, d3, h1, h2, h3, rfl, rfl⟩ : ∃ p d1 w d2 g d3, tx_prt f m 7 0 15 0 c = .inr (p, d1) ∧ tx_prt f m 8 1 12 4 d1 = .inr (w, d2) ∧ tx_prt f m 9 0 199 20 d2 = .inr (g, d3) ∧ it = (k, p, w, g, (tx_ld f m d3).1) ∧ c1 = (tx_ld f m d3).2 := by
    rw [tx_sl] at hn
    split at hn
    · cases hn
    · rename_i p d1 h1
      split at hn
      · cases hn
      · rename_i w d2 h2
        split at hn
        · cases hn
        · rename_i g d3 h3
          cases hn
          exact ⟨p, d1, w, d2, g, d3, h1, h2, h3, rfl, rfl⟩
  have hb1 := tx_prt_c hc h1 (by decide)
  have hb2 := tx_prt_c hb1.1 h2 (by decide)
  have hb3 := tx_prt_c hb2.1 h3 (by decide)
  have hap : tx_ap T (k, p, w, g, (tx_ld f m d3).1) = sp_us (sp_us (sp_add T N (nI k) (nI p) (nI w)) N 2 (nI g)) N 4 (nI (tx_ld f m d3).1) := by
    rw [tx_ap, if_neg (by show ¬ k = 10; omega), if_neg (by show ¬ k = 11; omega), tx_ns, sp_N_of hN (by omega)]
  have hf3 : ∀ B, sp_put σ 2 B 47 = f := fun B => by rw [sp_put_o (by decide)]; exact hf
  have hm3 : ∀ B, sp_put σ 2 B 46 1 = nI m := fun B => by rw [sp_put_o (by decide)]; exact hm
  refine wj_aload_n C 0 dX3_readSlip_0 rfl rfl ?_
  refine wj_ldcS C dX3_readSlip_1 kt_X3_76 ?_
  refine wj_iconst (v := 1) C dX3_readSlip_3 (by decide) ?_
  refine wj_iconst (v := 0) C dX3_readSlip_4 (by decide) ?_
  refine wj_cif C (wj_rV C dX3_readSlip_5 km_X3_readPart kl_X3_78 is_X3 rfl rfl (c_X3_readPart_r l V hf2 hm2 h120 hc (x := 0) (q := 7) (lo := 0) (hi := 15) (by decide) rfl rfl (by decide) (by decide) h1) rfl rfl (Nat.le_of_ble_eq_true rfl) (by decide)) ?_
  refine wj_istore_n C 3 dX3_readSlip_8 rfl (by decide) rfl ?_
  dsimp only [List.set]
  refine wj_iload_n C 3 dX3_readSlip_9 rfl rfl ?_
  refine wj_iconst (v := -1) C dX3_readSlip_10 (by decide) ?_
  refine wj_icmp_ne C 16 dX3_readSlip_11 (by decide) (fun h11 => ?_) (fun h11 => ?_)
  · refine wj_aload_n C 0 dX3_readSlip_16 rfl rfl ?_
    refine wj_ldcS C dX3_readSlip_17 kt_X3_82 ?_
    refine wj_iconst (v := 5) C dX3_readSlip_19 (by decide) ?_
    refine wj_iconst (v := 4) C dX3_readSlip_20 (by decide) ?_
    refine wj_cif C (wj_rV C dX3_readSlip_21 km_X3_readPart kl_X3_78 is_X3 rfl rfl (c_X3_readPart_r l V hf2 hm2 h120 hb1.1 (x := 0) (q := 8) (lo := 1) (hi := 12) (by decide) rfl rfl (by decide) (by decide) h2) rfl rfl (Nat.le_of_ble_eq_true rfl) (by decide)) ?_
    refine wj_istore C dX3_readSlip_24 (by decide) rfl ?_
    dsimp only [List.set]
    refine wj_iload C dX3_readSlip_26 rfl ?_
    refine wj_iconst (v := -1) C dX3_readSlip_28 (by decide) ?_
    refine wj_icmp_ne C 34 dX3_readSlip_29 (by decide) (fun h29 => ?_) (fun h29 => ?_)
    · refine wj_aload_n C 0 dX3_readSlip_34 rfl rfl ?_
      refine wj_ldcS C dX3_readSlip_35 kt_X3_84 ?_
      refine wj_iconst (v := 2) C dX3_readSlip_37 (by decide) ?_
      refine wj_bipush (v := 20) C dX3_readSlip_38 (by decide) ?_
      refine wj_cif C (wj_rV C dX3_readSlip_40 km_X3_readPart kl_X3_78 is_X3 rfl rfl (c_X3_readPart_r l V hf2 hm2 h120 hb2.1 (x := 0) (q := 9) (lo := 0) (hi := 199) (by decide) rfl rfl (by decide) (by decide) h3) rfl rfl (Nat.le_of_ble_eq_true rfl) (by decide)) ?_
      refine wj_istore C dX3_readSlip_43 (by decide) rfl ?_
      dsimp only [List.set]
      refine wj_iload C dX3_readSlip_45 rfl ?_
      refine wj_iconst (v := -1) C dX3_readSlip_47 (by decide) ?_
      refine wj_icmp_ne C 53 dX3_readSlip_48 (by decide) (fun h48 => ?_) (fun h48 => ?_)
      · refine wj_aload_n C 1 dX3_readSlip_53 rfl rfl ?_
        refine wj_iload_n C 2 dX3_readSlip_54 rfl rfl ?_
        refine wj_iload_n C 3 dX3_readSlip_55 rfl rfl ?_
        refine wj_iload C dX3_readSlip_56 rfl ?_
        rw [tx_C_put]
        refine wj_crn C (wj_rV C dX3_readSlip_58 km_X0_add kl_X3_88 (is_X0 (by first | assumption | omega)) rfl rfl (c_X0_add l V (by decide) hN (by omega) h8) rfl rfl (Nat.le_of_ble_eq_true rfl) (by decide)) (fun hn58 => ?_) (fun a58 ha58 => ?_)
        · cases hn58
        · cases ha58
          refine wj_astore C dX3_readSlip_61 (by decide) rfl ?_
          dsimp only [List.set]
          refine wj_aload C dX3_readSlip_63 rfl ?_
          refine wj_ifnonnull C 70 dX3_readSlip_65 (by decide) ?_
          refine wj_aload C dX3_readSlip_70 rfl ?_
          refine wj_iload C dX3_readSlip_72 rfl ?_
          refine wp_X3_92 C dX3_readSlip_74 (by first | assumption | omega) ?_
          rw [sp_put_us (by decide) h8, ← tx_C_put]
          refine wj_aload C dX3_readSlip_77 rfl ?_
          refine wj_aload_n C 0 dX3_readSlip_79 rfl rfl ?_
          refine wj_cif C (wj_rV C dX3_readSlip_80 km_X3_readLaid kl_X3_94 is_X3 rfl rfl (c_X3_readLaid l V (hf3 _) (hm3 _) h120 hb3.1) rfl rfl (Nat.le_of_ble_eq_true rfl) (by decide)) ?_
          rw [tx_C_put]
          refine wp_X3_97 C dX3_readSlip_83 (by first | assumption | omega) ?_
          rw [sp_put_us (by decide) h8, ← tx_C_put]
          refine wj_iconst (v := 1) C dX3_readSlip_86 (by decide) ?_
          exact hR _ _ _ _ _ dX3_readSlip_87 ⟨by decide +kernel, rfl, by rw [hap]⟩ wj_rfl
      · exact absurd h48 (fun z => nI_pos (n := g) (by omega) (by rw [z]; decide))
    · exact absurd h29 (fun z => nI_pos (n := w) (by omega) (by rw [z]; decide))
  · exact absurd h11 (fun z => nI_pos (n := p) (by omega) (by rw [z]; decide))

/-- the last of the first k kinds that the token names -/
def tx_lk (f : Nat → Int32) (m c : Nat) : Nat → Int32
  | 0 => -1
  | k + 1 => if tx_w f m k c = true then nI k else tx_lk f m c k
theorem tx_lk_0 {f : Nat → Int32} {m c : Nat} : ∀ k, (∀ j, j < k → tx_w f m j c = false) → tx_lk f m c k = -1
  | 0, _ => rfl
  | k + 1, h => by rw [tx_lk, if_neg (by rw [h k (by omega)]; decide), tx_lk_0 k (fun j hj => h j (by omega))]
theorem tx_lk_s {f : Nat → Int32} {m c q : Nat} (hq : q < 14) (hw : tx_w f m q c = true) : ∀ k, k ≤ 14 → q < k → tx_lk f m c k = nI q
  | 0, _, h => by omega
  | k + 1, h14, h => by
    rw [tx_lk]
    by_cases e : k = q
    · subst e; rw [if_pos hw]
    · rw [if_neg (by rw [tx_w_one hq (by omega) (Ne.symm e) hw]; decide)]
      exact tx_lk_s hq hw k (by omega) (by omega)
theorem tx_lk_7 {f : Nat → Int32} {m c : Nat} : tx_lk f m c 7 = tx_kdI (tx_kd f m c) := by
  rcases hk : tx_kd f m c with _ | k
  · refine tx_lk_0 7 (fun j hj => ?_)
    rw [tx_kd] at hk
    have : j = 0 ∨ j = 1 ∨ j = 2 ∨ j = 3 ∨ j = 4 ∨ j = 5 ∨ j = 6 := by omega
    repeat' split at hk
    all_goals first | (cases hk; done) | skip
    rcases this with rfl | rfl | rfl | rfl | rfl | rfl | rfl <;> (apply Bool.eq_false_iff.mpr; assumption)
  · have h := tx_kd_6 hk
    exact tx_lk_s (by omega) h.2 7 (by decide) (by omega)
set_option maxRecDepth 100000 in
set_option maxHeartbeats 4000000 in
theorem c_X5_readItem_r (l : Launch) (V : wj_V) {σ : wj_St} {f g : Nat → Int32} {m c : Nat} (hg : σ 53 = g) (hm : σ 48 7 = nI m) (h120 : m ≤ 120) (ht : tx_tg g f m) {i n : Nat} {h : Nat → Int32} (hc : c ≤ m) (hi : i < 120) {c1 : Nat} {it : tx_I} (hn : tx_it f m n c = .inr (it, c1)) : wj_M l V yX5_readItem cX5_readItem 3 none 7 156 [.ref (V.2.2.1 48)] (tm f m σ c 0 i n h) (wj_Vd V (tm f m σ c1 0 (i + 1) (tx_up it n) (tyi h i it))) := by
  refine wj_ofV (own := RX5) [some (.ref (V.2.2.1 48)), none, none] (by decide) rfl rfl (Nat.le_of_ble_eq_true rfl) (fun X C hR => ?_)
  have hce := tx_e_le (f := f) hc
  have t38 : ∀ j2, tx_it f m n c = .inr (it, c1) → wj_J l V X 38 [some (.ref (V.2.2.1 48)), some (.int (tx_kdI (tx_kd f m c))), j2] [] (tm f m σ c 0 i n h) := by
    intro j2 hn
    rw [tx_it] at hn
    rcases hk : tx_kd f m c with _ | k
    · rw [hk] at hn
      rcases hw1 : tx_w f m 12 c with _ | _
      · rw [if_neg (by rw [hw1]; decide)] at hn
        rcases hw2 : tx_w f m 13 c with _ | _
        · rw [if_neg (by rw [hw2]; decide)] at hn
          cases hn
        · rw [if_pos hw2] at hn
          have hup : tx_up it n = n := by
            have hz := hn
            rw [tx_le] at hz
            split at hz
            · cases hz
            · split at hz
              · cases hz
              · split at hz
                · cases hz
                · cases hz; rfl
          refine wj_iload_n C 1 dX5_readItem_38 rfl rfl ?_
          refine wj_if_lt C 50 dX5_readItem_39 (by decide) (fun h39 => ?_) (fun h39 => absurd (show (-1 : Int32) < 0 by decide) h39)
          refine wj_aload_n C 0 dX5_readItem_50 rfl rfl ?_
          refine wj_ldcSW C dX5_readItem_51 kt_X5_299 ?_
          refine wj_cif C (wj_rV C dX5_readItem_54 km_X5_takesWord kl_X5_278 is_X5 rfl rfl (c_X5_takesWord_n l V hg hm h120 ht hc (q := 12) (by decide) (Or.inl hw1)) rfl rfl (Nat.le_of_ble_eq_true rfl) (by decide)) ?_
          refine wj_if_eq C 79 dX5_readItem_57 (by decide) (fun h57 => ?_) (fun h57 => absurd rfl h57)
          refine wj_aload_n C 0 dX5_readItem_79 rfl rfl ?_
          refine wj_ldcSW C dX5_readItem_80 kt_X5_301 ?_
          refine wj_cif C (wj_rV C dX5_readItem_83 km_X5_takesWord kl_X5_278 is_X5 rfl rfl (c_X5_takesWord_y l V hg hm h120 ht hc (q := 13) (by decide) hw2) rfl rfl (Nat.le_of_ble_eq_true rfl) (by decide)) ?_
          refine wj_if_eq C 96 dX5_readItem_86 (by decide) (fun h86 => absurd h86 (by decide)) (fun h86 => ?_)
          refine wj_aload_n C 0 dX5_readItem_89 rfl rfl ?_
          refine wj_cvf C (wj_rV C dX5_readItem_90 km_X5_readLean kl_X5_303 is_X5 rfl rfl (c_X5_readLean_r l V hg hm h120 ht hce hi hn) rfl rfl (Nat.le_of_ble_eq_true rfl) (by decide)) ?_
          refine wj_goto C 101 dX5_readItem_93 (by decide) ?_
          exact hR _ _ _ _ dX5_readItem_101 rfl (by rw [hup]; exact wj_rfl)
      · rw [if_pos hw1, tx_hu] at hn
        rcases h1 : tx_num f m 0 65535 (tx_e f m c) with x1 | ⟨v, d1⟩
        · rw [h1] at hn
          cases hn
        · rw [h1] at hn
          cases hn
          refine wj_iload_n C 1 dX5_readItem_38 rfl rfl ?_
          refine wj_if_lt C 50 dX5_readItem_39 (by decide) (fun h39 => ?_) (fun h39 => absurd (show (-1 : Int32) < 0 by decide) h39)
          refine wj_aload_n C 0 dX5_readItem_50 rfl rfl ?_
          refine wj_ldcSW C dX5_readItem_51 kt_X5_299 ?_
          refine wj_cif C (wj_rV C dX5_readItem_54 km_X5_takesWord kl_X5_278 is_X5 rfl rfl (c_X5_takesWord_y l V hg hm h120 ht hc (q := 12) (by decide) hw1) rfl rfl (Nat.le_of_ble_eq_true rfl) (by decide)) ?_
          refine wj_if_eq C 79 dX5_readItem_57 (by decide) (fun h57 => absurd h57 (by decide)) (fun h57 => ?_)
          refine wj_aload_n C 0 dX5_readItem_60 rfl rfl ?_
          refine wj_bipush (v := 10) C dX5_readItem_61 (by decide) ?_
          refine wj_aload_n C 0 dX5_readItem_63 rfl rfl ?_
          refine wj_iconst (v := 0) C dX5_readItem_64 (by decide) ?_
          refine wj_ldc C dX5_readItem_65 kc_X5_74 ?_
          refine wj_cif C (wj_rV C dX5_readItem_67 km_X5_number kl_X5_281 is_X5 rfl rfl (c_X5_number_r l V hg hm h120 ht hce (lo := 0) (hi := 65535) (by decide) (by decide) h1) rfl rfl (Nat.le_of_ble_eq_true rfl) (by decide)) ?_
          refine wj_iconst (v := 0) C dX5_readItem_70 (by decide) ?_
          refine wj_iconst (v := 0) C dX5_readItem_71 (by decide) ?_
          refine wj_iconst (v := 0) C dX5_readItem_72 (by decide) ?_
          refine wj_cvf C (wj_rV C dX5_readItem_73 km_X5_addItem kl_X5_292 is_X5 rfl rfl (c_X5_addItem l V hi) rfl rfl (Nat.le_of_ble_eq_true rfl) (by decide)) ?_
          refine wj_goto C 101 dX5_readItem_76 (by decide) ?_
          exact hR _ _ _ _ dX5_readItem_101 rfl wj_rfl
    · have h6 := tx_kd_6 hk
      rw [hk, if_neg (by rw [tx_w_one (q := k) (r := 12) (by omega) (by decide) (by omega) h6.2]; decide), if_neg (by rw [tx_w_one (q := k) (r := 13) (by omega) (by decide) (by omega) h6.2]; decide)] at hn
      dsimp only at hn
      split at hn
      · rename_i h8
        have hz := tx_sl_c hce h6.1 hn
        have hup : tx_up it n = n + 1 := by rw [tx_up, if_pos (by omega)]
        refine wj_iload_n C 1 dX5_readItem_38 rfl rfl ?_
        refine wj_if_lt C 50 dX5_readItem_39 (by decide) (fun h39 => ?_) (fun h39 => ?_)
        · exact absurd h39 (by rw [tx_kdI]; exact nI_pos (by omega))
        · refine wj_aload_n C 0 dX5_readItem_42 rfl rfl ?_
          refine wj_iload_n C 1 dX5_readItem_43 rfl rfl ?_
          refine wj_cvf C (wj_rV C dX5_readItem_44 km_X5_readSlip kl_X5_296 is_X5 rfl rfl (c_X5_readSlip_r l V hg hm h120 ht hc hi h8 hn) rfl rfl (Nat.le_of_ble_eq_true rfl) (by decide)) ?_
          refine wj_goto C 101 dX5_readItem_47 (by decide) ?_
          exact hR _ _ _ _ dX5_readItem_101 rfl (by rw [hup]; exact wj_rfl)
      · cases hn
  have lp : ∀ n2 k, k ≤ 7 → 7 - k < n2 → wj_J l V X 4 [some (.ref (V.2.2.1 48)), some (.int (tx_lk f m c k)), some (.int (nI k))] [] (tm f m σ c 0 i n h) := by
    intro n2
    induction n2 with
    | zero => intro k _ h; omega
    | succ n2 ih =>
      intro k hk hlt9
      refine wj_iload_n C 2 dX5_readItem_4 rfl rfl ?_
      refine wj_aload_n C 0 dX5_readItem_5 rfl rfl ?_
      refine wg_X5_41 C dX5_readItem_6 ?_
      refine wj_alenR C dX5_readItem_9 rr_kindNames rfl rfl ?_
      refine wj_icmp_ge C 38 dX5_readItem_10 (by decide) (fun h10 => ?_) (fun h10 => ?_)
      · have e9 := wj_ge (N := 7) (by decide) hk h10
        subst e9
        rw [tx_lk_7]
        exact t38 _ hn
      · have hlt := wj_nge (N := 7) (by decide) hk h10
        refine wj_aload_n C 0 dX5_readItem_13 rfl rfl ?_
        refine wj_aload_n C 0 dX5_readItem_14 rfl rfl ?_
        refine wg_X5_41 C dX5_readItem_15 ?_
        refine wj_iload_n C 2 dX5_readItem_18 rfl rfl ?_
        refine wj_aaldK C dX5_readItem_19 hlt ?_
        refine wj_cif C (wj_rV C dX5_readItem_20 km_X5_isWord kl_X5_269 is_X5 rfl rfl (c_X5_isWord l V hg hm h120 ht hc (q := k) (by omega)) rfl rfl (Nat.le_of_ble_eq_true rfl) (by decide)) ?_
        refine wj_if_eq C 30 dX5_readItem_23 (by decide) (fun h23 => ?_) (fun h23 => ?_)
        · have e8 : tx_lk f m c (k + 1) = tx_lk f m c k := by rw [tx_lk, if_neg (by rw [wj_b0 h23]; decide)]
          refine wj_iload_n C 1 dX5_readItem_30 rfl rfl ?_
          refine wj_istore_n C 1 dX5_readItem_31 rfl (by decide) rfl ?_
          dsimp only [List.set]
          refine wj_iinc C (v := nI (k + 1)) dX5_readItem_32 rfl (wj_i1 k) (by decide) rfl ?_
          dsimp only [List.set]
          refine wj_goto C 4 dX5_readItem_35 (by decide) ?_
          exact (by have hh := ih (k + 1) (by omega) (by omega); rw [e8] at hh; exact hh)
        · have e8 : tx_lk f m c (k + 1) = nI k := by rw [tx_lk, if_pos (wj_b1 h23)]
          refine wj_iload_n C 2 dX5_readItem_26 rfl rfl ?_
          refine wj_goto C 31 dX5_readItem_27 (by decide) ?_
          refine wj_istore_n C 1 dX5_readItem_31 rfl (by decide) rfl ?_
          dsimp only [List.set]
          refine wj_iinc C (v := nI (k + 1)) dX5_readItem_32 rfl (wj_i1 k) (by decide) rfl ?_
          dsimp only [List.set]
          refine wj_goto C 4 dX5_readItem_35 (by decide) ?_
          exact (by have hh := ih (k + 1) (by omega) (by omega); rw [e8] at hh; exact hh)
  refine wj_iconst (v := -1) C dX5_readItem_0 (by decide) ?_
  refine wj_istore_n C 1 dX5_readItem_1 rfl (by decide) rfl ?_
  dsimp only [List.set]
  refine wj_iconst (v := 0) C dX5_readItem_2 (by decide) ?_
  refine wj_istore_n C 2 dX5_readItem_3 rfl (by decide) rfl ?_
  dsimp only [List.set]
  exact lp 8 0 (Nat.zero_le _) (by omega)
set_option maxRecDepth 100000 in
set_option maxHeartbeats 4000000 in
theorem c_X5_readItem_l (l : Launch) (V : wj_V) {σ : wj_St} {f g : Nat → Int32} {m c : Nat} (hg : σ 53 = g) (hm : σ 48 7 = nI m) (h120 : m ≤ 120) (ht : tx_tg g f m) {i n : Nat} {h : Nat → Int32} (hc : c ≤ m) (hi : i < 120) {x : Nat} (h100 : n < 1000) (hn : tx_it f m n c = .inl x) : wj_M l V yX5_readItem cX5_readItem 3 none 7 156 [.ref (V.2.2.1 48)] (tm f m σ c 0 i n h) (wj_QV V (fun u => ∃ i2 n2 h2, u = tm f m σ x 1 i2 n2 h2)) := by
  refine wj_ofV (own := RX5) [some (.ref (V.2.2.1 48)), none, none] (by decide) rfl rfl (Nat.le_of_ble_eq_true rfl) (fun X C hR => ?_)
  have hce := tx_e_le (f := f) hc
  have t38 : ∀ j2, tx_it f m n c = .inl x → wj_J l V X 38 [some (.ref (V.2.2.1 48)), some (.int (tx_kdI (tx_kd f m c))), j2] [] (tm f m σ c 0 i n h) := by
    intro j2 hn
    rw [tx_it] at hn
    rcases hk : tx_kd f m c with _ | k
    · rw [hk] at hn
      rcases hw1 : tx_w f m 12 c with _ | _
      · rw [if_neg (by rw [hw1]; decide)] at hn
        rcases hw2 : tx_w f m 13 c with _ | _
        · rw [if_neg (by rw [hw2]; decide)] at hn
          cases hn
          refine wj_iload_n C 1 dX5_readItem_38 rfl rfl ?_
          refine wj_if_lt C 50 dX5_readItem_39 (by decide) (fun h39 => ?_) (fun h39 => absurd (show (-1 : Int32) < 0 by decide) h39)
          refine wj_aload_n C 0 dX5_readItem_50 rfl rfl ?_
          refine wj_ldcSW C dX5_readItem_51 kt_X5_299 ?_
          refine wj_cif C (wj_rV C dX5_readItem_54 km_X5_takesWord kl_X5_278 is_X5 rfl rfl (c_X5_takesWord_n l V hg hm h120 ht hc (q := 12) (by decide) (Or.inl hw1)) rfl rfl (Nat.le_of_ble_eq_true rfl) (by decide)) ?_
          refine wj_if_eq C 79 dX5_readItem_57 (by decide) (fun h57 => ?_) (fun h57 => absurd rfl h57)
          refine wj_aload_n C 0 dX5_readItem_79 rfl rfl ?_
          refine wj_ldcSW C dX5_readItem_80 kt_X5_301 ?_
          refine wj_cif C (wj_rV C dX5_readItem_83 km_X5_takesWord kl_X5_278 is_X5 rfl rfl (c_X5_takesWord_n l V hg hm h120 ht hc (q := 13) (by decide) (Or.inl hw2)) rfl rfl (Nat.le_of_ble_eq_true rfl) (by decide)) ?_
          refine wj_if_eq C 96 dX5_readItem_86 (by decide) (fun h86 => ?_) (fun h86 => absurd rfl h86)
          refine wj_aload_n C 0 dX5_readItem_96 rfl rfl ?_
          refine wj_iconst (v := 0) C dX5_readItem_97 (by decide) ?_
          refine wj_cvf C (wj_rV C dX5_readItem_98 km_X5_must kl_X5_262 is_X5 rfl rfl (c_X5_must_no l V hg hm h120 ht hc (Or.inl rfl)) rfl rfl (Nat.le_of_ble_eq_true rfl) (by decide)) ?_
          exact hR _ _ _ _ dX5_readItem_101 ⟨_, _, _, rfl⟩ wj_rfl
        · rw [if_pos hw2] at hn
          refine wj_iload_n C 1 dX5_readItem_38 rfl rfl ?_
          refine wj_if_lt C 50 dX5_readItem_39 (by decide) (fun h39 => ?_) (fun h39 => absurd (show (-1 : Int32) < 0 by decide) h39)
          refine wj_aload_n C 0 dX5_readItem_50 rfl rfl ?_
          refine wj_ldcSW C dX5_readItem_51 kt_X5_299 ?_
          refine wj_cif C (wj_rV C dX5_readItem_54 km_X5_takesWord kl_X5_278 is_X5 rfl rfl (c_X5_takesWord_n l V hg hm h120 ht hc (q := 12) (by decide) (Or.inl hw1)) rfl rfl (Nat.le_of_ble_eq_true rfl) (by decide)) ?_
          refine wj_if_eq C 79 dX5_readItem_57 (by decide) (fun h57 => ?_) (fun h57 => absurd rfl h57)
          refine wj_aload_n C 0 dX5_readItem_79 rfl rfl ?_
          refine wj_ldcSW C dX5_readItem_80 kt_X5_301 ?_
          refine wj_cif C (wj_rV C dX5_readItem_83 km_X5_takesWord kl_X5_278 is_X5 rfl rfl (c_X5_takesWord_y l V hg hm h120 ht hc (q := 13) (by decide) hw2) rfl rfl (Nat.le_of_ble_eq_true rfl) (by decide)) ?_
          refine wj_if_eq C 96 dX5_readItem_86 (by decide) (fun h86 => absurd h86 (by decide)) (fun h86 => ?_)
          refine wj_aload_n C 0 dX5_readItem_89 rfl rfl ?_
          refine wj_cv C (wj_rV C dX5_readItem_90 km_X5_readLean kl_X5_303 is_X5 rfl rfl (c_X5_readLean_l l V hg hm h120 ht hce hi hn) rfl rfl (Nat.le_of_ble_eq_true rfl) (by decide)) (fun u9 hp9 => ?_)
          obtain ⟨i9, n9, g9, rfl⟩ := hp9
          refine wj_goto C 101 dX5_readItem_93 (by decide) ?_
          exact hR _ _ _ _ dX5_readItem_101 ⟨_, _, _, rfl⟩ wj_rfl
      · rw [if_pos hw1, tx_hu] at hn
        rcases h1 : tx_num f m 0 65535 (tx_e f m c) with x1 | ⟨v, d1⟩
        · rw [h1] at hn
          cases hn
          have hx := tx_num_l h1
          subst hx
          refine wj_iload_n C 1 dX5_readItem_38 rfl rfl ?_
          refine wj_if_lt C 50 dX5_readItem_39 (by decide) (fun h39 => ?_) (fun h39 => absurd (show (-1 : Int32) < 0 by decide) h39)
          refine wj_aload_n C 0 dX5_readItem_50 rfl rfl ?_
          refine wj_ldcSW C dX5_readItem_51 kt_X5_299 ?_
          refine wj_cif C (wj_rV C dX5_readItem_54 km_X5_takesWord kl_X5_278 is_X5 rfl rfl (c_X5_takesWord_y l V hg hm h120 ht hc (q := 12) (by decide) hw1) rfl rfl (Nat.le_of_ble_eq_true rfl) (by decide)) ?_
          refine wj_if_eq C 79 dX5_readItem_57 (by decide) (fun h57 => absurd h57 (by decide)) (fun h57 => ?_)
          refine wj_aload_n C 0 dX5_readItem_60 rfl rfl ?_
          refine wj_bipush (v := 10) C dX5_readItem_61 (by decide) ?_
          refine wj_aload_n C 0 dX5_readItem_63 rfl rfl ?_
          refine wj_iconst (v := 0) C dX5_readItem_64 (by decide) ?_
          refine wj_ldc C dX5_readItem_65 kc_X5_74 ?_
          refine wj_cif C (wj_rV C dX5_readItem_67 km_X5_number kl_X5_281 is_X5 rfl rfl (c_X5_number_l l V hg hm h120 ht hce (lo := 0) (hi := 65535) (by decide) (by decide) (Or.inl h1)) rfl rfl (Nat.le_of_ble_eq_true rfl) (by decide)) ?_
          refine wj_iconst (v := 0) C dX5_readItem_70 (by decide) ?_
          refine wj_iconst (v := 0) C dX5_readItem_71 (by decide) ?_
          refine wj_iconst (v := 0) C dX5_readItem_72 (by decide) ?_
          refine wj_cvf C (wj_rV C dX5_readItem_73 km_X5_addItem kl_X5_292 is_X5 rfl rfl (c_X5_addItem l V hi) rfl rfl (Nat.le_of_ble_eq_true rfl) (by decide)) ?_
          refine wj_goto C 101 dX5_readItem_76 (by decide) ?_
          exact hR _ _ _ _ dX5_readItem_101 ⟨_, _, _, rfl⟩ wj_rfl
        · rw [h1] at hn
          cases hn
    · have h6 := tx_kd_6 hk
      rw [hk, if_neg (by rw [tx_w_one (q := k) (r := 12) (by omega) (by decide) (by omega) h6.2]; decide), if_neg (by rw [tx_w_one (q := k) (r := 13) (by omega) (by decide) (by omega) h6.2]; decide)] at hn
      dsimp only at hn
      have hn1 : n < 8 → tx_sl f m k (tx_e f m c) = .inl x := fun z => by rw [if_pos z] at hn; exact hn
      have hn2 : ¬ n < 8 → x = c := fun z => by rw [if_neg z] at hn; cases hn; rfl
      refine wj_iload_n C 1 dX5_readItem_38 rfl rfl ?_
      refine wj_if_lt C 50 dX5_readItem_39 (by decide) (fun h39 => ?_) (fun h39 => ?_)
      · exact absurd h39 (by rw [tx_kdI]; exact nI_pos (by omega))
      · refine wj_aload_n C 0 dX5_readItem_42 rfl rfl ?_
        refine wj_iload_n C 1 dX5_readItem_43 rfl rfl ?_
        refine wj_cv C (wj_rV C dX5_readItem_44 km_X5_readSlip kl_X5_296 is_X5 rfl rfl (c_X5_readSlip_l l V hg hm h120 ht hc hi h100 hn1 hn2) rfl rfl (Nat.le_of_ble_eq_true rfl) (by decide)) (fun u9 hp9 => ?_)
        obtain ⟨i9, n9, g9, rfl⟩ := hp9
        refine wj_goto C 101 dX5_readItem_47 (by decide) ?_
        exact hR _ _ _ _ dX5_readItem_101 ⟨_, _, _, rfl⟩ wj_rfl
  have lp : ∀ n2 k, k ≤ 7 → 7 - k < n2 → wj_J l V X 4 [some (.ref (V.2.2.1 48)), some (.int (tx_lk f m c k)), some (.int (nI k))] [] (tm f m σ c 0 i n h) := by
    intro n2
    induction n2 with
    | zero => intro k _ h; omega
    | succ n2 ih =>
      intro k hk hlt9
      refine wj_iload_n C 2 dX5_readItem_4 rfl rfl ?_
      refine wj_aload_n C 0 dX5_readItem_5 rfl rfl ?_
      refine wg_X5_41 C dX5_readItem_6 ?_
      refine wj_alenR C dX5_readItem_9 rr_kindNames rfl rfl ?_
      refine wj_icmp_ge C 38 dX5_readItem_10 (by decide) (fun h10 => ?_) (fun h10 => ?_)
      · have e9 := wj_ge (N := 7) (by decide) hk h10
        subst e9
        rw [tx_lk_7]
        exact t38 _ hn
      · have hlt := wj_nge (N := 7) (by decide) hk h10
        refine wj_aload_n C 0 dX5_readItem_13 rfl rfl ?_
        refine wj_aload_n C 0 dX5_readItem_14 rfl rfl ?_
        refine wg_X5_41 C dX5_readItem_15 ?_
        refine wj_iload_n C 2 dX5_readItem_18 rfl rfl ?_
        refine wj_aaldK C dX5_readItem_19 hlt ?_
        refine wj_cif C (wj_rV C dX5_readItem_20 km_X5_isWord kl_X5_269 is_X5 rfl rfl (c_X5_isWord l V hg hm h120 ht hc (q := k) (by omega)) rfl rfl (Nat.le_of_ble_eq_true rfl) (by decide)) ?_
        refine wj_if_eq C 30 dX5_readItem_23 (by decide) (fun h23 => ?_) (fun h23 => ?_)
        · have e8 : tx_lk f m c (k + 1) = tx_lk f m c k := by rw [tx_lk, if_neg (by rw [wj_b0 h23]; decide)]
          refine wj_iload_n C 1 dX5_readItem_30 rfl rfl ?_
          refine wj_istore_n C 1 dX5_readItem_31 rfl (by decide) rfl ?_
          dsimp only [List.set]
          refine wj_iinc C (v := nI (k + 1)) dX5_readItem_32 rfl (wj_i1 k) (by decide) rfl ?_
          dsimp only [List.set]
          refine wj_goto C 4 dX5_readItem_35 (by decide) ?_
          exact (by have hh := ih (k + 1) (by omega) (by omega); rw [e8] at hh; exact hh)
        · have e8 : tx_lk f m c (k + 1) = nI k := by rw [tx_lk, if_pos (wj_b1 h23)]
          refine wj_iload_n C 2 dX5_readItem_26 rfl rfl ?_
          refine wj_goto C 31 dX5_readItem_27 (by decide) ?_
          refine wj_istore_n C 1 dX5_readItem_31 rfl (by decide) rfl ?_
          dsimp only [List.set]
          refine wj_iinc C (v := nI (k + 1)) dX5_readItem_32 rfl (wj_i1 k) (by decide) rfl ?_
          dsimp only [List.set]
          refine wj_goto C 4 dX5_readItem_35 (by decide) ?_
          exact (by have hh := ih (k + 1) (by omega) (by omega); rw [e8] at hh; exact hh)
  refine wj_iconst (v := -1) C dX5_readItem_0 (by decide) ?_
  refine wj_istore_n C 1 dX5_readItem_1 rfl (by decide) rfl ?_
  dsimp only [List.set]
  refine wj_iconst (v := 0) C dX5_readItem_2 (by decide) ?_
  refine wj_istore_n C 2 dX5_readItem_3 rfl (by decide) rfl ?_
  dsimp only [List.set]
  exact lp 8 0 (Nat.zero_le _) (by omega)
set_option maxRecDepth 100000 in
set_option maxHeartbeats 4000000 in
theorem c_X5_isToldSo (l : Launch) (V : wj_V) {σ : wj_St} {h : Nat → Int32} {j N : Nat} {B : sp_L} {it : tx_I} (hh : σ 54 = h) (hj : j < 120) (he : h (5 * j) = nI it.1 ∧ h (5 * j + 1) = nI it.2.1 ∧ h (5 * j + 2) = nI it.2.2.1 ∧ h (5 * j + 3) = nI it.2.2.2.1 ∧ h (5 * j + 4) = nI it.2.2.2.2) (ho : tx_oki it) (hN : B.2.1 = nI N) (h8 : it.1 < 10 → N < 8) (hN8 : N ≤ 8) : wj_M l V yX5_isToldSo cX5_isToldSo 5 none 2 45 [.ref (V.2.2.1 48), .int (nI (5 * j))] (sp_mq σ B) (wj_Vd V (sp_mq σ (tx_ap B it))) := by
  refine wj_ofV (own := RX5) [some (.ref (V.2.2.1 48)), some (.int (nI (5 * j))), none, none, none] (by decide) rfl rfl (Nat.le_of_ble_eq_true rfl) (fun X C hR => ?_)
  obtain ⟨g0, g1, g2, g3, g4⟩ := he
  rcases ho with ho | ho | ho
  · have hap : tx_ap B it = sp_us (sp_us (sp_add B N (nI it.1) (nI it.2.1) (nI it.2.2.1)) N 2 (nI it.2.2.2.1)) N 4 (nI it.2.2.2.2) := by
      rw [tx_ap, if_neg (by omega), if_neg (by omega), tx_ns, sp_N_of hN (by omega)]
    have h8 := h8 (by omega)
    refine wj_aload_n C 0 dX5_isToldSo_0 rfl rfl ?_
    refine wg_X5_45 C dX5_isToldSo_1 ?_
    refine wj_iload_n C 1 dX5_isToldSo_4 rfl rfl ?_
    refine wj_iconst (v := 1) C dX5_isToldSo_5 (by decide) ?_
    refine wj_iadd C dX5_isToldSo_6 ?_
    rw [show (1 : Int32) = nI 1 from rfl, nI_add]
    refine wj_ialdN C dX5_isToldSo_7 ar_items ⟨by omega, by decide⟩ ?_
    rw [sp_mq_o (by decide), hh, g1]
    refine wj_istore_n C 2 dX5_isToldSo_8 rfl (by decide) rfl ?_
    dsimp only [List.set]
    refine wj_aload_n C 0 dX5_isToldSo_9 rfl rfl ?_
    refine wg_X5_45 C dX5_isToldSo_10 ?_
    refine wj_iload_n C 1 dX5_isToldSo_13 rfl rfl ?_
    refine wj_iconst (v := 2) C dX5_isToldSo_14 (by decide) ?_
    refine wj_iadd C dX5_isToldSo_15 ?_
    rw [show (2 : Int32) = nI 2 from rfl, nI_add]
    refine wj_ialdN C dX5_isToldSo_16 ar_items ⟨by omega, by decide⟩ ?_
    rw [sp_mq_o (by decide), hh, g2]
    refine wj_istore_n C 3 dX5_isToldSo_17 rfl (by decide) rfl ?_
    dsimp only [List.set]
    refine wj_aload_n C 0 dX5_isToldSo_18 rfl rfl ?_
    refine wg_X5_45 C dX5_isToldSo_19 ?_
    refine wj_iload_n C 1 dX5_isToldSo_22 rfl rfl ?_
    refine wj_ialdN C dX5_isToldSo_23 ar_items ⟨by omega, by decide⟩ ?_
    rw [sp_mq_o (by decide), hh, g0]
    refine wj_lkc C (10) (28) 52 dX5_isToldSo_24 (by decide) (by decide) (by decide) (fun h24_10 => ?_) (fun h24_10 => ?_)
    · exact absurd ((nI_eq (a := it.1) (b := 10) (by omega) (by decide)).mp h24_10) (by omega)
    refine wj_lkc C (11) (38) 62 dX5_isToldSo_24 (by decide) (by decide) (by decide) (fun h24_11 => ?_) (fun h24_11 => ?_)
    · exact absurd ((nI_eq (a := it.1) (b := 11) (by omega) (by decide)).mp h24_11) (by omega)
    refine wj_look C (50) 74 dX5_isToldSo_24 (by decide) (by rw [lv_osw h24_10 (by decide)]; rw [lv_osw h24_11 (by decide)]; rfl) (by decide) ?_
    refine wj_aload_n C 0 dX5_isToldSo_74 rfl rfl ?_
    refine wj_aload_n C 0 dX5_isToldSo_75 rfl rfl ?_
    refine wg_X5_45 C dX5_isToldSo_76 ?_
    refine wj_iload_n C 1 dX5_isToldSo_79 rfl rfl ?_
    refine wj_ialdN C dX5_isToldSo_80 ar_items ⟨by omega, by decide⟩ ?_
    rw [sp_mq_o (by decide), hh, g0]
    refine wj_iload_n C 2 dX5_isToldSo_81 rfl rfl ?_
    refine wj_iload_n C 3 dX5_isToldSo_82 rfl rfl ?_
    refine wj_cif C (wj_rV C dX5_isToldSo_83 km_X5_comes kl_X5_136 is_X5 rfl rfl (c_X5_comes l V hN h8) rfl rfl (Nat.le_of_ble_eq_true rfl) (by decide)) ?_
    refine wj_istore C dX5_isToldSo_86 (by decide) rfl ?_
    dsimp only [List.set]
    refine wj_aload_n C 0 dX5_isToldSo_88 rfl rfl ?_
    refine wg_X5_9 C dX5_isToldSo_89 ?_
    refine wj_iload C dX5_isToldSo_92 rfl ?_
    refine wj_iconst (v := 2) C dX5_isToldSo_94 (by decide) ?_
    refine wj_cif C (wj_rS C dX5_isToldSo_95 km_X5_slipAt kl_X5_79 (c_X5_slipAt (f := 2) l V) rfl rfl (Nat.le_of_ble_eq_true rfl) (by decide)) ?_
    refine wj_aload_n C 0 dX5_isToldSo_98 rfl rfl ?_
    refine wg_X5_45 C dX5_isToldSo_99 ?_
    refine wj_iload_n C 1 dX5_isToldSo_102 rfl rfl ?_
    refine wj_iconst (v := 3) C dX5_isToldSo_103 (by decide) ?_
    refine wj_iadd C dX5_isToldSo_104 ?_
    rw [show (3 : Int32) = nI 3 from rfl, nI_add]
    refine wj_ialdN C dX5_isToldSo_105 ar_items ⟨by omega, by decide⟩ ?_
    rw [sp_mq_o (by decide), hh, g3]
    refine wj_iastN C dX5_isToldSo_106 ar_now ⟨by omega, by decide⟩ ?_
    rw [sp_mq_us (by omega) (by decide)]
    refine wj_aload_n C 0 dX5_isToldSo_107 rfl rfl ?_
    refine wg_X5_9 C dX5_isToldSo_108 ?_
    refine wj_iload C dX5_isToldSo_111 rfl ?_
    refine wj_iconst (v := 4) C dX5_isToldSo_113 (by decide) ?_
    refine wj_cif C (wj_rS C dX5_isToldSo_114 km_X5_slipAt kl_X5_79 (c_X5_slipAt (f := 4) l V) rfl rfl (Nat.le_of_ble_eq_true rfl) (by decide)) ?_
    refine wj_aload_n C 0 dX5_isToldSo_117 rfl rfl ?_
    refine wg_X5_45 C dX5_isToldSo_118 ?_
    refine wj_iload_n C 1 dX5_isToldSo_121 rfl rfl ?_
    refine wj_iconst (v := 4) C dX5_isToldSo_122 (by decide) ?_
    refine wj_iadd C dX5_isToldSo_123 ?_
    rw [show (4 : Int32) = nI 4 from rfl, nI_add]
    refine wj_ialdN C dX5_isToldSo_124 ar_items ⟨by omega, by decide⟩ ?_
    rw [sp_mq_o (by decide), hh, g4]
    refine wj_iastN C dX5_isToldSo_125 ar_now ⟨by omega, by decide⟩ ?_
    rw [sp_mq_us (by omega) (by decide)]
    exact hR _ _ _ _ dX5_isToldSo_126 rfl (by rw [hap]; exact wj_rfl)
  · have hap : tx_ap B it = sp_wH B (nI it.2.1) := by rw [tx_ap, if_pos ho.1]
    refine wj_aload_n C 0 dX5_isToldSo_0 rfl rfl ?_
    refine wg_X5_45 C dX5_isToldSo_1 ?_
    refine wj_iload_n C 1 dX5_isToldSo_4 rfl rfl ?_
    refine wj_iconst (v := 1) C dX5_isToldSo_5 (by decide) ?_
    refine wj_iadd C dX5_isToldSo_6 ?_
    rw [show (1 : Int32) = nI 1 from rfl, nI_add]
    refine wj_ialdN C dX5_isToldSo_7 ar_items ⟨by omega, by decide⟩ ?_
    rw [sp_mq_o (by decide), hh, g1]
    refine wj_istore_n C 2 dX5_isToldSo_8 rfl (by decide) rfl ?_
    dsimp only [List.set]
    refine wj_aload_n C 0 dX5_isToldSo_9 rfl rfl ?_
    refine wg_X5_45 C dX5_isToldSo_10 ?_
    refine wj_iload_n C 1 dX5_isToldSo_13 rfl rfl ?_
    refine wj_iconst (v := 2) C dX5_isToldSo_14 (by decide) ?_
    refine wj_iadd C dX5_isToldSo_15 ?_
    rw [show (2 : Int32) = nI 2 from rfl, nI_add]
    refine wj_ialdN C dX5_isToldSo_16 ar_items ⟨by omega, by decide⟩ ?_
    rw [sp_mq_o (by decide), hh, g2]
    refine wj_istore_n C 3 dX5_isToldSo_17 rfl (by decide) rfl ?_
    dsimp only [List.set]
    refine wj_aload_n C 0 dX5_isToldSo_18 rfl rfl ?_
    refine wg_X5_45 C dX5_isToldSo_19 ?_
    refine wj_iload_n C 1 dX5_isToldSo_22 rfl rfl ?_
    refine wj_ialdN C dX5_isToldSo_23 ar_items ⟨by omega, by decide⟩ ?_
    rw [sp_mq_o (by decide), hh, g0]
    refine wj_lkc C (10) (28) 52 dX5_isToldSo_24 (by decide) (by decide) (by decide) (fun h24_10 => ?_) (fun h24_10 => ?_)
    · refine wj_aload_n C 0 dX5_isToldSo_52 rfl rfl ?_
      refine wg_X5_9 C dX5_isToldSo_53 ?_
      refine wj_iconst (v := 3) C dX5_isToldSo_56 (by decide) ?_
      refine wj_iload_n C 2 dX5_isToldSo_57 rfl rfl ?_
      refine wj_iastN C dX5_isToldSo_58 ar_now ⟨by decide, by decide⟩ ?_
      rw [sp_mq_u3]
      refine wj_goto C 126 dX5_isToldSo_59 (by decide) ?_
      exact hR _ _ _ _ dX5_isToldSo_126 rfl (by rw [hap]; exact wj_rfl)
    refine wj_lkc C (11) (38) 62 dX5_isToldSo_24 (by decide) (by decide) (by decide) (fun h24_11 => ?_) (fun h24_11 => ?_)
    · exact absurd ((nI_eq (a := it.1) (b := 11) (by omega) (by decide)).mp h24_11) (by omega)
    exact absurd (show nI it.1 = 10 by rw [ho.1]; rfl) h24_10
  · have hap : tx_ap B it = sp_wL B (upd B.2.2.2.2.1 it.2.1 (nI it.2.2.1)) := by rw [tx_ap, if_neg (by omega), if_pos ho.1]
    refine wj_aload_n C 0 dX5_isToldSo_0 rfl rfl ?_
    refine wg_X5_45 C dX5_isToldSo_1 ?_
    refine wj_iload_n C 1 dX5_isToldSo_4 rfl rfl ?_
    refine wj_iconst (v := 1) C dX5_isToldSo_5 (by decide) ?_
    refine wj_iadd C dX5_isToldSo_6 ?_
    rw [show (1 : Int32) = nI 1 from rfl, nI_add]
    refine wj_ialdN C dX5_isToldSo_7 ar_items ⟨by omega, by decide⟩ ?_
    rw [sp_mq_o (by decide), hh, g1]
    refine wj_istore_n C 2 dX5_isToldSo_8 rfl (by decide) rfl ?_
    dsimp only [List.set]
    refine wj_aload_n C 0 dX5_isToldSo_9 rfl rfl ?_
    refine wg_X5_45 C dX5_isToldSo_10 ?_
    refine wj_iload_n C 1 dX5_isToldSo_13 rfl rfl ?_
    refine wj_iconst (v := 2) C dX5_isToldSo_14 (by decide) ?_
    refine wj_iadd C dX5_isToldSo_15 ?_
    rw [show (2 : Int32) = nI 2 from rfl, nI_add]
    refine wj_ialdN C dX5_isToldSo_16 ar_items ⟨by omega, by decide⟩ ?_
    rw [sp_mq_o (by decide), hh, g2]
    refine wj_istore_n C 3 dX5_isToldSo_17 rfl (by decide) rfl ?_
    dsimp only [List.set]
    refine wj_aload_n C 0 dX5_isToldSo_18 rfl rfl ?_
    refine wg_X5_45 C dX5_isToldSo_19 ?_
    refine wj_iload_n C 1 dX5_isToldSo_22 rfl rfl ?_
    refine wj_ialdN C dX5_isToldSo_23 ar_items ⟨by omega, by decide⟩ ?_
    rw [sp_mq_o (by decide), hh, g0]
    refine wj_lkc C (10) (28) 52 dX5_isToldSo_24 (by decide) (by decide) (by decide) (fun h24_10 => ?_) (fun h24_10 => ?_)
    · exact absurd ((nI_eq (a := it.1) (b := 10) (by omega) (by decide)).mp h24_10) (by omega)
    refine wj_lkc C (11) (38) 62 dX5_isToldSo_24 (by decide) (by decide) (by decide) (fun h24_11 => ?_) (fun h24_11 => ?_)
    · refine wj_aload_n C 0 dX5_isToldSo_62 rfl rfl ?_
      refine wg_X5_9 C dX5_isToldSo_63 ?_
      refine wj_iconst (v := 5) C dX5_isToldSo_66 (by decide) ?_
      refine wj_iload_n C 2 dX5_isToldSo_67 rfl rfl ?_
      refine wj_iadd C dX5_isToldSo_68 ?_
      rw [show (5 : Int32) = nI 5 from rfl, nI_add]
      refine wj_iload_n C 3 dX5_isToldSo_69 rfl rfl ?_
      refine wj_iastN C dX5_isToldSo_70 ar_now ⟨by omega, by decide⟩ ?_
      rw [sp_mq_ul (by omega)]
      refine wj_goto C 126 dX5_isToldSo_71 (by decide) ?_
      exact hR _ _ _ _ dX5_isToldSo_126 rfl (by rw [hap]; exact wj_rfl)
    exact absurd (show nI it.1 = 11 by rw [ho.1]; rfl) h24_11


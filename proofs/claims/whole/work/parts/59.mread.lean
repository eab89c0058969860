set_option maxRecDepth 100000 in
set_option maxHeartbeats 4000000 in
theorem c_X5_must_go (l : Launch) (V : wj_V) {σ : wj_St} {f g : Nat → Int32} {m c : Nat} (hg : σ 53 = g) (hm : σ 48 7 = nI m) (h120 : m ≤ 120) (ht : tx_tg g f m) {i n : Nat} {h : Nat → Int32} (hc : c ≤ m) : wj_M l V yX5_must cX5_must 2 none 2 43 [.ref (V.2.2.1 48), .int 1] (tm f m σ c 0 i n h) (wj_Vd V (tm f m σ (tx_e f m c) 0 i n h)) := by
  refine wj_ofV (own := RX5) [some (.ref (V.2.2.1 48)), some (.int 1)] (by decide) rfl rfl (Nat.le_of_ble_eq_true rfl) (fun X C hR => ?_)
  refine wj_aload_n C 0 dX5_must_0 rfl rfl ?_
  refine wj_aload_n C 0 dX5_must_1 rfl rfl ?_
  refine wg_X5_256 C dX5_must_2 ?_
  rw [tm_12]
  refine wj_if_ne C 12 dX5_must_5 (by decide) (fun h5 => ?_) (fun h5 => ?_)
  · exact absurd rfl h5
  · refine wj_iload_n C 1 dX5_must_8 rfl rfl ?_
    refine wj_if_ne C 16 dX5_must_9 (by decide) (fun h9 => ?_) (fun h9 => ?_)
    · refine wj_iconst (v := 0) C dX5_must_16 (by decide) ?_
      refine wp_X5_256 C dX5_must_17 (by first | exact Or.inl rfl | exact Or.inr rfl | assumption) ?_
      rw [tm_u12]
      refine wj_aload_n C 0 dX5_must_20 rfl rfl ?_
      refine wg_X5_256 C dX5_must_21 ?_
      rw [tm_12]
      refine wj_if_ne C 31 dX5_must_24 (by decide) (fun h24 => ?_) (fun h24 => ?_)
      · exact absurd rfl h24
      · refine wj_aload_n C 0 dX5_must_27 rfl rfl ?_
        refine wj_cvf C (wj_rV C dX5_must_28 km_X5_token kl_X5_259 is_X5 rfl rfl (c_X5_token_C l V hg hm h120 ht hc) rfl rfl (Nat.le_of_ble_eq_true rfl) (by decide)) ?_
        exact hR _ _ _ _ dX5_must_31 rfl wj_rfl
    · exact absurd h9 (by decide)
set_option maxRecDepth 100000 in
set_option maxHeartbeats 4000000 in
theorem c_X5_must_no (l : Launch) (V : wj_V) {σ : wj_St} {f g : Nat → Int32} {m c : Nat} (hg : σ 53 = g) (hm : σ 48 7 = nI m) (h120 : m ≤ 120) (ht : tx_tg g f m) {w : Int32} {i n : Nat} {h : Nat → Int32} (hc : c ≤ m) {b : Int32} (hb : b = 0 ∨ w = 1) : wj_M l V yX5_must cX5_must 2 none 2 43 [.ref (V.2.2.1 48), .int b] (tm f m σ c w i n h) (wj_Vd V (tm f m σ c 1 i n h)) := by
  refine wj_ofV (own := RX5) [some (.ref (V.2.2.1 48)), some (.int b)] (by decide) rfl rfl (Nat.le_of_ble_eq_true rfl) (fun X C hR => ?_)
  refine wj_aload_n C 0 dX5_must_0 rfl rfl ?_
  refine wj_aload_n C 0 dX5_must_1 rfl rfl ?_
  refine wg_X5_256 C dX5_must_2 ?_
  rw [tm_12]
  refine wj_if_ne C 12 dX5_must_5 (by decide) (fun h5 => ?_) (fun h5 => ?_)
  · refine wj_iconst (v := 1) C dX5_must_12 (by decide) ?_
    refine wj_goto C 17 dX5_must_13 (by decide) ?_
    refine wp_X5_256 C dX5_must_17 (by first | exact Or.inl rfl | exact Or.inr rfl | assumption) ?_
    rw [tm_u12]
    refine wj_aload_n C 0 dX5_must_20 rfl rfl ?_
    refine wg_X5_256 C dX5_must_21 ?_
    rw [tm_12]
    refine wj_if_ne C 31 dX5_must_24 (by decide) (fun h24 => ?_) (fun h24 => ?_)
    · exact hR _ _ _ _ dX5_must_31 rfl wj_rfl
    · exact absurd h24 (by decide)
  · refine wj_iload_n C 1 dX5_must_8 rfl rfl ?_
    refine wj_if_ne C 16 dX5_must_9 (by decide) (fun h9 => ?_) (fun h9 => ?_)
    · exact False.elim (hb.elim (fun z => h9 z) (fun z => absurd (z.symm.trans h5) (by decide)))
    · refine wj_iconst (v := 1) C dX5_must_12 (by decide) ?_
      refine wj_goto C 17 dX5_must_13 (by decide) ?_
      refine wp_X5_256 C dX5_must_17 (by first | exact Or.inl rfl | exact Or.inr rfl | assumption) ?_
      rw [tm_u12]
      refine wj_aload_n C 0 dX5_must_20 rfl rfl ?_
      refine wg_X5_256 C dX5_must_21 ?_
      rw [tm_12]
      refine wj_if_ne C 31 dX5_must_24 (by decide) (fun h24 => ?_) (fun h24 => ?_)
      · exact hR _ _ _ _ dX5_must_31 rfl wj_rfl
      · exact absurd h24 (by decide)
set_option maxRecDepth 100000 in
set_option maxHeartbeats 4000000 in
theorem c_X5_number_r (l : Launch) (V : wj_V) {σ : wj_St} {f g : Nat → Int32} {m c : Nat} (hg : σ 53 = g) (hm : σ 48 7 = nI m) (h120 : m ≤ 120) (ht : tx_tg g f m) {i n : Nat} {h : Nat → Int32} (hc : c ≤ m) {lo hi v d : Nat} (h9 : hi ≤ 65535) (h8 : lo ≤ hi) (hn : tx_num f m lo hi c = .inr (v, d)) : wj_M l V yX5_number cX5_number 4 (some .int) 3 64 [.ref (V.2.2.1 48), .int (nI lo), .int (nI hi)] (tm f m σ c 0 i n h) (wj_I V (nI v) (tm f m σ d 0 i n h)) := by
  refine wj_ofI (own := RX5) [some (.ref (V.2.2.1 48)), some (.int (nI lo)), some (.int (nI hi)), none] (by decide) rfl rfl (Nat.le_of_ble_eq_true rfl) (fun X C hR => ?_)
  have hs5 := tx_s5 (f := f) (m := m) (c := c)
  have hv9 := tx_v_le (f := f) (m := m) (c := c)
  have hn2 : tx_s f m c = 2 ∧ lo ≤ tx_v f m c ∧ tx_v f m c ≤ hi := by
    rw [tx_num] at hn
    split at hn
    · assumption
    · cases hn
  have hn3 : v = tx_v f m c ∧ d = tx_e f m c := by
    rw [tx_num, if_pos hn2] at hn
    cases hn
    exact ⟨rfl, rfl⟩
  refine wj_aload_n C 0 dX5_number_0 rfl rfl ?_
  refine wg_X5_242 C dX5_number_1 ?_
  rw [tm_11]
  refine wj_istore_n C 3 dX5_number_4 rfl (by decide) rfl ?_
  dsimp only [List.set]
  refine wj_aload_n C 0 dX5_number_5 rfl rfl ?_
  refine wj_aload_n C 0 dX5_number_6 rfl rfl ?_
  refine wg_X5_245 C dX5_number_7 ?_
  rw [tm_10]
  refine wj_iconst (v := 2) C dX5_number_10 (by decide) ?_
  refine wj_icmp_ne C 27 dX5_number_11 (by decide) (fun h11 => ?_) (fun h11 => ?_)
  · exact absurd (show nI (min (tx_s f m c) 3) = 2 by rw [hn2.1]; rfl) h11
  · refine wj_iload_n C 3 dX5_number_14 rfl rfl ?_
    refine wj_iload_n C 1 dX5_number_15 rfl rfl ?_
    refine wj_iload_n C 2 dX5_number_16 rfl rfl ?_
    refine wj_cif C (wj_rS C dX5_number_17 km_X5_within kl_X5_70 (c_X5_within l V) rfl rfl (Nat.le_of_ble_eq_true rfl) (by decide)) ?_
    refine wj_if_eq C 27 dX5_number_20 (by decide) (fun h20 => ?_) (fun h20 => ?_)
    · exact absurd (show (if nI lo ≤ nI (tx_v f m c) ∧ nI (tx_v f m c) ≤ nI hi then (1 : Int32) else 0) = 1 from if_pos ⟨nI_le (by omega) (by omega), nI_le (by omega) (by omega)⟩) (by rw [h20]; decide)
    · refine wj_iconst (v := 1) C dX5_number_23 (by decide) ?_
      refine wj_goto C 28 dX5_number_24 (by decide) ?_
      refine wj_cvf C (wj_rV C dX5_number_28 km_X5_must kl_X5_262 is_X5 rfl rfl (c_X5_must_go l V hg hm h120 ht hc) rfl rfl (Nat.le_of_ble_eq_true rfl) (by decide)) ?_
      refine wj_iload_n C 3 dX5_number_31 rfl rfl ?_
      exact hR _ _ _ _ _ dX5_number_32 ⟨by rw [hn3.1], by rw [hn3.2]⟩ wj_rfl
set_option maxRecDepth 100000 in
set_option maxHeartbeats 4000000 in
theorem c_X5_number_l (l : Launch) (V : wj_V) {σ : wj_St} {f g : Nat → Int32} {m c : Nat} (hg : σ 53 = g) (hm : σ 48 7 = nI m) (h120 : m ≤ 120) (ht : tx_tg g f m) {w : Int32} {i n : Nat} {h : Nat → Int32} (hc : c ≤ m) {lo hi : Nat} (h9 : hi ≤ 65535) (h8 : lo ≤ hi) (hn : tx_num f m lo hi c = .inl c ∨ w = 1) : wj_M l V yX5_number cX5_number 4 (some .int) 3 64 [.ref (V.2.2.1 48), .int (nI lo), .int (nI hi)] (tm f m σ c w i n h) (wj_I V (nI (tx_v f m c)) (tm f m σ c 1 i n h)) := by
  refine wj_ofI (own := RX5) [some (.ref (V.2.2.1 48)), some (.int (nI lo)), some (.int (nI hi)), none] (by decide) rfl rfl (Nat.le_of_ble_eq_true rfl) (fun X C hR => ?_)
  have hs5 := tx_s5 (f := f) (m := m) (c := c)
  have hv9 := tx_v_le (f := f) (m := m) (c := c)
  have hno : nI (min (tx_s f m c) 3) = 2 → ¬ (if nI lo ≤ nI (tx_v f m c) ∧ nI (tx_v f m c) ≤ nI hi then (1 : Int32) else 0) = 0 → w = 1 := by
    intro z1 z2
    have hs := (nI_eq (a := min (tx_s f m c) 3) (b := 2) (by omega) (by omega)).mp z1
    have hz := wj_c1 z2
    have y1 := (nI_leI (by omega) (by omega)).mp hz.1
    have y2 := (nI_leI (by omega) (by omega)).mp hz.2
    refine hn.resolve_left (fun z => ?_)
    rw [tx_num, if_pos ⟨by omega, by omega, by omega⟩] at z
    cases z
  refine wj_aload_n C 0 dX5_number_0 rfl rfl ?_
  refine wg_X5_242 C dX5_number_1 ?_
  rw [tm_11]
  refine wj_istore_n C 3 dX5_number_4 rfl (by decide) rfl ?_
  dsimp only [List.set]
  refine wj_aload_n C 0 dX5_number_5 rfl rfl ?_
  refine wj_aload_n C 0 dX5_number_6 rfl rfl ?_
  refine wg_X5_245 C dX5_number_7 ?_
  rw [tm_10]
  refine wj_iconst (v := 2) C dX5_number_10 (by decide) ?_
  refine wj_icmp_ne C 27 dX5_number_11 (by decide) (fun h11 => ?_) (fun h11 => ?_)
  · refine wj_iconst (v := 0) C dX5_number_27 (by decide) ?_
    refine wj_cvf C (wj_rV C dX5_number_28 km_X5_must kl_X5_262 is_X5 rfl rfl (c_X5_must_no l V hg hm h120 ht hc (by first | exact Or.inl rfl | exact Or.inr (hno h11 h20))) rfl rfl (Nat.le_of_ble_eq_true rfl) (by decide)) ?_
    refine wj_iload_n C 3 dX5_number_31 rfl rfl ?_
    exact hR _ _ _ _ _ dX5_number_32 ⟨rfl, rfl⟩ wj_rfl
  · refine wj_iload_n C 3 dX5_number_14 rfl rfl ?_
    refine wj_iload_n C 1 dX5_number_15 rfl rfl ?_
    refine wj_iload_n C 2 dX5_number_16 rfl rfl ?_
    refine wj_cif C (wj_rS C dX5_number_17 km_X5_within kl_X5_70 (c_X5_within l V) rfl rfl (Nat.le_of_ble_eq_true rfl) (by decide)) ?_
    refine wj_if_eq C 27 dX5_number_20 (by decide) (fun h20 => ?_) (fun h20 => ?_)
    · refine wj_iconst (v := 0) C dX5_number_27 (by decide) ?_
      refine wj_cvf C (wj_rV C dX5_number_28 km_X5_must kl_X5_262 is_X5 rfl rfl (c_X5_must_no l V hg hm h120 ht hc (by first | exact Or.inl rfl | exact Or.inr (hno h11 h20))) rfl rfl (Nat.le_of_ble_eq_true rfl) (by decide)) ?_
      refine wj_iload_n C 3 dX5_number_31 rfl rfl ?_
      exact hR _ _ _ _ _ dX5_number_32 ⟨rfl, rfl⟩ wj_rfl
    · refine wj_iconst (v := 1) C dX5_number_23 (by decide) ?_
      refine wj_goto C 28 dX5_number_24 (by decide) ?_
      refine wj_cvf C (wj_rV C dX5_number_28 km_X5_must kl_X5_262 is_X5 rfl rfl (c_X5_must_no l V hg hm h120 ht hc (by first | exact Or.inl rfl | exact Or.inr (hno h11 h20))) rfl rfl (Nat.le_of_ble_eq_true rfl) (by decide)) ?_
      refine wj_iload_n C 3 dX5_number_31 rfl rfl ?_
      exact hR _ _ _ _ _ dX5_number_32 ⟨rfl, rfl⟩ wj_rfl
set_option maxRecDepth 100000 in
set_option maxHeartbeats 4000000 in
theorem c_X5_isWord (l : Launch) (V : wj_V) {σ : wj_St} {f g : Nat → Int32} {m c : Nat} (hg : σ 53 = g) (hm : σ 48 7 = nI m) (h120 : m ≤ 120) (ht : tx_tg g f m) {w : Int32} {i n : Nat} {h : Nat → Int32} (hc : c ≤ m) {q : Nat} (hq : q < 14) : wj_M l V yX5_isWord cX5_isWord 4 (some .boolean) 4 85 [.ref (V.2.2.1 48), .ref (V.2.2.2.1 q)] (tm f m σ c w i n h) (wj_I V (if tx_w f m q c = true then 1 else 0) (tm f m σ c w i n h)) := by
  refine wj_ofZ (own := RX5) [some (.ref (V.2.2.1 48)), some (.ref (V.2.2.2.1 q)), none, none] (by decide) rfl rfl (Nat.le_of_ble_eq_true rfl) (fun X C hR => ?_)
  have hs5 := tx_s5 (f := f) (m := m) (c := c)
  have hE := tx_e_le (f := f) hc
  have hl8 : tx_ln q ≤ 8 := wj_lnb q hq
  have hge := tx_e_ge (f := f) (m := m) (c := c)
  have l0 : tx_w f m q c = false → ∀ k, wj_J l V X 32 [some (.ref (V.2.2.1 48)), some (.ref (V.2.2.2.1 q)), some (.int 0), some (.int (nI k))] [] (tm f m σ c w i n h) := by
    intro hno k
    refine wj_iload_n C 3 dX5_isWord_32 rfl rfl ?_
    refine wj_aload_n C 1 dX5_isWord_33 rfl rfl ?_
    refine wj_cif C (wj_rVs C dX5_isWord_34 km_J0_length_8abf5 kl_X5_249 rfl hq (c_J0_length_8abf5 l V hq) rfl rfl (Nat.le_of_ble_eq_true rfl) (by decide)) ?_
    refine wj_icmp_ge C 75 dX5_isWord_37 (by decide) (fun h37 => ?_) (fun h37 => ?_)
    · refine wj_iload_n C 2 dX5_isWord_75 rfl rfl ?_
      exact hR _ _ _ _ _ dX5_isWord_76 ⟨by decide +kernel, by rw [hno]; rfl, rfl⟩ wj_rfl
    · refine wj_iload_n C 2 dX5_isWord_40 rfl rfl ?_
      refine wj_if_eq C 75 dX5_isWord_41 (by decide) (fun h41 => ?_) (fun h41 => absurd rfl h41)
      refine wj_iload_n C 2 dX5_isWord_75 rfl rfl ?_
      exact hR _ _ _ _ _ dX5_isWord_76 ⟨by decide +kernel, by rw [hno]; rfl, rfl⟩ wj_rfl
  have l1 : tx_s f m c = 1 → tx_e f m c - tx_b f m c = tx_ln q → ∀ n2 k, k ≤ tx_ln q → tx_ln q - k < n2 → (∀ j, j < k → f (tx_b f m c + j) = tx_ch q j) → wj_J l V X 32 [some (.ref (V.2.2.1 48)), some (.ref (V.2.2.2.1 q)), some (.int 1), some (.int (nI k))] [] (tm f m σ c w i n h) := by
    intro k1 k2 n2
    induction n2 with
    | zero => intro k _ h _; omega
    | succ n2 ih =>
      intro k hk hlt9 hall
      refine wj_iload_n C 3 dX5_isWord_32 rfl rfl ?_
      refine wj_aload_n C 1 dX5_isWord_33 rfl rfl ?_
      refine wj_cif C (wj_rVs C dX5_isWord_34 km_J0_length_8abf5 kl_X5_249 rfl hq (c_J0_length_8abf5 l V hq) rfl rfl (Nat.le_of_ble_eq_true rfl) (by decide)) ?_
      refine wj_icmp_ge C 75 dX5_isWord_37 (by decide) (fun h37 => ?_) (fun h37 => ?_)
      · have e9 := wj_ge (N := tx_ln q) (by omega) hk h37
        have hyes : tx_w f m q c = true := decide_eq_true ⟨k1, k2, fun j hj => hall j (by omega)⟩
        refine wj_iload_n C 2 dX5_isWord_75 rfl rfl ?_
        exact hR _ _ _ _ _ dX5_isWord_76 ⟨by decide +kernel, by rw [hyes]; rfl, rfl⟩ wj_rfl
      · have hlt := wj_nge (N := tx_ln q) (by omega) hk h37
        refine wj_iload_n C 2 dX5_isWord_40 rfl rfl ?_
        refine wj_if_eq C 75 dX5_isWord_41 (by decide) (fun h41 => absurd h41 (by decide)) (fun h41 => ?_)
        refine wj_aload_n C 0 dX5_isWord_44 rfl rfl ?_
        refine wg_X5_22 C dX5_isWord_45 ?_
        refine wj_aload_n C 0 dX5_isWord_48 rfl rfl ?_
        refine wg_X5_236 C dX5_isWord_49 ?_
        rw [tm_8]
        refine wj_iload_n C 3 dX5_isWord_52 rfl rfl ?_
        refine wj_iadd C dX5_isWord_53 ?_
        rw [nI_add]
        refine wj_ialdN C dX5_isWord_54 ar_mtape ⟨by omega, by decide⟩ ?_
        rw [tm_o (by decide) (by decide), hg, tb_w ht hc k1 (k := tx_b f m c + k) (by omega) (by omega)]
        refine wj_aload_n C 1 dX5_isWord_55 rfl rfl ?_
        refine wj_iload_n C 3 dX5_isWord_56 rfl rfl ?_
        refine wj_cif C (wj_rVs C dX5_isWord_57 km_J0_charAt_5068e kl_X5_252 rfl hq (c_J0_charAt_5068e l V hq hlt) rfl rfl (Nat.le_of_ble_eq_true rfl) (by decide)) ?_
        refine wj_icmp_ne C 67 dX5_isWord_60 (by decide) (fun h60 => ?_) (fun h60 => ?_)
        · have hno : tx_w f m q c = false := decide_eq_false (fun z => h60 (z.2.2 k hlt))
          refine wj_iconst (v := 0) C dX5_isWord_67 (by decide) ?_
          refine wj_istore_n C 2 dX5_isWord_68 rfl (by decide) rfl ?_
          dsimp only [List.set]
          refine wj_iinc C (v := nI (k + 1)) dX5_isWord_69 rfl (wj_i1 k) (by decide) rfl ?_
          dsimp only [List.set]
          refine wj_goto C 32 dX5_isWord_72 (by decide) ?_
          first | exact l0 hno (k + 1) | exact ih (k + 1) (by omega) (by omega) (fun j hj => by
            rcases Nat.eq_or_lt_of_le (Nat.le_of_lt_succ hj) with e | e
            · rw [e]; exact h60
            · exact hall j e)
        · refine wj_iconst (v := 1) C dX5_isWord_63 (by decide) ?_
          refine wj_goto C 68 dX5_isWord_64 (by decide) ?_
          refine wj_istore_n C 2 dX5_isWord_68 rfl (by decide) rfl ?_
          dsimp only [List.set]
          refine wj_iinc C (v := nI (k + 1)) dX5_isWord_69 rfl (wj_i1 k) (by decide) rfl ?_
          dsimp only [List.set]
          refine wj_goto C 32 dX5_isWord_72 (by decide) ?_
          first | exact l0 hno (k + 1) | exact ih (k + 1) (by omega) (by omega) (fun j hj => by
            rcases Nat.eq_or_lt_of_le (Nat.le_of_lt_succ hj) with e | e
            · rw [e]; exact h60
            · exact hall j e)
  refine wj_aload_n C 0 dX5_isWord_0 rfl rfl ?_
  refine wg_X5_245 C dX5_isWord_1 ?_
  rw [tm_10]
  refine wj_iconst (v := 1) C dX5_isWord_4 (by decide) ?_
  refine wj_icmp_ne C 28 dX5_isWord_5 (by decide) (fun h5 => ?_) (fun h5 => ?_)
  · have hno : tx_w f m q c = false := decide_eq_false (fun z => h5 (by rw [z.1]; rfl))
    refine wj_iconst (v := 0) C dX5_isWord_28 (by decide) ?_
    refine wj_istore_n C 2 dX5_isWord_29 rfl (by decide) rfl ?_
    dsimp only [List.set]
    refine wj_iconst (v := 0) C dX5_isWord_30 (by decide) ?_
    refine wj_istore_n C 3 dX5_isWord_31 rfl (by decide) rfl ?_
    dsimp only [List.set]
    first | exact l0 hno 0 | exact l1 k1 k2 9 0 (Nat.zero_le _) (by omega) (fun j hj => absurd hj (by omega))
  · have k1 : tx_s f m c = 1 := by
      have := (nI_eq (a := min (tx_s f m c) 3) (b := 1) (by omega) (by omega)).mp h5
      omega
    refine wj_aload_n C 0 dX5_isWord_8 rfl rfl ?_
    refine wg_X5_233 C dX5_isWord_9 ?_
    rw [tm_9]
    refine wj_aload_n C 0 dX5_isWord_12 rfl rfl ?_
    refine wg_X5_236 C dX5_isWord_13 ?_
    rw [tm_8]
    refine wj_isub C dX5_isWord_16 ?_
    rw [pk_sub tx_e_ge]
    refine wj_aload_n C 1 dX5_isWord_17 rfl rfl ?_
    refine wj_cif C (wj_rVs C dX5_isWord_18 km_J0_length_8abf5 kl_X5_249 rfl hq (c_J0_length_8abf5 l V hq) rfl rfl (Nat.le_of_ble_eq_true rfl) (by decide)) ?_
    refine wj_icmp_ne C 28 dX5_isWord_21 (by decide) (fun h21 => ?_) (fun h21 => ?_)
    · have hno : tx_w f m q c = false := decide_eq_false (fun z => h21 (by rw [z.2.1]))
      refine wj_iconst (v := 0) C dX5_isWord_28 (by decide) ?_
      refine wj_istore_n C 2 dX5_isWord_29 rfl (by decide) rfl ?_
      dsimp only [List.set]
      refine wj_iconst (v := 0) C dX5_isWord_30 (by decide) ?_
      refine wj_istore_n C 3 dX5_isWord_31 rfl (by decide) rfl ?_
      dsimp only [List.set]
      first | exact l0 hno 0 | exact l1 k1 k2 9 0 (Nat.zero_le _) (by omega) (fun j hj => absurd hj (by omega))
    · have k2 : tx_e f m c - tx_b f m c = tx_ln q := (nI_eq (by omega) (by omega)).mp h21
      refine wj_iconst (v := 1) C dX5_isWord_24 (by decide) ?_
      refine wj_goto C 29 dX5_isWord_25 (by decide) ?_
      refine wj_istore_n C 2 dX5_isWord_29 rfl (by decide) rfl ?_
      dsimp only [List.set]
      refine wj_iconst (v := 0) C dX5_isWord_30 (by decide) ?_
      refine wj_istore_n C 3 dX5_isWord_31 rfl (by decide) rfl ?_
      dsimp only [List.set]
      first | exact l0 hno 0 | exact l1 k1 k2 9 0 (Nat.zero_le _) (by omega) (fun j hj => absurd hj (by omega))
set_option maxRecDepth 100000 in
set_option maxHeartbeats 4000000 in
theorem c_X5_takesWord_y (l : Launch) (V : wj_V) {σ : wj_St} {f g : Nat → Int32} {m c : Nat} (hg : σ 53 = g) (hm : σ 48 7 = nI m) (h120 : m ≤ 120) (ht : tx_tg g f m) {i n : Nat} {h : Nat → Int32} (hc : c ≤ m) {q : Nat} (hq : q < 14) (hw : tx_w f m q c = true) : wj_M l V yX5_takesWord cX5_takesWord 3 (some .boolean) 5 108 [.ref (V.2.2.1 48), .ref (V.2.2.2.1 q)] (tm f m σ c 0 i n h) (wj_I V 1 (tm f m σ (tx_e f m c) 0 i n h)) := by
  refine wj_ofZ (own := RX5) [some (.ref (V.2.2.1 48)), some (.ref (V.2.2.2.1 q)), none] (by decide) rfl rfl (Nat.le_of_ble_eq_true rfl) (fun X C hR => ?_)
  refine wj_aload_n C 0 dX5_takesWord_0 rfl rfl ?_
  refine wg_X5_256 C dX5_takesWord_1 ?_
  rw [tm_12]
  refine wj_if_ne C 19 dX5_takesWord_4 (by decide) (fun h4 => ?_) (fun h4 => ?_)
  · exact absurd rfl h4
  · refine wj_aload_n C 0 dX5_takesWord_7 rfl rfl ?_
    refine wj_aload_n C 1 dX5_takesWord_8 rfl rfl ?_
    refine wj_cif C (wj_rV C dX5_takesWord_9 km_X5_isWord kl_X5_269 is_X5 rfl rfl (c_X5_isWord l V hg hm h120 ht hc hq) rfl rfl (Nat.le_of_ble_eq_true rfl) (by decide)) ?_
    refine wj_if_eq C 19 dX5_takesWord_12 (by decide) (fun h12 => ?_) (fun h12 => ?_)
    · exact absurd h12 (by rw [if_pos hw]; decide)
    · refine wj_iconst (v := 1) C dX5_takesWord_15 (by decide) ?_
      refine wj_goto C 20 dX5_takesWord_16 (by decide) ?_
      refine wj_istore_n C 2 dX5_takesWord_20 rfl (by decide) rfl ?_
      dsimp only [List.set]
      refine wj_iload_n C 2 dX5_takesWord_21 rfl rfl ?_
      refine wj_if_eq C 30 dX5_takesWord_22 (by decide) (fun h22 => absurd h22 (by decide)) (fun h22 => ?_)
      refine wj_aload_n C 0 dX5_takesWord_25 rfl rfl ?_
      refine wj_iconst (v := 1) C dX5_takesWord_26 (by decide) ?_
      refine wj_cvf C (wj_rV C dX5_takesWord_27 km_X5_must kl_X5_262 is_X5 rfl rfl (c_X5_must_go l V hg hm h120 ht hc) rfl rfl (Nat.le_of_ble_eq_true rfl) (by decide)) ?_
      refine wj_iload_n C 2 dX5_takesWord_30 rfl rfl ?_
      exact hR _ _ _ _ _ dX5_takesWord_31 ⟨by decide +kernel, rfl, rfl⟩ wj_rfl
set_option maxRecDepth 100000 in
set_option maxHeartbeats 4000000 in
theorem c_X5_takesWord_n (l : Launch) (V : wj_V) {σ : wj_St} {f g : Nat → Int32} {m c : Nat} (hg : σ 53 = g) (hm : σ 48 7 = nI m) (h120 : m ≤ 120) (ht : tx_tg g f m) {w : Int32} {i n : Nat} {h : Nat → Int32} (hc : c ≤ m) {q : Nat} (hq : q < 14) (hw : tx_w f m q c = false ∨ w = 1) : wj_M l V yX5_takesWord cX5_takesWord 3 (some .boolean) 5 108 [.ref (V.2.2.1 48), .ref (V.2.2.2.1 q)] (tm f m σ c w i n h) (wj_I V 0 (tm f m σ c w i n h)) := by
  refine wj_ofZ (own := RX5) [some (.ref (V.2.2.1 48)), some (.ref (V.2.2.2.1 q)), none] (by decide) rfl rfl (Nat.le_of_ble_eq_true rfl) (fun X C hR => ?_)
  refine wj_aload_n C 0 dX5_takesWord_0 rfl rfl ?_
  refine wg_X5_256 C dX5_takesWord_1 ?_
  rw [tm_12]
  refine wj_if_ne C 19 dX5_takesWord_4 (by decide) (fun h4 => ?_) (fun h4 => ?_)
  · refine wj_iconst (v := 0) C dX5_takesWord_19 (by decide) ?_
    refine wj_istore_n C 2 dX5_takesWord_20 rfl (by decide) rfl ?_
    dsimp only [List.set]
    refine wj_iload_n C 2 dX5_takesWord_21 rfl rfl ?_
    refine wj_if_eq C 30 dX5_takesWord_22 (by decide) (fun h22 => ?_) (fun h22 => absurd rfl h22)
    refine wj_iload_n C 2 dX5_takesWord_30 rfl rfl ?_
    exact hR _ _ _ _ _ dX5_takesWord_31 ⟨by decide +kernel, rfl, rfl⟩ wj_rfl
  · refine wj_aload_n C 0 dX5_takesWord_7 rfl rfl ?_
    refine wj_aload_n C 1 dX5_takesWord_8 rfl rfl ?_
    refine wj_cif C (wj_rV C dX5_takesWord_9 km_X5_isWord kl_X5_269 is_X5 rfl rfl (c_X5_isWord l V hg hm h120 ht hc hq) rfl rfl (Nat.le_of_ble_eq_true rfl) (by decide)) ?_
    refine wj_if_eq C 19 dX5_takesWord_12 (by decide) (fun h12 => ?_) (fun h12 => ?_)
    · refine wj_iconst (v := 0) C dX5_takesWord_19 (by decide) ?_
      refine wj_istore_n C 2 dX5_takesWord_20 rfl (by decide) rfl ?_
      dsimp only [List.set]
      refine wj_iload_n C 2 dX5_takesWord_21 rfl rfl ?_
      refine wj_if_eq C 30 dX5_takesWord_22 (by decide) (fun h22 => ?_) (fun h22 => absurd rfl h22)
      refine wj_iload_n C 2 dX5_takesWord_30 rfl rfl ?_
      exact hR _ _ _ _ _ dX5_takesWord_31 ⟨by decide +kernel, rfl, rfl⟩ wj_rfl
    · exact absurd h12 (fun z => z (by rw [if_neg (by rw [hw.resolve_right (fun y => absurd (y.symm.trans h4) (by decide))]; decide)]))
def ty_ad (h : Nat → Int32) (i : Nat) (a b d e k : Int32) : Nat → Int32 := upd (upd (upd (upd (upd h (5 * i) a) (5 * i + 1) b) (5 * i + 2) d) (5 * i + 3) e) (5 * i + 4) k
theorem ty_ad_0 {h : Nat → Int32} {i : Nat} {a b d e k : Int32} : ty_ad h i a b d e k (5 * i) = a := by simp [ty_ad, upd]
theorem ty_ad_1 {h : Nat → Int32} {i : Nat} {a b d e k : Int32} : ty_ad h i a b d e k (5 * i + 1) = b := by simp [ty_ad, upd]
theorem ty_ad_2 {h : Nat → Int32} {i : Nat} {a b d e k : Int32} : ty_ad h i a b d e k (5 * i + 2) = d := by simp [ty_ad, upd]
theorem ty_ad_3 {h : Nat → Int32} {i : Nat} {a b d e k : Int32} : ty_ad h i a b d e k (5 * i + 3) = e := by simp [ty_ad, upd]
theorem ty_ad_4 {h : Nat → Int32} {i : Nat} {a b d e k : Int32} : ty_ad h i a b d e k (5 * i + 4) = k := by simp [ty_ad, upd]
theorem ty_ad_o {h : Nat → Int32} {i j : Nat} {a b d e k : Int32} (hj : j < 5 * i) : ty_ad h i a b d e k j = h j := by
  simp only [ty_ad, upd]
  rw [if_neg (by omega), if_neg (by omega), if_neg (by omega), if_neg (by omega), if_neg (by omega)]
set_option maxRecDepth 100000 in
set_option maxHeartbeats 4000000 in
theorem c_X5_addItem (l : Launch) (V : wj_V) {σ : wj_St} {f : Nat → Int32} {m c : Nat} {w : Int32} {i n : Nat} {h : Nat → Int32} {x0 x1 x2 x3 x4 : Int32} (hi : i < 120) : wj_M l V yX5_addItem cX5_addItem 7 none 0 0 [.ref (V.2.2.1 48), .int x0, .int x1, .int x2, .int x3, .int x4] (tm f m σ c w i n h) (wj_Vd V (tm f m σ c w (i + 1) n (ty_ad h i x0 x1 x2 x3 x4))) := by
  refine wj_ofV (own := RX5) [some (.ref (V.2.2.1 48)), some (.int x0), some (.int x1), some (.int x2), some (.int x3), some (.int x4), none] (by decide) rfl rfl (Nat.le_of_ble_eq_true rfl) (fun X C hR => ?_)
  refine wj_iconst (v := 5) C dX5_addItem_0 (by decide) ?_
  refine wj_aload_n C 0 dX5_addItem_1 rfl rfl ?_
  refine wg_X5_266 C dX5_addItem_2 ?_
  rw [tm_15]
  refine wj_imul C dX5_addItem_5 ?_
  rw [show (5 : Int32) = nI 5 from rfl, pk_mul]
  refine wj_istore C dX5_addItem_6 (by decide) rfl ?_
  dsimp only [List.set]
  refine wj_aload_n C 0 dX5_addItem_8 rfl rfl ?_
  refine wg_X5_45 C dX5_addItem_9 ?_
  refine wj_iload C dX5_addItem_12 rfl ?_
  refine wj_iload_n C 1 dX5_addItem_14 rfl rfl ?_
  refine wj_iastN C dX5_addItem_15 ar_items ⟨by omega, by decide⟩ ?_
  rw [tm_u54]
  refine wj_aload_n C 0 dX5_addItem_16 rfl rfl ?_
  refine wg_X5_45 C dX5_addItem_17 ?_
  refine wj_iload C dX5_addItem_20 rfl ?_
  refine wj_iconst (v := 1) C dX5_addItem_22 (by decide) ?_
  refine wj_iadd C dX5_addItem_23 ?_
  rw [show (1 : Int32) = nI 1 from rfl, nI_add]
  refine wj_iload_n C 2 dX5_addItem_24 rfl rfl ?_
  refine wj_iastN C dX5_addItem_25 ar_items ⟨by omega, by decide⟩ ?_
  rw [tm_u54]
  refine wj_aload_n C 0 dX5_addItem_26 rfl rfl ?_
  refine wg_X5_45 C dX5_addItem_27 ?_
  refine wj_iload C dX5_addItem_30 rfl ?_
  refine wj_iconst (v := 2) C dX5_addItem_32 (by decide) ?_
  refine wj_iadd C dX5_addItem_33 ?_
  rw [show (2 : Int32) = nI 2 from rfl, nI_add]
  refine wj_iload_n C 3 dX5_addItem_34 rfl rfl ?_
  refine wj_iastN C dX5_addItem_35 ar_items ⟨by omega, by decide⟩ ?_
  rw [tm_u54]
  refine wj_aload_n C 0 dX5_addItem_36 rfl rfl ?_
  refine wg_X5_45 C dX5_addItem_37 ?_
  refine wj_iload C dX5_addItem_40 rfl ?_
  refine wj_iconst (v := 3) C dX5_addItem_42 (by decide) ?_
  refine wj_iadd C dX5_addItem_43 ?_
  rw [show (3 : Int32) = nI 3 from rfl, nI_add]
  refine wj_iload C dX5_addItem_44 rfl ?_
  refine wj_iastN C dX5_addItem_46 ar_items ⟨by omega, by decide⟩ ?_
  rw [tm_u54]
  refine wj_aload_n C 0 dX5_addItem_47 rfl rfl ?_
  refine wg_X5_45 C dX5_addItem_48 ?_
  refine wj_iload C dX5_addItem_51 rfl ?_
  refine wj_iconst (v := 4) C dX5_addItem_53 (by decide) ?_
  refine wj_iadd C dX5_addItem_54 ?_
  rw [show (4 : Int32) = nI 4 from rfl, nI_add]
  refine wj_iload C dX5_addItem_55 rfl ?_
  refine wj_iastN C dX5_addItem_57 ar_items ⟨by omega, by decide⟩ ?_
  rw [tm_u54]
  refine wj_aload_n C 0 dX5_addItem_58 rfl rfl ?_
  refine wj_dup C dX5_addItem_59 rfl ?_
  refine wg_X5_266 C dX5_addItem_60 ?_
  rw [tm_15]
  refine wj_iconst (v := 1) C dX5_addItem_63 (by decide) ?_
  refine wj_iadd C dX5_addItem_64 ?_
  rw [nI_1]
  refine wp_X5_266 C dX5_addItem_65 ?_
  rw [tm_u15]
  exact hR _ _ _ _ dX5_addItem_68 rfl wj_rfl

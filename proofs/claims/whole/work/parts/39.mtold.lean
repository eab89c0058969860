def sp_shM (σ : wj_St) : sp_Sh := (fun s => σ 55 s, fun s => σ 56 s, fun s k => σ 57 (40 * s + k))
theorem sp_shM_q {σ : wj_St} {A : sp_L} : sp_shM (sp_mq σ A) = sp_shM σ := by
  unfold sp_shM
  rw [sp_mq_o (by decide), sp_mq_o (by decide), sp_mq_o (by decide)]
theorem sp_as_o {σ : wj_St} {A : sp_L} {q : Nat} (h : q ≠ 51) : sp_as σ A q = σ q := wj_r_ne h
def sp_lk (H : sp_Sh) (s g : Int32) : Int32 := if 0 ≤ s ∧ s ≤ 3 then (if H.1 s.toNatClampNeg = 0 then -1000006 else if g = 0 then -1000001 else 0) else -1000001
def sp_lkA (H : sp_Sh) (s g : Int32) (v : Sum Nat Int32) : Sum Nat Int32 := if 0 ≤ s ∧ s ≤ 3 then (if H.1 s.toNatClampNeg = 0 then .inl 5 else if g = 0 then .inl 0 else v) else .inl 0
theorem sp_lk_f {H : sp_Sh} {s g : Int32} (h : ¬ sp_lk H s g = 0) : ∃ w, w < 7 ∧ sp_lk H s g = -1000001 - nI w ∧ ∀ v, sp_lkA H s g v = .inl w := by
  unfold sp_lk sp_lkA at *
  by_cases h1 : 0 ≤ s ∧ s ≤ 3
  · rw [if_pos h1] at h ⊢
    by_cases h2 : H.1 s.toNatClampNeg = 0
    · exact ⟨5, by decide, by rw [if_pos h2]; decide, fun v => by rw [if_pos h1, if_pos h2]⟩
    · rw [if_neg h2] at h ⊢
      by_cases h3 : g = 0
      · exact ⟨0, by decide, by rw [if_pos h3]; decide, fun v => by rw [if_pos h1, if_neg h2, if_pos h3]⟩
      · rw [if_neg h3] at h; exact absurd rfl h
  · exact ⟨0, by decide, by rw [if_neg h1]; decide, fun v => by rw [if_neg h1]⟩
theorem sp_lk_t {H : sp_Sh} {s g : Int32} (h : sp_lk H s g = 0) : ∃ t, t < 4 ∧ s = nI t ∧ ¬ g = 0 ∧ ∀ v, sp_lkA H s g v = v := by
  unfold sp_lk sp_lkA at *
  by_cases h1 : 0 ≤ s ∧ s ≤ 3
  · rw [if_pos h1] at h
    by_cases h2 : H.1 s.toNatClampNeg = 0
    · rw [if_pos h2] at h; exact absurd h (by decide)
    · rw [if_neg h2] at h
      by_cases h3 : g = 0
      · rw [if_pos h3] at h; exact absurd h (by decide)
      · obtain ⟨t, ht, rfl⟩ := wj_natC (N := 3) h1
        exact ⟨t, by omega, rfl, h3, fun v => by rw [if_pos h1, if_neg h2, if_neg h3]⟩
  · rw [if_neg h1] at h; exact absurd h (by decide)
theorem sp_lk_if {H : sp_Sh} {s : Int32} {c : Prop} [Decidable c] {v : Sum Nat Int32} : sp_lkA H s (if c then 1 else 0) v = if 0 ≤ s ∧ s ≤ 3 then (if H.1 s.toNatClampNeg = 0 then .inl 5 else if c then v else .inl 0) else .inl 0 := by
  unfold sp_lkA
  by_cases h : c
  · rw [if_pos h, if_neg (show ¬ (1 : Int32) = 0 by decide), if_pos h]
  · rw [if_neg h, if_pos rfl, if_neg h]
theorem sp_lk_1 {H : sp_Sh} {s : Int32} {v : Sum Nat Int32} : sp_lkA H s 1 v = if 0 ≤ s ∧ s ≤ 3 then (if H.1 s.toNatClampNeg = 0 then .inl 5 else v) else .inl 0 := by
  unfold sp_lkA
  rw [if_neg (show ¬ (1 : Int32) = 0 by decide)]
theorem sp_hs_mo {g : Nat → Int32} {A : sp_L} {i q : Nat} (h : ¬ sp_hs g A i q = true) : ∀ m, q ≤ m → ¬ sp_hs g A i m = true
  | 0, hm => by rw [show q = 0 by omega] at h; exact h
  | m + 1, hm => by
    rcases Nat.lt_or_eq_of_le hm with r | r
    · have := sp_hs_mo h m (by omega)
      rw [sp_hs]
      intro z
      rw [Bool.and_eq_true] at z
      exact this z.1
    · rw [← r]; exact h
theorem sp_ss_mo {g : Nat → Int32} {A : sp_L} {q : Nat} (h : ¬ sp_ss g A q = true) : ∀ m, q ≤ m → ¬ sp_ss g A m = true
  | 0, hm => by rw [show q = 0 by omega] at h; exact h
  | m + 1, hm => by
    rcases Nat.lt_or_eq_of_le hm with r | r
    · have := sp_ss_mo h m (by omega)
      rw [sp_ss]
      intro z
      rw [Bool.and_eq_true] at z
      exact this z.1
    · rw [← r]; exact h
set_option maxRecDepth 100000 in
set_option maxHeartbeats 4000000 in
theorem c_X5_lacks (l : Launch) (V : wj_V) {σ : wj_St} {s b : Int32} : wj_M l V yX5_lacks cX5_lacks 3 (some .int) 2 42 [.ref (V.2.2.1 48), .int s, .int b] σ (wj_I V (sp_lk (sp_shM σ) s b) σ) := by
  refine wj_ofI (own := RX5) [some (.ref (V.2.2.1 48)), some (.int s), some (.int b)] (by decide) rfl rfl (Nat.le_of_ble_eq_true rfl) (fun X C hR => ?_)
  refine wj_iload_n C 1 dX5_lacks_0 rfl rfl ?_
  refine wj_cif C (wj_rS C dX5_lacks_1 km_X5_isSheet kl_X5_207 (c_X5_isSheet l V) rfl rfl (Nat.le_of_ble_eq_true rfl) (by decide)) ?_
  refine wj_if_ne C 12 dX5_lacks_4 (by decide) (fun h4 => ?_) (fun h4 => ?_)
  · have h4a := wj_c1 h4
    obtain ⟨t, ht, rfl⟩ := wj_natC (N := 3) h4a
    have hct : (nI t).toNatClampNeg = t := nI_clamp (by omega)
    refine wj_aload_n C 0 dX5_lacks_12 rfl rfl ?_
    refine wg_X5_48 C dX5_lacks_13 ?_
    refine wj_iload_n C 1 dX5_lacks_16 rfl rfl ?_
    refine wj_ialdN C dX5_lacks_17 ar_widths ⟨by omega, by decide⟩ ?_
    refine wj_if_ne C 26 dX5_lacks_18 (by decide) (fun h18 => ?_) (fun h18 => ?_)
    · refine wj_iload_n C 2 dX5_lacks_26 rfl rfl ?_
      refine wj_if_eq C 34 dX5_lacks_27 (by decide) (fun h27 => ?_) (fun h27 => ?_)
      · refine wj_ldc C dX5_lacks_34 kc_X5_60 ?_
        exact hR _ _ _ _ _ dX5_lacks_36 ⟨(by first | (rw [sp_lk, if_neg (wj_c0 h4)]; done) | (rw [sp_lk, if_pos h4a, hct, if_pos (show (sp_shM σ).1 t = 0 from h18)]; done) | (rw [sp_lk, if_pos h4a, hct, if_neg (show ¬ (sp_shM σ).1 t = 0 from h18), if_pos h27]; done) | (rw [sp_lk, if_pos h4a, hct, if_neg (show ¬ (sp_shM σ).1 t = 0 from h18), if_neg h27]; done)), rfl⟩ wj_rfl
      · refine wj_iconst (v := 0) C dX5_lacks_30 (by decide) ?_
        refine wj_goto C 36 dX5_lacks_31 (by decide) ?_
        exact hR _ _ _ _ _ dX5_lacks_36 ⟨(by first | (rw [sp_lk, if_neg (wj_c0 h4)]; done) | (rw [sp_lk, if_pos h4a, hct, if_pos (show (sp_shM σ).1 t = 0 from h18)]; done) | (rw [sp_lk, if_pos h4a, hct, if_neg (show ¬ (sp_shM σ).1 t = 0 from h18), if_pos h27]; done) | (rw [sp_lk, if_pos h4a, hct, if_neg (show ¬ (sp_shM σ).1 t = 0 from h18), if_neg h27]; done)), rfl⟩ wj_rfl
    · refine wj_ldc C dX5_lacks_21 kc_X5_210 ?_
      refine wj_goto C 36 dX5_lacks_23 (by decide) ?_
      exact hR _ _ _ _ _ dX5_lacks_36 ⟨(by first | (rw [sp_lk, if_neg (wj_c0 h4)]; done) | (rw [sp_lk, if_pos h4a, hct, if_pos (show (sp_shM σ).1 t = 0 from h18)]; done) | (rw [sp_lk, if_pos h4a, hct, if_neg (show ¬ (sp_shM σ).1 t = 0 from h18), if_pos h27]; done) | (rw [sp_lk, if_pos h4a, hct, if_neg (show ¬ (sp_shM σ).1 t = 0 from h18), if_neg h27]; done)), rfl⟩ wj_rfl
  · refine wj_ldc C dX5_lacks_7 kc_X5_60 ?_
    refine wj_goto C 36 dX5_lacks_9 (by decide) ?_
    exact hR _ _ _ _ _ dX5_lacks_36 ⟨(by first | (rw [sp_lk, if_neg (wj_c0 h4)]; done) | (rw [sp_lk, if_pos h4a, hct, if_pos (show (sp_shM σ).1 t = 0 from h18)]; done) | (rw [sp_lk, if_pos h4a, hct, if_neg (show ¬ (sp_shM σ).1 t = 0 from h18), if_pos h27]; done) | (rw [sp_lk, if_pos h4a, hct, if_neg (show ¬ (sp_shM σ).1 t = 0 from h18), if_neg h27]; done)), rfl⟩ wj_rfl
set_option maxRecDepth 100000 in
set_option maxHeartbeats 4000000 in
theorem c_X5_isHighSo (l : Launch) (V : wj_V) {σ : wj_St} {A : sp_L} {N y : Nat} {t i m : Nat} (hG : sp_G A N y) (hy : y < 90000) (hc : σ 48 5 = 0) (ht : t < 4) (hi : i < N) (hm : σ 56 t = nI m) (h40 : m ≤ 40) : wj_M l V yX5_isHighSo cX5_isHighSo 6 (some .boolean) 7 160 [.ref (V.2.2.1 48), .int (nI t), .int (nI i)] (sp_mq σ A) (wj_I V (if sp_hs (fun k => σ 57 (40 * t + k)) A i m = true then 1 else 0) (sp_mq (sp_as σ A) A)) := by
  refine wj_ofZ (own := RX5) [some (.ref (V.2.2.1 48)), some (.int (nI t)), some (.int (nI i)), none, none, none] (by decide) rfl rfl (Nat.le_of_ble_eq_true rfl) (fun X C hR => ?_)
  have hN8 := hG.2.1
  have lp : ∀ n q j, q ≤ m → m - q < n → wj_J l V X 16 [some (.ref (V.2.2.1 48)), some (.int (nI t)), some (.int (nI i)), some (.int (if sp_hs (fun k => σ 57 (40 * t + k)) A i q = true then 1 else 0)), some (.int (nI q)), j] [] (sp_mq (sp_as σ A) (sp_yrs A q)) := by
    intro n
    induction n with
    | zero => intro q j _ h; omega
    | succ n ih =>
      intro q j hq hlt9
      refine wj_iload C dX5_isHighSo_16 rfl ?_
      refine wj_aload_n C 0 dX5_isHighSo_18 rfl rfl ?_
      refine wg_X5_51 C dX5_isHighSo_19 ?_
      refine wj_iload_n C 1 dX5_isHighSo_22 rfl rfl ?_
      refine wj_ialdN C dX5_isHighSo_23 ar_sizes ⟨by omega, by decide⟩ ?_
      rw [sp_mq_o (by decide), sp_as_o (by decide), hm]
      refine wj_icmp_ge C 78 dX5_isHighSo_24 (by decide) (fun h24 => ?_) (fun h24 => ?_)
      · have e9 := wj_ge (N := m) (by omega) hq h24
        have hr9 : (if sp_hs (fun k => σ 57 (40 * t + k)) A i q = true then (1 : Int32) else 0) = if sp_hs (fun k => σ 57 (40 * t + k)) A i m = true then 1 else 0 := by rw [e9]
        refine wj_aload_n C 0 dX5_isHighSo_78 rfl rfl ?_
        refine wg_X5_16 C dX5_isHighSo_79 ?_
        refine wj_aload_n C 0 dX5_isHighSo_82 rfl rfl ?_
        refine wg_X5_9 C dX5_isHighSo_83 ?_
        refine wj_cvf C (wj_rS C dX5_isHighSo_86 km_X5_copyRow kl_X5_61 (c_X5_copyRow (a := 51) (b := 49) l V (by decide) (by decide) (by decide)) rfl rfl (Nat.le_of_ble_eq_true rfl) (by decide)) ?_
        rw [sp_as_2]
        refine wj_iload_n C 3 dX5_isHighSo_89 rfl rfl ?_
        exact hR _ _ _ _ _ dX5_isHighSo_90 ⟨wj_nzi, hr9, rfl⟩ wj_rfl
      · have hlt := wj_nge (N := m) (by omega) hq h24
        refine wj_iload_n C 3 dX5_isHighSo_27 rfl rfl ?_
        refine wj_if_eq C 78 dX5_isHighSo_28 (by decide) (fun h28 => ?_) (fun h28 => ?_)
        · have hr9 : (if sp_hs (fun k => σ 57 (40 * t + k)) A i q = true then (1 : Int32) else 0) = if sp_hs (fun k => σ 57 (40 * t + k)) A i m = true then 1 else 0 := by rw [if_neg (wj_c0 h28), if_neg (sp_hs_mo (wj_c0 h28) m hq)]
          refine wj_aload_n C 0 dX5_isHighSo_78 rfl rfl ?_
          refine wg_X5_16 C dX5_isHighSo_79 ?_
          refine wj_aload_n C 0 dX5_isHighSo_82 rfl rfl ?_
          refine wg_X5_9 C dX5_isHighSo_83 ?_
          refine wj_cvf C (wj_rS C dX5_isHighSo_86 km_X5_copyRow kl_X5_61 (c_X5_copyRow (a := 51) (b := 49) l V (by decide) (by decide) (by decide)) rfl rfl (Nat.le_of_ble_eq_true rfl) (by decide)) ?_
          rw [sp_as_2]
          refine wj_iload_n C 3 dX5_isHighSo_89 rfl rfl ?_
          exact hR _ _ _ _ _ dX5_isHighSo_90 ⟨wj_nzi, hr9, rfl⟩ wj_rfl
        · have hb := wj_c1 h28
          refine wj_aload_n C 0 dX5_isHighSo_31 rfl rfl ?_
          refine wg_X5_54 C dX5_isHighSo_32 ?_
          refine wj_bipush (v := 40) C dX5_isHighSo_35 (by decide) ?_
          refine wj_iload_n C 1 dX5_isHighSo_37 rfl rfl ?_
          refine wj_imul C dX5_isHighSo_38 ?_
          refine wj_top (y := nI (40 * t)) (pk_mul 40 t) ?_
          refine wj_iload C dX5_isHighSo_39 rfl ?_
          refine wj_iadd C dX5_isHighSo_41 ?_
          refine wj_top (y := nI (40 * t + q)) (nI_add (40 * t) q) ?_
          refine wj_ialdN C dX5_isHighSo_42 ar_mnumbers ⟨by omega, by decide⟩ ?_
          rw [sp_mq_o (by decide), sp_as_o (by decide)]
          refine wj_istore C dX5_isHighSo_43 (by decide) rfl ?_
          dsimp only [List.set]
          refine wj_iload C dX5_isHighSo_45 rfl ?_
          refine wj_iconst (v := -1) C dX5_isHighSo_47 (by decide) ?_
          refine wj_icmp_eq C 62 dX5_isHighSo_48 (by decide) (fun h48 => ?_) (fun h48 => ?_)
          · refine wj_iconst (v := 1) C dX5_isHighSo_62 (by decide) ?_
            refine wj_goto C 67 dX5_isHighSo_63 (by decide) ?_
            refine wj_top (y := if sp_hs (fun k => σ 57 (40 * t + k)) A i (q + 1) = true then 1 else 0) (by rw [sp_hs, hb]; first | (rw [decide_eq_true (Or.inl h48)]; rfl) | (rw [decide_eq_true (Or.inr h59)]; rfl) | (rw [decide_eq_false (fun z => z.elim h48 h59)]; rfl)) ?_
            refine wj_istore_n C 3 dX5_isHighSo_67 rfl (by decide) rfl ?_
            dsimp only [List.set]
            refine wj_aload_n C 0 dX5_isHighSo_68 rfl rfl ?_
            refine wj_cvf C (wj_rV C dX5_isHighSo_69 km_X5_year kl_X5_162 is_X5 rfl rfl (c_X5_year (c := false) l V (sp_G_yrs hG q) (by rw [sp_as_48]; exact hc) (by omega)) rfl rfl (Nat.le_of_ble_eq_true rfl) (by decide)) ?_
            rw [sp_yx_f]
            refine wj_iinc C (v := nI (q + 1)) dX5_isHighSo_72 rfl (wj_i1 q) (by decide) rfl ?_
            dsimp only [List.set]
            refine wj_goto C 16 dX5_isHighSo_75 (by decide) ?_
            exact ih (q + 1) _ (by omega) (by omega)
          · refine wj_iload C dX5_isHighSo_51 rfl ?_
            refine wj_aload_n C 0 dX5_isHighSo_53 rfl rfl ?_
            refine wj_iload_n C 2 dX5_isHighSo_54 rfl rfl ?_
            refine wj_iconst (v := 2) C dX5_isHighSo_55 (by decide) ?_
            refine wj_cif C (wj_rV C dX5_isHighSo_56 km_X5_slipIs kl_X5_82 is_X5 rfl rfl (c_X5_slipIs (f := 2) l V (by omega) (by decide)) rfl rfl (Nat.le_of_ble_eq_true rfl) (by decide)) ?_
            refine wj_icmp_ne C 66 dX5_isHighSo_59 (by decide) (fun h59 => ?_) (fun h59 => ?_)
            · refine wj_iconst (v := 0) C dX5_isHighSo_66 (by decide) ?_
              refine wj_top (y := if sp_hs (fun k => σ 57 (40 * t + k)) A i (q + 1) = true then 1 else 0) (by rw [sp_hs, hb]; first | (rw [decide_eq_true (Or.inl h48)]; rfl) | (rw [decide_eq_true (Or.inr h59)]; rfl) | (rw [decide_eq_false (fun z => z.elim h48 h59)]; rfl)) ?_
              refine wj_istore_n C 3 dX5_isHighSo_67 rfl (by decide) rfl ?_
              dsimp only [List.set]
              refine wj_aload_n C 0 dX5_isHighSo_68 rfl rfl ?_
              refine wj_cvf C (wj_rV C dX5_isHighSo_69 km_X5_year kl_X5_162 is_X5 rfl rfl (c_X5_year (c := false) l V (sp_G_yrs hG q) (by rw [sp_as_48]; exact hc) (by omega)) rfl rfl (Nat.le_of_ble_eq_true rfl) (by decide)) ?_
              rw [sp_yx_f]
              refine wj_iinc C (v := nI (q + 1)) dX5_isHighSo_72 rfl (wj_i1 q) (by decide) rfl ?_
              dsimp only [List.set]
              refine wj_goto C 16 dX5_isHighSo_75 (by decide) ?_
              exact ih (q + 1) _ (by omega) (by omega)
            · refine wj_iconst (v := 1) C dX5_isHighSo_62 (by decide) ?_
              refine wj_goto C 67 dX5_isHighSo_63 (by decide) ?_
              refine wj_top (y := if sp_hs (fun k => σ 57 (40 * t + k)) A i (q + 1) = true then 1 else 0) (by rw [sp_hs, hb]; first | (rw [decide_eq_true (Or.inl h48)]; rfl) | (rw [decide_eq_true (Or.inr h59)]; rfl) | (rw [decide_eq_false (fun z => z.elim h48 h59)]; rfl)) ?_
              refine wj_istore_n C 3 dX5_isHighSo_67 rfl (by decide) rfl ?_
              dsimp only [List.set]
              refine wj_aload_n C 0 dX5_isHighSo_68 rfl rfl ?_
              refine wj_cvf C (wj_rV C dX5_isHighSo_69 km_X5_year kl_X5_162 is_X5 rfl rfl (c_X5_year (c := false) l V (sp_G_yrs hG q) (by rw [sp_as_48]; exact hc) (by omega)) rfl rfl (Nat.le_of_ble_eq_true rfl) (by decide)) ?_
              rw [sp_yx_f]
              refine wj_iinc C (v := nI (q + 1)) dX5_isHighSo_72 rfl (wj_i1 q) (by decide) rfl ?_
              dsimp only [List.set]
              refine wj_goto C 16 dX5_isHighSo_75 (by decide) ?_
              exact ih (q + 1) _ (by omega) (by omega)
  refine wj_aload_n C 0 dX5_isHighSo_0 rfl rfl ?_
  refine wg_X5_9 C dX5_isHighSo_1 ?_
  refine wj_aload_n C 0 dX5_isHighSo_4 rfl rfl ?_
  refine wg_X5_16 C dX5_isHighSo_5 ?_
  refine wj_cvf C (wj_rS C dX5_isHighSo_8 km_X5_copyRow kl_X5_61 (c_X5_copyRow (a := 49) (b := 51) l V (by decide) (by decide) (by decide)) rfl rfl (Nat.le_of_ble_eq_true rfl) (by decide)) ?_
  rw [sp_as_1]
  refine wj_iconst (v := 1) C dX5_isHighSo_11 (by decide) ?_
  refine wj_istore_n C 3 dX5_isHighSo_12 rfl (by decide) rfl ?_
  dsimp only [List.set]
  refine wj_iconst (v := 0) C dX5_isHighSo_13 (by decide) ?_
  refine wj_istore C dX5_isHighSo_14 (by decide) rfl ?_
  dsimp only [List.set]
  exact lp (m + 1) 0 _ (by omega) (by omega)
theorem sp_or0 (x : Int32) : x ||| 0 = x := b_ext (fun i _ => by rw [b_or, b_0, Bool.or_false])
set_option maxRecDepth 100000 in
set_option maxHeartbeats 4000000 in
theorem c_X5_valuesFor (l : Launch) (V : wj_V) {σ : wj_St} {A : sp_L} {N y : Nat} {t i f lo hi m : Nat} (hG : sp_G A N y) (hy : y < 90000) (hc : σ 48 5 = 0) (ht : t < 4) (hi0 : i < N) (hf : f < 7) (hfv : ∀ v, lo ≤ v → v ≤ hi → sp_fv f v) (hl9 : lo ≤ hi ∧ hi < 20) (hm : σ 56 t = nI m) (h40 : m ≤ 40) : wj_M l V yX5_valuesFor cX5_valuesFor 10 (some .int) 8 185 [.ref (V.2.2.1 48), .int (nI t), .int (nI i), .int (nI f), .int (nI lo), .int (nI hi)] (sp_mq σ A) (wj_QI V (fun r u => r = sp_ors (fun v => decide (lo ≤ v) && sp_hs (fun k => σ 57 (40 * t + k)) (sp_us A i f (nI v)) i m) (hi + 1) ∧ ∃ g, u = (sp_mq (wj_r σ 51 g) A))) := by
  refine wj_ofI (own := RX5) [some (.ref (V.2.2.1 48)), some (.int (nI t)), some (.int (nI i)), some (.int (nI f)), some (.int (nI lo)), some (.int (nI hi)), none, none, none, none] (by decide) rfl rfl (Nat.le_of_ble_eq_true rfl) (fun X C hR => ?_)
  have hN8 := hG.2.1
  have lp : ∀ P, P = (fun v => decide (lo ≤ v) && sp_hs (fun k => σ 57 (40 * t + k)) (sp_us A i f (nI v)) i m) → ∀ n v g z, v ≤ hi + 1 → hi + 1 - v < n → lo ≤ v → wj_J l V X 23 [some (.ref (V.2.2.1 48)), some (.int (nI t)), some (.int (nI i)), some (.int (nI f)), some (.int (nI lo)), some (.int (nI hi)), some (.int (nI (21 + 7 * i + f))), some (.int (sp_sl A i f)), some (.int (sp_ors P v)), some (.int (nI v))] [] (sp_mq (wj_r σ 51 g) (sp_us A i f z)) := by
    intro P hPd n
    induction n with
    | zero => intro v g z _ h; omega
    | succ n ih =>
      intro v g z hv hlt9 hlv
      have hP : P v = (decide (lo ≤ v) && sp_hs (fun k => σ 57 (40 * t + k)) (sp_us A i f (nI v)) i m) := by rw [hPd]
      refine wj_iload C dX5_valuesFor_23 rfl ?_
      refine wj_iload C dX5_valuesFor_25 rfl ?_
      refine wj_icmp_gt C 67 dX5_valuesFor_27 (by decide) (fun h27 => ?_) (fun h27 => ?_)
      · have e9 : v = hi + 1 := by have := (nI_ltI (a := hi) (b := v) (by omega) (by omega)).mp h27; omega
        subst e9
        refine wj_aload_n C 0 dX5_valuesFor_67 rfl rfl ?_
        refine wg_X5_9 C dX5_valuesFor_68 ?_
        refine wj_iload C dX5_valuesFor_71 rfl ?_
        refine wj_iload C dX5_valuesFor_73 rfl ?_
        refine wj_iastN C dX5_valuesFor_75 ar_now ⟨by omega, by decide⟩ ?_
        rw [sp_mq_us (by omega) hf, sp_us_ov, sp_us_id]
        refine wj_iload C dX5_valuesFor_76 rfl ?_
        exact hR _ _ _ _ _ dX5_valuesFor_78 ⟨by rw [hPd], _, rfl⟩ wj_rfl
      · have hlt : v < hi + 1 := by
          rcases Nat.lt_or_ge v (hi + 1) with q | q
          · exact q
          · exact absurd (nI_lt (a := hi) (b := v) (by omega) (by omega)) h27
        refine wj_aload_n C 0 dX5_valuesFor_30 rfl rfl ?_
        refine wg_X5_9 C dX5_valuesFor_31 ?_
        refine wj_iload C dX5_valuesFor_34 rfl ?_
        refine wj_iload C dX5_valuesFor_36 rfl ?_
        refine wj_iastN C dX5_valuesFor_38 ar_now ⟨by omega, by decide⟩ ?_
        rw [sp_mq_us (by omega) hf, sp_us_ov]
        refine wj_iload C dX5_valuesFor_39 rfl ?_
        refine wj_aload_n C 0 dX5_valuesFor_41 rfl rfl ?_
        refine wj_iload_n C 1 dX5_valuesFor_42 rfl rfl ?_
        refine wj_iload_n C 2 dX5_valuesFor_43 rfl rfl ?_
        refine wj_cif C (wj_rV C dX5_valuesFor_44 km_X5_isHighSo kl_X5_211 is_X5 rfl rfl (c_X5_isHighSo (m := m) l V (sp_G_fv hG (hfv v hlv (by omega))) hy (by rw [sp_r51]; exact hc) ht hi0 (by rw [wj_r_ne (by decide)]; exact hm) h40) rfl rfl (Nat.le_of_ble_eq_true rfl) (by decide)) ?_
        rw [sp_as_rr, wj_r_ne (show 57 ≠ 51 by decide)]
        refine wj_if_eq C 57 dX5_valuesFor_47 (by decide) (fun h47 => ?_) (fun h47 => ?_)
        · have e8 : sp_ors P (v + 1) = sp_ors P v ||| 0 := by rw [sp_ors, hP, decide_eq_true hlv, Bool.true_and, if_neg (wj_c0 h47), sp_or0]
          refine wj_iconst (v := 0) C dX5_valuesFor_57 (by decide) ?_
          refine wj_ior C dX5_valuesFor_58 ?_
          refine wj_istore C dX5_valuesFor_59 (by decide) rfl ?_
          dsimp only [List.set]
          refine wj_iinc C (v := nI (v + 1)) dX5_valuesFor_61 rfl (wj_i1 v) (by decide) rfl ?_
          dsimp only [List.set]
          refine wj_goto C 23 dX5_valuesFor_64 (by decide) ?_
          exact (by have hh := fun g3 => ih (v + 1) g3 (nI v) (by omega) (by omega) (by omega); rw [e8] at hh; exact hh _)
        · have e8 : sp_ors P (v + 1) = sp_ors P v ||| ((1 : Int32) <<< (nI v &&& 31)) := by rw [sp_ors, hP, decide_eq_true hlv, Bool.true_and, if_pos (wj_c1 h47)]
          refine wj_iconst (v := 1) C dX5_valuesFor_50 (by decide) ?_
          refine wj_iload C dX5_valuesFor_51 rfl ?_
          refine wj_ishl C dX5_valuesFor_53 ?_
          refine wj_goto C 58 dX5_valuesFor_54 (by decide) ?_
          refine wj_ior C dX5_valuesFor_58 ?_
          refine wj_istore C dX5_valuesFor_59 (by decide) rfl ?_
          dsimp only [List.set]
          refine wj_iinc C (v := nI (v + 1)) dX5_valuesFor_61 rfl (wj_i1 v) (by decide) rfl ?_
          dsimp only [List.set]
          refine wj_goto C 23 dX5_valuesFor_64 (by decide) ?_
          exact (by have hh := fun g3 => ih (v + 1) g3 (nI v) (by omega) (by omega) (by omega); rw [e8] at hh; exact hh _)
  refine wj_iload_n C 2 dX5_valuesFor_0 rfl rfl ?_
  refine wj_iload_n C 3 dX5_valuesFor_1 rfl rfl ?_
  refine wj_cif C (wj_rS C dX5_valuesFor_2 km_X5_slipAt kl_X5_79 (c_X5_slipAt (f := f) l V) rfl rfl (Nat.le_of_ble_eq_true rfl) (by decide)) ?_
  refine wj_istore C dX5_valuesFor_5 (by decide) rfl ?_
  dsimp only [List.set]
  refine wj_aload_n C 0 dX5_valuesFor_7 rfl rfl ?_
  refine wg_X5_9 C dX5_valuesFor_8 ?_
  refine wj_iload C dX5_valuesFor_11 rfl ?_
  refine wj_ialdN C dX5_valuesFor_13 ar_now ⟨by omega, by decide⟩ ?_
  rw [sp_mq_49, sp_mr_s _ _ (by omega) hf]
  refine wj_istore C dX5_valuesFor_14 (by decide) rfl ?_
  dsimp only [List.set]
  rw [sp_mqr, show sp_mq (wj_r σ 51 (σ 51)) A = sp_mq (wj_r σ 51 (σ 51)) (sp_us A i f (sp_sl A i f)) by rw [sp_us_id]]
  refine wj_iconst (v := 0) C dX5_valuesFor_16 (by decide) ?_
  refine wj_istore C dX5_valuesFor_17 (by decide) rfl ?_
  dsimp only [List.set]
  refine wj_iload C dX5_valuesFor_19 rfl ?_
  refine wj_istore C dX5_valuesFor_21 (by decide) rfl ?_
  dsimp only [List.set]
  exact (by have hh := lp _ rfl (hi + 2) lo (σ 51) (sp_sl A i f) (by omega) (by omega) (Nat.le_refl _); rw [sp_ors_0 lo (fun k hk => by rw [decide_eq_false (by omega)]; rfl)] at hh; exact hh)
set_option maxRecDepth 100000 in
set_option maxHeartbeats 4000000 in
theorem c_X5_words (l : Launch) (V : wj_V) {σ : wj_St} {A : sp_L} {N y : Nat} {s x : Int32} (hG : sp_G A N y) (hy : y < 90000) (hc : σ 48 5 = 0) (hH : sp_shok (sp_shM σ)) : wj_M l V yX5_words cX5_words 4 (some .int) 9 214 [.ref (V.2.2.1 48), .int s, .int x] (sp_mq σ A) (wj_QI V (fun r u => r = sp_v (a_cb (sp_shM σ) A s x 5 1 12) ∧ ∃ g, u = sp_mq (wj_r (sp_fw σ (a_cb (sp_shM σ) A s x 5 1 12)) 51 g) A)) := by
  refine wj_ofI (own := RX5) [some (.ref (V.2.2.1 48)), some (.int s), some (.int x), none] (by decide) rfl rfl (Nat.le_of_ble_eq_true rfl) (fun X C hR => ?_)
  refine wj_aload_n C 0 dX5_words_0 rfl rfl ?_
  refine wj_iload_n C 1 dX5_words_1 rfl rfl ?_
  refine wj_aload_n C 0 dX5_words_2 rfl rfl ?_
  refine wj_iload_n C 2 dX5_words_3 rfl rfl ?_
  refine wj_cif C (wj_rV C dX5_words_4 km_X5_isSlip kl_X5_146 is_X5 rfl rfl (c_X5_isSlip l V hG.1) rfl rfl (Nat.le_of_ble_eq_true rfl) (by decide)) ?_
  rw [sp_rgO hG.1]
  refine wj_cif C (wj_rV C dX5_words_7 km_X5_lacks kl_X5_214 is_X5 rfl rfl (c_X5_lacks l V) rfl rfl (Nat.le_of_ble_eq_true rfl) (by decide)) ?_
  rw [sp_shM_q]
  refine wj_istore_n C 3 dX5_words_10 rfl (by decide) rfl ?_
  dsimp only [List.set]
  refine wj_iload_n C 3 dX5_words_11 rfl rfl ?_
  refine wj_if_eq C 23 dX5_words_12 (by decide) (fun h12 => ?_) (fun h12 => ?_)
  · obtain ⟨t, ht, hst, hg, ea⟩ := sp_lk_t h12
    have hrx := wj_c1 hg
    obtain ⟨i, hi0, hxi⟩ := sp_rgi hG.1 hG.2.1 hrx
    obtain ⟨m, h40, hm⟩ := hH t ht
    have hN8 := hG.2.1
    have ha : a_cb (sp_shM σ) A s x 5 1 12 = .inr (sp_ors (fun v => decide (1 ≤ v) && sp_hs (fun k => σ 57 (40 * t + k)) (sp_us A i 5 (nI v)) i m) (12 + 1)) := ((sp_lk_if (c := sp_rg A x)).symm.trans (ea _)).trans (by rw [hst, hxi, nI_clamp (by omega), nI_clamp (by omega), hm, nI_clamp (by omega)]; rfl)
    subst hst
    subst hxi
    refine wj_aload_n C 0 dX5_words_23 rfl rfl ?_
    refine wj_iload_n C 1 dX5_words_24 rfl rfl ?_
    refine wj_iload_n C 2 dX5_words_25 rfl rfl ?_
    refine wj_iconst (v := 5) C dX5_words_26 (by decide) ?_
    refine wj_iconst (v := 1) C dX5_words_27 (by decide) ?_
    refine wj_bipush (v := 12) C dX5_words_28 (by decide) ?_
    refine wj_ci C (wj_rV C dX5_words_30 km_X5_valuesFor kl_X5_218 is_X5 rfl rfl (c_X5_valuesFor (f := 5) (lo := 1) (hi := 12) l V hG hy hc ht hi0 (by decide) (fun v h1 h2 => by unfold sp_fv; omega) (by decide) hm h40) rfl rfl (Nat.le_of_ble_eq_true rfl) (by decide)) (fun r u hru => ?_)
    obtain ⟨hr9, g, rfl⟩ := hru
    exact hR _ _ _ _ _ dX5_words_33 (by first | exact sp_rvG (by rw [ha, hr9]) rfl rfl | exact sp_rfM ha rfl rfl eL) wj_rfl
  · obtain ⟨w, hw, eL, ea⟩ := sp_lk_f h12
    have ha : a_cb (sp_shM σ) A s x 5 1 12 = .inl w := (sp_lk_if (c := sp_rg A x)).symm.trans (ea _)
    refine wj_aload_n C 0 dX5_words_15 rfl rfl ?_
    refine wj_iload_n C 3 dX5_words_16 rfl rfl ?_
    refine wj_cif C (wj_rV C dX5_words_17 km_X5_finding kl_X5_66 is_X5 rfl rfl (c_X5_finding (w := w) l V hw eL) rfl rfl (Nat.le_of_ble_eq_true rfl) (by decide)) ?_
    refine wj_goto C 33 dX5_words_20 (by decide) ?_
    exact hR _ _ _ _ _ dX5_words_33 (by first | exact sp_rvG (by rw [ha, hr9]) rfl rfl | exact sp_rfM ha rfl rfl eL) wj_rfl
set_option maxRecDepth 100000 in
set_option maxHeartbeats 4000000 in
theorem c_X5_kinds (l : Launch) (V : wj_V) {σ : wj_St} {A : sp_L} {N y : Nat} {s x : Int32} (hG : sp_G A N y) (hy : y < 90000) (hc : σ 48 5 = 0) (hH : sp_shok (sp_shM σ)) : wj_M l V yX5_kinds cX5_kinds 4 (some .int) 9 214 [.ref (V.2.2.1 48), .int s, .int x] (sp_mq σ A) (wj_QI V (fun r u => r = sp_v (a_cb (sp_shM σ) A s x 0 0 6) ∧ ∃ g, u = sp_mq (wj_r (sp_fw σ (a_cb (sp_shM σ) A s x 0 0 6)) 51 g) A)) := by
  refine wj_ofI (own := RX5) [some (.ref (V.2.2.1 48)), some (.int s), some (.int x), none] (by decide) rfl rfl (Nat.le_of_ble_eq_true rfl) (fun X C hR => ?_)
  refine wj_aload_n C 0 dX5_kinds_0 rfl rfl ?_
  refine wj_iload_n C 1 dX5_kinds_1 rfl rfl ?_
  refine wj_aload_n C 0 dX5_kinds_2 rfl rfl ?_
  refine wj_iload_n C 2 dX5_kinds_3 rfl rfl ?_
  refine wj_cif C (wj_rV C dX5_kinds_4 km_X5_isSlip kl_X5_146 is_X5 rfl rfl (c_X5_isSlip l V hG.1) rfl rfl (Nat.le_of_ble_eq_true rfl) (by decide)) ?_
  rw [sp_rgO hG.1]
  refine wj_cif C (wj_rV C dX5_kinds_7 km_X5_lacks kl_X5_214 is_X5 rfl rfl (c_X5_lacks l V) rfl rfl (Nat.le_of_ble_eq_true rfl) (by decide)) ?_
  rw [sp_shM_q]
  refine wj_istore_n C 3 dX5_kinds_10 rfl (by decide) rfl ?_
  dsimp only [List.set]
  refine wj_iload_n C 3 dX5_kinds_11 rfl rfl ?_
  refine wj_if_eq C 23 dX5_kinds_12 (by decide) (fun h12 => ?_) (fun h12 => ?_)
  · obtain ⟨t, ht, hst, hg, ea⟩ := sp_lk_t h12
    have hrx := wj_c1 hg
    obtain ⟨i, hi0, hxi⟩ := sp_rgi hG.1 hG.2.1 hrx
    obtain ⟨m, h40, hm⟩ := hH t ht
    have hN8 := hG.2.1
    have ha : a_cb (sp_shM σ) A s x 0 0 6 = .inr (sp_ors (fun v => decide (0 ≤ v) && sp_hs (fun k => σ 57 (40 * t + k)) (sp_us A i 0 (nI v)) i m) (6 + 1)) := ((sp_lk_if (c := sp_rg A x)).symm.trans (ea _)).trans (by rw [hst, hxi, nI_clamp (by omega), nI_clamp (by omega), hm, nI_clamp (by omega)]; rfl)
    subst hst
    subst hxi
    refine wj_aload_n C 0 dX5_kinds_23 rfl rfl ?_
    refine wj_iload_n C 1 dX5_kinds_24 rfl rfl ?_
    refine wj_iload_n C 2 dX5_kinds_25 rfl rfl ?_
    refine wj_iconst (v := 0) C dX5_kinds_26 (by decide) ?_
    refine wj_iconst (v := 0) C dX5_kinds_27 (by decide) ?_
    refine wj_bipush (v := 6) C dX5_kinds_28 (by decide) ?_
    refine wj_ci C (wj_rV C dX5_kinds_30 km_X5_valuesFor kl_X5_218 is_X5 rfl rfl (c_X5_valuesFor (f := 0) (lo := 0) (hi := 6) l V hG hy hc ht hi0 (by decide) (fun v h1 h2 => by unfold sp_fv; omega) (by decide) hm h40) rfl rfl (Nat.le_of_ble_eq_true rfl) (by decide)) (fun r u hru => ?_)
    obtain ⟨hr9, g, rfl⟩ := hru
    exact hR _ _ _ _ _ dX5_kinds_33 (by first | exact sp_rvG (by rw [ha, hr9]) rfl rfl | exact sp_rfM ha rfl rfl eL) wj_rfl
  · obtain ⟨w, hw, eL, ea⟩ := sp_lk_f h12
    have ha : a_cb (sp_shM σ) A s x 0 0 6 = .inl w := (sp_lk_if (c := sp_rg A x)).symm.trans (ea _)
    refine wj_aload_n C 0 dX5_kinds_15 rfl rfl ?_
    refine wj_iload_n C 3 dX5_kinds_16 rfl rfl ?_
    refine wj_cif C (wj_rV C dX5_kinds_17 km_X5_finding kl_X5_66 is_X5 rfl rfl (c_X5_finding (w := w) l V hw eL) rfl rfl (Nat.le_of_ble_eq_true rfl) (by decide)) ?_
    refine wj_goto C 33 dX5_kinds_20 (by decide) ?_
    exact hR _ _ _ _ _ dX5_kinds_33 (by first | exact sp_rvG (by rw [ha, hr9]) rfl rfl | exact sp_rfM ha rfl rfl eL) wj_rfl

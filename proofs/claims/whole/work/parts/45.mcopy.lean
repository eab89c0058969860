theorem sp_fit {a b m : Nat} (ha : a < 2 ^ 31) (hb : b < 2 ^ 31) (hm : m ≤ 40) : (0 < lg_cmp ((nI a).toInt64 + (nI b).toInt64) (nI m).toInt64) ↔ m < a + b := by
  rw [lg_cmp_gt, nI_l ha, nI_l hb, nI_l (by omega), lN_add, Int64.lt_iff_toInt_lt, pf_lI (a := m) (by omega), pf_lI (a := a + b) (by omega)]
  omega
theorem sp_fit2 {a b m : Nat} (ha : a < 2 ^ 31) (hb : b < 2 ^ 31) (hm : m ≤ 40) : (lg_cmp ((nI a).toInt64 + (nI b).toInt64) (nI m).toInt64 ≤ 0) ↔ a + b ≤ m := by
  rw [lg_cmp_le, nI_l ha, nI_l hb, nI_l (by omega), lN_add, Int64.le_iff_toInt_le, pf_lI (a := m) (by omega), pf_lI (a := a + b) (by omega)]
  omega
theorem sp_nn {x : Int32} (h : ¬ x < 0) : ∃ a, a < 2 ^ 31 ∧ x = nI a := by
  have h1 := Int32.le_iff_toInt_le.mp (Int32.not_lt.mp h)
  rw [Int32.toInt_zero] at h1
  obtain ⟨a, ha, ea, _⟩ := wj_nat h1
  exact ⟨a, ha, ea⟩
theorem sp_ft_i {a b m : Nat} (hm : m ≤ 40) (h : a + b ≤ m) : sp_ft (nI a) (nI b) (nI m) := by
  refine ⟨nI_pos' (by omega), nI_pos' (by omega), ?_⟩
  rw [pk_sub (by omega)]
  exact nI_le (by omega) (by omega)
theorem sp_ft_o {a b m : Nat} (ha : a < 2 ^ 31) (hb : b < 2 ^ 31) (hm : m ≤ 40) (h : sp_ft (nI a) (nI b) (nI m)) : a + b ≤ m := by
  have := (sp_has hm h).2.2
  rw [nI_clamp ha, nI_clamp hb] at this
  exact this
theorem sp_vc_0 {F G : Nat → Int32} {sp dp : Nat} : va_cpy F G sp dp 0 = G := funext fun k => if_neg (by omega)
theorem sp_vc_s {F G : Nat → Int32} {sp dp k : Nat} : upd (va_cpy F G sp dp k) (dp + k) (F (sp + k)) = va_cpy F G sp dp (k + 1) := by
  funext j
  simp only [upd, va_cpy]
  by_cases h : j = dp + k
  · subst h; rw [if_pos rfl, if_pos (by omega), show dp + k - dp = k by omega]
  · rw [if_neg h]
    by_cases h2 : dp ≤ j ∧ j < dp + k
    · rw [if_pos h2, if_pos (by omega)]
    · rw [if_neg h2, if_neg (by omega)]
def sp_mv (σ : wj_St) (a k : Nat) : Nat → Int32 := va_cpy (σ 57) (σ 58) a 0 k
def sp_cpM (σ : wj_St) (a c b k : Nat) : wj_St := wj_r (wj_r σ 58 (sp_mv σ a b)) 57 (va_cpy (sp_mv σ a b) (σ 57) 0 c k)
def n_copyM (σ : wj_St) (s f t u n : Int32) : wj_St := if sp_cok (sp_shM σ) s f t u n then sp_cpM σ (40 * s.toNatClampNeg + f.toNatClampNeg) (40 * t.toNatClampNeg + u.toNatClampNeg) n.toNatClampNeg n.toNatClampNeg else σ
set_option maxRecDepth 100000 in
set_option maxHeartbeats 4000000 in
theorem c_X5_copy (l : Launch) (V : wj_V) {σ : wj_St} {A : sp_L} {N y : Nat} {s f t o9 nn : Int32} (hG : sp_G A N y) (hy : y < 90000) (hH : sp_shok (sp_shM σ)) : wj_M l V yX5_copy cX5_copy 7 (some .int) 2 42 [.ref (V.2.2.1 48), .int s, .int f, .int t, .int o9, .int nn] (sp_mq σ A) (wj_QI V (fun r u => r = sp_v (a_copy (sp_shM σ) s f t o9 nn) ∧ ∃ g, u = sp_mq (wj_r (sp_fw (n_copyM σ s f t o9 nn) (a_copy (sp_shM σ) s f t o9 nn)) 51 g) A)) := by
  refine wj_ofI (own := RX5) [some (.ref (V.2.2.1 48)), some (.int s), some (.int f), some (.int t), some (.int o9), some (.int nn), none] (by decide) rfl rfl (Nat.le_of_ble_eq_true rfl) (fun X C hR => ?_)
  have lp2 : ∀ p q a b c, s = nI p → f = nI a → t = nI q → o9 = nI c → nn = nI b → p ≤ 3 → q ≤ 3 → a + b ≤ 40 → c + b ≤ 40 → b ≤ 40 → a_copy (sp_shM σ) s f t o9 nn = .inr (nI b) → n_copyM σ s f t o9 nn = sp_cpM σ (40 * p + a) (40 * q + c) b b → ∀ n k, k ≤ b → b - k < n → wj_J l V X 165 [some (.ref (V.2.2.1 48)), some (.int (nI p)), some (.int (nI a)), some (.int (nI q)), some (.int (nI c)), some (.int (nI b)), some (.int (nI k))] [] (sp_mq (sp_cpM σ (40 * p + a) (40 * q + c) b k) A) := by
    intro p q a b c e1 e2 e3 e4 e5 hp hq hab hcb hb40 hfin hfn n
    subst e1
    subst e2
    subst e3
    subst e4
    subst e5
    induction n with
    | zero => intro k _ h; omega
    | succ n ih =>
      intro k hi hlt9
      refine wj_iload C dX5_copy_165 rfl ?_
      refine wj_iload C dX5_copy_167 rfl ?_
      refine wj_icmp_ge C 200 dX5_copy_169 (by decide) (fun h169 => ?_) (fun h169 => ?_)
      · have e9 := wj_ge (N := b) (by omega) hi h169
        subst e9
        refine wj_iload C dX5_copy_200 rfl ?_
        exact hR _ _ _ _ _ dX5_copy_202 (sp_rvM hfin rfl hfn) wj_rfl
      · have hlt := wj_nge (N := b) (by omega) hi h169
        refine wj_aload_n C 0 dX5_copy_172 rfl rfl ?_
        refine wg_X5_54 C dX5_copy_173 ?_
        refine wj_bipush (v := 40) C dX5_copy_176 (by decide) ?_
        refine wj_iload_n C 3 dX5_copy_178 rfl rfl ?_
        refine wj_imul C dX5_copy_179 ?_
        refine wj_top (y := nI (40 * q)) (pk_mul 40 q) ?_
        refine wj_iload C dX5_copy_180 rfl ?_
        refine wj_iadd C dX5_copy_182 ?_
        refine wj_top (y := nI (40 * q + c)) (nI_add (40 * q) c) ?_
        refine wj_iload C dX5_copy_183 rfl ?_
        refine wj_iadd C dX5_copy_185 ?_
        refine wj_top (y := nI (40 * q + c + k)) (nI_add (40 * q + c) k) ?_
        refine wj_aload_n C 0 dX5_copy_186 rfl rfl ?_
        refine wg_X5_57 C dX5_copy_187 ?_
        refine wj_iload C dX5_copy_190 rfl ?_
        refine wj_ialdN C dX5_copy_192 ar_moved ⟨by omega, by decide⟩ ?_
        rw [sp_mq_o (by decide), sp_cpM, wj_r_ne (by decide), wj_r_same]
        refine wj_iastN C dX5_copy_193 ar_mnumbers ⟨by omega, by decide⟩ ?_
        rw [sp_mq_u9 (by decide), wj_uu]
        have ev : upd (va_cpy (sp_mv σ (40 * p + a) b) (σ 57) 0 (40 * q + c) k) (40 * q + c + k) (sp_mv σ (40 * p + a) b k) = va_cpy (sp_mv σ (40 * p + a) b) (σ 57) 0 (40 * q + c) (k + 1) := by have := sp_vc_s (F := sp_mv σ (40 * p + a) b) (G := σ 57) (sp := 0) (dp := 40 * q + c) (k := k); rw [Nat.zero_add] at this; exact this
        rw [ev]
        refine wj_iinc C (v := nI (k + 1)) dX5_copy_194 rfl (wj_i1 k) (by decide) rfl ?_
        dsimp only [List.set]
        refine wj_goto C 165 dX5_copy_197 (by decide) ?_
        exact ih (k + 1) (by omega) (by omega)
  have lp : ∀ p q a b c, s = nI p → f = nI a → t = nI q → o9 = nI c → nn = nI b → p ≤ 3 → q ≤ 3 → a + b ≤ 40 → c + b ≤ 40 → b ≤ 40 → a_copy (sp_shM σ) s f t o9 nn = .inr (nI b) → n_copyM σ s f t o9 nn = sp_cpM σ (40 * p + a) (40 * q + c) b b → ∀ n k, k ≤ b → b - k < n → wj_J l V X 128 [some (.ref (V.2.2.1 48)), some (.int (nI p)), some (.int (nI a)), some (.int (nI q)), some (.int (nI c)), some (.int (nI b)), some (.int (nI k))] [] (sp_mq (wj_r σ 58 (sp_mv σ (40 * p + a) k)) A) := by
    intro p q a b c e1 e2 e3 e4 e5 hp hq hab hcb hb40 hfin hfn n
    subst e1
    subst e2
    subst e3
    subst e4
    subst e5
    induction n with
    | zero => intro k _ h; omega
    | succ n ih =>
      intro k hi hlt9
      refine wj_iload C dX5_copy_128 rfl ?_
      refine wj_iload C dX5_copy_130 rfl ?_
      refine wj_icmp_ge C 162 dX5_copy_132 (by decide) (fun h132 => ?_) (fun h132 => ?_)
      · have e9 := wj_ge (N := b) (by omega) hi h132
        subst e9
        refine wj_iconst (v := 0) C dX5_copy_162 (by decide) ?_
        refine wj_istore C dX5_copy_163 (by decide) rfl ?_
        dsimp only [List.set]
        exact (by have hh := lp2 p q a _ c rfl rfl rfl rfl rfl hp hq (by omega) (by omega) (by omega) hfin hfn (k + 1) 0 (by omega) (by omega); rw [sp_cpM, sp_vc_0, show σ 57 = (wj_r σ 58 (sp_mv σ (40 * p + a) k)) 57 from (wj_r_ne (by decide)).symm, wj_r_id] at hh; exact hh)
      · have hlt := wj_nge (N := b) (by omega) hi h132
        refine wj_aload_n C 0 dX5_copy_135 rfl rfl ?_
        refine wg_X5_57 C dX5_copy_136 ?_
        refine wj_iload C dX5_copy_139 rfl ?_
        refine wj_aload_n C 0 dX5_copy_141 rfl rfl ?_
        refine wg_X5_54 C dX5_copy_142 ?_
        refine wj_bipush (v := 40) C dX5_copy_145 (by decide) ?_
        refine wj_iload_n C 1 dX5_copy_147 rfl rfl ?_
        refine wj_imul C dX5_copy_148 ?_
        refine wj_top (y := nI (40 * p)) (pk_mul 40 p) ?_
        refine wj_iload_n C 2 dX5_copy_149 rfl rfl ?_
        refine wj_iadd C dX5_copy_150 ?_
        refine wj_top (y := nI (40 * p + a)) (nI_add (40 * p) a) ?_
        refine wj_iload C dX5_copy_151 rfl ?_
        refine wj_iadd C dX5_copy_153 ?_
        refine wj_top (y := nI (40 * p + a + k)) (nI_add (40 * p + a) k) ?_
        refine wj_ialdN C dX5_copy_154 ar_mnumbers ⟨by omega, by decide⟩ ?_
        rw [sp_mq_o (by decide), wj_r_ne (by decide)]
        refine wj_iastN C dX5_copy_155 ar_moved ⟨by omega, by decide⟩ ?_
        rw [sp_mq_u9 (by decide), wj_uu]
        have ev : upd (sp_mv σ (40 * p + a) k) k (σ 57 (40 * p + a + k)) = sp_mv σ (40 * p + a) (k + 1) := by have := sp_vc_s (F := σ 57) (G := σ 58) (sp := 40 * p + a) (dp := 0) (k := k); rw [Nat.zero_add] at this; exact this
        rw [ev]
        refine wj_iinc C (v := nI (k + 1)) dX5_copy_156 rfl (wj_i1 k) (by decide) rfl ?_
        dsimp only [List.set]
        refine wj_goto C 128 dX5_copy_159 (by decide) ?_
        exact ih (k + 1) (by omega) (by omega)
  refine wj_iload_n C 1 dX5_copy_0 rfl rfl ?_
  refine wj_cif C (wj_rS C dX5_copy_1 km_X5_isSheet kl_X5_207 (c_X5_isSheet l V) rfl rfl (Nat.le_of_ble_eq_true rfl) (by decide)) ?_
  refine wj_if_eq C 14 dX5_copy_4 (by decide) (fun h4 => ?_) (fun h4 => ?_)
  · refine wj_aload_n C 0 dX5_copy_14 rfl rfl ?_
    refine wj_ldc C dX5_copy_15 kc_X5_60 ?_
    refine wj_cif C (wj_rV C dX5_copy_17 km_X5_finding kl_X5_66 is_X5 rfl rfl (c_X5_finding (w := 0) l V (by decide) (by decide)) rfl rfl (Nat.le_of_ble_eq_true rfl) (by decide)) ?_
    exact hR _ _ _ _ _ dX5_copy_20 (sp_rfM (by rw [a_copy, if_neg (fun z => by first | exact wj_c0 h4 z.1 | exact wj_c0 h11 z.2)]) rfl (by rw [n_copyM, if_neg (fun z9 => (fun z => by first | exact wj_c0 h4 z.1 | exact wj_c0 h11 z.2) z9.1)]) (by decide)) wj_rfl
  · refine wj_iload_n C 3 dX5_copy_7 rfl rfl ?_
    refine wj_cif C (wj_rS C dX5_copy_8 km_X5_isSheet kl_X5_207 (c_X5_isSheet l V) rfl rfl (Nat.le_of_ble_eq_true rfl) (by decide)) ?_
    refine wj_if_ne C 21 dX5_copy_11 (by decide) (fun h11 => ?_) (fun h11 => ?_)
    · have h4a := wj_c1 h4
      have h11a := wj_c1 h11
      obtain ⟨p, hp, rfl⟩ := wj_natC (N := 3) h4a
      obtain ⟨q, hq, rfl⟩ := wj_natC (N := 3) h11a
      have hcp : (nI p).toNatClampNeg = p := nI_clamp (by omega)
      have hcq : (nI q).toNatClampNeg = q := nI_clamp (by omega)
      obtain ⟨mp, hp40, hmp⟩ := hH p (by omega)
      obtain ⟨mq, hq40, hmq⟩ := hH q (by omega)
      refine wj_aload_n C 0 dX5_copy_21 rfl rfl ?_
      refine wg_X5_48 C dX5_copy_22 ?_
      refine wj_iload_n C 1 dX5_copy_25 rfl rfl ?_
      refine wj_ialdN C dX5_copy_26 ar_widths ⟨by omega, by decide⟩ ?_
      rw [sp_mq_o (by decide)]
      refine wj_if_eq C 39 dX5_copy_27 (by decide) (fun h27 => ?_) (fun h27 => ?_)
      · have hmis : (sp_shM σ).1 p = 0 ∨ (sp_shM σ).1 q = 0 := Or.inl h27
        refine wj_aload_n C 0 dX5_copy_39 rfl rfl ?_
        refine wj_ldc C dX5_copy_40 kc_X5_210 ?_
        refine wj_cif C (wj_rV C dX5_copy_42 km_X5_finding kl_X5_66 is_X5 rfl rfl (c_X5_finding (w := 5) l V (by decide) (by decide)) rfl rfl (Nat.le_of_ble_eq_true rfl) (by decide)) ?_
        exact hR _ _ _ _ _ dX5_copy_45 (sp_rfM (by rw [a_copy, if_pos ⟨h4a, h11a⟩, hcp, hcq, if_pos hmis]) rfl (by rw [n_copyM, if_neg (fun z => z.2.1 (by rw [hcp, hcq]; exact hmis))]) (by decide)) wj_rfl
      · refine wj_aload_n C 0 dX5_copy_30 rfl rfl ?_
        refine wg_X5_48 C dX5_copy_31 ?_
        refine wj_iload_n C 3 dX5_copy_34 rfl rfl ?_
        refine wj_ialdN C dX5_copy_35 ar_widths ⟨by omega, by decide⟩ ?_
        rw [sp_mq_o (by decide)]
        refine wj_if_ne C 46 dX5_copy_36 (by decide) (fun h36 => ?_) (fun h36 => ?_)
        · have hmis : ¬ ((sp_shM σ).1 p = 0 ∨ (sp_shM σ).1 q = 0) := fun z => z.elim h27 h36
          refine wj_aload_n C 0 dX5_copy_46 rfl rfl ?_
          refine wg_X5_48 C dX5_copy_47 ?_
          refine wj_iload_n C 1 dX5_copy_50 rfl rfl ?_
          refine wj_ialdN C dX5_copy_51 ar_widths ⟨by omega, by decide⟩ ?_
          rw [sp_mq_o (by decide)]
          refine wj_aload_n C 0 dX5_copy_52 rfl rfl ?_
          refine wg_X5_48 C dX5_copy_53 ?_
          refine wj_iload_n C 3 dX5_copy_56 rfl rfl ?_
          refine wj_ialdN C dX5_copy_57 ar_widths ⟨by omega, by decide⟩ ?_
          rw [sp_mq_o (by decide)]
          refine wj_icmp_eq C 69 dX5_copy_58 (by decide) (fun h58 => ?_) (fun h58 => ?_)
          · have hkk : (sp_shM σ).1 p = (sp_shM σ).1 q := h58
            refine wj_iload_n C 2 dX5_copy_69 rfl rfl ?_
            refine wj_if_lt C 118 dX5_copy_70 (by decide) (fun h70 => ?_) (fun h70 => ?_)
            · have hno : ¬ (sp_ft f nn ((sp_shM σ).2.1 p) ∧ sp_ft o9 nn ((sp_shM σ).2.1 q)) := fun z => Int32.not_lt.mpr z.1.1 h70
              refine wj_aload_n C 0 dX5_copy_118 rfl rfl ?_
              refine wj_ldc C dX5_copy_119 kc_X5_60 ?_
              refine wj_cif C (wj_rV C dX5_copy_121 km_X5_finding kl_X5_66 is_X5 rfl rfl (c_X5_finding (w := 0) l V (by decide) (by decide)) rfl rfl (Nat.le_of_ble_eq_true rfl) (by decide)) ?_
              exact hR _ _ _ _ _ dX5_copy_124 (sp_rfM (by rw [a_copy, if_pos ⟨h4a, h11a⟩, hcp, hcq, if_neg hmis, if_pos hkk, if_neg hno]) rfl (by rw [n_copyM, if_neg (fun z => hno (by have := z.2.2.2; rw [hcp, hcq] at this; exact this))]) (by decide)) wj_rfl
            · refine wj_iload C dX5_copy_73 rfl ?_
              refine wj_if_lt C 118 dX5_copy_75 (by decide) (fun h75 => ?_) (fun h75 => ?_)
              · have hno : ¬ (sp_ft f nn ((sp_shM σ).2.1 p) ∧ sp_ft o9 nn ((sp_shM σ).2.1 q)) := fun z => Int32.not_lt.mpr z.2.1 h75
                refine wj_aload_n C 0 dX5_copy_118 rfl rfl ?_
                refine wj_ldc C dX5_copy_119 kc_X5_60 ?_
                refine wj_cif C (wj_rV C dX5_copy_121 km_X5_finding kl_X5_66 is_X5 rfl rfl (c_X5_finding (w := 0) l V (by decide) (by decide)) rfl rfl (Nat.le_of_ble_eq_true rfl) (by decide)) ?_
                exact hR _ _ _ _ _ dX5_copy_124 (sp_rfM (by rw [a_copy, if_pos ⟨h4a, h11a⟩, hcp, hcq, if_neg hmis, if_pos hkk, if_neg hno]) rfl (by rw [n_copyM, if_neg (fun z => hno (by have := z.2.2.2; rw [hcp, hcq] at this; exact this))]) (by decide)) wj_rfl
              · refine wj_iload C dX5_copy_78 rfl ?_
                refine wj_if_lt C 118 dX5_copy_80 (by decide) (fun h80 => ?_) (fun h80 => ?_)
                · have hno : ¬ (sp_ft f nn ((sp_shM σ).2.1 p) ∧ sp_ft o9 nn ((sp_shM σ).2.1 q)) := fun z => Int32.not_lt.mpr z.1.2.1 h80
                  refine wj_aload_n C 0 dX5_copy_118 rfl rfl ?_
                  refine wj_ldc C dX5_copy_119 kc_X5_60 ?_
                  refine wj_cif C (wj_rV C dX5_copy_121 km_X5_finding kl_X5_66 is_X5 rfl rfl (c_X5_finding (w := 0) l V (by decide) (by decide)) rfl rfl (Nat.le_of_ble_eq_true rfl) (by decide)) ?_
                  exact hR _ _ _ _ _ dX5_copy_124 (sp_rfM (by rw [a_copy, if_pos ⟨h4a, h11a⟩, hcp, hcq, if_neg hmis, if_pos hkk, if_neg hno]) rfl (by rw [n_copyM, if_neg (fun z => hno (by have := z.2.2.2; rw [hcp, hcq] at this; exact this))]) (by decide)) wj_rfl
                · obtain ⟨a, ha, rfl⟩ := sp_nn h70
                  obtain ⟨c, hc, rfl⟩ := sp_nn h75
                  obtain ⟨b, hb, rfl⟩ := sp_nn h80
                  refine wj_iload_n C 2 dX5_copy_83 rfl rfl ?_
                  refine wj_i2l C dX5_copy_84 ?_
                  refine wj_iload C dX5_copy_85 rfl ?_
                  refine wj_i2l C dX5_copy_87 ?_
                  refine wj_ladd C dX5_copy_88 ?_
                  refine wj_aload_n C 0 dX5_copy_89 rfl rfl ?_
                  refine wg_X5_51 C dX5_copy_90 ?_
                  refine wj_iload_n C 1 dX5_copy_93 rfl rfl ?_
                  refine wj_ialdN C dX5_copy_94 ar_sizes ⟨by omega, by decide⟩ ?_
                  rw [sp_mq_o (by decide), show σ 56 p = nI mp from hmp]
                  refine wj_i2l C dX5_copy_95 ?_
                  refine wj_lcmp C dX5_copy_96 ?_
                  refine wj_if_gt C 118 dX5_copy_97 (by decide) (fun h97 => ?_) (fun h97 => ?_)
                  · have h97a := (sp_fit ha hb hp40).mp h97
                    have hno : ¬ (sp_ft (nI a) (nI b) ((sp_shM σ).2.1 p) ∧ sp_ft (nI c) (nI b) ((sp_shM σ).2.1 q)) := fun z => by
                      have := sp_ft_o ha hb hp40 (hmp ▸ z.1)
                      omega
                    refine wj_aload_n C 0 dX5_copy_118 rfl rfl ?_
                    refine wj_ldc C dX5_copy_119 kc_X5_60 ?_
                    refine wj_cif C (wj_rV C dX5_copy_121 km_X5_finding kl_X5_66 is_X5 rfl rfl (c_X5_finding (w := 0) l V (by decide) (by decide)) rfl rfl (Nat.le_of_ble_eq_true rfl) (by decide)) ?_
                    exact hR _ _ _ _ _ dX5_copy_124 (sp_rfM (by rw [a_copy, if_pos ⟨h4a, h11a⟩, hcp, hcq, if_neg hmis, if_pos hkk, if_neg hno]) rfl (by rw [n_copyM, if_neg (fun z => hno (by have := z.2.2.2; rw [hcp, hcq] at this; exact this))]) (by decide)) wj_rfl
                  · have h97a : a + b ≤ mp := by
                      rcases Nat.lt_or_ge mp (a + b) with z | z
                      · exact absurd ((sp_fit ha hb hp40).mpr z) h97
                      · exact z
                    refine wj_iload C dX5_copy_100 rfl ?_
                    refine wj_i2l C dX5_copy_102 ?_
                    refine wj_iload C dX5_copy_103 rfl ?_
                    refine wj_i2l C dX5_copy_105 ?_
                    refine wj_ladd C dX5_copy_106 ?_
                    refine wj_aload_n C 0 dX5_copy_107 rfl rfl ?_
                    refine wg_X5_51 C dX5_copy_108 ?_
                    refine wj_iload_n C 3 dX5_copy_111 rfl rfl ?_
                    refine wj_ialdN C dX5_copy_112 ar_sizes ⟨by omega, by decide⟩ ?_
                    rw [sp_mq_o (by decide), show σ 56 q = nI mq from hmq]
                    refine wj_i2l C dX5_copy_113 ?_
                    refine wj_lcmp C dX5_copy_114 ?_
                    refine wj_if_le C 125 dX5_copy_115 (by decide) (fun h115 => ?_) (fun h115 => ?_)
                    · have h115a := (sp_fit2 hc hb hq40).mp h115
                      have f1 : sp_ft (nI a) (nI b) ((sp_shM σ).2.1 p) := by rw [hmp]; exact sp_ft_i hp40 h97a
                      have f2 : sp_ft (nI c) (nI b) ((sp_shM σ).2.1 q) := by rw [hmq]; exact sp_ft_i hq40 h115a
                      have hfin : a_copy (sp_shM σ) (nI p) (nI a) (nI q) (nI c) (nI b) = .inr (nI b) := by rw [a_copy, if_pos ⟨h4a, h11a⟩, hcp, hcq, if_neg hmis, if_pos hkk, if_pos ⟨f1, f2⟩]
                      have hfn : n_copyM σ (nI p) (nI a) (nI q) (nI c) (nI b) = sp_cpM σ (40 * p + a) (40 * q + c) b b := by rw [n_copyM, if_pos ⟨⟨h4a, h11a⟩, (by rw [hcp, hcq]; exact hmis), (by rw [hcp, hcq]; exact hkk), (by rw [hcp]; exact f1), (by rw [hcq]; exact f2)⟩, hcp, hcq, nI_clamp ha, nI_clamp hb, nI_clamp hc]
                      refine wj_iconst (v := 0) C dX5_copy_125 (by decide) ?_
                      refine wj_istore C dX5_copy_126 (by decide) rfl ?_
                      dsimp only [List.set]
                      exact (by have hh := lp p q a b c rfl rfl rfl rfl rfl (by omega) (by omega) (by omega) (by omega) (by omega) hfin hfn (b + 1) 0 (by omega) (by omega); rw [sp_mv, sp_vc_0, wj_r_id] at hh; exact hh)
                    · have hno : ¬ (sp_ft (nI a) (nI b) ((sp_shM σ).2.1 p) ∧ sp_ft (nI c) (nI b) ((sp_shM σ).2.1 q)) := fun z => h115 ((sp_fit2 hc hb hq40).mpr (sp_ft_o hc hb hq40 (hmq ▸ z.2)))
                      refine wj_aload_n C 0 dX5_copy_118 rfl rfl ?_
                      refine wj_ldc C dX5_copy_119 kc_X5_60 ?_
                      refine wj_cif C (wj_rV C dX5_copy_121 km_X5_finding kl_X5_66 is_X5 rfl rfl (c_X5_finding (w := 0) l V (by decide) (by decide)) rfl rfl (Nat.le_of_ble_eq_true rfl) (by decide)) ?_
                      exact hR _ _ _ _ _ dX5_copy_124 (sp_rfM (by rw [a_copy, if_pos ⟨h4a, h11a⟩, hcp, hcq, if_neg hmis, if_pos hkk, if_neg hno]) rfl (by rw [n_copyM, if_neg (fun z => hno (by have := z.2.2.2; rw [hcp, hcq] at this; exact this))]) (by decide)) wj_rfl
          · have hkk : ¬ (sp_shM σ).1 p = (sp_shM σ).1 q := h58
            refine wj_aload_n C 0 dX5_copy_61 rfl rfl ?_
            refine wj_ldcw C dX5_copy_62 kc_X5_318 ?_
            refine wj_cif C (wj_rV C dX5_copy_65 km_X5_finding kl_X5_66 is_X5 rfl rfl (c_X5_finding (w := 2) l V (by decide) (by decide)) rfl rfl (Nat.le_of_ble_eq_true rfl) (by decide)) ?_
            exact hR _ _ _ _ _ dX5_copy_68 (sp_rfM (by rw [a_copy, if_pos ⟨h4a, h11a⟩, hcp, hcq, if_neg hmis, if_neg hkk]) rfl (by rw [n_copyM, if_neg (fun z => hkk (by have := z.2.2.1; rw [hcp, hcq] at this; exact this))]) (by decide)) wj_rfl
        · have hmis : (sp_shM σ).1 p = 0 ∨ (sp_shM σ).1 q = 0 := Or.inr h36
          refine wj_aload_n C 0 dX5_copy_39 rfl rfl ?_
          refine wj_ldc C dX5_copy_40 kc_X5_210 ?_
          refine wj_cif C (wj_rV C dX5_copy_42 km_X5_finding kl_X5_66 is_X5 rfl rfl (c_X5_finding (w := 5) l V (by decide) (by decide)) rfl rfl (Nat.le_of_ble_eq_true rfl) (by decide)) ?_
          exact hR _ _ _ _ _ dX5_copy_45 (sp_rfM (by rw [a_copy, if_pos ⟨h4a, h11a⟩, hcp, hcq, if_pos hmis]) rfl (by rw [n_copyM, if_neg (fun z => z.2.1 (by rw [hcp, hcq]; exact hmis))]) (by decide)) wj_rfl
    · refine wj_aload_n C 0 dX5_copy_14 rfl rfl ?_
      refine wj_ldc C dX5_copy_15 kc_X5_60 ?_
      refine wj_cif C (wj_rV C dX5_copy_17 km_X5_finding kl_X5_66 is_X5 rfl rfl (c_X5_finding (w := 0) l V (by decide) (by decide)) rfl rfl (Nat.le_of_ble_eq_true rfl) (by decide)) ?_
      exact hR _ _ _ _ _ dX5_copy_20 (sp_rfM (by rw [a_copy, if_neg (fun z => by first | exact wj_c0 h4 z.1 | exact wj_c0 h11 z.2)]) rfl (by rw [n_copyM, if_neg (fun z9 => (fun z => by first | exact wj_c0 h4 z.1 | exact wj_c0 h11 z.2) z9.1)]) (by decide)) wj_rfl

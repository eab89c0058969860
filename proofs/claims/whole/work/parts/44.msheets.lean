def sp_fj (f : Nat → Int32) (t j : Nat) : Nat → Int32 := fun k => if 40 * t ≤ k ∧ k < 40 * t + j then 0 else f k
theorem sp_fj_0 {f : Nat → Int32} {t : Nat} : sp_fj f t 0 = f := funext fun k => if_neg (by omega)
theorem sp_fj_s {f : Nat → Int32} {t j : Nat} : upd (sp_fj f t j) (40 * t + j) 0 = sp_fj f t (j + 1) := by
  funext k
  simp only [upd, sp_fj]
  by_cases h : k = 40 * t + j
  · subst h; rw [if_pos rfl, if_pos (by omega)]
  · rw [if_neg h]
    by_cases h2 : 40 * t ≤ k ∧ k < 40 * t + j
    · rw [if_pos h2, if_pos (by omega)]
    · rw [if_neg h2, if_neg (by omega)]
def sp_renM (σ : wj_St) (t : Nat) (b n : Int32) (j : Nat) : wj_St := wj_r (wj_u (wj_u σ 55 t b) 56 t (if b = 0 then 0 else n)) 57 (sp_fj (σ 57) t j)
def n_sheetM (σ : wj_St) (s b n : Int32) : wj_St := if sp_ok6 s b n = true then sp_renM σ s.toNatClampNeg b n 40 else σ
def n_writeM (σ : wj_St) (s i v : Int32) : wj_St := if sp_wok (sp_shM σ) s i then wj_u σ 57 (40 * s.toNatClampNeg + i.toNatClampNeg) (sp_cut v (σ 55 s.toNatClampNeg)) else σ
theorem sp_renM_0 {σ : wj_St} {t : Nat} {b n : Int32} : sp_renM σ t b n 0 = wj_u (wj_u σ 55 t b) 56 t (if b = 0 then 0 else n) := by
  rw [sp_renM, sp_fj_0]
  have : σ 57 = (wj_u (wj_u σ 55 t b) 56 t (if b = 0 then 0 else n)) 57 := by rw [wj_u_ne (by decide), wj_u_ne (by decide)]
  rw [this, wj_r_id]
theorem sp_renM_s {σ : wj_St} {t j : Nat} {b n : Int32} : wj_u (sp_renM σ t b n j) 57 (40 * t + j) 0 = sp_renM σ t b n (j + 1) := by
  rw [sp_renM, wj_uu, sp_fj_s, sp_renM]
set_option maxRecDepth 100000 in
set_option maxHeartbeats 4000000 in
theorem c_X5_sheet (l : Launch) (V : wj_V) {σ : wj_St} {A : sp_L} {N y : Nat} {s b nn : Int32} (hG : sp_G A N y) (hy : y < 90000) : wj_M l V yX5_sheet cX5_sheet 5 (some .int) 2 42 [.ref (V.2.2.1 48), .int s, .int b, .int nn] (sp_mq σ A) (wj_QI V (fun r u => r = sp_v (a_sheet s b nn) ∧ ∃ g, u = sp_mq (wj_r (sp_fw (n_sheetM σ s b nn) (a_sheet s b nn)) 51 g) A)) := by
  refine wj_ofI (own := RX5) [some (.ref (V.2.2.1 48)), some (.int s), some (.int b), some (.int nn), none] (by decide) rfl rfl (Nat.le_of_ble_eq_true rfl) (fun X C hR => ?_)
  have lp : ∀ t, s = nI t → t ≤ 3 → (0 ≤ nI t ∧ nI t ≤ 3) → (b = 0 ∨ b = 8 ∨ b = 16 ∨ b = 32) → ¬ nn < 0 → nn ≤ 40 → ∀ n j, j ≤ 40 → 40 - j < n → wj_J l V X 86 [some (.ref (V.2.2.1 48)), some (.int (nI t)), some (.int b), some (.int nn), some (.int (nI j))] [] (sp_mq (sp_renM σ t b nn j) A) := by
    intro t hst ht h4a hbk hn0 h40n n
    subst hst
    induction n with
    | zero => intro j _ h; omega
    | succ n ih =>
      intro j hi hlt9
      refine wj_iload C dX5_sheet_86 rfl ?_
      refine wj_bipush (v := 40) C dX5_sheet_88 (by decide) ?_
      refine wj_icmp_ge C 112 dX5_sheet_90 (by decide) (fun h90 => ?_) (fun h90 => ?_)
      · have e9 := wj_ge (N := 40) (by decide) hi h90
        subst e9
        refine wj_aload_n C 0 dX5_sheet_112 rfl rfl ?_
        refine wg_X5_51 C dX5_sheet_113 ?_
        refine wj_iload_n C 1 dX5_sheet_116 rfl rfl ?_
        refine wj_ialdN C dX5_sheet_117 ar_sizes ⟨by omega, by decide⟩ ?_
        refine wj_top (y := if b = 0 then 0 else nn) (by rw [sp_mq_o (by decide), sp_renM, wj_r_ne (by decide), wj_u_same]; simp [upd]) ?_
        exact hR _ _ _ _ _ dX5_sheet_118 (sp_rvM (by rw [a_sheet, if_pos ⟨h4a, hbk⟩, if_neg hn0, if_pos h40n]) rfl (by rw [n_sheetM, sp_ok6, decide_eq_true ⟨⟨h4a, hbk⟩, hn0, h40n⟩, if_pos rfl, nI_clamp (by omega)])) wj_rfl
      · have hlt := wj_nge (N := 40) (by decide) hi h90
        refine wj_aload_n C 0 dX5_sheet_93 rfl rfl ?_
        refine wg_X5_54 C dX5_sheet_94 ?_
        refine wj_bipush (v := 40) C dX5_sheet_97 (by decide) ?_
        refine wj_iload_n C 1 dX5_sheet_99 rfl rfl ?_
        refine wj_imul C dX5_sheet_100 ?_
        refine wj_top (y := nI (40 * t)) (pk_mul 40 t) ?_
        refine wj_iload C dX5_sheet_101 rfl ?_
        refine wj_iadd C dX5_sheet_103 ?_
        refine wj_top (y := nI (40 * t + j)) (nI_add (40 * t) j) ?_
        refine wj_iconst (v := 0) C dX5_sheet_104 (by decide) ?_
        refine wj_iastN C dX5_sheet_105 ar_mnumbers ⟨by omega, by decide⟩ ?_
        rw [sp_mq_u9 (by decide), sp_renM_s]
        refine wj_iinc C (v := nI (j + 1)) dX5_sheet_106 rfl (wj_i1 j) (by decide) rfl ?_
        dsimp only [List.set]
        refine wj_goto C 86 dX5_sheet_109 (by decide) ?_
        exact ih (j + 1) (by omega) (by omega)
  refine wj_iload_n C 1 dX5_sheet_0 rfl rfl ?_
  refine wj_cif C (wj_rS C dX5_sheet_1 km_X5_isSheet kl_X5_207 (c_X5_isSheet l V) rfl rfl (Nat.le_of_ble_eq_true rfl) (by decide)) ?_
  refine wj_if_eq C 29 dX5_sheet_4 (by decide) (fun h4 => ?_) (fun h4 => ?_)
  · refine wj_aload_n C 0 dX5_sheet_29 rfl rfl ?_
    refine wj_ldc C dX5_sheet_30 kc_X5_60 ?_
    refine wj_cif C (wj_rV C dX5_sheet_32 km_X5_finding kl_X5_66 is_X5 rfl rfl (c_X5_finding (w := 0) l V (by decide) (by decide)) rfl rfl (Nat.le_of_ble_eq_true rfl) (by decide)) ?_
    exact hR _ _ _ _ _ dX5_sheet_35 (sp_rfM (by rw [a_sheet, if_neg (fun q => by first | exact wj_c0 h4 q.1 | exact q.2.elim h8 (fun q1 => q1.elim h14 (fun q2 => q2.elim h20 h26)))]) rfl (by rw [n_sheetM, sp_ok6, decide_eq_false (fun q9 => (fun q => by first | exact wj_c0 h4 q.1 | exact q.2.elim h8 (fun q1 => q1.elim h14 (fun q2 => q2.elim h20 h26))) q9.1)]; rfl) (by decide)) wj_rfl
  · have h4a := wj_c1 h4
    obtain ⟨t, ht, rfl⟩ := wj_natC (N := 3) h4a
    have hct : (nI t).toNatClampNeg = t := nI_clamp (by omega)
    refine wj_iload_n C 2 dX5_sheet_7 rfl rfl ?_
    refine wj_if_eq C 36 dX5_sheet_8 (by decide) (fun h8 => ?_) (fun h8 => ?_)
    · have hbk : b = 0 ∨ b = 8 ∨ b = 16 ∨ b = 32 := by first | exact Or.inl h8 | exact Or.inr (Or.inl h14) | exact Or.inr (Or.inr (Or.inl h20)) | exact Or.inr (Or.inr (Or.inr h26))
      refine wj_iload_n C 3 dX5_sheet_36 rfl rfl ?_
      refine wj_if_ge C 48 dX5_sheet_37 (by decide) (fun h37 => ?_) (fun h37 => ?_)
      · refine wj_iload_n C 3 dX5_sheet_48 rfl rfl ?_
        refine wj_bipush (v := 40) C dX5_sheet_49 (by decide) ?_
        refine wj_icmp_le C 61 dX5_sheet_51 (by decide) (fun h51 => ?_) (fun h51 => ?_)
        · refine wj_aload_n C 0 dX5_sheet_61 rfl rfl ?_
          refine wg_X5_48 C dX5_sheet_62 ?_
          refine wj_iload_n C 1 dX5_sheet_65 rfl rfl ?_
          refine wj_iload_n C 2 dX5_sheet_66 rfl rfl ?_
          refine wj_iastN C dX5_sheet_67 ar_widths ⟨by omega, by decide⟩ ?_
          rw [sp_mq_u9 (by decide)]
          refine wj_aload_n C 0 dX5_sheet_68 rfl rfl ?_
          refine wg_X5_51 C dX5_sheet_69 ?_
          refine wj_iload_n C 1 dX5_sheet_72 rfl rfl ?_
          refine wj_iload_n C 2 dX5_sheet_73 rfl rfl ?_
          refine wj_if_ne C 81 dX5_sheet_74 (by decide) (fun h74 => ?_) (fun h74 => ?_)
          · have hbv : nn = if b = 0 then 0 else nn := (if_neg h74).symm
            refine wj_iload_n C 3 dX5_sheet_81 rfl rfl ?_
            refine wj_top (y := if b = 0 then 0 else nn) hbv ?_
            refine wj_iastN C dX5_sheet_82 ar_sizes ⟨by omega, by decide⟩ ?_
            rw [sp_mq_u9 (by decide)]
            refine wj_iconst (v := 0) C dX5_sheet_83 (by decide) ?_
            refine wj_istore C dX5_sheet_84 (by decide) rfl ?_
            dsimp only [List.set]
            exact (by have hh := lp t rfl ht h4a hbk (Int32.not_lt.mpr h37) h51 41 0 (by omega) (by omega); rw [sp_renM_0] at hh; exact hh)
          · have hbv : (0 : Int32) = if b = 0 then 0 else nn := (if_pos h74).symm
            refine wj_iconst (v := 0) C dX5_sheet_77 (by decide) ?_
            refine wj_goto C 82 dX5_sheet_78 (by decide) ?_
            refine wj_top (y := if b = 0 then 0 else nn) hbv ?_
            refine wj_iastN C dX5_sheet_82 ar_sizes ⟨by omega, by decide⟩ ?_
            rw [sp_mq_u9 (by decide)]
            refine wj_iconst (v := 0) C dX5_sheet_83 (by decide) ?_
            refine wj_istore C dX5_sheet_84 (by decide) rfl ?_
            dsimp only [List.set]
            exact (by have hh := lp t rfl ht h4a hbk (Int32.not_lt.mpr h37) h51 41 0 (by omega) (by omega); rw [sp_renM_0] at hh; exact hh)
        · refine wj_aload_n C 0 dX5_sheet_54 rfl rfl ?_
          refine wj_ldc C dX5_sheet_55 kc_X5_60 ?_
          refine wj_cif C (wj_rV C dX5_sheet_57 km_X5_finding kl_X5_66 is_X5 rfl rfl (c_X5_finding (w := 0) l V (by decide) (by decide)) rfl rfl (Nat.le_of_ble_eq_true rfl) (by decide)) ?_
          exact hR _ _ _ _ _ dX5_sheet_60 (sp_rfM (by rw [a_sheet, if_pos ⟨h4a, hbk⟩, if_neg (Int32.not_lt.mpr h37), if_neg h51]) rfl (by rw [n_sheetM, sp_ok6, decide_eq_false (fun q9 => h51 q9.2.2)]; rfl) (by decide)) wj_rfl
      · refine wj_aload_n C 0 dX5_sheet_40 rfl rfl ?_
        refine wj_ldcw C dX5_sheet_41 kc_X5_319 ?_
        refine wj_cif C (wj_rV C dX5_sheet_44 km_X5_finding kl_X5_66 is_X5 rfl rfl (c_X5_finding (w := 6) l V (by decide) (by decide)) rfl rfl (Nat.le_of_ble_eq_true rfl) (by decide)) ?_
        exact hR _ _ _ _ _ dX5_sheet_47 (sp_rfM (by rw [a_sheet, if_pos ⟨h4a, hbk⟩, if_pos (Int32.not_le.mp h37)]) rfl (by rw [n_sheetM, sp_ok6, decide_eq_false (fun q9 => q9.2.1 (Int32.not_le.mp h37))]; rfl) (by decide)) wj_rfl
    · refine wj_iload_n C 2 dX5_sheet_11 rfl rfl ?_
      refine wj_bipush (v := 8) C dX5_sheet_12 (by decide) ?_
      refine wj_icmp_eq C 36 dX5_sheet_14 (by decide) (fun h14 => ?_) (fun h14 => ?_)
      · have hbk : b = 0 ∨ b = 8 ∨ b = 16 ∨ b = 32 := by first | exact Or.inl h8 | exact Or.inr (Or.inl h14) | exact Or.inr (Or.inr (Or.inl h20)) | exact Or.inr (Or.inr (Or.inr h26))
        refine wj_iload_n C 3 dX5_sheet_36 rfl rfl ?_
        refine wj_if_ge C 48 dX5_sheet_37 (by decide) (fun h37 => ?_) (fun h37 => ?_)
        · refine wj_iload_n C 3 dX5_sheet_48 rfl rfl ?_
          refine wj_bipush (v := 40) C dX5_sheet_49 (by decide) ?_
          refine wj_icmp_le C 61 dX5_sheet_51 (by decide) (fun h51 => ?_) (fun h51 => ?_)
          · refine wj_aload_n C 0 dX5_sheet_61 rfl rfl ?_
            refine wg_X5_48 C dX5_sheet_62 ?_
            refine wj_iload_n C 1 dX5_sheet_65 rfl rfl ?_
            refine wj_iload_n C 2 dX5_sheet_66 rfl rfl ?_
            refine wj_iastN C dX5_sheet_67 ar_widths ⟨by omega, by decide⟩ ?_
            rw [sp_mq_u9 (by decide)]
            refine wj_aload_n C 0 dX5_sheet_68 rfl rfl ?_
            refine wg_X5_51 C dX5_sheet_69 ?_
            refine wj_iload_n C 1 dX5_sheet_72 rfl rfl ?_
            refine wj_iload_n C 2 dX5_sheet_73 rfl rfl ?_
            refine wj_if_ne C 81 dX5_sheet_74 (by decide) (fun h74 => ?_) (fun h74 => ?_)
            · have hbv : nn = if b = 0 then 0 else nn := (if_neg h74).symm
              refine wj_iload_n C 3 dX5_sheet_81 rfl rfl ?_
              refine wj_top (y := if b = 0 then 0 else nn) hbv ?_
              refine wj_iastN C dX5_sheet_82 ar_sizes ⟨by omega, by decide⟩ ?_
              rw [sp_mq_u9 (by decide)]
              refine wj_iconst (v := 0) C dX5_sheet_83 (by decide) ?_
              refine wj_istore C dX5_sheet_84 (by decide) rfl ?_
              dsimp only [List.set]
              exact (by have hh := lp t rfl ht h4a hbk (Int32.not_lt.mpr h37) h51 41 0 (by omega) (by omega); rw [sp_renM_0] at hh; exact hh)
            · have hbv : (0 : Int32) = if b = 0 then 0 else nn := (if_pos h74).symm
              refine wj_iconst (v := 0) C dX5_sheet_77 (by decide) ?_
              refine wj_goto C 82 dX5_sheet_78 (by decide) ?_
              refine wj_top (y := if b = 0 then 0 else nn) hbv ?_
              refine wj_iastN C dX5_sheet_82 ar_sizes ⟨by omega, by decide⟩ ?_
              rw [sp_mq_u9 (by decide)]
              refine wj_iconst (v := 0) C dX5_sheet_83 (by decide) ?_
              refine wj_istore C dX5_sheet_84 (by decide) rfl ?_
              dsimp only [List.set]
              exact (by have hh := lp t rfl ht h4a hbk (Int32.not_lt.mpr h37) h51 41 0 (by omega) (by omega); rw [sp_renM_0] at hh; exact hh)
          · refine wj_aload_n C 0 dX5_sheet_54 rfl rfl ?_
            refine wj_ldc C dX5_sheet_55 kc_X5_60 ?_
            refine wj_cif C (wj_rV C dX5_sheet_57 km_X5_finding kl_X5_66 is_X5 rfl rfl (c_X5_finding (w := 0) l V (by decide) (by decide)) rfl rfl (Nat.le_of_ble_eq_true rfl) (by decide)) ?_
            exact hR _ _ _ _ _ dX5_sheet_60 (sp_rfM (by rw [a_sheet, if_pos ⟨h4a, hbk⟩, if_neg (Int32.not_lt.mpr h37), if_neg h51]) rfl (by rw [n_sheetM, sp_ok6, decide_eq_false (fun q9 => h51 q9.2.2)]; rfl) (by decide)) wj_rfl
        · refine wj_aload_n C 0 dX5_sheet_40 rfl rfl ?_
          refine wj_ldcw C dX5_sheet_41 kc_X5_319 ?_
          refine wj_cif C (wj_rV C dX5_sheet_44 km_X5_finding kl_X5_66 is_X5 rfl rfl (c_X5_finding (w := 6) l V (by decide) (by decide)) rfl rfl (Nat.le_of_ble_eq_true rfl) (by decide)) ?_
          exact hR _ _ _ _ _ dX5_sheet_47 (sp_rfM (by rw [a_sheet, if_pos ⟨h4a, hbk⟩, if_pos (Int32.not_le.mp h37)]) rfl (by rw [n_sheetM, sp_ok6, decide_eq_false (fun q9 => q9.2.1 (Int32.not_le.mp h37))]; rfl) (by decide)) wj_rfl
      · refine wj_iload_n C 2 dX5_sheet_17 rfl rfl ?_
        refine wj_bipush (v := 16) C dX5_sheet_18 (by decide) ?_
        refine wj_icmp_eq C 36 dX5_sheet_20 (by decide) (fun h20 => ?_) (fun h20 => ?_)
        · have hbk : b = 0 ∨ b = 8 ∨ b = 16 ∨ b = 32 := by first | exact Or.inl h8 | exact Or.inr (Or.inl h14) | exact Or.inr (Or.inr (Or.inl h20)) | exact Or.inr (Or.inr (Or.inr h26))
          refine wj_iload_n C 3 dX5_sheet_36 rfl rfl ?_
          refine wj_if_ge C 48 dX5_sheet_37 (by decide) (fun h37 => ?_) (fun h37 => ?_)
          · refine wj_iload_n C 3 dX5_sheet_48 rfl rfl ?_
            refine wj_bipush (v := 40) C dX5_sheet_49 (by decide) ?_
            refine wj_icmp_le C 61 dX5_sheet_51 (by decide) (fun h51 => ?_) (fun h51 => ?_)
            · refine wj_aload_n C 0 dX5_sheet_61 rfl rfl ?_
              refine wg_X5_48 C dX5_sheet_62 ?_
              refine wj_iload_n C 1 dX5_sheet_65 rfl rfl ?_
              refine wj_iload_n C 2 dX5_sheet_66 rfl rfl ?_
              refine wj_iastN C dX5_sheet_67 ar_widths ⟨by omega, by decide⟩ ?_
              rw [sp_mq_u9 (by decide)]
              refine wj_aload_n C 0 dX5_sheet_68 rfl rfl ?_
              refine wg_X5_51 C dX5_sheet_69 ?_
              refine wj_iload_n C 1 dX5_sheet_72 rfl rfl ?_
              refine wj_iload_n C 2 dX5_sheet_73 rfl rfl ?_
              refine wj_if_ne C 81 dX5_sheet_74 (by decide) (fun h74 => ?_) (fun h74 => ?_)
              · have hbv : nn = if b = 0 then 0 else nn := (if_neg h74).symm
                refine wj_iload_n C 3 dX5_sheet_81 rfl rfl ?_
                refine wj_top (y := if b = 0 then 0 else nn) hbv ?_
                refine wj_iastN C dX5_sheet_82 ar_sizes ⟨by omega, by decide⟩ ?_
                rw [sp_mq_u9 (by decide)]
                refine wj_iconst (v := 0) C dX5_sheet_83 (by decide) ?_
                refine wj_istore C dX5_sheet_84 (by decide) rfl ?_
                dsimp only [List.set]
                exact (by have hh := lp t rfl ht h4a hbk (Int32.not_lt.mpr h37) h51 41 0 (by omega) (by omega); rw [sp_renM_0] at hh; exact hh)
              · have hbv : (0 : Int32) = if b = 0 then 0 else nn := (if_pos h74).symm
                refine wj_iconst (v := 0) C dX5_sheet_77 (by decide) ?_
                refine wj_goto C 82 dX5_sheet_78 (by decide) ?_
                refine wj_top (y := if b = 0 then 0 else nn) hbv ?_
                refine wj_iastN C dX5_sheet_82 ar_sizes ⟨by omega, by decide⟩ ?_
                rw [sp_mq_u9 (by decide)]
                refine wj_iconst (v := 0) C dX5_sheet_83 (by decide) ?_
                refine wj_istore C dX5_sheet_84 (by decide) rfl ?_
                dsimp only [List.set]
                exact (by have hh := lp t rfl ht h4a hbk (Int32.not_lt.mpr h37) h51 41 0 (by omega) (by omega); rw [sp_renM_0] at hh; exact hh)
            · refine wj_aload_n C 0 dX5_sheet_54 rfl rfl ?_
              refine wj_ldc C dX5_sheet_55 kc_X5_60 ?_
              refine wj_cif C (wj_rV C dX5_sheet_57 km_X5_finding kl_X5_66 is_X5 rfl rfl (c_X5_finding (w := 0) l V (by decide) (by decide)) rfl rfl (Nat.le_of_ble_eq_true rfl) (by decide)) ?_
              exact hR _ _ _ _ _ dX5_sheet_60 (sp_rfM (by rw [a_sheet, if_pos ⟨h4a, hbk⟩, if_neg (Int32.not_lt.mpr h37), if_neg h51]) rfl (by rw [n_sheetM, sp_ok6, decide_eq_false (fun q9 => h51 q9.2.2)]; rfl) (by decide)) wj_rfl
          · refine wj_aload_n C 0 dX5_sheet_40 rfl rfl ?_
            refine wj_ldcw C dX5_sheet_41 kc_X5_319 ?_
            refine wj_cif C (wj_rV C dX5_sheet_44 km_X5_finding kl_X5_66 is_X5 rfl rfl (c_X5_finding (w := 6) l V (by decide) (by decide)) rfl rfl (Nat.le_of_ble_eq_true rfl) (by decide)) ?_
            exact hR _ _ _ _ _ dX5_sheet_47 (sp_rfM (by rw [a_sheet, if_pos ⟨h4a, hbk⟩, if_pos (Int32.not_le.mp h37)]) rfl (by rw [n_sheetM, sp_ok6, decide_eq_false (fun q9 => q9.2.1 (Int32.not_le.mp h37))]; rfl) (by decide)) wj_rfl
        · refine wj_iload_n C 2 dX5_sheet_23 rfl rfl ?_
          refine wj_bipush (v := 32) C dX5_sheet_24 (by decide) ?_
          refine wj_icmp_eq C 36 dX5_sheet_26 (by decide) (fun h26 => ?_) (fun h26 => ?_)
          · have hbk : b = 0 ∨ b = 8 ∨ b = 16 ∨ b = 32 := by first | exact Or.inl h8 | exact Or.inr (Or.inl h14) | exact Or.inr (Or.inr (Or.inl h20)) | exact Or.inr (Or.inr (Or.inr h26))
            refine wj_iload_n C 3 dX5_sheet_36 rfl rfl ?_
            refine wj_if_ge C 48 dX5_sheet_37 (by decide) (fun h37 => ?_) (fun h37 => ?_)
            · refine wj_iload_n C 3 dX5_sheet_48 rfl rfl ?_
              refine wj_bipush (v := 40) C dX5_sheet_49 (by decide) ?_
              refine wj_icmp_le C 61 dX5_sheet_51 (by decide) (fun h51 => ?_) (fun h51 => ?_)
              · refine wj_aload_n C 0 dX5_sheet_61 rfl rfl ?_
                refine wg_X5_48 C dX5_sheet_62 ?_
                refine wj_iload_n C 1 dX5_sheet_65 rfl rfl ?_
                refine wj_iload_n C 2 dX5_sheet_66 rfl rfl ?_
                refine wj_iastN C dX5_sheet_67 ar_widths ⟨by omega, by decide⟩ ?_
                rw [sp_mq_u9 (by decide)]
                refine wj_aload_n C 0 dX5_sheet_68 rfl rfl ?_
                refine wg_X5_51 C dX5_sheet_69 ?_
                refine wj_iload_n C 1 dX5_sheet_72 rfl rfl ?_
                refine wj_iload_n C 2 dX5_sheet_73 rfl rfl ?_
                refine wj_if_ne C 81 dX5_sheet_74 (by decide) (fun h74 => ?_) (fun h74 => ?_)
                · have hbv : nn = if b = 0 then 0 else nn := (if_neg h74).symm
                  refine wj_iload_n C 3 dX5_sheet_81 rfl rfl ?_
                  refine wj_top (y := if b = 0 then 0 else nn) hbv ?_
                  refine wj_iastN C dX5_sheet_82 ar_sizes ⟨by omega, by decide⟩ ?_
                  rw [sp_mq_u9 (by decide)]
                  refine wj_iconst (v := 0) C dX5_sheet_83 (by decide) ?_
                  refine wj_istore C dX5_sheet_84 (by decide) rfl ?_
                  dsimp only [List.set]
                  exact (by have hh := lp t rfl ht h4a hbk (Int32.not_lt.mpr h37) h51 41 0 (by omega) (by omega); rw [sp_renM_0] at hh; exact hh)
                · have hbv : (0 : Int32) = if b = 0 then 0 else nn := (if_pos h74).symm
                  refine wj_iconst (v := 0) C dX5_sheet_77 (by decide) ?_
                  refine wj_goto C 82 dX5_sheet_78 (by decide) ?_
                  refine wj_top (y := if b = 0 then 0 else nn) hbv ?_
                  refine wj_iastN C dX5_sheet_82 ar_sizes ⟨by omega, by decide⟩ ?_
                  rw [sp_mq_u9 (by decide)]
                  refine wj_iconst (v := 0) C dX5_sheet_83 (by decide) ?_
                  refine wj_istore C dX5_sheet_84 (by decide) rfl ?_
                  dsimp only [List.set]
                  exact (by have hh := lp t rfl ht h4a hbk (Int32.not_lt.mpr h37) h51 41 0 (by omega) (by omega); rw [sp_renM_0] at hh; exact hh)
              · refine wj_aload_n C 0 dX5_sheet_54 rfl rfl ?_
                refine wj_ldc C dX5_sheet_55 kc_X5_60 ?_
                refine wj_cif C (wj_rV C dX5_sheet_57 km_X5_finding kl_X5_66 is_X5 rfl rfl (c_X5_finding (w := 0) l V (by decide) (by decide)) rfl rfl (Nat.le_of_ble_eq_true rfl) (by decide)) ?_
                exact hR _ _ _ _ _ dX5_sheet_60 (sp_rfM (by rw [a_sheet, if_pos ⟨h4a, hbk⟩, if_neg (Int32.not_lt.mpr h37), if_neg h51]) rfl (by rw [n_sheetM, sp_ok6, decide_eq_false (fun q9 => h51 q9.2.2)]; rfl) (by decide)) wj_rfl
            · refine wj_aload_n C 0 dX5_sheet_40 rfl rfl ?_
              refine wj_ldcw C dX5_sheet_41 kc_X5_319 ?_
              refine wj_cif C (wj_rV C dX5_sheet_44 km_X5_finding kl_X5_66 is_X5 rfl rfl (c_X5_finding (w := 6) l V (by decide) (by decide)) rfl rfl (Nat.le_of_ble_eq_true rfl) (by decide)) ?_
              exact hR _ _ _ _ _ dX5_sheet_47 (sp_rfM (by rw [a_sheet, if_pos ⟨h4a, hbk⟩, if_pos (Int32.not_le.mp h37)]) rfl (by rw [n_sheetM, sp_ok6, decide_eq_false (fun q9 => q9.2.1 (Int32.not_le.mp h37))]; rfl) (by decide)) wj_rfl
          · refine wj_aload_n C 0 dX5_sheet_29 rfl rfl ?_
            refine wj_ldc C dX5_sheet_30 kc_X5_60 ?_
            refine wj_cif C (wj_rV C dX5_sheet_32 km_X5_finding kl_X5_66 is_X5 rfl rfl (c_X5_finding (w := 0) l V (by decide) (by decide)) rfl rfl (Nat.le_of_ble_eq_true rfl) (by decide)) ?_
            exact hR _ _ _ _ _ dX5_sheet_35 (sp_rfM (by rw [a_sheet, if_neg (fun q => by first | exact wj_c0 h4 q.1 | exact q.2.elim h8 (fun q1 => q1.elim h14 (fun q2 => q2.elim h20 h26)))]) rfl (by rw [n_sheetM, sp_ok6, decide_eq_false (fun q9 => (fun q => by first | exact wj_c0 h4 q.1 | exact q.2.elim h8 (fun q1 => q1.elim h14 (fun q2 => q2.elim h20 h26))) q9.1)]; rfl) (by decide)) wj_rfl
set_option maxRecDepth 100000 in
set_option maxHeartbeats 4000000 in
theorem c_X5_write (l : Launch) (V : wj_V) {σ : wj_St} {A : sp_L} {N y : Nat} {s x v : Int32} (hG : sp_G A N y) (hy : y < 90000) (hH : sp_shok (sp_shM σ)) : wj_M l V yX5_write cX5_write 4 (some .int) 2 42 [.ref (V.2.2.1 48), .int s, .int x, .int v] (sp_mq σ A) (wj_QI V (fun r u => r = sp_v (a_write (sp_shM σ) s x) ∧ ∃ g, u = sp_mq (wj_r (sp_fw (n_writeM σ s x v) (a_write (sp_shM σ) s x)) 51 g) A)) := by
  refine wj_ofI (own := RX5) [some (.ref (V.2.2.1 48)), some (.int s), some (.int x), some (.int v)] (by decide) rfl rfl (Nat.le_of_ble_eq_true rfl) (fun X C hR => ?_)
  refine wj_iload_n C 1 dX5_write_0 rfl rfl ?_
  refine wj_cif C (wj_rS C dX5_write_1 km_X5_isSheet kl_X5_207 (c_X5_isSheet l V) rfl rfl (Nat.le_of_ble_eq_true rfl) (by decide)) ?_
  refine wj_if_ne C 14 dX5_write_4 (by decide) (fun h4 => ?_) (fun h4 => ?_)
  · have h4a := wj_c1 h4
    obtain ⟨t, ht, rfl⟩ := wj_natC (N := 3) h4a
    have hct : (nI t).toNatClampNeg = t := nI_clamp (by omega)
    obtain ⟨m, h40, hm⟩ := hH t (by omega)
    refine wj_aload_n C 0 dX5_write_14 rfl rfl ?_
    refine wg_X5_48 C dX5_write_15 ?_
    refine wj_iload_n C 1 dX5_write_18 rfl rfl ?_
    refine wj_ialdN C dX5_write_19 ar_widths ⟨by omega, by decide⟩ ?_
    rw [sp_mq_o (by decide)]
    refine wj_if_ne C 30 dX5_write_20 (by decide) (fun h20 => ?_) (fun h20 => ?_)
    · refine wj_iload_n C 2 dX5_write_30 rfl rfl ?_
      refine wj_iconst (v := 0) C dX5_write_31 (by decide) ?_
      refine wj_aload_n C 0 dX5_write_32 rfl rfl ?_
      refine wg_X5_51 C dX5_write_33 ?_
      refine wj_iload_n C 1 dX5_write_36 rfl rfl ?_
      refine wj_ialdN C dX5_write_37 ar_sizes ⟨by omega, by decide⟩ ?_
      rw [sp_mq_o (by decide), show σ 56 t = nI m from hm]
      refine wj_iconst (v := 1) C dX5_write_38 (by decide) ?_
      refine wj_isub C dX5_write_39 ?_
      refine wj_cif C (wj_rS C dX5_write_40 km_X5_within kl_X5_70 (c_X5_within l V) rfl rfl (Nat.le_of_ble_eq_true rfl) (by decide)) ?_
      refine wj_if_ne C 53 dX5_write_43 (by decide) (fun h43 => ?_) (fun h43 => ?_)
      · have h43a := wj_c1 h43
        obtain ⟨j, hj, rfl⟩ := wj_natB h43a (by omega)
        refine wj_aload_n C 0 dX5_write_53 rfl rfl ?_
        refine wg_X5_54 C dX5_write_54 ?_
        refine wj_bipush (v := 40) C dX5_write_57 (by decide) ?_
        refine wj_iload_n C 1 dX5_write_59 rfl rfl ?_
        refine wj_imul C dX5_write_60 ?_
        refine wj_top (y := nI (40 * t)) (pk_mul 40 t) ?_
        refine wj_iload_n C 2 dX5_write_61 rfl rfl ?_
        refine wj_iadd C dX5_write_62 ?_
        refine wj_top (y := nI (40 * t + j)) (nI_add (40 * t) j) ?_
        refine wj_iload_n C 3 dX5_write_63 rfl rfl ?_
        refine wj_aload_n C 0 dX5_write_64 rfl rfl ?_
        refine wg_X5_48 C dX5_write_65 ?_
        refine wj_iload_n C 1 dX5_write_68 rfl rfl ?_
        refine wj_ialdN C dX5_write_69 ar_widths ⟨by omega, by decide⟩ ?_
        rw [sp_mq_o (by decide)]
        refine wj_cif C (wj_rS C dX5_write_70 km_X5_cutTo kl_X5_320 (c_X5_cutTo l V) rfl rfl (Nat.le_of_ble_eq_true rfl) (by decide)) ?_
        refine wj_iastN C dX5_write_73 ar_mnumbers ⟨by omega, by decide⟩ ?_
        rw [sp_mq_u9 (by decide)]
        refine wj_iconst (v := 1) C dX5_write_74 (by decide) ?_
        exact hR _ _ _ _ _ dX5_write_75 (sp_rvM (by rw [a_write, if_pos h4a, hct, if_neg (show ¬ (sp_shM σ).1 t = 0 from h20), hm, if_pos h43a]) rfl (by rw [n_writeM, if_pos ⟨h4a, (by rw [hct]; exact h20), (by rw [hct, hm]; exact h43a)⟩, hct, nI_clamp (by omega)]; rfl)) wj_rfl
      · refine wj_aload_n C 0 dX5_write_46 rfl rfl ?_
        refine wj_ldc C dX5_write_47 kc_X5_60 ?_
        refine wj_cif C (wj_rV C dX5_write_49 km_X5_finding kl_X5_66 is_X5 rfl rfl (c_X5_finding (w := 0) l V (by decide) (by decide)) rfl rfl (Nat.le_of_ble_eq_true rfl) (by decide)) ?_
        exact hR _ _ _ _ _ dX5_write_52 (sp_rfM (by rw [a_write, if_pos h4a, hct, if_neg (show ¬ (sp_shM σ).1 t = 0 from h20), hm, if_neg (wj_c0 h43)]) rfl (by rw [n_writeM, if_neg (fun q => wj_c0 h43 (by have := q.2.2; rw [hct, hm] at this; exact this))]) (by decide)) wj_rfl
    · refine wj_aload_n C 0 dX5_write_23 rfl rfl ?_
      refine wj_ldc C dX5_write_24 kc_X5_210 ?_
      refine wj_cif C (wj_rV C dX5_write_26 km_X5_finding kl_X5_66 is_X5 rfl rfl (c_X5_finding (w := 5) l V (by decide) (by decide)) rfl rfl (Nat.le_of_ble_eq_true rfl) (by decide)) ?_
      exact hR _ _ _ _ _ dX5_write_29 (sp_rfM (by rw [a_write, if_pos h4a, hct, if_pos (show (sp_shM σ).1 t = 0 from h20)]) rfl (by rw [n_writeM, if_neg (fun q => q.2.1 (by rw [hct]; exact h20))]) (by decide)) wj_rfl
  · refine wj_aload_n C 0 dX5_write_7 rfl rfl ?_
    refine wj_ldc C dX5_write_8 kc_X5_60 ?_
    refine wj_cif C (wj_rV C dX5_write_10 km_X5_finding kl_X5_66 is_X5 rfl rfl (c_X5_finding (w := 0) l V (by decide) (by decide)) rfl rfl (Nat.le_of_ble_eq_true rfl) (by decide)) ?_
    exact hR _ _ _ _ _ dX5_write_13 (sp_rfM (by rw [a_write, if_neg (wj_c0 h4)]) rfl (by rw [n_writeM, if_neg (fun q => wj_c0 h4 q.1)]) (by decide)) wj_rfl

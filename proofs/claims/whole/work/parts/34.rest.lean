def a_sheet (s b n : Int32) : Sum Nat Int32 := if (0 ≤ s ∧ s ≤ 3) ∧ (b = 0 ∨ b = 8 ∨ b = 16 ∨ b = 32) then (if n < 0 then .inl 6 else if n ≤ 40 then .inr (if b = 0 then 0 else n) else .inl 0) else .inl 0
def sp_ok6 (s b n : Int32) : Bool := decide (((0 ≤ s ∧ s ≤ 3) ∧ (b = 0 ∨ b = 8 ∨ b = 16 ∨ b = 32)) ∧ ¬ n < 0 ∧ n ≤ 40)
def sp_ren (σ : wj_St) (t : Nat) (b n : Int32) : wj_St := wj_u (wj_u (wj_r σ (42 + t) (sp_fi (σ (42 + t)) 0 40)) (38 + t) 1 b) (38 + t) 2 (if b = 0 then 0 else n)
def n_sheet (σ : wj_St) (s b n : Int32) : wj_St := if sp_ok6 s b n = true then sp_ren σ s.toNatClampNeg b n else σ
def a_write (H : sp_Sh) (s i : Int32) : Sum Nat Int32 := if 0 ≤ s ∧ s ≤ 3 then (if H.1 s.toNatClampNeg = 0 then .inl 5 else if 0 ≤ i ∧ i ≤ H.2.1 s.toNatClampNeg - 1 then .inr 1 else .inl 0) else .inl 0
abbrev sp_wok (H : sp_Sh) (s i : Int32) : Prop := (0 ≤ s ∧ s ≤ 3) ∧ ¬ H.1 s.toNatClampNeg = 0 ∧ 0 ≤ i ∧ i ≤ H.2.1 s.toNatClampNeg - 1
abbrev sp_ft (a b m : Int32) : Prop := 0 ≤ a ∧ 0 ≤ b ∧ a ≤ m - b
abbrev sp_cok (H : sp_Sh) (s f t u n : Int32) : Prop := ((0 ≤ s ∧ s ≤ 3) ∧ 0 ≤ t ∧ t ≤ 3) ∧ ¬ (H.1 s.toNatClampNeg = 0 ∨ H.1 t.toNatClampNeg = 0) ∧ H.1 s.toNatClampNeg = H.1 t.toNatClampNeg ∧ sp_ft f n (H.2.1 s.toNatClampNeg) ∧ sp_ft u n (H.2.1 t.toNatClampNeg)
def a_copy (H : sp_Sh) (s f t u n : Int32) : Sum Nat Int32 := if (0 ≤ s ∧ s ≤ 3) ∧ 0 ≤ t ∧ t ≤ 3 then (if H.1 s.toNatClampNeg = 0 ∨ H.1 t.toNatClampNeg = 0 then .inl 5 else if H.1 s.toNatClampNeg = H.1 t.toNatClampNeg then (if sp_ft f n (H.2.1 s.toNatClampNeg) ∧ sp_ft u n (H.2.1 t.toNatClampNeg) then .inr n else .inl 0) else .inl 2) else .inl 0
def n_write (σ : wj_St) (s i v : Int32) : wj_St := if sp_wok (sp_shC σ) s i then wj_u σ (42 + s.toNatClampNeg) i.toNatClampNeg (sp_cut v (σ (38 + s.toNatClampNeg) 1)) else σ
def n_copy (σ : wj_St) (s f t u n : Int32) : wj_St := if sp_cok (sp_shC σ) s f t u n then wj_r σ (42 + t.toNatClampNeg) (va_cpy (σ (42 + s.toNatClampNeg)) (σ (42 + t.toNatClampNeg)) f.toNatClampNeg u.toNatClampNeg n.toNatClampNeg) else σ
def sp_ldp (g : Nat → Int32) (k : Nat) : Bool := decide (¬ (0 ≤ g k ∧ g k ≤ 1599))
def sp_ld (g : Nat → Int32) (m : Nat) : Nat := fa_first (sp_ldp g) (min m 6)
def a_load (H : sp_Sh) (s : Int32) : Sum Nat Int32 := if 0 ≤ s ∧ s ≤ 3 then (if H.1 s.toNatClampNeg = 0 then .inl 5 else .inr (nI (sp_ld (H.2.2 s.toNatClampNeg) (H.2.1 s.toNatClampNeg).toNatClampNeg))) else .inl 0
def sp_ldl (A : sp_L) (g : Nat → Int32) (q : Nat) : sp_L := sp_wL A (fun k => if k < q then g k else A.2.2.2.2.1 k)
def n_load (H : sp_Sh) (A : sp_L) (s : Int32) : sp_L := if 0 ≤ s ∧ s ≤ 3 then (if H.1 s.toNatClampNeg = 0 then A else sp_ldl A (H.2.2 s.toNatClampNeg) (sp_ld (H.2.2 s.toNatClampNeg) (H.2.1 s.toNatClampNeg).toNatClampNeg)) else A
def sp_jp (A : sp_L) (g : Nat → Int32) (k : Nat) : Bool := decide (¬ (k < sp_N A ∧ sp_sl A k 3 = g k))
def sp_jd (A : sp_L) (g : Nat → Int32) (m : Nat) : Int32 := if fa_first (sp_jp A g) m = m then 0 else nI (1 + fa_first (sp_jp A g) m)
def a_judge (H : sp_Sh) (A : sp_L) (s : Int32) : Sum Nat Int32 := if 0 ≤ s ∧ s ≤ 3 then (if H.1 s.toNatClampNeg = 0 then .inl 5 else .inr (sp_jd A (H.2.2 s.toNatClampNeg) (H.2.1 s.toNatClampNeg).toNatClampNeg)) else .inl 0
def a_count (A : sp_L) (m z : Int32) (u : Nat) (w : Int32) : Sum Nat Int32 := if w = 0 then .inr A.1 else if w = 1 then .inr A.2.1 else if w = 2 then .inr (nI (sp_gn A)) else if w = 3 then .inr A.2.2.2.1 else if w = 4 then .inr (sp_sum A 6 (sp_N A)) else if w = 5 then .inr m else if w = 6 then .inr z else if w = 7 then .inr (nI u) else .inl 0
def a_status (f : Nat → Int32) (w : Int32) : Sum Nat Int32 := if w = -1 then .inr (sp_tot f 7) else if 0 ≤ w ∧ w ≤ 6 then .inr (f w.toNatClampNeg) else .inl 0
set_option maxRecDepth 100000 in
set_option maxHeartbeats 4000000 in
theorem c_X4_sheet (l : Launch) (V : wj_V) {σ : wj_St} {A : sp_L} {N y : Nat} {s b nn : Int32} (hG : sp_G A N y) (hy : y < 90000) : wj_M l V yX4_sheet cX4_sheet 5 (some .int) 2 45 [.ref (V.2.2.1 0), .int s, .int b, .int nn] (sp_put σ 1 A) (wj_QI V (fun r u => r = sp_v (a_sheet s b nn) ∧ u = sp_put (sp_tw (n_sheet σ s b nn) (a_sheet s b nn)) 1 A)) := by
  refine wj_ofI (own := RX4) [some (.ref (V.2.2.1 0)), some (.int s), some (.int b), some (.int nn), none] (by decide) rfl rfl (Nat.le_of_ble_eq_true rfl) (fun X C hR => ?_)
  refine wj_aload_n C 0 dX4_sheet_0 rfl rfl ?_
  refine wj_iload_n C 1 dX4_sheet_1 rfl rfl ?_
  refine wj_crn C (wj_rV C dX4_sheet_2 km_X4_sheetAt kl_X4_198 is_X4 rfl rfl (c_X4_sheetAt_g l V) rfl rfl (Nat.le_of_ble_eq_true rfl) (by decide)) (fun hn2 => ?_) (fun a2 ha2 => ?_)
  · refine wj_astoreN C dX4_sheet_5 (by decide) rfl ?_
    dsimp only [List.set]
    refine wj_aloadN C dX4_sheet_7 rfl ?_
    refine wj_ifnullN C 19 dX4_sheet_9 (by decide) ?_
    refine wj_aload_n C 0 dX4_sheet_19 rfl rfl ?_
    refine wj_ldc C dX4_sheet_20 kc_X4_68 ?_
    refine wj_cif C (wj_rV C dX4_sheet_22 km_X4_tell kl_X4_69 is_X4 rfl rfl (c_X4_tell (w := 0) l V (by decide) (by decide)) rfl rfl (Nat.le_of_ble_eq_true rfl) (by decide)) ?_
    exact hR _ _ _ _ _ dX4_sheet_25 (sp_rf2 (by rw [a_sheet, if_neg (fun q => by first | exact sp_ha_n hn2 q.1 | exact wj_c0 h16 q.2)]) rfl (by rw [n_sheet, sp_ok6, decide_eq_false (fun q9 => (fun q => by first | exact sp_ha_n hn2 q.1 | exact wj_c0 h16 q.2) q9.1)]; rfl) (by decide)) wj_rfl
  · obtain ⟨t, ht, rfl, rfl⟩ := sp_ha_s ha2
    have ht3 := sp_r3 ht
    have hct : (nI t).toNatClampNeg = t := nI_clamp (by omega)
    refine wj_astore C dX4_sheet_5 (by decide) rfl ?_
    dsimp only [List.set]
    refine wj_aload C dX4_sheet_7 rfl ?_
    refine wj_ifnull C dX4_sheet_9 ?_
    refine wj_iload_n C 2 dX4_sheet_12 rfl rfl ?_
    refine wj_cif C (wj_rS C dX4_sheet_13 km_X1_canBeOf kl_X4_236 (c_X1_canBeOf l V) rfl rfl (Nat.le_of_ble_eq_true rfl) (by decide)) ?_
    refine wj_if_ne C 26 dX4_sheet_16 (by decide) (fun h16 => ?_) (fun h16 => ?_)
    · refine wj_iload_n C 3 dX4_sheet_26 rfl rfl ?_
      refine wj_if_ge C 37 dX4_sheet_27 (by decide) (fun h27 => ?_) (fun h27 => ?_)
      · refine wj_iload_n C 3 dX4_sheet_37 rfl rfl ?_
        refine wj_bipush (v := 40) C dX4_sheet_38 (by decide) ?_
        refine wj_icmp_le C 50 dX4_sheet_40 (by decide) (fun h40 => ?_) (fun h40 => ?_)
        · refine wj_aload C dX4_sheet_50 rfl ?_
          refine wj_iload_n C 2 dX4_sheet_52 rfl rfl ?_
          refine wj_iload_n C 3 dX4_sheet_53 rfl rfl ?_
          refine wj_cvf C (wj_rV C dX4_sheet_54 km_X1_renew kl_X4_240 (is_X1 (by first | assumption | omega)) rfl rfl (c_X1_renew l V (by omega)) rfl rfl (Nat.le_of_ble_eq_true rfl) (by decide)) ?_
          rw [sp_put_r (by omega), sp_put_u (by omega), sp_put_u (by omega), sp_put_o (by omega), show 38 + t + 4 = 42 + t by omega]
          refine wj_aload C dX4_sheet_57 rfl ?_
          refine wg_X4_243 C dX4_sheet_59 (by first | assumption | omega) ?_
          rw [sp_put_o (by omega), show (wj_u (wj_u (wj_r σ (42 + t) (sp_fi (σ (42 + t)) 0 40)) (38 + t) 1 b) (38 + t) 2 (if b = 0 then 0 else nn)) (38 + t) 2 = (if b = 0 then 0 else nn) by rw [wj_u_same]; simp [upd]]
          exact hR _ _ _ _ _ dX4_sheet_62 (sp_rv2 (by rw [a_sheet, if_pos ⟨ht3, wj_c1 h16⟩, if_neg (Int32.not_lt.mpr h27), if_pos h40]) rfl (by rw [n_sheet, sp_ok6, decide_eq_true ⟨⟨ht3, wj_c1 h16⟩, Int32.not_lt.mpr h27, h40⟩, if_pos rfl, hct]; rfl)) wj_rfl
        · refine wj_aload_n C 0 dX4_sheet_43 rfl rfl ?_
          refine wj_ldc C dX4_sheet_44 kc_X4_68 ?_
          refine wj_cif C (wj_rV C dX4_sheet_46 km_X4_tell kl_X4_69 is_X4 rfl rfl (c_X4_tell (w := 0) l V (by decide) (by decide)) rfl rfl (Nat.le_of_ble_eq_true rfl) (by decide)) ?_
          exact hR _ _ _ _ _ dX4_sheet_49 (sp_rf2 (by rw [a_sheet, if_pos ⟨ht3, wj_c1 h16⟩, if_neg (Int32.not_lt.mpr h27), if_neg h40]) rfl (by rw [n_sheet, sp_ok6, decide_eq_false (fun q9 => h40 q9.2.2)]; rfl) (by decide)) wj_rfl
      · refine wj_aload_n C 0 dX4_sheet_30 rfl rfl ?_
        refine wj_ldc C dX4_sheet_31 kc_X4_239 ?_
        refine wj_cif C (wj_rV C dX4_sheet_33 km_X4_tell kl_X4_69 is_X4 rfl rfl (c_X4_tell (w := 6) l V (by decide) (by decide)) rfl rfl (Nat.le_of_ble_eq_true rfl) (by decide)) ?_
        exact hR _ _ _ _ _ dX4_sheet_36 (sp_rf2 (by rw [a_sheet, if_pos ⟨ht3, wj_c1 h16⟩, if_pos (Int32.not_le.mp h27)]) rfl (by rw [n_sheet, sp_ok6, decide_eq_false (fun q9 => q9.2.1 (Int32.not_le.mp h27))]; rfl) (by decide)) wj_rfl
    · refine wj_aload_n C 0 dX4_sheet_19 rfl rfl ?_
      refine wj_ldc C dX4_sheet_20 kc_X4_68 ?_
      refine wj_cif C (wj_rV C dX4_sheet_22 km_X4_tell kl_X4_69 is_X4 rfl rfl (c_X4_tell (w := 0) l V (by decide) (by decide)) rfl rfl (Nat.le_of_ble_eq_true rfl) (by decide)) ?_
      exact hR _ _ _ _ _ dX4_sheet_25 (sp_rf2 (by rw [a_sheet, if_neg (fun q => by first | exact sp_ha_n hn2 q.1 | exact wj_c0 h16 q.2)]) rfl (by rw [n_sheet, sp_ok6, decide_eq_false (fun q9 => (fun q => by first | exact sp_ha_n hn2 q.1 | exact wj_c0 h16 q.2) q9.1)]; rfl) (by decide)) wj_rfl
set_option maxRecDepth 100000 in
set_option maxHeartbeats 4000000 in
theorem c_X4_write (l : Launch) (V : wj_V) {σ : wj_St} {A : sp_L} {N y : Nat} {s x v : Int32} (hG : sp_G A N y) (hy : y < 90000) (hH : sp_shok (sp_shC σ)) : wj_M l V yX4_write cX4_write 5 (some .int) 2 44 [.ref (V.2.2.1 0), .int s, .int x, .int v] (sp_put σ 1 A) (wj_QI V (fun r u => r = sp_v (a_write (sp_shC σ) s x) ∧ u = sp_put (sp_tw (n_write σ s x v) (a_write (sp_shC σ) s x)) 1 A)) := by
  refine wj_ofI (own := RX4) [some (.ref (V.2.2.1 0)), some (.int s), some (.int x), some (.int v), none] (by decide) rfl rfl (Nat.le_of_ble_eq_true rfl) (fun X C hR => ?_)
  refine wj_aload_n C 0 dX4_write_0 rfl rfl ?_
  refine wj_iload_n C 1 dX4_write_1 rfl rfl ?_
  refine wj_crn C (wj_rV C dX4_write_2 km_X4_sheetAt kl_X4_198 is_X4 rfl rfl (c_X4_sheetAt_g l V) rfl rfl (Nat.le_of_ble_eq_true rfl) (by decide)) (fun hn2 => ?_) (fun a2 ha2 => ?_)
  · refine wj_astoreN C dX4_write_5 (by decide) rfl ?_
    dsimp only [List.set]
    refine wj_aloadN C dX4_write_7 rfl ?_
    refine wj_ifnonnullN C dX4_write_9 ?_
    refine wj_aload_n C 0 dX4_write_12 rfl rfl ?_
    refine wj_ldc C dX4_write_13 kc_X4_68 ?_
    refine wj_cif C (wj_rV C dX4_write_15 km_X4_tell kl_X4_69 is_X4 rfl rfl (c_X4_tell (w := 0) l V (by decide) (by decide)) rfl rfl (Nat.le_of_ble_eq_true rfl) (by decide)) ?_
    exact hR _ _ _ _ _ dX4_write_18 (sp_rf2 (by rw [a_write, if_neg (sp_ha_n hn2)]) rfl (by rw [n_write, if_neg (fun q => sp_ha_n hn2 q.1)]) (by decide)) wj_rfl
  · obtain ⟨t, ht, rfl, rfl⟩ := sp_ha_s ha2
    have ht3 := sp_r3 ht
    have hct : (nI t).toNatClampNeg = t := nI_clamp (by omega)
    obtain ⟨m, h40, hm⟩ := hH t ht
    refine wj_astore C dX4_write_5 (by decide) rfl ?_
    dsimp only [List.set]
    refine wj_aload C dX4_write_7 rfl ?_
    refine wj_ifnonnull C 19 dX4_write_9 (by decide) ?_
    refine wj_aload C dX4_write_19 rfl ?_
    refine wj_cif C (wj_rV C dX4_write_21 km_X1_isMissing kl_X4_202 (is_X1 (by first | assumption | omega)) rfl rfl (c_X1_isMissing l V (by omega)) rfl rfl (Nat.le_of_ble_eq_true rfl) (by decide)) ?_
    rw [sp_put_o (by omega)]
    refine wj_if_eq C 34 dX4_write_24 (by decide) (fun h24 => ?_) (fun h24 => ?_)
    · refine wj_iload_n C 2 dX4_write_34 rfl rfl ?_
      refine wj_iconst (v := 0) C dX4_write_35 (by decide) ?_
      refine wj_aload C dX4_write_36 rfl ?_
      refine wg_X4_243 C dX4_write_38 (by first | assumption | omega) ?_
      rw [sp_put_o (by omega), show σ (38 + t) 2 = nI m from hm]
      refine wj_iconst (v := 1) C dX4_write_41 (by decide) ?_
      refine wj_isub C dX4_write_42 ?_
      refine wj_cif C (wj_rS C dX4_write_43 km_X4_isIn kl_X4_64 (c_X4_isIn l V) rfl rfl (Nat.le_of_ble_eq_true rfl) (by decide)) ?_
      refine wj_if_ne C 56 dX4_write_46 (by decide) (fun h46 => ?_) (fun h46 => ?_)
      · obtain ⟨j, hj, rfl⟩ := wj_natB (wj_c1 h46) (by omega)
        refine wj_aload C dX4_write_56 rfl ?_
        refine wj_iload_n C 2 dX4_write_58 rfl rfl ?_
        refine wj_iload_n C 3 dX4_write_59 rfl rfl ?_
        refine wj_cvf C (wj_rV C dX4_write_60 km_X1_put kl_X4_244 (is_X1 (by first | assumption | omega)) rfl rfl (c_X1_put (m := m) l V (by omega) (by rw [sp_put_o (by omega)]; exact hm) hj h40) rfl rfl (Nat.le_of_ble_eq_true rfl) (by decide)) ?_
        rw [sp_put_u (by omega), sp_put_o (by omega), show 38 + t + 4 = 42 + t by omega]
        refine wj_iconst (v := 1) C dX4_write_63 (by decide) ?_
        exact hR _ _ _ _ _ dX4_write_64 (sp_rv2 (by rw [a_write, if_pos ht3, hct, if_neg (show ¬ (sp_shC σ).1 t = 0 from wj_c0 h24), hm, if_pos (wj_c1 h46)]) rfl (by rw [n_write, if_pos ⟨ht3, (by rw [hct]; exact wj_c0 h24), (by rw [hct, hm]; exact wj_c1 h46)⟩, hct, nI_clamp (by omega)])) wj_rfl
      · refine wj_aload_n C 0 dX4_write_49 rfl rfl ?_
        refine wj_ldc C dX4_write_50 kc_X4_68 ?_
        refine wj_cif C (wj_rV C dX4_write_52 km_X4_tell kl_X4_69 is_X4 rfl rfl (c_X4_tell (w := 0) l V (by decide) (by decide)) rfl rfl (Nat.le_of_ble_eq_true rfl) (by decide)) ?_
        exact hR _ _ _ _ _ dX4_write_55 (sp_rf2 (by rw [a_write, if_pos ht3, hct, if_neg (show ¬ (sp_shC σ).1 t = 0 from wj_c0 h24), hm, if_neg (wj_c0 h46)]) rfl (by rw [n_write, if_neg (fun q => wj_c0 h46 (by have := q.2.2; rw [hct, hm] at this; exact this))]) (by decide)) wj_rfl
    · refine wj_aload_n C 0 dX4_write_27 rfl rfl ?_
      refine wj_ldc C dX4_write_28 kc_X4_206 ?_
      refine wj_cif C (wj_rV C dX4_write_30 km_X4_tell kl_X4_69 is_X4 rfl rfl (c_X4_tell (w := 5) l V (by decide) (by decide)) rfl rfl (Nat.le_of_ble_eq_true rfl) (by decide)) ?_
      exact hR _ _ _ _ _ dX4_write_33 (sp_rf2 (by rw [a_write, if_pos ht3, hct, if_pos (show (sp_shC σ).1 t = 0 from wj_c1 h24)]) rfl (by rw [n_write, if_neg (fun q => q.2.1 (by rw [hct]; exact wj_c1 h24))]) (by decide)) wj_rfl
theorem sp_ldl_0 {A : sp_L} {g : Nat → Int32} : sp_ldl A g 0 = A := by
  rw [sp_ldl, show (fun k => if k < 0 then g k else A.2.2.2.2.1 k) = A.2.2.2.2.1 from funext fun k => if_neg (by omega)]
  rfl
theorem sp_ldl_s {A : sp_L} {g : Nat → Int32} {q : Nat} : sp_wL (sp_ldl A g q) (upd (sp_ldl A g q).2.2.2.2.1 q (g q)) = sp_ldl A g (q + 1) := by
  have : upd (sp_ldl A g q).2.2.2.2.1 q (g q) = (fun k => if k < q + 1 then g k else A.2.2.2.2.1 k) := by
    funext k
    simp only [upd, sp_ldl, sp_wL]
    by_cases h : k = q
    · subst h; rw [if_pos rfl, if_pos (Nat.lt_succ_self k)]
    · rw [if_neg h]
      by_cases h2 : k < q
      · rw [if_pos h2, if_pos (by omega)]
      · rw [if_neg h2, if_neg (by omega)]
  rw [this]
  rfl
set_option maxRecDepth 100000 in
set_option maxHeartbeats 4000000 in
theorem c_X4_load (l : Launch) (V : wj_V) {σ : wj_St} {A : sp_L} {N y : Nat} {s : Int32} (hG : sp_G A N y) (hy : y < 90000) (hH : sp_shok (sp_shC σ)) : wj_M l V yX4_load cX4_load 4 (some .int) 2 44 [.ref (V.2.2.1 0), .int s] (sp_put σ 1 A) (wj_QI V (fun r u => r = sp_v (a_load (sp_shC σ) s) ∧ u = sp_put (sp_tw σ (a_load (sp_shC σ) s)) 1 (n_load (sp_shC σ) A s))) := by
  refine wj_ofI (own := RX4) [some (.ref (V.2.2.1 0)), some (.int s), none, none] (by decide) rfl rfl (Nat.le_of_ble_eq_true rfl) (fun X C hR => ?_)
  have lp : ∀ t m, s = nI t → t < 4 → (sp_shC σ).2.1 t = nI m → m ≤ 40 → a_load (sp_shC σ) s = .inr (nI (sp_ld (σ (42 + t)) m)) → n_load (sp_shC σ) A s = sp_ldl A (σ (42 + t)) (sp_ld (σ (42 + t)) m) → ∀ n q, q ≤ min m 6 → 6 - q < n → (∀ k, k < q → sp_ldp (σ (42 + t)) k = false) → wj_J l V X 33 [some (.ref (V.2.2.1 0)), some (.int (nI t)), some (.ref (V.2.2.1 (38 + t))), some (.int (nI q))] [] (sp_put σ 1 (sp_ldl A (σ (42 + t)) q)) := by
    intro t m hst ht hm h40 ha hn9 n
    subst hst
    induction n with
    | zero => intro q _ h _; omega
    | succ n ih =>
      intro q hq hlt9 hno
      refine wj_iload_n C 3 dX4_load_33 rfl rfl ?_
      refine wj_bipush (v := 6) C dX4_load_34 (by decide) ?_
      refine wj_icmp_ge C 80 dX4_load_36 (by decide) (fun h36 => ?_) (fun h36 => ?_)
      · have e9 : q = min m 6 := by have := wj_ge (N := 6) (by decide) (by omega) h36; omega
        have ef : sp_ld (σ (42 + t)) m = q := by rw [sp_ld, e9]; exact fa_first_none (e9 ▸ hno)
        refine wj_iload_n C 3 dX4_load_80 rfl rfl ?_
        exact hR _ _ _ _ _ dX4_load_81 (sp_rv1 (by rw [ha, ef]) (by rw [hn9, ef])) wj_rfl
      · have hlt := wj_nge (N := 6) (by decide) (by omega) h36
        refine wj_iload_n C 3 dX4_load_39 rfl rfl ?_
        refine wj_aload_n C 2 dX4_load_40 rfl rfl ?_
        refine wg_X4_243 C dX4_load_41 (by first | assumption | omega) ?_
        rw [sp_put_o (by omega), show σ (38 + t) 2 = nI m from hm]
        refine wj_icmp_ge C 80 dX4_load_44 (by decide) (fun h44 => ?_) (fun h44 => ?_)
        · have e9 : q = min m 6 := by have := wj_ge (N := m) (by omega) (by omega) h44; omega
          have ef : sp_ld (σ (42 + t)) m = q := by rw [sp_ld, e9]; exact fa_first_none (e9 ▸ hno)
          refine wj_iload_n C 3 dX4_load_80 rfl rfl ?_
          exact hR _ _ _ _ _ dX4_load_81 (sp_rv1 (by rw [ha, ef]) (by rw [hn9, ef])) wj_rfl
        · have hlt2 := wj_nge (N := m) (by omega) (by omega) h44
          refine wj_aload_n C 2 dX4_load_47 rfl rfl ?_
          refine wg_X4_251 C dX4_load_48 (by first | assumption | omega) ?_
          refine wj_iload_n C 3 dX4_load_51 rfl rfl ?_
          refine wj_ialdN C dX4_load_52 (ar_numbers (by first | assumption | omega)) ⟨by omega, by decide⟩ ?_
          rw [sp_put_o (by omega), show 38 + t + 4 = 42 + t by omega]
          refine wj_cif C (wj_rS C dX4_load_53 km_X4_isLeaning kl_X4_260 (c_X4_isLeaning l V) rfl rfl (Nat.le_of_ble_eq_true rfl) (by decide)) ?_
          refine wj_if_eq C 80 dX4_load_56 (by decide) (fun h56 => ?_) (fun h56 => ?_)
          · have ef : sp_ld (σ (42 + t)) m = q := fa_first_is hno (decide_eq_true (wj_c0 h56)) (by omega)
            refine wj_iload_n C 3 dX4_load_80 rfl rfl ?_
            exact hR _ _ _ _ _ dX4_load_81 (sp_rv1 (by rw [ha, ef]) (by rw [hn9, ef])) wj_rfl
          · have hp : sp_ldp (σ (42 + t)) q = false := decide_eq_false (fun z => z (wj_c1 h56))
            refine wj_aload_n C 0 dX4_load_59 rfl rfl ?_
            refine wg_X4_12 C dX4_load_60 ?_
            refine wg_X4_98 C dX4_load_63 (by first | assumption | omega) ?_
            refine wj_iload_n C 3 dX4_load_66 rfl rfl ?_
            refine wj_aload_n C 2 dX4_load_67 rfl rfl ?_
            refine wg_X4_251 C dX4_load_68 (by first | assumption | omega) ?_
            refine wj_iload_n C 3 dX4_load_71 rfl rfl ?_
            refine wj_ialdN C dX4_load_72 (ar_numbers (by first | assumption | omega)) ⟨by omega, by decide⟩ ?_
            rw [sp_put_o (by omega), show 38 + t + 4 = 42 + t by omega]
            refine wj_iastN C dX4_load_73 (ar_leanings (by first | assumption | omega)) ⟨by omega, by decide⟩ ?_
            rw [wj_u_r, sp_put_l, sp_put_rl, sp_ldl_s]
            refine wj_iinc C (v := nI (q + 1)) dX4_load_74 rfl (wj_i1 q) (by decide) rfl ?_
            dsimp only [List.set]
            refine wj_goto C 33 dX4_load_77 (by decide) ?_
            exact ih (q + 1) (by omega) (by omega) (sp_nxt hno hp)
  refine wj_aload_n C 0 dX4_load_0 rfl rfl ?_
  refine wj_iload_n C 1 dX4_load_1 rfl rfl ?_
  refine wj_crn C (wj_rV C dX4_load_2 km_X4_sheetAt kl_X4_198 is_X4 rfl rfl (c_X4_sheetAt_g l V) rfl rfl (Nat.le_of_ble_eq_true rfl) (by decide)) (fun hn2 => ?_) (fun a2 ha2 => ?_)
  · refine wj_astore_nN C 2 dX4_load_5 rfl (by decide) rfl ?_
    dsimp only [List.set]
    refine wj_aload_nN C 2 dX4_load_6 rfl rfl ?_
    refine wj_ifnonnullN C dX4_load_7 ?_
    refine wj_aload_n C 0 dX4_load_10 rfl rfl ?_
    refine wj_ldc C dX4_load_11 kc_X4_68 ?_
    refine wj_cif C (wj_rV C dX4_load_13 km_X4_tell kl_X4_69 is_X4 rfl rfl (c_X4_tell (w := 0) l V (by decide) (by decide)) rfl rfl (Nat.le_of_ble_eq_true rfl) (by decide)) ?_
    exact hR _ _ _ _ _ dX4_load_16 (sp_rf1 (by rw [a_load, if_neg (sp_ha_n hn2)]) (by rw [n_load, if_neg (sp_ha_n hn2)]) (by decide)) wj_rfl
  · obtain ⟨t, ht, rfl, rfl⟩ := sp_ha_s ha2
    have ht3 := sp_r3 ht
    have hct : (nI t).toNatClampNeg = t := nI_clamp (by omega)
    obtain ⟨m, h40, hm⟩ := hH t ht
    refine wj_astore_n C 2 dX4_load_5 rfl (by decide) rfl ?_
    dsimp only [List.set]
    refine wj_aload_n C 2 dX4_load_6 rfl rfl ?_
    refine wj_ifnonnull C 17 dX4_load_7 (by decide) ?_
    refine wj_aload_n C 2 dX4_load_17 rfl rfl ?_
    refine wj_cif C (wj_rV C dX4_load_18 km_X1_isMissing kl_X4_202 (is_X1 (by first | assumption | omega)) rfl rfl (c_X1_isMissing l V (by omega)) rfl rfl (Nat.le_of_ble_eq_true rfl) (by decide)) ?_
    rw [sp_put_o (by omega)]
    refine wj_if_eq C 31 dX4_load_21 (by decide) (fun h21 => ?_) (fun h21 => ?_)
    · have ha : a_load (sp_shC σ) (nI t) = .inr (nI (sp_ld (σ (42 + t)) m)) := by rw [a_load, if_pos ht3, hct, if_neg (show ¬ (sp_shC σ).1 t = 0 from wj_c0 h21), hm, nI_clamp (by omega)]; rfl
      have hn9 : n_load (sp_shC σ) A (nI t) = sp_ldl A (σ (42 + t)) (sp_ld (σ (42 + t)) m) := by rw [n_load, if_pos ht3, hct, if_neg (show ¬ (sp_shC σ).1 t = 0 from wj_c0 h21), hm, nI_clamp (by omega)]; rfl
      refine wj_iconst (v := 0) C dX4_load_31 (by decide) ?_
      refine wj_istore_n C 3 dX4_load_32 rfl (by decide) rfl ?_
      dsimp only [List.set]
      exact (by have hh := lp t m rfl ht hm h40 ha hn9 7 0 (Nat.zero_le _) (by omega) (fun k hk => absurd hk (by omega)); rw [sp_ldl_0] at hh; exact hh)
    · refine wj_aload_n C 0 dX4_load_24 rfl rfl ?_
      refine wj_ldc C dX4_load_25 kc_X4_206 ?_
      refine wj_cif C (wj_rV C dX4_load_27 km_X4_tell kl_X4_69 is_X4 rfl rfl (c_X4_tell (w := 5) l V (by decide) (by decide)) rfl rfl (Nat.le_of_ble_eq_true rfl) (by decide)) ?_
      exact hR _ _ _ _ _ dX4_load_30 (sp_rf1 (by rw [a_load, if_pos ht3, hct, if_pos (show (sp_shC σ).1 t = 0 from wj_c1 h21)]) (by rw [n_load, if_pos ht3, hct, if_pos (show (sp_shC σ).1 t = 0 from wj_c1 h21)]) (by decide)) wj_rfl
set_option maxRecDepth 100000 in
set_option maxHeartbeats 4000000 in
theorem c_X4_judge (l : Launch) (V : wj_V) {σ : wj_St} {A : sp_L} {N y : Nat} {s : Int32} (hG : sp_G A N y) (hy : y < 90000) (hH : sp_shok (sp_shC σ)) : wj_M l V yX4_judge cX4_judge 5 (some .int) 2 44 [.ref (V.2.2.1 0), .int s] (sp_put σ 1 A) (wj_QI V (fun r u => r = sp_v (a_judge (sp_shC σ) A s) ∧ u = sp_put (sp_tw σ (a_judge (sp_shC σ) A s)) 1 A)) := by
  refine wj_ofI (own := RX4) [some (.ref (V.2.2.1 0)), some (.int s), none, none, none] (by decide) rfl rfl (Nat.le_of_ble_eq_true rfl) (fun X C hR => ?_)
  have lp : ∀ t m, s = nI t → t < 4 → (sp_shC σ).2.1 t = nI m → m ≤ 40 → a_judge (sp_shC σ) A s = .inr (sp_jd A (σ (42 + t)) m) → ∀ n q j9, q ≤ m → m - q < n → (∀ k, k < q → sp_jp A (σ (42 + t)) k = false) → wj_J l V X 33 [some (.ref (V.2.2.1 0)), some (.int (nI t)), some (.ref (V.2.2.1 (38 + t))), some (.int (nI q)), j9] [] (sp_put σ 1 A) := by
    intro t m hst ht hm h40 ha n
    subst hst
    induction n with
    | zero => intro q j9 _ h _; omega
    | succ n ih =>
      intro q j9 hq hlt9 hno
      refine wj_iload_n C 3 dX4_judge_33 rfl rfl ?_
      refine wj_aload_n C 2 dX4_judge_34 rfl rfl ?_
      refine wg_X4_243 C dX4_judge_35 (by first | assumption | omega) ?_
      rw [sp_put_o (by omega), show σ (38 + t) 2 = nI m from hm]
      refine wj_icmp_ge C 80 dX4_judge_38 (by decide) (fun h38 => ?_) (fun h38 => ?_)
      · have e9 := wj_ge (N := m) (by omega) hq h38
        subst e9
        refine wj_iconst (v := 0) C dX4_judge_80 (by decide) ?_
        exact hR _ _ _ _ _ dX4_judge_81 (sp_rv1 (by rw [ha, sp_jd, fa_first_none hno, if_pos rfl]) rfl) wj_rfl
      · have hlt := wj_nge (N := m) (by omega) hq h38
        refine wj_aload_n C 0 dX4_judge_41 rfl rfl ?_
        refine wg_X4_12 C dX4_judge_42 ?_
        refine wj_iload_n C 3 dX4_judge_45 rfl rfl ?_
        refine wj_crn C (wj_rV C dX4_judge_46 km_X0_slipAt kl_X4_115 (is_X0 (by first | assumption | omega)) rfl rfl (c_X0_slipAt_g l V (by decide) hG.1 hG.2.1) rfl rfl (Nat.le_of_ble_eq_true rfl) (by decide)) (fun hn46 => ?_) (fun a46 ha46 => ?_)
        · have hp : sp_jp A (σ (42 + t)) q = true := decide_eq_true (fun z => sp_sa_n hn46 (wj_rngI (by rw [← sp_N_of hG.1 hG.2.1]; exact z.1) hG.2.1))
          refine wj_astoreN C dX4_judge_49 (by decide) rfl ?_
          dsimp only [List.set]
          refine wj_aloadN C dX4_judge_51 rfl ?_
          refine wj_ifnullN C 70 dX4_judge_53 (by decide) ?_
          refine wj_iconst (v := 1) C dX4_judge_70 (by decide) ?_
          refine wj_iload_n C 3 dX4_judge_71 rfl rfl ?_
          refine wj_iadd C dX4_judge_72 ?_
          rw [show (1 : Int32) = nI 1 from rfl, nI_add]
          exact hR _ _ _ _ _ dX4_judge_73 (sp_rv1 (by rw [ha, sp_jd, fa_first_is hno hp hlt, if_neg (by omega)]) rfl) wj_rfl
        · obtain ⟨j, hj, hqj, rfl⟩ := sp_sa_s hG.2.1 ha46
          have hN8 := hG.2.1
          have e7 : j = q := by
            have := congrArg Int32.toInt hqj
            rw [nI_toInt (by omega), nI_toInt (by omega)] at this
            omega
          subst e7
          refine wj_astore C dX4_judge_49 (by decide) rfl ?_
          dsimp only [List.set]
          refine wj_aload C dX4_judge_51 rfl ?_
          refine wj_ifnull C dX4_judge_53 ?_
          refine wj_aload C dX4_judge_56 rfl ?_
          refine wg_X4_263 C dX4_judge_58 (by first | assumption | omega) ?_
          rw [sp_put_s (by decide) (by omega)]
          refine wj_aload_n C 2 dX4_judge_61 rfl rfl ?_
          refine wg_X4_251 C dX4_judge_62 (by first | assumption | omega) ?_
          refine wj_iload_n C 3 dX4_judge_65 rfl rfl ?_
          refine wj_ialdN C dX4_judge_66 (ar_numbers (by first | assumption | omega)) ⟨by omega, by decide⟩ ?_
          rw [sp_put_o (by omega), show 38 + t + 4 = 42 + t by omega]
          refine wj_icmp_eq C 74 dX4_judge_67 (by decide) (fun h67 => ?_) (fun h67 => ?_)
          · have hp : sp_jp A (σ (42 + t)) j = false := decide_eq_false (fun z => z ⟨by rw [sp_N_of hG.1 hG.2.1]; exact hj, h67⟩)
            refine wj_iinc C (v := nI (j + 1)) dX4_judge_74 rfl (wj_i1 j) (by decide) rfl ?_
            dsimp only [List.set]
            refine wj_goto C 33 dX4_judge_77 (by decide) ?_
            exact ih (j + 1) _ (by omega) (by omega) (sp_nxt hno hp)
          · have hp : sp_jp A (σ (42 + t)) j = true := decide_eq_true (fun z => h67 z.2)
            refine wj_iconst (v := 1) C dX4_judge_70 (by decide) ?_
            refine wj_iload_n C 3 dX4_judge_71 rfl rfl ?_
            refine wj_iadd C dX4_judge_72 ?_
            rw [show (1 : Int32) = nI 1 from rfl, nI_add]
            exact hR _ _ _ _ _ dX4_judge_73 (sp_rv1 (by rw [ha, sp_jd, fa_first_is hno hp hlt, if_neg (by omega)]) rfl) wj_rfl
  refine wj_aload_n C 0 dX4_judge_0 rfl rfl ?_
  refine wj_iload_n C 1 dX4_judge_1 rfl rfl ?_
  refine wj_crn C (wj_rV C dX4_judge_2 km_X4_sheetAt kl_X4_198 is_X4 rfl rfl (c_X4_sheetAt_g l V) rfl rfl (Nat.le_of_ble_eq_true rfl) (by decide)) (fun hn2 => ?_) (fun a2 ha2 => ?_)
  · refine wj_astore_nN C 2 dX4_judge_5 rfl (by decide) rfl ?_
    dsimp only [List.set]
    refine wj_aload_nN C 2 dX4_judge_6 rfl rfl ?_
    refine wj_ifnonnullN C dX4_judge_7 ?_
    refine wj_aload_n C 0 dX4_judge_10 rfl rfl ?_
    refine wj_ldc C dX4_judge_11 kc_X4_68 ?_
    refine wj_cif C (wj_rV C dX4_judge_13 km_X4_tell kl_X4_69 is_X4 rfl rfl (c_X4_tell (w := 0) l V (by decide) (by decide)) rfl rfl (Nat.le_of_ble_eq_true rfl) (by decide)) ?_
    exact hR _ _ _ _ _ dX4_judge_16 (sp_rf1 (by rw [a_judge, if_neg (sp_ha_n hn2)]) rfl (by decide)) wj_rfl
  · obtain ⟨t, ht, rfl, rfl⟩ := sp_ha_s ha2
    have ht3 := sp_r3 ht
    have hct : (nI t).toNatClampNeg = t := nI_clamp (by omega)
    obtain ⟨m, h40, hm⟩ := hH t ht
    refine wj_astore_n C 2 dX4_judge_5 rfl (by decide) rfl ?_
    dsimp only [List.set]
    refine wj_aload_n C 2 dX4_judge_6 rfl rfl ?_
    refine wj_ifnonnull C 17 dX4_judge_7 (by decide) ?_
    refine wj_aload_n C 2 dX4_judge_17 rfl rfl ?_
    refine wj_cif C (wj_rV C dX4_judge_18 km_X1_isMissing kl_X4_202 (is_X1 (by first | assumption | omega)) rfl rfl (c_X1_isMissing l V (by omega)) rfl rfl (Nat.le_of_ble_eq_true rfl) (by decide)) ?_
    rw [sp_put_o (by omega)]
    refine wj_if_eq C 31 dX4_judge_21 (by decide) (fun h21 => ?_) (fun h21 => ?_)
    · have ha : a_judge (sp_shC σ) A (nI t) = .inr (sp_jd A (σ (42 + t)) m) := by rw [a_judge, if_pos ht3, hct, if_neg (show ¬ (sp_shC σ).1 t = 0 from wj_c0 h21), hm, nI_clamp (by omega)]; rfl
      refine wj_iconst (v := 0) C dX4_judge_31 (by decide) ?_
      refine wj_istore_n C 3 dX4_judge_32 rfl (by decide) rfl ?_
      dsimp only [List.set]
      exact lp t m rfl ht hm h40 ha (m + 1) 0 _ (by omega) (by omega) (fun k hk => absurd hk (by omega))
    · refine wj_aload_n C 0 dX4_judge_24 rfl rfl ?_
      refine wj_ldc C dX4_judge_25 kc_X4_206 ?_
      refine wj_cif C (wj_rV C dX4_judge_27 km_X4_tell kl_X4_69 is_X4 rfl rfl (c_X4_tell (w := 5) l V (by decide) (by decide)) rfl rfl (Nat.le_of_ble_eq_true rfl) (by decide)) ?_
      exact hR _ _ _ _ _ dX4_judge_30 (sp_rf1 (by rw [a_judge, if_pos ht3, hct, if_pos (show (sp_shC σ).1 t = 0 from wj_c1 h21)]) rfl (by decide)) wj_rfl
set_option maxRecDepth 100000 in
set_option maxHeartbeats 4000000 in
theorem c_X4_count (l : Launch) (V : wj_V) {σ : wj_St} {A : sp_L} {N y : Nat} {w : Int32} (hG : sp_G A N y) (hy : y < 90000) : wj_M l V yX4_count cX4_count 2 (some .int) 4 88 [.ref (V.2.2.1 0), .int w] (sp_put σ 1 A) (wj_QI V (fun r u => r = sp_v (a_count A (σ 46 1) (σ 0 3) (sp_use (σ 34) 10) w) ∧ u = sp_put (sp_tw σ (a_count A (σ 46 1) (σ 0 3) (sp_use (σ 34) 10) w)) 1 A)) := by
  refine wj_ofI (own := RX4) [some (.ref (V.2.2.1 0)), some (.int w)] (by decide) rfl rfl (Nat.le_of_ble_eq_true rfl) (fun X C hR => ?_)
  refine wj_iload_n C 1 dX4_count_0 rfl rfl ?_
  refine wj_swc C (0) (47) 48 dX4_count_1 (by decide) (by decide) (by decide) (by decide) (fun h1_0 => ?_) (fun h1_0 => ?_)
  · subst h1_0
    refine wj_aload_n C 0 dX4_count_48 rfl rfl ?_
    refine wg_X4_12 C dX4_count_49 ?_
    refine wg_X4_119 C dX4_count_52 (by first | assumption | omega) ?_
    rw [sp_put_5]
    exact hR _ _ _ _ _ dX4_count_55 (sp_rv2 rfl rfl rfl) wj_rfl
  refine wj_swc C (1) (55) 56 dX4_count_1 (by decide) (by decide) (by decide) (by decide) (fun h1_1 => ?_) (fun h1_1 => ?_)
  · subst h1_1
    refine wj_aload_n C 0 dX4_count_56 rfl rfl ?_
    refine wg_X4_12 C dX4_count_57 ?_
    refine wg_X4_112 C dX4_count_60 (by first | assumption | omega) ?_
    rw [sp_put_2]
    exact hR _ _ _ _ _ dX4_count_63 (sp_rv2 rfl rfl rfl) wj_rfl
  refine wj_swc C (2) (63) 64 dX4_count_1 (by decide) (by decide) (by decide) (by decide) (fun h1_2 => ?_) (fun h1_2 => ?_)
  · subst h1_2
    refine wj_aload_n C 0 dX4_count_64 rfl rfl ?_
    refine wg_X4_12 C dX4_count_65 ?_
    refine wj_cif C (wj_rV C dX4_count_68 km_X0_gapSet kl_X4_144 (is_X0 (by first | assumption | omega)) rfl rfl (c_X0_gapSet l V (by decide) hG.1 hG.2.1) rfl rfl (Nat.le_of_ble_eq_true rfl) (by decide)) ?_
    obtain ⟨k, hk, ek⟩ := sp_gap_n A
    rw [ek]
    refine wj_cif C (wj_rS C dX4_count_71 km_J6_bitCount_0f7a4 kl_X4_187 (c_J6_bitCount_0f7a4 l V hk) rfl rfl (Nat.le_of_ble_eq_true rfl) (by decide)) ?_
    rw [sp_gn_of ek hk]
    exact hR _ _ _ _ _ dX4_count_74 (sp_rv2 rfl rfl rfl) wj_rfl
  refine wj_swc C (3) (74) 75 dX4_count_1 (by decide) (by decide) (by decide) (by decide) (fun h1_3 => ?_) (fun h1_3 => ?_)
  · subst h1_3
    refine wj_aload_n C 0 dX4_count_75 rfl rfl ?_
    refine wg_X4_12 C dX4_count_76 ?_
    refine wg_X4_148 C dX4_count_79 (by first | assumption | omega) ?_
    rw [sp_put_4]
    exact hR _ _ _ _ _ dX4_count_82 (sp_rv2 rfl rfl rfl) wj_rfl
  refine wj_swc C (4) (82) 83 dX4_count_1 (by decide) (by decide) (by decide) (by decide) (fun h1_4 => ?_) (fun h1_4 => ?_)
  · subst h1_4
    refine wj_aload_n C 0 dX4_count_83 rfl rfl ?_
    refine wg_X4_12 C dX4_count_84 ?_
    refine wj_bipush (v := 6) C dX4_count_87 (by decide) ?_
    refine wj_cif C (wj_rV C dX4_count_89 km_X0_sumOf kl_X4_154 (is_X0 (by first | assumption | omega)) rfl rfl (c_X0_sumOf l V (by decide) hG.1 hG.2.1) rfl rfl (Nat.le_of_ble_eq_true rfl) (by decide)) ?_
    exact hR _ _ _ _ _ dX4_count_92 (sp_rv2 rfl rfl rfl) wj_rfl
  refine wj_swc C (5) (92) 93 dX4_count_1 (by decide) (by decide) (by decide) (by decide) (fun h1_5 => ?_) (fun h1_5 => ?_)
  · subst h1_5
    refine wj_aload_n C 0 dX4_count_93 rfl rfl ?_
    refine wg_X4_49 C dX4_count_94 ?_
    refine wg_X4_224 C dX4_count_97 ?_
    rw [sp_put_o (by decide)]
    exact hR _ _ _ _ _ dX4_count_100 (sp_rv2 rfl rfl rfl) wj_rfl
  refine wj_swc C (6) (100) 101 dX4_count_1 (by decide) (by decide) (by decide) (by decide) (fun h1_6 => ?_) (fun h1_6 => ?_)
  · subst h1_6
    refine wj_aload_n C 0 dX4_count_101 rfl rfl ?_
    refine wg_X4_23 C dX4_count_102 ?_
    rw [sp_put_o (by decide)]
    exact hR _ _ _ _ _ dX4_count_105 (sp_rv2 rfl rfl rfl) wj_rfl
  refine wj_swc C (7) (105) 106 dX4_count_1 (by decide) (by decide) (by decide) (by decide) (fun h1_7 => ?_) (fun h1_7 => ?_)
  · subst h1_7
    refine wj_aload_n C 0 dX4_count_106 rfl rfl ?_
    refine wj_cif C (wj_rV C dX4_count_107 km_X4_spotsInUse kl_X4_266 is_X4 rfl rfl (c_X4_spotsInUse l V) rfl rfl (Nat.le_of_ble_eq_true rfl) (by decide)) ?_
    rw [sp_put_o (by decide)]
    exact hR _ _ _ _ _ dX4_count_110 (sp_rv2 rfl rfl rfl) wj_rfl
  refine wj_tabOut C 111 dX4_count_1 (by have q0 := lv_neT h1_0 (a := 0) (by decide); have q1 := lv_neT h1_1 (a := 1) (by decide); have q2 := lv_neT h1_2 (a := 2) (by decide); have q3 := lv_neT h1_3 (a := 3) (by decide); have q4 := lv_neT h1_4 (a := 4) (by decide); have q5 := lv_neT h1_5 (a := 5) (by decide); have q6 := lv_neT h1_6 (a := 6) (by decide); have q7 := lv_neT h1_7 (a := 7) (by decide); omega) (by decide) ?_
  refine wj_aload_n C 0 dX4_count_111 rfl rfl ?_
  refine wj_ldc C dX4_count_112 kc_X4_68 ?_
  refine wj_cif C (wj_rV C dX4_count_114 km_X4_tell kl_X4_69 is_X4 rfl rfl (c_X4_tell (w := 0) l V (by decide) (by decide)) rfl rfl (Nat.le_of_ble_eq_true rfl) (by decide)) ?_
  exact hR _ _ _ _ _ dX4_count_117 (sp_rf2 (by rw [a_count, if_neg h1_0, if_neg h1_1, if_neg h1_2, if_neg h1_3, if_neg h1_4, if_neg h1_5, if_neg h1_6, if_neg h1_7]) rfl rfl (by decide)) wj_rfl
set_option maxRecDepth 100000 in
set_option maxHeartbeats 4000000 in
theorem c_X4_status (l : Launch) (V : wj_V) {σ : wj_St} {A : sp_L} {N y : Nat} {w : Int32} (hG : sp_G A N y) (hy : y < 90000) : wj_M l V yX4_status cX4_status 2 (some .int) 2 44 [.ref (V.2.2.1 0), .int w] (sp_put σ 1 A) (wj_QI V (fun r u => r = sp_v (a_status (σ 36) w) ∧ u = sp_put (sp_tw σ (a_status (σ 36) w)) 1 A)) := by
  refine wj_ofI (own := RX4) [some (.ref (V.2.2.1 0)), some (.int w)] (by decide) rfl rfl (Nat.le_of_ble_eq_true rfl) (fun X C hR => ?_)
  refine wj_iload_n C 1 dX4_status_0 rfl rfl ?_
  refine wj_iconst (v := -1) C dX4_status_1 (by decide) ?_
  refine wj_icmp_ne C 10 dX4_status_2 (by decide) (fun h2 => ?_) (fun h2 => ?_)
  · refine wj_iload_n C 1 dX4_status_10 rfl rfl ?_
    refine wj_iconst (v := 0) C dX4_status_11 (by decide) ?_
    refine wj_bipush (v := 6) C dX4_status_12 (by decide) ?_
    refine wj_cif C (wj_rS C dX4_status_14 km_X4_isIn kl_X4_64 (c_X4_isIn l V) rfl rfl (Nat.le_of_ble_eq_true rfl) (by decide)) ?_
    refine wj_if_ne C 27 dX4_status_17 (by decide) (fun h17 => ?_) (fun h17 => ?_)
    · obtain ⟨i, hi, rfl⟩ := wj_natC (N := 6) (wj_c1 h17)
      refine wj_aload_n C 0 dX4_status_27 rfl rfl ?_
      refine wg_X4_53 C dX4_status_28 ?_
      refine wj_iload_n C 1 dX4_status_31 rfl rfl ?_
      refine wj_ialdN C dX4_status_32 ar_told ⟨by omega, by decide⟩ ?_
      rw [sp_put_o (by decide)]
      exact hR _ _ _ _ _ dX4_status_33 (sp_rv2 (by rw [a_status, if_neg h2, if_pos (wj_c1 h17), nI_clamp (by omega)]) rfl rfl) wj_rfl
    · refine wj_aload_n C 0 dX4_status_20 rfl rfl ?_
      refine wj_ldc C dX4_status_21 kc_X4_68 ?_
      refine wj_cif C (wj_rV C dX4_status_23 km_X4_tell kl_X4_69 is_X4 rfl rfl (c_X4_tell (w := 0) l V (by decide) (by decide)) rfl rfl (Nat.le_of_ble_eq_true rfl) (by decide)) ?_
      exact hR _ _ _ _ _ dX4_status_26 (sp_rf2 (by rw [a_status, if_neg h2, if_neg (wj_c0 h17)]) rfl rfl (by decide)) wj_rfl
  · subst h2
    refine wj_aload_n C 0 dX4_status_5 rfl rfl ?_
    refine wj_cif C (wj_rV C dX4_status_6 km_X4_toldInAll kl_X4_269 is_X4 rfl rfl (c_X4_toldInAll l V) rfl rfl (Nat.le_of_ble_eq_true rfl) (by decide)) ?_
    rw [sp_put_o (by decide)]
    exact hR _ _ _ _ _ dX4_status_9 (sp_rv2 rfl rfl rfl) wj_rfl
set_option maxRecDepth 100000 in
set_option maxHeartbeats 4000000 in
theorem c_X4_tear (l : Launch) (V : wj_V) {σ : wj_St} {A : sp_L} {N y : Nat} (hG : sp_G A N y) (hy : y < 90000) : wj_M l V yX4_tear cX4_tear 2 (some .int) 0 0 [.ref (V.2.2.1 0)] (sp_put σ 1 A) (wj_QI V (fun r u => r = sp_v (Sum.inr (if σ 0 7 = 0 then 0 else 1)) ∧ u = sp_put (sp_tw (wj_u σ 0 7 0) (Sum.inr (if σ 0 7 = 0 then 0 else 1))) 1 A)) := by
  refine wj_ofI (own := RX4) [some (.ref (V.2.2.1 0)), none] (by decide) rfl rfl (Nat.le_of_ble_eq_true rfl) (fun X C hR => ?_)
  refine wj_aload_n C 0 dX4_tear_0 rfl rfl ?_
  refine wg_X4_36 C dX4_tear_1 ?_
  rw [sp_put_o (by decide)]
  refine wj_if_eq C 11 dX4_tear_4 (by decide) (fun h4 => ?_) (fun h4 => ?_)
  · refine wj_iconst (v := 0) C dX4_tear_11 (by decide) ?_
    refine wj_istore_n C 1 dX4_tear_12 rfl (by decide) rfl ?_
    dsimp only [List.set]
    refine wj_aload_n C 0 dX4_tear_13 rfl rfl ?_
    refine wj_iconst (v := 0) C dX4_tear_14 (by decide) ?_
    refine wp_X4_36 C dX4_tear_15 (by first | exact Or.inl rfl | exact Or.inr rfl | assumption) ?_
    rw [sp_put_u (by decide)]
    refine wj_iload_n C 1 dX4_tear_18 rfl rfl ?_
    exact hR _ _ _ _ _ dX4_tear_19 (sp_rv2 (by simp [*]) rfl rfl) wj_rfl
  · refine wj_iconst (v := 1) C dX4_tear_7 (by decide) ?_
    refine wj_goto C 12 dX4_tear_8 (by decide) ?_
    refine wj_istore_n C 1 dX4_tear_12 rfl (by decide) rfl ?_
    dsimp only [List.set]
    refine wj_aload_n C 0 dX4_tear_13 rfl rfl ?_
    refine wj_iconst (v := 0) C dX4_tear_14 (by decide) ?_
    refine wp_X4_36 C dX4_tear_15 (by first | exact Or.inl rfl | exact Or.inr rfl | assumption) ?_
    rw [sp_put_u (by decide)]
    refine wj_iload_n C 1 dX4_tear_18 rfl rfl ?_
    exact hR _ _ _ _ _ dX4_tear_19 (sp_rv2 (by simp [*]) rfl rfl) wj_rfl
def sp_img (σ : wj_St) : wj_St := wj_u (wj_u (wj_r σ 35 (va_cpy (σ 34) (σ 35) 0 0 10)) 0 6 (σ 0 3)) 0 7 1
def sp_und (σ : wj_St) : wj_St := wj_u (wj_r σ 34 (va_cpy (σ 35) (σ 34) 0 0 10)) 0 3 (σ 0 6)
theorem sp_c10 : (10 : Int32).toNatClampNeg = 10 := by decide +kernel
theorem sp_c0 : (0 : Int32).toNatClampNeg = 0 := by decide +kernel
set_option maxRecDepth 100000 in
set_option maxHeartbeats 4000000 in
theorem c_X4_image (l : Launch) (V : wj_V) {σ : wj_St} {A : sp_L} {N y : Nat} {K : sp_L} (hG : sp_G A N y) (hy : y < 90000) : wj_M l V yX4_image cX4_image 1 (some .int) 2 48 [.ref (V.2.2.1 0)] (sp_put (sp_put σ 1 A) 3 K) (wj_I V 1 (sp_put (sp_put (sp_img σ) 1 A) 3 (sp_bec K A))) := by
  refine wj_ofI (own := RX4) [some (.ref (V.2.2.1 0))] (by decide) rfl rfl (Nat.le_of_ble_eq_true rfl) (fun X C hR => ?_)
  refine wj_aload_n C 0 dX4_image_0 rfl rfl ?_
  refine wg_X4_27 C dX4_image_1 ?_
  refine wj_aload_n C 0 dX4_image_4 rfl rfl ?_
  refine wg_X4_12 C dX4_image_5 ?_
  refine wj_cvf C (wj_rV C dX4_image_8 km_X0_become kl_X4_160 (is_X0 (by first | assumption | omega)) rfl rfl (c_X0_become l V (by decide) (by decide) (by decide) (sp_put_2.trans hG.1) hG.2.1) rfl rfl (Nat.le_of_ble_eq_true rfl) (by decide)) ?_
  rw [sp_bgt hG.1 hG.2.1]
  refine wj_aload_n C 0 dX4_image_11 rfl rfl ?_
  refine wg_X4_19 C dX4_image_12 ?_
  refine wj_iconst (v := 0) C dX4_image_15 (by decide) ?_
  refine wj_aload_n C 0 dX4_image_16 rfl rfl ?_
  refine wg_X4_30 C dX4_image_17 ?_
  refine wj_iconst (v := 0) C dX4_image_20 (by decide) ?_
  refine wj_bipush (v := 10) C dX4_image_21 (by decide) ?_
  refine wj_copy C dX4_image_23 kx_X4_254 ar_spots ar_keptSpots (by decide) (by decide) (by decide) (by decide) (by decide) (by decide) (Nat.le_of_ble_eq_true rfl) ?_
  rw [sp_c10, sp_c0, sp_put_o (by decide), sp_put_o (by decide), sp_put_o (by decide), sp_put_o (by decide), sp_put_r (by decide), sp_put_r (by decide)]
  refine wj_aload_n C 0 dX4_image_26 rfl rfl ?_
  refine wj_aload_n C 0 dX4_image_27 rfl rfl ?_
  refine wg_X4_23 C dX4_image_28 ?_
  rw [sp_put_o (by decide), sp_put_o (by decide), wj_r_ne (by decide)]
  refine wp_X4_33 C dX4_image_31 ?_
  rw [sp_put_u (by decide), sp_put_u (by decide)]
  refine wj_aload_n C 0 dX4_image_34 rfl rfl ?_
  refine wj_iconst (v := 1) C dX4_image_35 (by decide) ?_
  refine wp_X4_36 C dX4_image_36 (by first | exact Or.inl rfl | exact Or.inr rfl | assumption) ?_
  rw [sp_put_u (by decide), sp_put_u (by decide)]
  refine wj_iconst (v := 1) C dX4_image_39 (by decide) ?_
  exact hR _ _ _ _ _ dX4_image_40 ⟨rfl, rfl⟩ wj_rfl
set_option maxRecDepth 100000 in
set_option maxHeartbeats 4000000 in
theorem c_X4_undo (l : Launch) (V : wj_V) {σ : wj_St} {A K : sp_L} {N y : Nat} (hG : sp_G K N y) (hk : ¬ σ 0 7 = 0) : wj_M l V yX4_undo cX4_undo 1 (some .int) 2 48 [.ref (V.2.2.1 0)] (sp_put (sp_put σ 3 K) 1 A) (wj_I V K.1 (sp_put (sp_put (sp_und σ) 3 K) 1 (sp_bec A K))) := by
  refine wj_ofI (own := RX4) [some (.ref (V.2.2.1 0))] (by decide) rfl rfl (Nat.le_of_ble_eq_true rfl) (fun X C hR => ?_)
  refine wj_aload_n C 0 dX4_undo_0 rfl rfl ?_
  refine wg_X4_36 C dX4_undo_1 ?_
  rw [sp_put_o (by decide), sp_put_o (by decide)]
  refine wj_if_ne C 14 dX4_undo_4 (by decide) (fun h4 => ?_) (fun h4 => ?_)
  · refine wj_aload_n C 0 dX4_undo_14 rfl rfl ?_
    refine wg_X4_12 C dX4_undo_15 ?_
    refine wj_aload_n C 0 dX4_undo_18 rfl rfl ?_
    refine wg_X4_27 C dX4_undo_19 ?_
    refine wj_cvf C (wj_rV C dX4_undo_22 km_X0_become kl_X4_160 (is_X0 (by first | assumption | omega)) rfl rfl (c_X0_become l V (by decide) (by decide) (by decide) (sp_put_2.trans hG.1) hG.2.1) rfl rfl (Nat.le_of_ble_eq_true rfl) (by decide)) ?_
    rw [sp_bgt hG.1 hG.2.1]
    refine wj_aload_n C 0 dX4_undo_25 rfl rfl ?_
    refine wg_X4_30 C dX4_undo_26 ?_
    refine wj_iconst (v := 0) C dX4_undo_29 (by decide) ?_
    refine wj_aload_n C 0 dX4_undo_30 rfl rfl ?_
    refine wg_X4_19 C dX4_undo_31 ?_
    refine wj_iconst (v := 0) C dX4_undo_34 (by decide) ?_
    refine wj_bipush (v := 10) C dX4_undo_35 (by decide) ?_
    refine wj_copy C dX4_undo_37 kx_X4_254 ar_keptSpots ar_spots (by decide) (by decide) (by decide) (by decide) (by decide) (by decide) (Nat.le_of_ble_eq_true rfl) ?_
    rw [sp_c10, sp_c0, sp_put_o (by decide), sp_put_o (by decide), sp_put_o (by decide), sp_put_o (by decide), sp_put_r (by decide), sp_put_r (by decide)]
    refine wj_aload_n C 0 dX4_undo_40 rfl rfl ?_
    refine wj_aload_n C 0 dX4_undo_41 rfl rfl ?_
    refine wg_X4_33 C dX4_undo_42 ?_
    rw [sp_put_o (by decide), sp_put_o (by decide), wj_r_ne (by decide)]
    refine wp_X4_23 C dX4_undo_45 ?_
    rw [sp_put_u (by decide), sp_put_u (by decide)]
    refine wj_aload_n C 0 dX4_undo_48 rfl rfl ?_
    refine wg_X4_12 C dX4_undo_49 ?_
    refine wg_X4_119 C dX4_undo_52 (by first | assumption | omega) ?_
    rw [sp_put_5]
    exact hR _ _ _ _ _ dX4_undo_55 ⟨rfl, rfl⟩ wj_rfl
  · exact absurd h4 hk
set_option maxRecDepth 100000 in
set_option maxHeartbeats 4000000 in
theorem c_X4_undo_no (l : Launch) (V : wj_V) {σ : wj_St} (hk : σ 0 7 = 0) : wj_M l V yX4_undo cX4_undo 1 (some .int) 2 48 [.ref (V.2.2.1 0)] σ (wj_I V (-1000004) (sp_tl σ 3)) := by
  refine wj_ofI (own := RX4) [some (.ref (V.2.2.1 0))] (by decide) rfl rfl (Nat.le_of_ble_eq_true rfl) (fun X C hR => ?_)
  refine wj_aload_n C 0 dX4_undo_0 rfl rfl ?_
  refine wg_X4_36 C dX4_undo_1 ?_
  rw [hk]
  refine wj_if_ne C 14 dX4_undo_4 (by decide) (fun h4 => absurd h4 (fun q => q rfl)) (fun h4 => ?_)
  refine wj_aload_n C 0 dX4_undo_7 rfl rfl ?_
  refine wj_ldc C dX4_undo_8 kc_X4_173 ?_
  refine wj_cif C (wj_rV C dX4_undo_10 km_X4_tell kl_X4_69 is_X4 rfl rfl (c_X4_tell (w := 3) l V (by decide) (by decide)) rfl rfl (Nat.le_of_ble_eq_true rfl) (by decide)) ?_
  exact hR _ _ _ _ _ dX4_undo_13 ⟨rfl, rfl⟩ wj_rfl
theorem sp_has {f n : Int32} {m : Nat} (hm : m ≤ 40) (h : sp_ft f n (nI m)) : ¬ f < 0 ∧ ¬ n < 0 ∧ f.toNatClampNeg + n.toNatClampNeg ≤ m := by
  obtain ⟨h1, h2, h3⟩ := h
  obtain ⟨a, ha, rfl, hz⟩ := wj_nat (x := f) (by have := Int32.le_iff_toInt_le.mp h1; rw [Int32.toInt_zero] at this; exact this)
  obtain ⟨b, hb, rfl, hz2⟩ := wj_nat (x := n) (by have := Int32.le_iff_toInt_le.mp h2; rw [Int32.toInt_zero] at this; exact this)
  refine ⟨Int32.not_lt.mpr h1, Int32.not_lt.mpr h2, ?_⟩
  have h4 := Int32.le_iff_toInt_le.mp h3
  have e : (nI m - nI b).toInt = (m : Int) - b := by
    by_cases c : b < 2 ^ 30
    · exact pk_sub_toInt (by omega) c
    · rw [Int32.toInt_sub, nI_toInt (by omega), nI_toInt hb, Int.bmod_eq_of_le (by omega) (by omega)]
  rw [e, nI_toInt ha] at h4
  rw [nI_clamp ha, nI_clamp hb]
  omega
set_option maxRecDepth 100000 in
set_option maxHeartbeats 4000000 in
theorem c_X4_copy (l : Launch) (V : wj_V) {σ : wj_St} {A : sp_L} {N y : Nat} {s f t o9 nn : Int32} (hG : sp_G A N y) (hy : y < 90000) (hH : sp_shok (sp_shC σ)) : wj_M l V yX4_copy cX4_copy 8 (some .int) 2 44 [.ref (V.2.2.1 0), .int s, .int f, .int t, .int o9, .int nn] (sp_put σ 1 A) (wj_QI V (fun r u => r = sp_v (a_copy (sp_shC σ) s f t o9 nn) ∧ u = sp_put (sp_tw (n_copy σ s f t o9 nn) (a_copy (sp_shC σ) s f t o9 nn)) 1 A)) := by
  refine wj_ofI (own := RX4) [some (.ref (V.2.2.1 0)), some (.int s), some (.int f), some (.int t), some (.int o9), some (.int nn), none, none] (by decide) rfl rfl (Nat.le_of_ble_eq_true rfl) (fun X C hR => ?_)
  refine wj_aload_n C 0 dX4_copy_0 rfl rfl ?_
  refine wj_iload_n C 1 dX4_copy_1 rfl rfl ?_
  refine wj_crn C (wj_rV C dX4_copy_2 km_X4_sheetAt kl_X4_198 is_X4 rfl rfl (c_X4_sheetAt_g l V) rfl rfl (Nat.le_of_ble_eq_true rfl) (by decide)) (fun hn2 => ?_) (fun a2 ha2 => ?_)
  · refine wj_astoreN C dX4_copy_5 (by decide) rfl ?_
    dsimp only [List.set]
    refine wj_aload_n C 0 dX4_copy_7 rfl rfl ?_
    refine wj_iload_n C 3 dX4_copy_8 rfl rfl ?_
    refine wj_crn C (wj_rV C dX4_copy_9 km_X4_sheetAt kl_X4_198 is_X4 rfl rfl (c_X4_sheetAt_g l V) rfl rfl (Nat.le_of_ble_eq_true rfl) (by decide)) (fun hn9 => ?_) (fun a9 ha9 => ?_)
    · refine wj_astoreN C dX4_copy_12 (by decide) rfl ?_
      dsimp only [List.set]
      refine wj_aloadN C dX4_copy_14 rfl ?_
      refine wj_ifnullN C 24 dX4_copy_16 (by decide) ?_
      refine wj_aload_n C 0 dX4_copy_24 rfl rfl ?_
      refine wj_ldc C dX4_copy_25 kc_X4_68 ?_
      refine wj_cif C (wj_rV C dX4_copy_27 km_X4_tell kl_X4_69 is_X4 rfl rfl (c_X4_tell (w := 0) l V (by decide) (by decide)) rfl rfl (Nat.le_of_ble_eq_true rfl) (by decide)) ?_
      exact hR _ _ _ _ _ dX4_copy_30 (sp_rf2 (by rw [a_copy, if_neg (fun z => by first | exact sp_ha_n hn2 z.1 | exact sp_ha_n hn9 z.2)]) rfl (by rw [n_copy, if_neg (fun z9 => (fun z => by first | exact sp_ha_n hn2 z.1 | exact sp_ha_n hn9 z.2) z9.1)]) (by decide)) wj_rfl
    · obtain ⟨q, hq, rfl, rfl⟩ := sp_ha_s ha9
      have hq3 := sp_r3 hq
      have hcq : (nI q).toNatClampNeg = q := nI_clamp (by omega)
      obtain ⟨mq, hq40, hmq⟩ := hH q hq
      refine wj_astore C dX4_copy_12 (by decide) rfl ?_
      dsimp only [List.set]
      refine wj_aloadN C dX4_copy_14 rfl ?_
      refine wj_ifnullN C 24 dX4_copy_16 (by decide) ?_
      refine wj_aload_n C 0 dX4_copy_24 rfl rfl ?_
      refine wj_ldc C dX4_copy_25 kc_X4_68 ?_
      refine wj_cif C (wj_rV C dX4_copy_27 km_X4_tell kl_X4_69 is_X4 rfl rfl (c_X4_tell (w := 0) l V (by decide) (by decide)) rfl rfl (Nat.le_of_ble_eq_true rfl) (by decide)) ?_
      exact hR _ _ _ _ _ dX4_copy_30 (sp_rf2 (by rw [a_copy, if_neg (fun z => by first | exact sp_ha_n hn2 z.1 | exact sp_ha_n hn9 z.2)]) rfl (by rw [n_copy, if_neg (fun z9 => (fun z => by first | exact sp_ha_n hn2 z.1 | exact sp_ha_n hn9 z.2) z9.1)]) (by decide)) wj_rfl
  · obtain ⟨p, hp, rfl, rfl⟩ := sp_ha_s ha2
    have hp3 := sp_r3 hp
    have hcp : (nI p).toNatClampNeg = p := nI_clamp (by omega)
    obtain ⟨mp, hp40, hmp⟩ := hH p hp
    refine wj_astore C dX4_copy_5 (by decide) rfl ?_
    dsimp only [List.set]
    refine wj_aload_n C 0 dX4_copy_7 rfl rfl ?_
    refine wj_iload_n C 3 dX4_copy_8 rfl rfl ?_
    refine wj_crn C (wj_rV C dX4_copy_9 km_X4_sheetAt kl_X4_198 is_X4 rfl rfl (c_X4_sheetAt_g l V) rfl rfl (Nat.le_of_ble_eq_true rfl) (by decide)) (fun hn9 => ?_) (fun a9 ha9 => ?_)
    · refine wj_astoreN C dX4_copy_12 (by decide) rfl ?_
      dsimp only [List.set]
      refine wj_aload C dX4_copy_14 rfl ?_
      refine wj_ifnull C dX4_copy_16 ?_
      refine wj_aloadN C dX4_copy_19 rfl ?_
      refine wj_ifnonnullN C dX4_copy_21 ?_
      refine wj_aload_n C 0 dX4_copy_24 rfl rfl ?_
      refine wj_ldc C dX4_copy_25 kc_X4_68 ?_
      refine wj_cif C (wj_rV C dX4_copy_27 km_X4_tell kl_X4_69 is_X4 rfl rfl (c_X4_tell (w := 0) l V (by decide) (by decide)) rfl rfl (Nat.le_of_ble_eq_true rfl) (by decide)) ?_
      exact hR _ _ _ _ _ dX4_copy_30 (sp_rf2 (by rw [a_copy, if_neg (fun z => by first | exact sp_ha_n hn2 z.1 | exact sp_ha_n hn9 z.2)]) rfl (by rw [n_copy, if_neg (fun z9 => (fun z => by first | exact sp_ha_n hn2 z.1 | exact sp_ha_n hn9 z.2) z9.1)]) (by decide)) wj_rfl
    · obtain ⟨q, hq, rfl, rfl⟩ := sp_ha_s ha9
      have hq3 := sp_r3 hq
      have hcq : (nI q).toNatClampNeg = q := nI_clamp (by omega)
      obtain ⟨mq, hq40, hmq⟩ := hH q hq
      refine wj_astore C dX4_copy_12 (by decide) rfl ?_
      dsimp only [List.set]
      refine wj_aload C dX4_copy_14 rfl ?_
      refine wj_ifnull C dX4_copy_16 ?_
      refine wj_aload C dX4_copy_19 rfl ?_
      refine wj_ifnonnull C 31 dX4_copy_21 (by decide) ?_
      refine wj_aload C dX4_copy_31 rfl ?_
      refine wj_cif C (wj_rV C dX4_copy_33 km_X1_isMissing kl_X4_202 (is_X1 (by first | assumption | omega)) rfl rfl (c_X1_isMissing l V (by omega)) rfl rfl (Nat.le_of_ble_eq_true rfl) (by decide)) ?_
      rw [sp_put_o (by omega)]
      refine wj_if_ne C 47 dX4_copy_36 (by decide) (fun h36 => ?_) (fun h36 => ?_)
      · have hmis : (sp_shC σ).1 p = 0 ∨ (sp_shC σ).1 q = 0 := Or.inl (wj_c1 h36)
        refine wj_aload_n C 0 dX4_copy_47 rfl rfl ?_
        refine wj_ldc C dX4_copy_48 kc_X4_206 ?_
        refine wj_cif C (wj_rV C dX4_copy_50 km_X4_tell kl_X4_69 is_X4 rfl rfl (c_X4_tell (w := 5) l V (by decide) (by decide)) rfl rfl (Nat.le_of_ble_eq_true rfl) (by decide)) ?_
        exact hR _ _ _ _ _ dX4_copy_53 (sp_rf2 (by rw [a_copy, if_pos ⟨hp3, hq3⟩, hcp, hcq, if_pos hmis]) rfl (by rw [n_copy, if_neg (fun z => z.2.1 (by rw [hcp, hcq]; exact hmis))]) (by decide)) wj_rfl
      · refine wj_aload C dX4_copy_39 rfl ?_
        refine wj_cif C (wj_rV C dX4_copy_41 km_X1_isMissing kl_X4_202 (is_X1 (by first | assumption | omega)) rfl rfl (c_X1_isMissing l V (by omega)) rfl rfl (Nat.le_of_ble_eq_true rfl) (by decide)) ?_
        rw [sp_put_o (by omega)]
        refine wj_if_eq C 54 dX4_copy_44 (by decide) (fun h44 => ?_) (fun h44 => ?_)
        · have hmis : ¬ ((sp_shC σ).1 p = 0 ∨ (sp_shC σ).1 q = 0) := fun z => z.elim (wj_c0 h36) (wj_c0 h44)
          refine wj_aload C dX4_copy_54 rfl ?_
          refine wg_X4_245 C dX4_copy_56 (by first | assumption | omega) ?_
          rw [sp_put_o (by omega)]
          refine wj_aload C dX4_copy_59 rfl ?_
          refine wg_X4_245 C dX4_copy_61 (by first | assumption | omega) ?_
          rw [sp_put_o (by omega)]
          refine wj_icmp_eq C 74 dX4_copy_64 (by decide) (fun h64 => ?_) (fun h64 => ?_)
          · have hkk : (sp_shC σ).1 p = (sp_shC σ).1 q := h64
            refine wj_aload C dX4_copy_74 rfl ?_
            refine wj_iload_n C 2 dX4_copy_76 rfl rfl ?_
            refine wj_iload C dX4_copy_77 rfl ?_
            refine wj_cif C (wj_rV C dX4_copy_79 km_X1_has kl_X4_248 (is_X1 (by first | assumption | omega)) rfl rfl (c_X1_has l V (by omega)) rfl rfl (Nat.le_of_ble_eq_true rfl) (by decide)) ?_
            rw [sp_put_o (by omega)]
            refine wj_if_eq C 97 dX4_copy_82 (by decide) (fun h82 => ?_) (fun h82 => ?_)
            · refine wj_aload_n C 0 dX4_copy_97 rfl rfl ?_
              refine wj_ldc C dX4_copy_98 kc_X4_68 ?_
              refine wj_cif C (wj_rV C dX4_copy_100 km_X4_tell kl_X4_69 is_X4 rfl rfl (c_X4_tell (w := 0) l V (by decide) (by decide)) rfl rfl (Nat.le_of_ble_eq_true rfl) (by decide)) ?_
              exact hR _ _ _ _ _ dX4_copy_103 (sp_rf2 (by rw [a_copy, if_pos ⟨hp3, hq3⟩, hcp, hcq, if_neg hmis, if_pos hkk, if_neg (fun z => by first | exact wj_c0 h82 z.1 | exact wj_c0 h94 z.2)]) rfl (by rw [n_copy, if_neg (fun z => by have := z.2.2.2; rw [hcp, hcq] at this; exact (fun z => by first | exact wj_c0 h82 z.1 | exact wj_c0 h94 z.2) this)]) (by decide)) wj_rfl
            · refine wj_aload C dX4_copy_85 rfl ?_
              refine wj_iload C dX4_copy_87 rfl ?_
              refine wj_iload C dX4_copy_89 rfl ?_
              refine wj_cif C (wj_rV C dX4_copy_91 km_X1_has kl_X4_248 (is_X1 (by first | assumption | omega)) rfl rfl (c_X1_has l V (by omega)) rfl rfl (Nat.le_of_ble_eq_true rfl) (by decide)) ?_
              rw [sp_put_o (by omega)]
              refine wj_if_ne C 104 dX4_copy_94 (by decide) (fun h94 => ?_) (fun h94 => ?_)
              · have f1 : sp_ft f nn ((sp_shC σ).2.1 p) := wj_c1 h82
                have f2 : sp_ft o9 nn ((sp_shC σ).2.1 q) := wj_c1 h94
                have g1 := sp_has hp40 (hmp ▸ f1)
                have g2 := sp_has hq40 (hmq ▸ f2)
                refine wj_aload C dX4_copy_104 rfl ?_
                refine wg_X4_251 C dX4_copy_106 (by first | assumption | omega) ?_
                refine wj_iload_n C 2 dX4_copy_109 rfl rfl ?_
                refine wj_aload C dX4_copy_110 rfl ?_
                refine wg_X4_251 C dX4_copy_112 (by first | assumption | omega) ?_
                refine wj_iload C dX4_copy_115 rfl ?_
                refine wj_iload C dX4_copy_117 rfl ?_
                refine wj_copy C dX4_copy_119 kx_X4_254 (ar_numbers (by first | assumption | omega)) (ar_numbers (by first | assumption | omega)) g1.1 g2.1 g1.2.1 (by omega) (by omega) (by decide) (Nat.le_of_ble_eq_true rfl) ?_
                rw [sp_put_r (by omega), sp_put_o (by omega), sp_put_o (by omega), show 38 + p + 4 = 42 + p by omega, show 38 + q + 4 = 42 + q by omega]
                refine wj_iload C dX4_copy_122 rfl ?_
                exact hR _ _ _ _ _ dX4_copy_124 (sp_rv2 (by rw [a_copy, if_pos ⟨hp3, hq3⟩, hcp, hcq, if_neg hmis, if_pos hkk, if_pos ⟨f1, f2⟩]) rfl (by rw [n_copy, if_pos ⟨⟨hp3, hq3⟩, (by rw [hcp, hcq]; exact hmis), (by rw [hcp, hcq]; exact hkk), (by rw [hcp]; exact f1), (by rw [hcq]; exact f2)⟩, hcp, hcq])) wj_rfl
              · refine wj_aload_n C 0 dX4_copy_97 rfl rfl ?_
                refine wj_ldc C dX4_copy_98 kc_X4_68 ?_
                refine wj_cif C (wj_rV C dX4_copy_100 km_X4_tell kl_X4_69 is_X4 rfl rfl (c_X4_tell (w := 0) l V (by decide) (by decide)) rfl rfl (Nat.le_of_ble_eq_true rfl) (by decide)) ?_
                exact hR _ _ _ _ _ dX4_copy_103 (sp_rf2 (by rw [a_copy, if_pos ⟨hp3, hq3⟩, hcp, hcq, if_neg hmis, if_pos hkk, if_neg (fun z => by first | exact wj_c0 h82 z.1 | exact wj_c0 h94 z.2)]) rfl (by rw [n_copy, if_neg (fun z => by have := z.2.2.2; rw [hcp, hcq] at this; exact (fun z => by first | exact wj_c0 h82 z.1 | exact wj_c0 h94 z.2) this)]) (by decide)) wj_rfl
          · have hkk : ¬ (sp_shC σ).1 p = (sp_shC σ).1 q := h64
            refine wj_aload_n C 0 dX4_copy_67 rfl rfl ?_
            refine wj_ldc C dX4_copy_68 kc_X4_235 ?_
            refine wj_cif C (wj_rV C dX4_copy_70 km_X4_tell kl_X4_69 is_X4 rfl rfl (c_X4_tell (w := 2) l V (by decide) (by decide)) rfl rfl (Nat.le_of_ble_eq_true rfl) (by decide)) ?_
            exact hR _ _ _ _ _ dX4_copy_73 (sp_rf2 (by rw [a_copy, if_pos ⟨hp3, hq3⟩, hcp, hcq, if_neg hmis, if_neg hkk]) rfl (by rw [n_copy, if_neg (fun z => hkk (by have := z.2.2.1; rw [hcp, hcq] at this; exact this))]) (by decide)) wj_rfl
        · have hmis : (sp_shC σ).1 p = 0 ∨ (sp_shC σ).1 q = 0 := Or.inr (wj_c1 h44)
          refine wj_aload_n C 0 dX4_copy_47 rfl rfl ?_
          refine wj_ldc C dX4_copy_48 kc_X4_206 ?_
          refine wj_cif C (wj_rV C dX4_copy_50 km_X4_tell kl_X4_69 is_X4 rfl rfl (c_X4_tell (w := 5) l V (by decide) (by decide)) rfl rfl (Nat.le_of_ble_eq_true rfl) (by decide)) ?_
          exact hR _ _ _ _ _ dX4_copy_53 (sp_rf2 (by rw [a_copy, if_pos ⟨hp3, hq3⟩, hcp, hcq, if_pos hmis]) rfl (by rw [n_copy, if_neg (fun z => z.2.1 (by rw [hcp, hcq]; exact hmis))]) (by decide)) wj_rfl

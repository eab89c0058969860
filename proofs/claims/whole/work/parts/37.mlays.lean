theorem sp_r51 {σ : wj_St} {g : Nat → Int32} : (wj_r σ 51 g) 48 = σ 48 := wj_r_ne (by decide)
theorem sp_mqr {σ : wj_St} {A : sp_L} : sp_mq σ A = sp_mq (wj_r σ 51 (σ 51)) A := by rw [wj_r_id]
/-- a lane but for one field of a slip -/
theorem sp_us_0 {A : sp_L} {i f : Nat} : sp_us A i f (sp_sl A i f) = A := sp_us_id
/-- which fields may hold which numbers -/
def sp_fv (f v : Nat) : Prop := (f = 0 ∧ v ≤ 6) ∨ (f = 1 ∧ v ≤ 15) ∨ (f = 4 ∧ v ≤ 2) ∨ (f = 5 ∧ 1 ≤ v ∧ v ≤ 12)
theorem sp_G_fv {A : sp_L} {N y i f v : Nat} (h : sp_G A N y) (hv : sp_fv f v) : sp_G (sp_us A i f (nI v)) N y := sp_G_us h (fun hi => sp_gs_u (h.2.2.2.1 i hi) hv)
set_option maxRecDepth 100000 in
set_option maxHeartbeats 4000000 in
theorem c_X5_fewestFor (l : Launch) (V : wj_V) {σ : wj_St} {A : sp_L} {N y : Nat} {i f M m : Nat} (hG : sp_G A N y) (hy : y < 90000) (hc : σ 48 5 = 0) (hi : i < N) (hf : f < 7) (hfv : ∀ v, v < M → sp_fv f v) (hM : M < 20) (hm : m ≤ 200) : wj_M l V yX5_fewestFor cX5_fewestFor 9 (some .int) 9 203 [.ref (V.2.2.1 48), .int (nI (21 + 7 * i + f)), .int (nI M), .int (nI m)] (sp_mq σ A) (wj_QI V (fun r u => r = nI (sp_am (sp_fg A i f m) M).1 ∧ ∃ g, u = (sp_mq (wj_r σ 51 g) A))) := by
  refine wj_ofI (own := RX5) [some (.ref (V.2.2.1 48)), some (.int (nI (21 + 7 * i + f))), some (.int (nI M)), some (.int (nI m)), none, none, none, none, none] (by decide) rfl rfl (Nat.le_of_ble_eq_true rfl) (fun X C hR => ?_)
  have hN8 := hG.2.1
  have lp : ∀ n v g x j, v ≤ M → M - v < n → wj_J l V X 18 [some (.ref (V.2.2.1 48)), some (.int (nI (21 + 7 * i + f))), some (.int (nI M)), some (.int (nI m)), some (.int (sp_sl A i f)), some (.int (nI (sp_am (sp_fg A i f m) v).1)), some (.int (nI (sp_am (sp_fg A i f m) v).2)), some (.int (nI v)), j] [] (sp_mq (wj_r σ 51 g) (sp_us A i f x)) := by
    intro n
    induction n with
    | zero => intro v g x j _ h; omega
    | succ n ih =>
      intro v g x j hv hlt9
      refine wj_iload C dX5_fewestFor_18 rfl ?_
      refine wj_iload_n C 2 dX5_fewestFor_20 rfl rfl ?_
      refine wj_icmp_ge C 60 dX5_fewestFor_21 (by decide) (fun h21 => ?_) (fun h21 => ?_)
      · have e9 := wj_ge (N := M) (by omega) hv h21
        subst e9
        refine wj_aload_n C 0 dX5_fewestFor_60 rfl rfl ?_
        refine wg_X5_9 C dX5_fewestFor_61 ?_
        refine wj_iload_n C 1 dX5_fewestFor_64 rfl rfl ?_
        refine wj_iload C dX5_fewestFor_65 rfl ?_
        refine wj_iastN C dX5_fewestFor_67 ar_now ⟨by omega, by decide⟩ ?_
        rw [sp_mq_us (by omega) hf, sp_us_ov, sp_us_id]
        refine wj_iload C dX5_fewestFor_68 rfl ?_
        exact hR _ _ _ _ _ dX5_fewestFor_70 ⟨rfl, _, rfl⟩ wj_rfl
      · have hlt := wj_nge (N := M) (by omega) hv h21
        refine wj_aload_n C 0 dX5_fewestFor_24 rfl rfl ?_
        refine wg_X5_9 C dX5_fewestFor_25 ?_
        refine wj_iload_n C 1 dX5_fewestFor_28 rfl rfl ?_
        refine wj_iload C dX5_fewestFor_29 rfl ?_
        refine wj_iastN C dX5_fewestFor_31 ar_now ⟨by omega, by decide⟩ ?_
        rw [sp_mq_us (by omega) hf, sp_us_ov]
        refine wj_aload_n C 0 dX5_fewestFor_32 rfl rfl ?_
        refine wj_iload_n C 3 dX5_fewestFor_33 rfl rfl ?_
        refine wj_cif C (wj_rV C dX5_fewestFor_34 km_X5_gapsBehind kl_X5_192 is_X5 rfl rfl (c_X5_gapsBehind (c := false) l V (sp_G_fv hG (hfv v hlt)) hy (by rw [sp_r51]; exact hc) hm) rfl rfl (Nat.le_of_ble_eq_true rfl) (by decide)) ?_
        rw [sp_as_rr, sp_yxs_f, show sp_gn (sp_yrs (sp_us A i f (nI v)) m) = sp_fg A i f m v from rfl]
        have hg16 : sp_fg A i f m v ≤ 16 := sp_gn_le _
        have hf17 := sp_am_le (sp_fg A i f m) v
        refine wj_istore C dX5_fewestFor_37 (by decide) rfl ?_
        dsimp only [List.set]
        refine wj_iload C dX5_fewestFor_39 rfl ?_
        refine wj_iload C dX5_fewestFor_41 rfl ?_
        refine wj_icmp_ge C 54 dX5_fewestFor_43 (by decide) (fun h43 => ?_) (fun h43 => ?_)
        · have e8 : sp_am (sp_fg A i f m) (v + 1) = sp_am (sp_fg A i f m) v := by rw [sp_am, if_neg (by have := (nI_leI (by omega) (by omega)).mp h43; omega)]
          refine wj_iinc C (v := nI (v + 1)) dX5_fewestFor_54 rfl (wj_i1 v) (by decide) rfl ?_
          dsimp only [List.set]
          refine wj_goto C 18 dX5_fewestFor_57 (by decide) ?_
          exact (by have hh := fun g3 x3 j3 => ih (v + 1) g3 x3 j3 (by omega) (by omega); rw [e8] at hh; exact hh _ _ _)
        · have e8 : sp_am (sp_fg A i f m) (v + 1) = (v, sp_fg A i f m v) := by
            rw [sp_am, if_pos]
            rcases Nat.lt_or_ge (sp_fg A i f m v) (sp_am (sp_fg A i f m) v).2 with q | q
            · exact q
            · exact absurd ((nI_leI (by omega) (by omega)).mpr q) h43
          refine wj_iload C dX5_fewestFor_46 rfl ?_
          refine wj_istore C dX5_fewestFor_48 (by decide) rfl ?_
          dsimp only [List.set]
          refine wj_iload C dX5_fewestFor_50 rfl ?_
          refine wj_istore C dX5_fewestFor_52 (by decide) rfl ?_
          dsimp only [List.set]
          refine wj_iinc C (v := nI (v + 1)) dX5_fewestFor_54 rfl (wj_i1 v) (by decide) rfl ?_
          dsimp only [List.set]
          refine wj_goto C 18 dX5_fewestFor_57 (by decide) ?_
          exact (by have hh := fun g3 x3 j3 => ih (v + 1) g3 x3 j3 (by omega) (by omega); rw [e8] at hh; exact hh _ _ _)
  refine wj_aload_n C 0 dX5_fewestFor_0 rfl rfl ?_
  refine wg_X5_9 C dX5_fewestFor_1 ?_
  refine wj_iload_n C 1 dX5_fewestFor_4 rfl rfl ?_
  refine wj_ialdN C dX5_fewestFor_5 ar_now ⟨by omega, by decide⟩ ?_
  rw [sp_mq_49, sp_mr_s _ _ (by omega) hf]
  refine wj_istore C dX5_fewestFor_6 (by decide) rfl ?_
  dsimp only [List.set]
  rw [sp_mqr, show sp_mq (wj_r σ 51 (σ 51)) A = sp_mq (wj_r σ 51 (σ 51)) (sp_us A i f (sp_sl A i f)) by rw [sp_us_id]]
  refine wj_iconst (v := 0) C dX5_fewestFor_8 (by decide) ?_
  refine wj_istore C dX5_fewestFor_9 (by decide) rfl ?_
  dsimp only [List.set]
  refine wj_bipush (v := 17) C dX5_fewestFor_11 (by decide) ?_
  refine wj_istore C dX5_fewestFor_13 (by decide) rfl ?_
  dsimp only [List.set]
  refine wj_iconst (v := 0) C dX5_fewestFor_15 (by decide) ?_
  refine wj_istore C dX5_fewestFor_16 (by decide) rfl ?_
  dsimp only [List.set]
  exact lp (M + 1) 0 _ _ _ (by omega) (by omega)
set_option maxRecDepth 100000 in
set_option maxHeartbeats 4000000 in
theorem c_X5_lay (l : Launch) (V : wj_V) {σ : wj_St} {A : sp_L} {N y : Nat} {x nn : Int32} (hG : sp_G A N y) (hy : y < 90000) (hc : σ 48 5 = 0) : wj_M l V yX5_lay cX5_lay 3 (some .int) 10 231 [.ref (V.2.2.1 48), .int x, .int nn] (sp_mq σ A) (wj_QI V (fun r u => r = sp_v (a_few A x 4 2 nn) ∧ ∃ g, u = sp_mq (wj_r (sp_fw σ (a_few A x 4 2 nn)) 51 g) A)) := by
  refine wj_ofI (own := RX5) [some (.ref (V.2.2.1 48)), some (.int x), some (.int nn)] (by decide) rfl rfl (Nat.le_of_ble_eq_true rfl) (fun X C hR => ?_)
  refine wj_aload_n C 0 dX5_lay_0 rfl rfl ?_
  refine wj_iload_n C 1 dX5_lay_1 rfl rfl ?_
  refine wj_cif C (wj_rV C dX5_lay_2 km_X5_isSlip kl_X5_146 is_X5 rfl rfl (c_X5_isSlip l V hG.1) rfl rfl (Nat.le_of_ble_eq_true rfl) (by decide)) ?_
  rw [sp_rgO hG.1]
  refine wj_if_eq C 29 dX5_lay_5 (by decide) (fun h5 => ?_) (fun h5 => ?_)
  · refine wj_aload_n C 0 dX5_lay_29 rfl rfl ?_
    refine wj_ldc C dX5_lay_30 kc_X5_60 ?_
    refine wj_cif C (wj_rV C dX5_lay_32 km_X5_finding kl_X5_66 is_X5 rfl rfl (c_X5_finding (w := 0) l V (by decide) (by decide)) rfl rfl (Nat.le_of_ble_eq_true rfl) (by decide)) ?_
    exact hR _ _ _ _ _ dX5_lay_35 (by first | exact sp_rvG (by rw [a_few]; refine (if_pos ⟨h5a, h12a⟩).trans ?_; rw [nI_clamp (by omega), nI_clamp (by omega), hr9]) rfl rfl | exact sp_rfM (by rw [a_few]; exact if_neg (fun q => by first | exact wj_c0 h5 q.1 | exact wj_c0 h12 q.2)) rfl rfl (by decide)) wj_rfl
  · refine wj_iload_n C 2 dX5_lay_8 rfl rfl ?_
    refine wj_cif C (wj_rS C dX5_lay_9 km_X5_isThought kl_X5_195 (c_X5_isThought l V) rfl rfl (Nat.le_of_ble_eq_true rfl) (by decide)) ?_
    refine wj_if_eq C 29 dX5_lay_12 (by decide) (fun h12 => ?_) (fun h12 => ?_)
    · refine wj_aload_n C 0 dX5_lay_29 rfl rfl ?_
      refine wj_ldc C dX5_lay_30 kc_X5_60 ?_
      refine wj_cif C (wj_rV C dX5_lay_32 km_X5_finding kl_X5_66 is_X5 rfl rfl (c_X5_finding (w := 0) l V (by decide) (by decide)) rfl rfl (Nat.le_of_ble_eq_true rfl) (by decide)) ?_
      exact hR _ _ _ _ _ dX5_lay_35 (by first | exact sp_rvG (by rw [a_few]; refine (if_pos ⟨h5a, h12a⟩).trans ?_; rw [nI_clamp (by omega), nI_clamp (by omega), hr9]) rfl rfl | exact sp_rfM (by rw [a_few]; exact if_neg (fun q => by first | exact wj_c0 h5 q.1 | exact wj_c0 h12 q.2)) rfl rfl (by decide)) wj_rfl
    · have h5a := wj_c1 h5
      have h12a := wj_c1 h12
      obtain ⟨i, hi, rfl⟩ := sp_rgi hG.1 hG.2.1 h5a
      obtain ⟨m, hm, rfl⟩ := wj_natC (N := 60) h12a
      have hN8 := hG.2.1
      refine wj_aload_n C 0 dX5_lay_15 rfl rfl ?_
      refine wj_iload_n C 1 dX5_lay_16 rfl rfl ?_
      refine wj_iconst (v := 4) C dX5_lay_17 (by decide) ?_
      refine wj_cif C (wj_rS C dX5_lay_18 km_X5_slipAt kl_X5_79 (c_X5_slipAt (f := 4) l V) rfl rfl (Nat.le_of_ble_eq_true rfl) (by decide)) ?_
      refine wj_iconst (v := 3) C dX5_lay_21 (by decide) ?_
      refine wj_iload_n C 2 dX5_lay_22 rfl rfl ?_
      refine wj_ci C (wj_rV C dX5_lay_23 km_X5_fewestFor kl_X5_198 is_X5 rfl rfl (c_X5_fewestFor (f := 4) (M := 3) l V hG hy hc hi (by decide) (fun v hv => by unfold sp_fv; omega) (by decide) (by omega)) rfl rfl (Nat.le_of_ble_eq_true rfl) (by decide)) (fun r u hru => ?_)
      obtain ⟨hr9, g, rfl⟩ := hru
      refine wj_goto C 35 dX5_lay_26 (by decide) ?_
      exact hR _ _ _ _ _ dX5_lay_35 (by first | exact sp_rvG (by rw [a_few]; refine (if_pos ⟨h5a, h12a⟩).trans ?_; rw [nI_clamp (by omega), nI_clamp (by omega), hr9]) rfl rfl | exact sp_rfM (by rw [a_few]; exact if_neg (fun q => by first | exact wj_c0 h5 q.1 | exact wj_c0 h12 q.2)) rfl rfl (by decide)) wj_rfl
set_option maxRecDepth 100000 in
set_option maxHeartbeats 4000000 in
theorem c_X5_plant (l : Launch) (V : wj_V) {σ : wj_St} {A : sp_L} {N y : Nat} {x nn : Int32} (hG : sp_G A N y) (hy : y < 90000) (hc : σ 48 5 = 0) : wj_M l V yX5_plant cX5_plant 3 (some .int) 10 231 [.ref (V.2.2.1 48), .int x, .int nn] (sp_mq σ A) (wj_QI V (fun r u => r = sp_v (a_few A x 1 15 nn) ∧ ∃ g, u = sp_mq (wj_r (sp_fw σ (a_few A x 1 15 nn)) 51 g) A)) := by
  refine wj_ofI (own := RX5) [some (.ref (V.2.2.1 48)), some (.int x), some (.int nn)] (by decide) rfl rfl (Nat.le_of_ble_eq_true rfl) (fun X C hR => ?_)
  refine wj_aload_n C 0 dX5_plant_0 rfl rfl ?_
  refine wj_iload_n C 1 dX5_plant_1 rfl rfl ?_
  refine wj_cif C (wj_rV C dX5_plant_2 km_X5_isSlip kl_X5_146 is_X5 rfl rfl (c_X5_isSlip l V hG.1) rfl rfl (Nat.le_of_ble_eq_true rfl) (by decide)) ?_
  rw [sp_rgO hG.1]
  refine wj_if_eq C 30 dX5_plant_5 (by decide) (fun h5 => ?_) (fun h5 => ?_)
  · refine wj_aload_n C 0 dX5_plant_30 rfl rfl ?_
    refine wj_ldc C dX5_plant_31 kc_X5_60 ?_
    refine wj_cif C (wj_rV C dX5_plant_33 km_X5_finding kl_X5_66 is_X5 rfl rfl (c_X5_finding (w := 0) l V (by decide) (by decide)) rfl rfl (Nat.le_of_ble_eq_true rfl) (by decide)) ?_
    exact hR _ _ _ _ _ dX5_plant_36 (by first | exact sp_rvG (by rw [a_few]; refine (if_pos ⟨h5a, h12a⟩).trans ?_; rw [nI_clamp (by omega), nI_clamp (by omega), hr9]) rfl rfl | exact sp_rfM (by rw [a_few]; exact if_neg (fun q => by first | exact wj_c0 h5 q.1 | exact wj_c0 h12 q.2)) rfl rfl (by decide)) wj_rfl
  · refine wj_iload_n C 2 dX5_plant_8 rfl rfl ?_
    refine wj_cif C (wj_rS C dX5_plant_9 km_X5_isThought kl_X5_195 (c_X5_isThought l V) rfl rfl (Nat.le_of_ble_eq_true rfl) (by decide)) ?_
    refine wj_if_eq C 30 dX5_plant_12 (by decide) (fun h12 => ?_) (fun h12 => ?_)
    · refine wj_aload_n C 0 dX5_plant_30 rfl rfl ?_
      refine wj_ldc C dX5_plant_31 kc_X5_60 ?_
      refine wj_cif C (wj_rV C dX5_plant_33 km_X5_finding kl_X5_66 is_X5 rfl rfl (c_X5_finding (w := 0) l V (by decide) (by decide)) rfl rfl (Nat.le_of_ble_eq_true rfl) (by decide)) ?_
      exact hR _ _ _ _ _ dX5_plant_36 (by first | exact sp_rvG (by rw [a_few]; refine (if_pos ⟨h5a, h12a⟩).trans ?_; rw [nI_clamp (by omega), nI_clamp (by omega), hr9]) rfl rfl | exact sp_rfM (by rw [a_few]; exact if_neg (fun q => by first | exact wj_c0 h5 q.1 | exact wj_c0 h12 q.2)) rfl rfl (by decide)) wj_rfl
    · have h5a := wj_c1 h5
      have h12a := wj_c1 h12
      obtain ⟨i, hi, rfl⟩ := sp_rgi hG.1 hG.2.1 h5a
      obtain ⟨m, hm, rfl⟩ := wj_natC (N := 60) h12a
      have hN8 := hG.2.1
      refine wj_aload_n C 0 dX5_plant_15 rfl rfl ?_
      refine wj_iload_n C 1 dX5_plant_16 rfl rfl ?_
      refine wj_iconst (v := 1) C dX5_plant_17 (by decide) ?_
      refine wj_cif C (wj_rS C dX5_plant_18 km_X5_slipAt kl_X5_79 (c_X5_slipAt (f := 1) l V) rfl rfl (Nat.le_of_ble_eq_true rfl) (by decide)) ?_
      refine wj_bipush (v := 16) C dX5_plant_21 (by decide) ?_
      refine wj_iload_n C 2 dX5_plant_23 rfl rfl ?_
      refine wj_ci C (wj_rV C dX5_plant_24 km_X5_fewestFor kl_X5_198 is_X5 rfl rfl (c_X5_fewestFor (f := 1) (M := 16) l V hG hy hc hi (by decide) (fun v hv => by unfold sp_fv; omega) (by decide) (by omega)) rfl rfl (Nat.le_of_ble_eq_true rfl) (by decide)) (fun r u hru => ?_)
      obtain ⟨hr9, g, rfl⟩ := hru
      refine wj_goto C 36 dX5_plant_27 (by decide) ?_
      exact hR _ _ _ _ _ dX5_plant_36 (by first | exact sp_rvG (by rw [a_few]; refine (if_pos ⟨h5a, h12a⟩).trans ?_; rw [nI_clamp (by omega), nI_clamp (by omega), hr9]) rfl rfl | exact sp_rfM (by rw [a_few]; exact if_neg (fun q => by first | exact wj_c0 h5 q.1 | exact wj_c0 h12 q.2)) rfl rfl (by decide)) wj_rfl
set_option maxRecDepth 100000 in
set_option maxHeartbeats 4000000 in
theorem c_X5_kindFor (l : Launch) (V : wj_V) {σ : wj_St} {A : sp_L} {N y : Nat} {x nn : Int32} (hG : sp_G A N y) (hy : y < 90000) (hc : σ 48 5 = 0) : wj_M l V yX5_kindFor cX5_kindFor 9 (some .int) 9 204 [.ref (V.2.2.1 48), .int x, .int nn] (sp_mq σ A) (wj_QI V (fun r u => r = sp_v (a_kindFor A x nn) ∧ ∃ g, u = sp_mq (wj_r (sp_fw σ (a_kindFor A x nn)) 51 g) A)) := by
  refine wj_ofI (own := RX5) [some (.ref (V.2.2.1 48)), some (.int x), some (.int nn), none, none, none, none, none, none] (by decide) rfl rfl (Nat.le_of_ble_eq_true rfl) (fun X C hR => ?_)
  have lp : ∀ i m, x = nI i → nn = nI m → i < N → m ≤ 60 → a_kindFor A x nn = .inr (nI (sp_ax (sp_kg A i m) 7).1) → ∀ n v g z j, v ≤ 7 → 7 - v < n → wj_J l V X 45 [some (.ref (V.2.2.1 48)), some (.int (nI i)), some (.int (nI m)), some (.int (nI (21 + 7 * i + 0))), some (.int (sp_sl A i 0)), some (.int (nI (sp_ax (sp_kg A i m) v).1)), some (.int (sp_ax (sp_kg A i m) v).2), some (.int (nI v)), j] [] (sp_mq (wj_r σ 51 g) (sp_us A i 0 z)) := by
    intro i m hx hn2 hi hm ha n
    subst hx
    subst hn2
    have hN8 := hG.2.1
    obtain ⟨p, _, ep, hp9⟩ := wj_nat (hG.2.2.2.1 i hi).2.1.1
    have hp10 := (hG.2.2.2.1 i hi).2.1.2
    induction n with
    | zero => intro v g z j _ h; omega
    | succ n ih =>
      intro v g z j hv hlt9
      refine wj_iload C dX5_kindFor_45 rfl ?_
      refine wj_bipush (v := 6) C dX5_kindFor_47 (by decide) ?_
      refine wj_icmp_gt C 94 dX5_kindFor_49 (by decide) (fun h49 => ?_) (fun h49 => ?_)
      · have e9 : v = 7 := by have := (nI_ltI (a := 6) (b := v) (by decide) (by omega)).mp h49; omega
        subst e9
        refine wj_aload_n C 0 dX5_kindFor_94 rfl rfl ?_
        refine wg_X5_9 C dX5_kindFor_95 ?_
        refine wj_iload_n C 3 dX5_kindFor_98 rfl rfl ?_
        refine wj_iload C dX5_kindFor_99 rfl ?_
        refine wj_iastN C dX5_kindFor_101 ar_now ⟨by omega, by decide⟩ ?_
        rw [sp_mq_us (by omega) (by decide), sp_us_ov, sp_us_id]
        refine wj_iload C dX5_kindFor_102 rfl ?_
        exact hR _ _ _ _ _ dX5_kindFor_104 (sp_rvG ha rfl rfl) wj_rfl
      · have hlt : v < 7 := by
          rcases Nat.lt_or_ge v 7 with q | q
          · exact q
          · exact absurd (nI_lt (a := 6) (b := v) (by omega) (by omega)) h49
        refine wj_aload_n C 0 dX5_kindFor_52 rfl rfl ?_
        refine wg_X5_9 C dX5_kindFor_53 ?_
        refine wj_iload_n C 3 dX5_kindFor_56 rfl rfl ?_
        refine wj_iload C dX5_kindFor_57 rfl ?_
        refine wj_iastN C dX5_kindFor_59 ar_now ⟨by omega, by decide⟩ ?_
        rw [sp_mq_us (by omega) (by decide), sp_us_ov]
        refine wj_aload_n C 0 dX5_kindFor_60 rfl rfl ?_
        refine wj_aload_n C 0 dX5_kindFor_61 rfl rfl ?_
        refine wj_iload_n C 1 dX5_kindFor_62 rfl rfl ?_
        refine wj_iconst (v := 1) C dX5_kindFor_63 (by decide) ?_
        refine wj_cif C (wj_rV C dX5_kindFor_64 km_X5_slipIs kl_X5_82 is_X5 rfl rfl (c_X5_slipIs (f := 1) l V (by omega) (by decide)) rfl rfl (Nat.le_of_ble_eq_true rfl) (by decide)) ?_
        rw [sp_us_same, pk_un (by decide), ep]
        refine wj_iload_n C 2 dX5_kindFor_67 rfl rfl ?_
        refine wj_cif C (wj_rV C dX5_kindFor_68 km_X5_strengthBehind kl_X5_180 is_X5 rfl rfl (c_X5_strengthBehind (p := p) l V (sp_G_fv hG (show sp_fv 0 v from Or.inl ⟨rfl, by omega⟩)) hy (by rw [sp_r51]; exact hc) (by omega) (by omega)) rfl rfl (Nat.le_of_ble_eq_true rfl) (by decide)) ?_
        rw [sp_as_rr, ← ep, show sp_stg (sp_yrs (sp_us A i 0 (nI v)) m) (sp_sl A i 1) = sp_kg A i m v from rfl]
        refine wj_istore C dX5_kindFor_71 (by decide) rfl ?_
        dsimp only [List.set]
        refine wj_iload C dX5_kindFor_73 rfl ?_
        refine wj_iload C dX5_kindFor_75 rfl ?_
        refine wj_icmp_le C 88 dX5_kindFor_77 (by decide) (fun h77 => ?_) (fun h77 => ?_)
        · have e8 : sp_ax (sp_kg A i m) (v + 1) = sp_ax (sp_kg A i m) v := by rw [sp_ax, if_neg (Int32.not_lt.mpr h77)]
          refine wj_iinc C (v := nI (v + 1)) dX5_kindFor_88 rfl (wj_i1 v) (by decide) rfl ?_
          dsimp only [List.set]
          refine wj_goto C 45 dX5_kindFor_91 (by decide) ?_
          exact (by have hh := fun g3 x3 j3 => ih (v + 1) g3 x3 j3 (by omega) (by omega); rw [e8] at hh; exact hh _ _ _)
        · have e8 : sp_ax (sp_kg A i m) (v + 1) = (v, sp_kg A i m v) := by rw [sp_ax, if_pos (Int32.not_le.mp h77)]
          refine wj_iload C dX5_kindFor_80 rfl ?_
          refine wj_istore C dX5_kindFor_82 (by decide) rfl ?_
          dsimp only [List.set]
          refine wj_iload C dX5_kindFor_84 rfl ?_
          refine wj_istore C dX5_kindFor_86 (by decide) rfl ?_
          dsimp only [List.set]
          refine wj_iinc C (v := nI (v + 1)) dX5_kindFor_88 rfl (wj_i1 v) (by decide) rfl ?_
          dsimp only [List.set]
          refine wj_goto C 45 dX5_kindFor_91 (by decide) ?_
          exact (by have hh := fun g3 x3 j3 => ih (v + 1) g3 x3 j3 (by omega) (by omega); rw [e8] at hh; exact hh _ _ _)
  refine wj_aload_n C 0 dX5_kindFor_0 rfl rfl ?_
  refine wj_iload_n C 1 dX5_kindFor_1 rfl rfl ?_
  refine wj_cif C (wj_rV C dX5_kindFor_2 km_X5_isSlip kl_X5_146 is_X5 rfl rfl (c_X5_isSlip l V hG.1) rfl rfl (Nat.le_of_ble_eq_true rfl) (by decide)) ?_
  rw [sp_rgO hG.1]
  refine wj_if_eq C 15 dX5_kindFor_5 (by decide) (fun h5 => ?_) (fun h5 => ?_)
  · refine wj_aload_n C 0 dX5_kindFor_15 rfl rfl ?_
    refine wj_ldc C dX5_kindFor_16 kc_X5_60 ?_
    refine wj_cif C (wj_rV C dX5_kindFor_18 km_X5_finding kl_X5_66 is_X5 rfl rfl (c_X5_finding (w := 0) l V (by decide) (by decide)) rfl rfl (Nat.le_of_ble_eq_true rfl) (by decide)) ?_
    exact hR _ _ _ _ _ dX5_kindFor_21 (sp_rfM (by rw [a_kindFor]; exact if_neg (fun q => by first | exact wj_c0 h5 q.1 | exact wj_c0 h12 q.2)) rfl rfl (by decide)) wj_rfl
  · refine wj_iload_n C 2 dX5_kindFor_8 rfl rfl ?_
    refine wj_cif C (wj_rS C dX5_kindFor_9 km_X5_isThought kl_X5_195 (c_X5_isThought l V) rfl rfl (Nat.le_of_ble_eq_true rfl) (by decide)) ?_
    refine wj_if_ne C 22 dX5_kindFor_12 (by decide) (fun h12 => ?_) (fun h12 => ?_)
    · have h5a := wj_c1 h5
      have h12a := wj_c1 h12
      obtain ⟨i, hi, rfl⟩ := sp_rgi hG.1 hG.2.1 h5a
      obtain ⟨m, hm, rfl⟩ := wj_natC (N := 60) h12a
      have hN8 := hG.2.1
      have ha : a_kindFor A (nI i) (nI m) = .inr (nI (sp_ax (sp_kg A i m) 7).1) := by rw [a_kindFor]; refine (if_pos ⟨h5a, h12a⟩).trans ?_; rw [nI_clamp (by omega), nI_clamp (by omega)]
      refine wj_iload_n C 1 dX5_kindFor_22 rfl rfl ?_
      refine wj_iconst (v := 0) C dX5_kindFor_23 (by decide) ?_
      refine wj_cif C (wj_rS C dX5_kindFor_24 km_X5_slipAt kl_X5_79 (c_X5_slipAt (f := 0) l V) rfl rfl (Nat.le_of_ble_eq_true rfl) (by decide)) ?_
      refine wj_istore_n C 3 dX5_kindFor_27 rfl (by decide) rfl ?_
      dsimp only [List.set]
      refine wj_aload_n C 0 dX5_kindFor_28 rfl rfl ?_
      refine wg_X5_9 C dX5_kindFor_29 ?_
      refine wj_iload_n C 3 dX5_kindFor_32 rfl rfl ?_
      refine wj_ialdN C dX5_kindFor_33 ar_now ⟨by omega, by decide⟩ ?_
      rw [sp_mq_49, sp_mr_s _ _ (by omega) (by decide)]
      refine wj_istore C dX5_kindFor_34 (by decide) rfl ?_
      dsimp only [List.set]
      rw [sp_mqr, show sp_mq (wj_r σ 51 (σ 51)) A = sp_mq (wj_r σ 51 (σ 51)) (sp_us A i 0 (sp_sl A i 0)) by rw [sp_us_id]]
      refine wj_iconst (v := 0) C dX5_kindFor_36 (by decide) ?_
      refine wj_istore C dX5_kindFor_37 (by decide) rfl ?_
      dsimp only [List.set]
      refine wj_iconst (v := -1) C dX5_kindFor_39 (by decide) ?_
      refine wj_istore C dX5_kindFor_40 (by decide) rfl ?_
      dsimp only [List.set]
      refine wj_iconst (v := 0) C dX5_kindFor_42 (by decide) ?_
      refine wj_istore C dX5_kindFor_43 (by decide) rfl ?_
      dsimp only [List.set]
      exact lp i m rfl rfl hi hm ha 8 0 _ _ _ (by omega) (by omega)
    · refine wj_aload_n C 0 dX5_kindFor_15 rfl rfl ?_
      refine wj_ldc C dX5_kindFor_16 kc_X5_60 ?_
      refine wj_cif C (wj_rV C dX5_kindFor_18 km_X5_finding kl_X5_66 is_X5 rfl rfl (c_X5_finding (w := 0) l V (by decide) (by decide)) rfl rfl (Nat.le_of_ble_eq_true rfl) (by decide)) ?_
      exact hR _ _ _ _ _ dX5_kindFor_21 (sp_rfM (by rw [a_kindFor]; exact if_neg (fun q => by first | exact wj_c0 h5 q.1 | exact wj_c0 h12 q.2)) rfl rfl (by decide)) wj_rfl
theorem sp_wH_wH {A : sp_L} {x y : Int32} : sp_wH (sp_wH A x) y = sp_wH A y := rfl
theorem sp_wH_id {A : sp_L} : sp_wH A A.2.2.1 = A := rfl
theorem sp_calm_back {σ : wj_St} {g : Nat → Int32} (hc : σ 48 5 = 0) : wj_u (wj_r (wj_u σ 48 5 1) 51 g) 48 5 0 = wj_r σ 51 g := by
  funext q j
  by_cases h : q = 48
  · subst h
    rw [wj_u_same, wj_r_ne (by decide), wj_u_same, wj_r_ne (by decide)]
    simp only [upd]
    split
    · subst_vars; exact hc.symm
    · rfl
  · rw [wj_u_ne h]
    by_cases h2 : q = 51
    · subst h2; rw [wj_r_same, wj_r_same]
    · rw [wj_r_ne h2, wj_r_ne h2, wj_u_ne h]
set_option maxRecDepth 100000 in
set_option maxHeartbeats 4000000 in
theorem c_X5_hurdlesFor (l : Launch) (V : wj_V) {σ : wj_St} {A : sp_L} {N y : Nat} {nn : Int32} (hG : sp_G A N y) (hy : y < 90000) (hc : σ 48 5 = 0) : wj_M l V yX5_hurdlesFor cX5_hurdlesFor 4 (some .int) 9 203 [.ref (V.2.2.1 48), .int nn] (sp_mq σ A) (wj_QI V (fun r u => r = sp_v (a_hurdlesFor A nn) ∧ ∃ g, u = sp_mq (wj_r (sp_fw σ (a_hurdlesFor A nn)) 51 g) A)) := by
  refine wj_ofI (own := RX5) [some (.ref (V.2.2.1 48)), some (.int nn), none, none] (by decide) rfl rfl (Nat.le_of_ble_eq_true rfl) (fun X C hR => ?_)
  refine wj_iload_n C 1 dX5_hurdlesFor_0 rfl rfl ?_
  refine wj_cif C (wj_rS C dX5_hurdlesFor_1 km_X5_isThought kl_X5_195 (c_X5_isThought l V) rfl rfl (Nat.le_of_ble_eq_true rfl) (by decide)) ?_
  refine wj_if_ne C 14 dX5_hurdlesFor_4 (by decide) (fun h4 => ?_) (fun h4 => ?_)
  · have h4a := wj_c1 h4
    obtain ⟨m, hm, rfl⟩ := wj_natC (N := 60) h4a
    have hG9 : sp_G (sp_wH A 0) N y := ⟨hG.1, hG.2.1, hG.2.2.1, hG.2.2.2.1, hG.2.2.2.2.1, hG.2.2.2.2.2⟩
    refine wj_aload_n C 0 dX5_hurdlesFor_14 rfl rfl ?_
    refine wg_X5_9 C dX5_hurdlesFor_15 ?_
    refine wj_iconst (v := 3) C dX5_hurdlesFor_18 (by decide) ?_
    refine wj_ialdN C dX5_hurdlesFor_19 ar_now ⟨by decide, by decide⟩ ?_
    rw [sp_mq_49, sp_mr_3]
    refine wj_istore_n C 2 dX5_hurdlesFor_20 rfl (by decide) rfl ?_
    dsimp only [List.set]
    refine wj_aload_n C 0 dX5_hurdlesFor_21 rfl rfl ?_
    refine wg_X5_9 C dX5_hurdlesFor_22 ?_
    refine wj_iconst (v := 3) C dX5_hurdlesFor_25 (by decide) ?_
    refine wj_iconst (v := 0) C dX5_hurdlesFor_26 (by decide) ?_
    refine wj_iastN C dX5_hurdlesFor_27 ar_now ⟨by decide, by decide⟩ ?_
    rw [sp_mq_u3]
    refine wj_aload_n C 0 dX5_hurdlesFor_28 rfl rfl ?_
    refine wj_iconst (v := 1) C dX5_hurdlesFor_29 (by decide) ?_
    refine wp_X5_155 C dX5_hurdlesFor_30 (by first | exact Or.inl rfl | exact Or.inr rfl | assumption) ?_
    rw [sp_mq_u9 (by decide)]
    refine wj_aload_n C 0 dX5_hurdlesFor_33 rfl rfl ?_
    refine wj_iload_n C 1 dX5_hurdlesFor_34 rfl rfl ?_
    refine wj_cif C (wj_rV C dX5_hurdlesFor_35 km_X5_gapsBehind kl_X5_192 is_X5 rfl rfl (c_X5_gapsBehind (c := true) l V hG9 hy (by rw [wj_u_same]; rfl) (by omega)) rfl rfl (Nat.le_of_ble_eq_true rfl) (by decide)) ?_
    rw [sp_as_r]
    refine wj_istore_n C 3 dX5_hurdlesFor_38 rfl (by decide) rfl ?_
    dsimp only [List.set]
    refine wj_aload_n C 0 dX5_hurdlesFor_39 rfl rfl ?_
    refine wj_iconst (v := 0) C dX5_hurdlesFor_40 (by decide) ?_
    refine wp_X5_155 C dX5_hurdlesFor_41 (by first | exact Or.inl rfl | exact Or.inr rfl | assumption) ?_
    rw [sp_mq_u9 (by decide), sp_calm_back hc]
    refine wj_aload_n C 0 dX5_hurdlesFor_44 rfl rfl ?_
    refine wg_X5_9 C dX5_hurdlesFor_45 ?_
    refine wj_iconst (v := 3) C dX5_hurdlesFor_48 (by decide) ?_
    refine wj_iload_n C 2 dX5_hurdlesFor_49 rfl rfl ?_
    refine wj_iastN C dX5_hurdlesFor_50 ar_now ⟨by decide, by decide⟩ ?_
    rw [sp_mq_u3, sp_wH_wH, sp_wH_id]
    refine wj_iload_n C 3 dX5_hurdlesFor_51 rfl rfl ?_
    exact hR _ _ _ _ _ dX5_hurdlesFor_52 (sp_rvG (by rw [a_hurdlesFor]; refine (if_pos h4a).trans ?_; rw [nI_clamp (by omega)]) rfl rfl) wj_rfl
  · refine wj_aload_n C 0 dX5_hurdlesFor_7 rfl rfl ?_
    refine wj_ldc C dX5_hurdlesFor_8 kc_X5_60 ?_
    refine wj_cif C (wj_rV C dX5_hurdlesFor_10 km_X5_finding kl_X5_66 is_X5 rfl rfl (c_X5_finding (w := 0) l V (by decide) (by decide)) rfl rfl (Nat.le_of_ble_eq_true rfl) (by decide)) ?_
    exact hR _ _ _ _ _ dX5_hurdlesFor_13 (sp_rfM (by rw [a_hurdlesFor]; exact if_neg (wj_c0 h4)) rfl rfl (by decide)) wj_rfl

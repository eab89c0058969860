def sp_uF (w : Int32) : Nat → Int32 → Bool
  | 0, _ => false
  | n + 1, k => if k < 0 then false else if k = w then true else sp_uF w n (sp_ab k)
def sp_ch : Nat → Int32 → Bool
  | 0, k => decide (k < 0)
  | n + 1, k => decide (k < 0) || sp_ch n (sp_ab k)
theorem sp_uF_neg {w k : Int32} (h : k < 0) : ∀ n, sp_uF w n k = false
  | 0 => rfl
  | n + 1 => by rw [sp_uF, if_pos h]
theorem sp_uF_k : ∀ k, k < 7 → ∀ w, w < 7 → sp_uF (nI w) 5 (nI k) = sp_one (nI w) 3 (nI k) := by decide +kernel
theorem sp_ch_k : ∀ k, k < 7 → sp_ch 5 (nI k) = true := by decide +kernel
theorem sp_mq_usp {σ : wj_St} {A : sp_L} {j : Nat} {x : Int32} (h : 11 ≤ j ∧ j < 21) : wj_u (sp_mq σ A) 49 j x = sp_mq (wj_u σ 49 j x) A := by
  rw [sp_mq_u, sp_mq, wj_u_r, wj_rr2, wj_r_same]
  congr 1
  funext i
  by_cases e : i = j
  · subst e
    rw [sp_mr_o _ _ (Or.inr (Or.inl h))]
    simp [upd]
  · simp only [upd, sp_mr, if_neg e]
/-- the reference's spots -/
def sp_spM (σ : wj_St) : Nat → Int32 := fun p => σ 49 (11 + p)
def sp_spok (f : Nat → Int32) (N : Nat) : Prop := ∀ p, p < 10 → f p = -1 ∨ ∃ j, j < N ∧ f p = nI j
def n_holdM (σ : wj_St) (A : sp_L) (p x : Int32) : wj_St := if (0 ≤ p ∧ p ≤ 9) ∧ (x = -1 ∨ sp_rg A x) then wj_u σ 49 (11 + p.toNatClampNeg) x else σ
set_option maxRecDepth 100000 in
set_option maxHeartbeats 4000000 in
theorem c_X5_isUnder (l : Launch) (V : wj_V) {σ : wj_St} {kk : Nat} {w : Int32} (hk : kk < 7) : wj_M l V yX5_isUnder cX5_isUnder 3 (some .boolean) 1 20 [.int (nI kk), .int w] σ (wj_I V (if sp_uF w 5 (nI kk) = true then 1 else 0) σ) := by
  refine wj_ofZ (own := RX5) [some (.int (nI kk)), some (.int w), none] (by decide) rfl rfl (Nat.le_of_ble_eq_true rfl) (fun X C hR => ?_)
  have lp : ∀ b, ∀ n (k : Int32), sp_ch n k = true → sp_uF w n k = b → (∀ r : Int32, (r = if sp_uF w 5 (nI kk) = true then 1 else 0) = (r = if b = true then 1 else 0)) → wj_J l V X 2 [some (.int (nI kk)), some (.int w), some (.int k)] [] σ := by
    intro b n
    induction n using Nat.strongRecOn with
    | ind n ih =>
      intro k hch hb hpost
      refine wj_iload_n C 2 dX5_isUnder_2 rfl rfl ?_
      refine wj_if_lt C 19 dX5_isUnder_3 (by decide) (fun h3 => ?_) (fun h3 => ?_)
      · have hr9 := sp_uF_neg (w := w) h3 n
        rw [hr9] at hb
        refine wj_iload_n C 2 dX5_isUnder_19 rfl rfl ?_
        refine wj_if_lt C 27 dX5_isUnder_20 (by decide) (fun h20 => ?_) (fun h20 => ?_)
        · refine wj_iconst (v := 0) C dX5_isUnder_27 (by decide) ?_
          exact hR _ _ _ _ _ dX5_isUnder_28 ⟨by decide +kernel, (by rw [hpost]; first | (rw [h8t]; rfl) | (rw [← hb]; rfl)), rfl⟩ wj_rfl
        · exact absurd h3 h20
      · have hge := Int32.not_lt.mp h3
        refine wj_iload_n C 2 dX5_isUnder_6 rfl rfl ?_
        refine wj_iload_n C 1 dX5_isUnder_7 rfl rfl ?_
        refine wj_icmp_eq C 19 dX5_isUnder_8 (by decide) (fun h8 => ?_) (fun h8 => ?_)
        · have h8t : b = true := by
            cases n with
            | zero => exact absurd (of_decide_eq_true hch) h3
            | succ n2 => rw [← hb, sp_uF, if_neg h3, if_pos h8]
          refine wj_iload_n C 2 dX5_isUnder_19 rfl rfl ?_
          refine wj_if_lt C 27 dX5_isUnder_20 (by decide) (fun h20 => ?_) (fun h20 => ?_)
          · exact absurd h20 h3
          · refine wj_iconst (v := 1) C dX5_isUnder_23 (by decide) ?_
            refine wj_goto C 28 dX5_isUnder_24 (by decide) ?_
            exact hR _ _ _ _ _ dX5_isUnder_28 ⟨by decide +kernel, (by rw [hpost]; first | (rw [h8t]; rfl) | (rw [← hb]; rfl)), rfl⟩ wj_rfl
        · have h8f : ∃ n2, n = n2 + 1 := by
            cases n with
            | zero => exact absurd (of_decide_eq_true hch) h3
            | succ n2 => exact ⟨n2, rfl⟩
          obtain ⟨n2, rfl⟩ := h8f
          refine wj_iload_n C 2 dX5_isUnder_11 rfl rfl ?_
          refine wj_cif C (wj_rS C dX5_isUnder_12 km_X5_above kl_X5_323 (c_X5_above l V) rfl rfl (Nat.le_of_ble_eq_true rfl) (by decide)) ?_
          refine wj_istore_n C 2 dX5_isUnder_15 rfl (by decide) rfl ?_
          dsimp only [List.set]
          refine wj_goto C 2 dX5_isUnder_16 (by decide) ?_
          exact ih n2 (Nat.lt_succ_self _) (sp_ab k) (by rw [sp_ch, decide_eq_false h3, Bool.false_or] at hch; exact hch) (by rw [← hb, sp_uF, if_neg h3, if_neg h8]) hpost
  refine wj_iload_n C 0 dX5_isUnder_0 rfl rfl ?_
  refine wj_istore_n C 2 dX5_isUnder_1 rfl (by decide) rfl ?_
  dsimp only [List.set]
  exact lp _ 5 _ (sp_ch_k kk hk) rfl (fun _ => rfl)
set_option maxRecDepth 100000 in
set_option maxHeartbeats 4000000 in
theorem c_X5_as (l : Launch) (V : wj_V) {σ : wj_St} {A : sp_L} {N y : Nat} {p k : Int32} (hG : sp_G A N y) (hy : y < 90000) (hS : sp_spok (sp_spM σ) N) : wj_M l V yX5_as cX5_as 4 (some .int) 2 43 [.ref (V.2.2.1 48), .int p, .int k] (sp_mq σ A) (wj_QI V (fun r u => r = sp_v (a_as (sp_spM σ) A p k) ∧ ∃ g, u = sp_mq (wj_r (sp_fw σ (a_as (sp_spM σ) A p k)) 51 g) A)) := by
  refine wj_ofI (own := RX5) [some (.ref (V.2.2.1 48)), some (.int p), some (.int k), none] (by decide) rfl rfl (Nat.le_of_ble_eq_true rfl) (fun X C hR => ?_)
  refine wj_iload_n C 1 dX5_as_0 rfl rfl ?_
  refine wj_cif C (wj_rS C dX5_as_1 km_X5_isSpot kl_X5_312 (c_X5_isSpot l V) rfl rfl (Nat.le_of_ble_eq_true rfl) (by decide)) ?_
  refine wj_if_eq C 14 dX5_as_4 (by decide) (fun h4 => ?_) (fun h4 => ?_)
  · refine wj_aload_n C 0 dX5_as_14 rfl rfl ?_
    refine wj_ldc C dX5_as_15 kc_X5_60 ?_
    refine wj_cif C (wj_rV C dX5_as_17 km_X5_finding kl_X5_66 is_X5 rfl rfl (c_X5_finding (w := 0) l V (by decide) (by decide)) rfl rfl (Nat.le_of_ble_eq_true rfl) (by decide)) ?_
    exact hR _ _ _ _ _ dX5_as_20 (sp_rfM (by rw [a_as]; exact if_neg (fun q => by first | exact wj_c0 h4 q.1 | exact wj_c0 h11 q.2)) rfl rfl (by decide)) wj_rfl
  · refine wj_iload_n C 2 dX5_as_7 rfl rfl ?_
    refine wj_cif C (wj_rS C dX5_as_8 km_X5_isKind kl_X5_129 (c_X5_isKind l V) rfl rfl (Nat.le_of_ble_eq_true rfl) (by decide)) ?_
    refine wj_if_ne C 21 dX5_as_11 (by decide) (fun h11 => ?_) (fun h11 => ?_)
    · have h4a := wj_c1 h4
      have h11a := wj_c1 h11
      obtain ⟨i, hi, rfl⟩ := wj_natC (N := 9) h4a
      obtain ⟨t, ht, rfl⟩ := wj_natC (N := 6) h11a
      have hN8 := hG.2.1
      have hsp := hS i (by omega)
      have ha : a_as (sp_spM σ) A (nI i) (nI t) = if sp_rg A (sp_spM σ i) then (if sp_one (nI t) 3 (sp_sl A (sp_spM σ i).toNatClampNeg 0) = true then .inr (sp_spM σ i) else .inl 2) else .inl 5 := by rw [a_as, if_pos ⟨h4a, h11a⟩, nI_clamp (by omega)]
      refine wj_aload_n C 0 dX5_as_21 rfl rfl ?_
      refine wg_X5_9 C dX5_as_22 ?_
      refine wj_bipush (v := 11) C dX5_as_25 (by decide) ?_
      refine wj_iload_n C 1 dX5_as_27 rfl rfl ?_
      refine wj_iadd C dX5_as_28 ?_
      refine wj_top (y := nI (11 + i)) (nI_add 11 i) ?_
      refine wj_ialdN C dX5_as_29 ar_now ⟨by omega, by decide⟩ ?_
      rw [sp_mq_49, sp_mr_o _ _ (Or.inr (Or.inl ⟨by omega, by omega⟩)), show σ 49 (11 + i) = sp_spM σ i from rfl]
      refine wj_istore_n C 3 dX5_as_30 rfl (by decide) rfl ?_
      dsimp only [List.set]
      refine wj_iload_n C 3 dX5_as_31 rfl rfl ?_
      refine wj_if_ge C 42 dX5_as_32 (by decide) (fun h32 => ?_) (fun h32 => ?_)
      · obtain ⟨j, hj, ej⟩ := hsp.resolve_left (fun z => by rw [z] at h32; exact absurd h32 (by decide))
        have hrg : sp_rg A (sp_spM σ i) := by rw [ej]; exact sp_rgN hG.1 hG.2.1 hj
        obtain ⟨kk, _, ek, hkz⟩ := wj_nat (hG.2.2.2.1 j hj).1.1
        have hk6 := (hG.2.2.2.1 j hj).1.2
        have hu := sp_uF_k kk (by omega) t (by omega)
        refine wj_aload_n C 0 dX5_as_42 rfl rfl ?_
        refine wj_iload_n C 3 dX5_as_43 rfl rfl ?_
        refine wj_iconst (v := 0) C dX5_as_44 (by decide) ?_
        rw [ej]
        refine wj_cif C (wj_rV C dX5_as_45 km_X5_slipIs kl_X5_82 is_X5 rfl rfl (c_X5_slipIs (f := 0) l V (by omega) (by decide)) rfl rfl (Nat.le_of_ble_eq_true rfl) (by decide)) ?_
        rw [ek]
        refine wj_iload_n C 2 dX5_as_48 rfl rfl ?_
        refine wj_cif C (wj_rS C dX5_as_49 km_X5_isUnder kl_X5_315 (c_X5_isUnder (kk := kk) l V (by omega)) rfl rfl (Nat.le_of_ble_eq_true rfl) (by decide)) ?_
        refine wj_if_eq C 59 dX5_as_52 (by decide) (fun h52 => ?_) (fun h52 => ?_)
        · have hr9 := wj_c0 h52
          refine wj_aload_n C 0 dX5_as_59 rfl rfl ?_
          refine wj_ldcw C dX5_as_60 kc_X5_318 ?_
          refine wj_cif C (wj_rV C dX5_as_63 km_X5_finding kl_X5_66 is_X5 rfl rfl (c_X5_finding (w := 2) l V (by decide) (by decide)) rfl rfl (Nat.le_of_ble_eq_true rfl) (by decide)) ?_
          exact hR _ _ _ _ _ dX5_as_66 (by first | exact sp_rvM (by rw [ha, if_pos hrg, ej, nI_clamp (by omega), ek, ← hu, if_pos hr9]) rfl rfl | exact sp_rfM (by rw [ha, if_pos hrg, ej, nI_clamp (by omega), ek, ← hu, if_neg hr9]) rfl rfl (by decide)) wj_rfl
        · have hr9 := wj_c1 h52
          refine wj_iload_n C 3 dX5_as_55 rfl rfl ?_
          refine wj_goto C 66 dX5_as_56 (by decide) ?_
          exact hR _ _ _ _ _ dX5_as_66 (by first | exact sp_rvM (by rw [ha, if_pos hrg, ej, nI_clamp (by omega), ek, ← hu, if_pos hr9]) rfl rfl | exact sp_rfM (by rw [ha, if_pos hrg, ej, nI_clamp (by omega), ek, ← hu, if_neg hr9]) rfl rfl (by decide)) wj_rfl
      · have hrg : ¬ sp_rg A (sp_spM σ i) := fun z => h32 z.1
        refine wj_aload_n C 0 dX5_as_35 rfl rfl ?_
        refine wj_ldc C dX5_as_36 kc_X5_210 ?_
        refine wj_cif C (wj_rV C dX5_as_38 km_X5_finding kl_X5_66 is_X5 rfl rfl (c_X5_finding (w := 5) l V (by decide) (by decide)) rfl rfl (Nat.le_of_ble_eq_true rfl) (by decide)) ?_
        exact hR _ _ _ _ _ dX5_as_41 (sp_rfM (by rw [ha, if_neg hrg]) rfl rfl (by decide)) wj_rfl
    · refine wj_aload_n C 0 dX5_as_14 rfl rfl ?_
      refine wj_ldc C dX5_as_15 kc_X5_60 ?_
      refine wj_cif C (wj_rV C dX5_as_17 km_X5_finding kl_X5_66 is_X5 rfl rfl (c_X5_finding (w := 0) l V (by decide) (by decide)) rfl rfl (Nat.le_of_ble_eq_true rfl) (by decide)) ?_
      exact hR _ _ _ _ _ dX5_as_20 (sp_rfM (by rw [a_as]; exact if_neg (fun q => by first | exact wj_c0 h4 q.1 | exact wj_c0 h11 q.2)) rfl rfl (by decide)) wj_rfl
set_option maxRecDepth 100000 in
set_option maxHeartbeats 4000000 in
theorem c_X5_hold (l : Launch) (V : wj_V) {σ : wj_St} {A : sp_L} {N y : Nat} {p x : Int32} (hG : sp_G A N y) (hy : y < 90000) : wj_M l V yX5_hold cX5_hold 3 (some .int) 2 43 [.ref (V.2.2.1 48), .int p, .int x] (sp_mq σ A) (wj_QI V (fun r u => r = sp_v (a_hold A p x) ∧ ∃ g, u = sp_mq (wj_r (sp_fw (n_holdM σ A p x) (a_hold A p x)) 51 g) A)) := by
  refine wj_ofI (own := RX5) [some (.ref (V.2.2.1 48)), some (.int p), some (.int x)] (by decide) rfl rfl (Nat.le_of_ble_eq_true rfl) (fun X C hR => ?_)
  refine wj_iload_n C 1 dX5_hold_0 rfl rfl ?_
  refine wj_cif C (wj_rS C dX5_hold_1 km_X5_isSpot kl_X5_312 (c_X5_isSpot l V) rfl rfl (Nat.le_of_ble_eq_true rfl) (by decide)) ?_
  refine wj_if_eq C 20 dX5_hold_4 (by decide) (fun h4 => ?_) (fun h4 => ?_)
  · refine wj_aload_n C 0 dX5_hold_20 rfl rfl ?_
    refine wj_ldc C dX5_hold_21 kc_X5_60 ?_
    refine wj_cif C (wj_rV C dX5_hold_23 km_X5_finding kl_X5_66 is_X5 rfl rfl (c_X5_finding (w := 0) l V (by decide) (by decide)) rfl rfl (Nat.le_of_ble_eq_true rfl) (by decide)) ?_
    exact hR _ _ _ _ _ dX5_hold_26 (sp_rfM (by rw [a_hold]; exact if_neg (fun q => by first | exact wj_c0 h4 q.1 | exact q.2.elim h9 (wj_c0 h17))) rfl (by rw [n_holdM]; exact if_neg (fun q => by first | exact wj_c0 h4 q.1 | exact q.2.elim h9 (wj_c0 h17))) (by decide)) wj_rfl
  · refine wj_iload_n C 2 dX5_hold_7 rfl rfl ?_
    refine wj_iconst (v := -1) C dX5_hold_8 (by decide) ?_
    refine wj_icmp_eq C 27 dX5_hold_9 (by decide) (fun h9 => ?_) (fun h9 => ?_)
    · have hx : x = -1 ∨ sp_rg A x := Or.inl h9
      refine wj_aload_n C 0 dX5_hold_27 rfl rfl ?_
      refine wg_X5_9 C dX5_hold_28 ?_
      refine wj_bipush (v := 11) C dX5_hold_31 (by decide) ?_
      refine wj_iload_n C 1 dX5_hold_33 rfl rfl ?_
      refine wj_iadd C dX5_hold_34 ?_
      have h4a := wj_c1 h4
      obtain ⟨i, hi, rfl⟩ := wj_natC (N := 9) h4a
      refine wj_top (y := nI (11 + i)) (nI_add 11 i) ?_
      refine wj_iload_n C 2 dX5_hold_35 rfl rfl ?_
      refine wj_iastN C dX5_hold_36 ar_now ⟨by omega, by decide⟩ ?_
      rw [sp_mq_usp ⟨by omega, by omega⟩]
      refine wj_iconst (v := 1) C dX5_hold_37 (by decide) ?_
      exact hR _ _ _ _ _ dX5_hold_38 (sp_rvM (by rw [a_hold]; exact if_pos ⟨h4a, hx⟩) rfl (by rw [n_holdM, if_pos ⟨h4a, hx⟩, nI_clamp (by omega)])) wj_rfl
    · refine wj_aload_n C 0 dX5_hold_12 rfl rfl ?_
      refine wj_iload_n C 2 dX5_hold_13 rfl rfl ?_
      refine wj_cif C (wj_rV C dX5_hold_14 km_X5_isSlip kl_X5_146 is_X5 rfl rfl (c_X5_isSlip l V hG.1) rfl rfl (Nat.le_of_ble_eq_true rfl) (by decide)) ?_
      rw [sp_rgO hG.1]
      refine wj_if_ne C 27 dX5_hold_17 (by decide) (fun h17 => ?_) (fun h17 => ?_)
      · have hx : x = -1 ∨ sp_rg A x := Or.inr (wj_c1 h17)
        refine wj_aload_n C 0 dX5_hold_27 rfl rfl ?_
        refine wg_X5_9 C dX5_hold_28 ?_
        refine wj_bipush (v := 11) C dX5_hold_31 (by decide) ?_
        refine wj_iload_n C 1 dX5_hold_33 rfl rfl ?_
        refine wj_iadd C dX5_hold_34 ?_
        have h4a := wj_c1 h4
        obtain ⟨i, hi, rfl⟩ := wj_natC (N := 9) h4a
        refine wj_top (y := nI (11 + i)) (nI_add 11 i) ?_
        refine wj_iload_n C 2 dX5_hold_35 rfl rfl ?_
        refine wj_iastN C dX5_hold_36 ar_now ⟨by omega, by decide⟩ ?_
        rw [sp_mq_usp ⟨by omega, by omega⟩]
        refine wj_iconst (v := 1) C dX5_hold_37 (by decide) ?_
        exact hR _ _ _ _ _ dX5_hold_38 (sp_rvM (by rw [a_hold]; exact if_pos ⟨h4a, hx⟩) rfl (by rw [n_holdM, if_pos ⟨h4a, hx⟩, nI_clamp (by omega)])) wj_rfl
      · refine wj_aload_n C 0 dX5_hold_20 rfl rfl ?_
        refine wj_ldc C dX5_hold_21 kc_X5_60 ?_
        refine wj_cif C (wj_rV C dX5_hold_23 km_X5_finding kl_X5_66 is_X5 rfl rfl (c_X5_finding (w := 0) l V (by decide) (by decide)) rfl rfl (Nat.le_of_ble_eq_true rfl) (by decide)) ?_
        exact hR _ _ _ _ _ dX5_hold_26 (sp_rfM (by rw [a_hold]; exact if_neg (fun q => by first | exact wj_c0 h4 q.1 | exact q.2.elim h9 (wj_c0 h17))) rfl (by rw [n_holdM]; exact if_neg (fun q => by first | exact wj_c0 h4 q.1 | exact q.2.elim h9 (wj_c0 h17))) (by decide)) wj_rfl
set_option maxRecDepth 100000 in
set_option maxHeartbeats 4000000 in
theorem c_X5_count (l : Launch) (V : wj_V) {σ : wj_St} {A : sp_L} {N y : Nat} {w : Int32} (hG : sp_G A N y) (hy : y < 90000) (hS : sp_spok (sp_spM σ) N) : wj_M l V yX5_count cX5_count 4 (some .int) 5 114 [.ref (V.2.2.1 48), .int w] (sp_mq σ A) (wj_QI V (fun r u => r = sp_v (a_count A (σ 48 7) (σ 49 2) (sp_use (sp_spM σ) 10) w) ∧ ∃ g, u = sp_mq (wj_r (sp_fw σ (a_count A (σ 48 7) (σ 49 2) (sp_use (sp_spM σ) 10) w)) 51 g) A)) := by
  refine wj_ofI (own := RX5) [some (.ref (V.2.2.1 48)), some (.int w), none, none] (by decide) rfl rfl (Nat.le_of_ble_eq_true rfl) (fun X C hR => ?_)
  have lp : w = 7 → ∀ n i, i ≤ 10 → 10 - i < n → wj_J l V X 98 [some (.ref (V.2.2.1 48)), some (.int w), some (.int (nI (sp_use (sp_spM σ) i))), some (.int (nI i))] [] (sp_mq σ A) := by
    intro hw7 n
    induction n with
    | zero => intro i _ h; omega
    | succ n ih =>
      intro i hi hm
      refine wj_iload_n C 3 dX5_count_98 rfl rfl ?_
      refine wj_bipush (v := 10) C dX5_count_99 (by decide) ?_
      refine wj_icmp_ge C 130 dX5_count_101 (by decide) (fun h101 => ?_) (fun h101 => ?_)
      · have e9 := wj_ge (N := 10) (by decide) hi h101
        subst e9
        refine wj_iload_n C 2 dX5_count_130 rfl rfl ?_
        exact hR _ _ _ _ _ dX5_count_131 (sp_rvM (by rw [hw7]; rfl) rfl rfl) wj_rfl
      · have hlt := wj_nge (N := 10) (by decide) hi h101
        refine wj_iload_n C 2 dX5_count_104 rfl rfl ?_
        refine wj_aload_n C 0 dX5_count_105 rfl rfl ?_
        refine wg_X5_9 C dX5_count_106 ?_
        refine wj_bipush (v := 11) C dX5_count_109 (by decide) ?_
        refine wj_iload_n C 3 dX5_count_111 rfl rfl ?_
        refine wj_iadd C dX5_count_112 ?_
        refine wj_top (y := nI (11 + i)) (nI_add 11 i) ?_
        refine wj_ialdN C dX5_count_113 ar_now ⟨by omega, by decide⟩ ?_
        rw [sp_mq_49, sp_mr_o _ _ (Or.inr (Or.inl ⟨by omega, by omega⟩)), show σ 49 (11 + i) = sp_spM σ i from rfl]
        refine wj_if_ge C 121 dX5_count_114 (by decide) (fun h114 => ?_) (fun h114 => ?_)
        · have e8 : sp_use (sp_spM σ) (i + 1) = sp_use (sp_spM σ) i + 1 := by
            rw [sp_use, if_neg (fun z => by rw [z] at h114; exact absurd h114 (by decide))]
          refine wj_iconst (v := 1) C dX5_count_121 (by decide) ?_
          refine wj_iadd C dX5_count_122 ?_
          refine wj_top (y := nI (sp_use (sp_spM σ) (i + 1))) (by rw [e8]; first | exact nI_1 _ | exact nI_add _ 0) ?_
          refine wj_istore_n C 2 dX5_count_123 rfl (by decide) rfl ?_
          dsimp only [List.set]
          refine wj_iinc C (v := nI (i + 1)) dX5_count_124 rfl (wj_i1 i) (by decide) rfl ?_
          dsimp only [List.set]
          refine wj_goto C 98 dX5_count_127 (by decide) ?_
          exact ih (i + 1) (by omega) (by omega)
        · have e8 : sp_use (sp_spM σ) (i + 1) = sp_use (sp_spM σ) i := by
            rw [sp_use, if_pos]
            exact (hS i hlt).resolve_right (fun z => by
              obtain ⟨j, hj, ej⟩ := z
              have := hG.2.1
              rw [ej] at h114
              exact h114 (nI_pos' (by omega)))
          refine wj_iconst (v := 0) C dX5_count_117 (by decide) ?_
          refine wj_goto C 122 dX5_count_118 (by decide) ?_
          refine wj_iadd C dX5_count_122 ?_
          refine wj_top (y := nI (sp_use (sp_spM σ) (i + 1))) (by rw [e8]; first | exact nI_1 _ | exact nI_add _ 0) ?_
          refine wj_istore_n C 2 dX5_count_123 rfl (by decide) rfl ?_
          dsimp only [List.set]
          refine wj_iinc C (v := nI (i + 1)) dX5_count_124 rfl (wj_i1 i) (by decide) rfl ?_
          dsimp only [List.set]
          refine wj_goto C 98 dX5_count_127 (by decide) ?_
          exact ih (i + 1) (by omega) (by omega)
  refine wj_iconst (v := 0) C dX5_count_0 (by decide) ?_
  refine wj_istore_n C 2 dX5_count_1 rfl (by decide) rfl ?_
  dsimp only [List.set]
  refine wj_iload_n C 1 dX5_count_2 rfl rfl ?_
  refine wj_swc C (0) (45) 48 dX5_count_3 (by decide) (by decide) (by decide) (by decide) (fun h3_0 => ?_) (fun h3_0 => ?_)
  · subst h3_0
    refine wj_aload_n C 0 dX5_count_48 rfl rfl ?_
    refine wg_X5_9 C dX5_count_49 ?_
    refine wj_iconst (v := 0) C dX5_count_52 (by decide) ?_
    refine wj_ialdN C dX5_count_53 ar_now ⟨by decide, by decide⟩ ?_
    rw [sp_mq_49, sp_mr_0]
    exact hR _ _ _ _ _ dX5_count_54 (sp_rvM rfl rfl rfl) wj_rfl
  refine wj_swc C (1) (52) 55 dX5_count_3 (by decide) (by decide) (by decide) (by decide) (fun h3_1 => ?_) (fun h3_1 => ?_)
  · subst h3_1
    refine wj_aload_n C 0 dX5_count_55 rfl rfl ?_
    refine wg_X5_9 C dX5_count_56 ?_
    refine wj_iconst (v := 1) C dX5_count_59 (by decide) ?_
    refine wj_ialdN C dX5_count_60 ar_now ⟨by decide, by decide⟩ ?_
    rw [sp_mq_49, sp_mr_1]
    exact hR _ _ _ _ _ dX5_count_61 (sp_rvM rfl rfl rfl) wj_rfl
  refine wj_swc C (2) (59) 62 dX5_count_3 (by decide) (by decide) (by decide) (by decide) (fun h3_2 => ?_) (fun h3_2 => ?_)
  · subst h3_2
    refine wj_aload_n C 0 dX5_count_62 rfl rfl ?_
    refine wj_cif C (wj_rV C dX5_count_63 km_X5_gaps kl_X5_122 is_X5 rfl rfl (c_X5_gaps l V hG) rfl rfl (Nat.le_of_ble_eq_true rfl) (by decide)) ?_
    obtain ⟨k, hk, ek⟩ := sp_gap_n A
    rw [ek]
    refine wj_cif C (wj_rS C dX5_count_66 km_X5_bits kl_X5_189 (c_X5_bits l V hk) rfl rfl (Nat.le_of_ble_eq_true rfl) (by decide)) ?_
    rw [sp_gn_of ek hk]
    exact hR _ _ _ _ _ dX5_count_69 (sp_rvM rfl rfl rfl) wj_rfl
  refine wj_swc C (3) (67) 70 dX5_count_3 (by decide) (by decide) (by decide) (by decide) (fun h3_3 => ?_) (fun h3_3 => ?_)
  · subst h3_3
    refine wj_aload_n C 0 dX5_count_70 rfl rfl ?_
    refine wg_X5_9 C dX5_count_71 ?_
    refine wj_iconst (v := 4) C dX5_count_74 (by decide) ?_
    refine wj_ialdN C dX5_count_75 ar_now ⟨by decide, by decide⟩ ?_
    rw [sp_mq_49, sp_mr_4]
    exact hR _ _ _ _ _ dX5_count_76 (sp_rvM rfl rfl rfl) wj_rfl
  refine wj_swc C (4) (74) 77 dX5_count_3 (by decide) (by decide) (by decide) (by decide) (fun h3_4 => ?_) (fun h3_4 => ?_)
  · subst h3_4
    refine wj_aload_n C 0 dX5_count_77 rfl rfl ?_
    refine wj_bipush (v := 6) C dX5_count_78 (by decide) ?_
    refine wj_cif C (wj_rV C dX5_count_80 km_X5_sumOf kl_X5_174 is_X5 rfl rfl (c_X5_sumOf (f := 6) l V hG (by decide)) rfl rfl (Nat.le_of_ble_eq_true rfl) (by decide)) ?_
    exact hR _ _ _ _ _ dX5_count_83 (sp_rvM rfl rfl rfl) wj_rfl
  refine wj_swc C (5) (81) 84 dX5_count_3 (by decide) (by decide) (by decide) (by decide) (fun h3_5 => ?_) (fun h3_5 => ?_)
  · subst h3_5
    refine wj_aload_n C 0 dX5_count_84 rfl rfl ?_
    refine wg_X5_229 C dX5_count_85 ?_
    rw [sp_mq_o (by decide)]
    exact hR _ _ _ _ _ dX5_count_88 (sp_rvM rfl rfl rfl) wj_rfl
  refine wj_swc C (6) (86) 89 dX5_count_3 (by decide) (by decide) (by decide) (by decide) (fun h3_6 => ?_) (fun h3_6 => ?_)
  · subst h3_6
    refine wj_aload_n C 0 dX5_count_89 rfl rfl ?_
    refine wg_X5_9 C dX5_count_90 ?_
    refine wj_iconst (v := 2) C dX5_count_93 (by decide) ?_
    refine wj_ialdN C dX5_count_94 ar_now ⟨by decide, by decide⟩ ?_
    rw [sp_mq_49, sp_mr_o _ _ (Or.inl rfl)]
    exact hR _ _ _ _ _ dX5_count_95 (sp_rvM rfl rfl rfl) wj_rfl
  refine wj_swc C (7) (93) 96 dX5_count_3 (by decide) (by decide) (by decide) (by decide) (fun h3_7 => ?_) (fun h3_7 => ?_)
  · subst h3_7
    refine wj_iconst (v := 0) C dX5_count_96 (by decide) ?_
    refine wj_istore_n C 3 dX5_count_97 rfl (by decide) rfl ?_
    dsimp only [List.set]
    exact lp rfl 11 0 (by omega) (by omega)
  refine wj_tabOut C 132 dX5_count_3 (by have q0 := lv_neT h3_0 (a := 0) (by decide); have q1 := lv_neT h3_1 (a := 1) (by decide); have q2 := lv_neT h3_2 (a := 2) (by decide); have q3 := lv_neT h3_3 (a := 3) (by decide); have q4 := lv_neT h3_4 (a := 4) (by decide); have q5 := lv_neT h3_5 (a := 5) (by decide); have q6 := lv_neT h3_6 (a := 6) (by decide); have q7 := lv_neT h3_7 (a := 7) (by decide); omega) (by decide) ?_
  refine wj_aload_n C 0 dX5_count_132 rfl rfl ?_
  refine wj_ldc C dX5_count_133 kc_X5_60 ?_
  refine wj_cif C (wj_rV C dX5_count_135 km_X5_finding kl_X5_66 is_X5 rfl rfl (c_X5_finding (w := 0) l V (by decide) (by decide)) rfl rfl (Nat.le_of_ble_eq_true rfl) (by decide)) ?_
  exact hR _ _ _ _ _ dX5_count_138 (sp_rfM (by rw [a_count, if_neg h3_0, if_neg h3_1, if_neg h3_2, if_neg h3_3, if_neg h3_4, if_neg h3_5, if_neg h3_6, if_neg h3_7]) rfl rfl (by decide)) wj_rfl

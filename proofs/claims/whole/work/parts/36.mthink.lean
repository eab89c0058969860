theorem sp_as_48 {σ : wj_St} {A : sp_L} : sp_as σ A 48 = σ 48 := wj_r_ne (by decide)
def sp_cb (p : Nat → Bool) : Int32 := if fa_first p 201 < 201 then nI (fa_first p 201) else -1
theorem sp_cb_y {p : Nat → Bool} {i : Nat} (h1 : ∀ k, k < i → p k = false) (h2 : p i = true) (hi : i < 201) : nI i = sp_cb p := by rw [sp_cb, fa_first_is h1 h2 hi, if_pos hi]
theorem sp_cb_n {p : Nat → Bool} (h1 : ∀ k, k < 201 → p k = false) : -1 = sp_cb p := by rw [sp_cb, fa_first_none h1, if_neg (by omega)]
theorem c_X5_orNone_g (l : Launch) (V : wj_V) {σ : wj_St} {p : Nat → Bool} : wj_M l V yX5_orNone cX5_orNone 2 (some .int) 1 21 [.ref (V.2.2.1 48), .int (sp_cb p)] σ (wj_I V (sp_v (a_first p)) (sp_fw σ (a_first p))) := by
  unfold sp_cb a_first
  by_cases h : fa_first p 201 < 201
  · rw [if_pos h, if_pos h]; exact c_X5_orNone l V (by omega)
  · rw [if_neg h, if_neg h]; exact c_X5_orNone_no l V
theorem sp_rwG {σ : wj_St} {A B : sp_L} {a : Sum Nat Int32} : ∃ g, sp_fw (sp_mq (sp_as σ B) A) a = sp_mq (wj_r (sp_fw σ a) 51 g) A := by
  cases a with
  | inl w => exact ⟨sp_mr (σ 49) B, by show sp_fd _ w = _; rw [sp_fd_c, sp_as_r, sp_fd_r]; rfl⟩
  | inr v => exact ⟨sp_mr (σ 49) B, rfl⟩
theorem sp_rwH {σ : wj_St} {A : sp_L} {a : Sum Nat Int32} {g0 : Nat → Int32} : ∃ g, sp_fw (sp_mq (wj_r σ 51 g0) A) a = sp_mq (wj_r (sp_fw σ a) 51 g) A := by
  cases a with
  | inl w => exact ⟨g0, by show sp_fd _ w = _; rw [sp_fd_c, sp_fd_r]; rfl⟩
  | inr v => exact ⟨g0, rfl⟩
theorem sp_us_id {A : sp_L} {i f : Nat} : sp_us A i f (sp_sl A i f) = A := by
  have e : (fun a => if a = i then upd (sp_sl A i) f (sp_sl A i f) else sp_sl A a) = sp_sl A := by
    funext a j
    by_cases h : a = i
    · subst h
      simp only [if_true, upd]
      split
      · subst_vars; rfl
      · rfl
    · rw [if_neg h]
  rw [sp_us, e]
  exact sp_wS_id A
theorem sp_us_ov {A : sp_L} {i f : Nat} {x y : Int32} : sp_us (sp_us A i f x) i f y = sp_us A i f y := by
  rw [sp_us_us]
  have e : upd (upd (sp_sl A i) f x) f y = upd (sp_sl A i) f y := by
    funext j
    simp only [upd]
    split <;> rfl
  rw [e]
  rfl
theorem sp_G_us {A : sp_L} {N y i f : Nat} {x : Int32} (h : sp_G A N y) (hs : i < N → sp_gs (upd (sp_sl A i) f x)) : sp_G (sp_us A i f x) N y := by
  refine ⟨h.1, h.2.1, h.2.2.1, fun j hj => ?_, h.2.2.2.2.1, h.2.2.2.2.2⟩
  show sp_gs (if j = i then upd (sp_sl A i) f x else sp_sl A j)
  by_cases e : j = i
  · subst e; rw [if_pos rfl]; exact hs hj
  · rw [if_neg e]; exact h.2.2.2.1 j hj
theorem sp_gs_u {s : Nat → Int32} (h : sp_gs s) {f v : Nat} (hv : (f = 0 ∧ v ≤ 6) ∨ (f = 1 ∧ v ≤ 15) ∨ (f = 4 ∧ v ≤ 2) ∨ (f = 5 ∧ 1 ≤ v ∧ v ≤ 12)) : sp_gs (upd s f (nI v)) := by
  have hi : (nI v).toInt = (v : Int) := nI_toInt (by omega)
  obtain ⟨h0, h1, h2, h3, h4, h5, h6⟩ := h
  rcases hv with ⟨rfl, q⟩ | ⟨rfl, q⟩ | ⟨rfl, q⟩ | ⟨rfl, q⟩
  · refine ⟨?_, ?_, ?_, ?_, ?_, ?_, ?_⟩ <;> simp [upd, *] <;> omega
  · refine ⟨?_, ?_, ?_, ?_, ?_, ?_, ?_⟩ <;> simp [upd, *] <;> omega
  · refine ⟨?_, ?_, ?_, ?_, ?_, ?_, ?_⟩ <;> simp [upd, *] <;> omega
  · refine ⟨?_, ?_, ?_, ?_, ?_, ?_, ?_⟩ <;> simp [upd, *] <;> omega
set_option maxRecDepth 100000 in
set_option maxHeartbeats 4000000 in
theorem c_X5_strengthBehind (l : Launch) (V : wj_V) {σ : wj_St} {A : sp_L} {N y : Nat} {p m : Nat} (hG : sp_G A N y) (hy : y < 90000) (hc : σ 48 5 = 0) (hp : p < 16) (hm : m ≤ 200) : wj_M l V yX5_strengthBehind cX5_strengthBehind 3 (some .int) 8 182 [.ref (V.2.2.1 48), .int (nI p), .int (nI m)] (sp_mq σ A) (wj_I V (sp_stg (sp_yrs A m) (nI p)) (sp_mq (sp_as σ A) A)) := by
  refine wj_ofI (own := RX5) [some (.ref (V.2.2.1 48)), some (.int (nI p)), some (.int (nI m))] (by decide) rfl rfl (Nat.le_of_ble_eq_true rfl) (fun X C hR => ?_)
  refine wj_aload_n C 0 dX5_strengthBehind_0 rfl rfl ?_
  refine wg_X5_9 C dX5_strengthBehind_1 ?_
  refine wj_aload_n C 0 dX5_strengthBehind_4 rfl rfl ?_
  refine wg_X5_16 C dX5_strengthBehind_5 ?_
  refine wj_cvf C (wj_rS C dX5_strengthBehind_8 km_X5_copyRow kl_X5_61 (c_X5_copyRow (a := 49) (b := 51) l V (by decide) (by decide) (by decide)) rfl rfl (Nat.le_of_ble_eq_true rfl) (by decide)) ?_
  rw [sp_as_1]
  refine wj_aload_n C 0 dX5_strengthBehind_11 rfl rfl ?_
  refine wj_iload_n C 2 dX5_strengthBehind_12 rfl rfl ?_
  refine wj_cvf C (wj_rV C dX5_strengthBehind_13 km_X5_yearsGo kl_X5_167 is_X5 rfl rfl (c_X5_yearsGo (c := false) l V hG (by rw [sp_as_48]; exact hc) (by omega)) rfl rfl (Nat.le_of_ble_eq_true rfl) (by decide)) ?_
  rw [sp_yxs_f]
  refine wj_aload_n C 0 dX5_strengthBehind_16 rfl rfl ?_
  refine wj_aload_n C 0 dX5_strengthBehind_17 rfl rfl ?_
  refine wj_iload_n C 1 dX5_strengthBehind_18 rfl rfl ?_
  refine wj_cif C (wj_rV C dX5_strengthBehind_19 km_X5_strength kl_X5_113 is_X5 rfl rfl (c_X5_strength l V (sp_G_yrs hG m) hp) rfl rfl (Nat.le_of_ble_eq_true rfl) (by decide)) ?_
  refine wj_cif C (wj_rV C dX5_strengthBehind_22 km_X5_putBack kl_X5_177 is_X5 rfl rfl (c_X5_putBack l V) rfl rfl (Nat.le_of_ble_eq_true rfl) (by decide)) ?_
  exact hR _ _ _ _ _ dX5_strengthBehind_25 ⟨rfl, rfl⟩ wj_rfl
set_option maxRecDepth 100000 in
set_option maxHeartbeats 4000000 in
theorem c_X5_gapsBehind (l : Launch) (V : wj_V) {σ : wj_St} {A : sp_L} {N y : Nat} {c : Bool} {m : Nat} (hG : sp_G A N y) (hy : y < 90000) (hc : σ 48 5 = if c = true then 1 else 0) (hm : m ≤ 200) : wj_M l V yX5_gapsBehind cX5_gapsBehind 2 (some .int) 8 182 [.ref (V.2.2.1 48), .int (nI m)] (sp_mq σ A) (wj_I V (nI (sp_gn (sp_yxs c A m))) (sp_mq (sp_as σ A) A)) := by
  refine wj_ofI (own := RX5) [some (.ref (V.2.2.1 48)), some (.int (nI m))] (by decide) rfl rfl (Nat.le_of_ble_eq_true rfl) (fun X C hR => ?_)
  refine wj_aload_n C 0 dX5_gapsBehind_0 rfl rfl ?_
  refine wg_X5_9 C dX5_gapsBehind_1 ?_
  refine wj_aload_n C 0 dX5_gapsBehind_4 rfl rfl ?_
  refine wg_X5_16 C dX5_gapsBehind_5 ?_
  refine wj_cvf C (wj_rS C dX5_gapsBehind_8 km_X5_copyRow kl_X5_61 (c_X5_copyRow (a := 49) (b := 51) l V (by decide) (by decide) (by decide)) rfl rfl (Nat.le_of_ble_eq_true rfl) (by decide)) ?_
  rw [sp_as_1]
  refine wj_aload_n C 0 dX5_gapsBehind_11 rfl rfl ?_
  refine wj_iload_n C 1 dX5_gapsBehind_12 rfl rfl ?_
  refine wj_cvf C (wj_rV C dX5_gapsBehind_13 km_X5_yearsGo kl_X5_167 is_X5 rfl rfl (c_X5_yearsGo (c := c) l V hG (by rw [sp_as_48]; exact hc) (by omega)) rfl rfl (Nat.le_of_ble_eq_true rfl) (by decide)) ?_
  refine wj_aload_n C 0 dX5_gapsBehind_16 rfl rfl ?_
  refine wj_aload_n C 0 dX5_gapsBehind_17 rfl rfl ?_
  refine wj_cif C (wj_rV C dX5_gapsBehind_18 km_X5_gaps kl_X5_122 is_X5 rfl rfl (c_X5_gaps l V (sp_G_yxs hG m)) rfl rfl (Nat.le_of_ble_eq_true rfl) (by decide)) ?_
  obtain ⟨k, hk, ek⟩ := sp_gap_n (sp_yxs c A m)
  rw [ek]
  refine wj_cif C (wj_rS C dX5_gapsBehind_21 km_X5_bits kl_X5_189 (c_X5_bits l V hk) rfl rfl (Nat.le_of_ble_eq_true rfl) (by decide)) ?_
  rw [sp_gn_of ek hk]
  refine wj_cif C (wj_rV C dX5_gapsBehind_24 km_X5_putBack kl_X5_177 is_X5 rfl rfl (c_X5_putBack l V) rfl rfl (Nat.le_of_ble_eq_true rfl) (by decide)) ?_
  exact hR _ _ _ _ _ dX5_gapsBehind_27 ⟨rfl, rfl⟩ wj_rfl
set_option maxRecDepth 100000 in
set_option maxHeartbeats 4000000 in
theorem c_X5_madeBehind (l : Launch) (V : wj_V) {σ : wj_St} {A : sp_L} {N y : Nat} {m : Nat} (hG : sp_G A N y) (hy : y < 90000) (hc : σ 48 5 = 0) (hm : m ≤ 200) : wj_M l V yX5_madeBehind cX5_madeBehind 2 (some .int) 8 182 [.ref (V.2.2.1 48), .int (nI m)] (sp_mq σ A) (wj_I V (sp_yrs A m).2.2.2.1 (sp_mq (sp_as σ A) A)) := by
  refine wj_ofI (own := RX5) [some (.ref (V.2.2.1 48)), some (.int (nI m))] (by decide) rfl rfl (Nat.le_of_ble_eq_true rfl) (fun X C hR => ?_)
  refine wj_aload_n C 0 dX5_madeBehind_0 rfl rfl ?_
  refine wg_X5_9 C dX5_madeBehind_1 ?_
  refine wj_aload_n C 0 dX5_madeBehind_4 rfl rfl ?_
  refine wg_X5_16 C dX5_madeBehind_5 ?_
  refine wj_cvf C (wj_rS C dX5_madeBehind_8 km_X5_copyRow kl_X5_61 (c_X5_copyRow (a := 49) (b := 51) l V (by decide) (by decide) (by decide)) rfl rfl (Nat.le_of_ble_eq_true rfl) (by decide)) ?_
  rw [sp_as_1]
  refine wj_aload_n C 0 dX5_madeBehind_11 rfl rfl ?_
  refine wj_iload_n C 1 dX5_madeBehind_12 rfl rfl ?_
  refine wj_cvf C (wj_rV C dX5_madeBehind_13 km_X5_yearsGo kl_X5_167 is_X5 rfl rfl (c_X5_yearsGo (c := false) l V hG (by rw [sp_as_48]; exact hc) (by omega)) rfl rfl (Nat.le_of_ble_eq_true rfl) (by decide)) ?_
  rw [sp_yxs_f]
  refine wj_aload_n C 0 dX5_madeBehind_16 rfl rfl ?_
  refine wj_aload_n C 0 dX5_madeBehind_17 rfl rfl ?_
  refine wg_X5_9 C dX5_madeBehind_18 ?_
  refine wj_iconst (v := 4) C dX5_madeBehind_21 (by decide) ?_
  refine wj_ialdN C dX5_madeBehind_22 ar_now ⟨by decide, by decide⟩ ?_
  rw [sp_mq_49, sp_mr_4]
  refine wj_cif C (wj_rV C dX5_madeBehind_23 km_X5_putBack kl_X5_177 is_X5 rfl rfl (c_X5_putBack l V) rfl rfl (Nat.le_of_ble_eq_true rfl) (by decide)) ?_
  exact hR _ _ _ _ _ dX5_madeBehind_26 ⟨rfl, rfl⟩ wj_rfl
set_option maxRecDepth 100000 in
set_option maxHeartbeats 4000000 in
theorem c_X5_closedBy (l : Launch) (V : wj_V) {σ : wj_St} {A : sp_L} {N y : Nat} {s : Int32} (hG : sp_G A N y) (hy : y < 90000) (hc : σ 48 5 = 0) : wj_M l V yX5_closedBy cX5_closedBy 3 (some .int) 7 160 [.ref (V.2.2.1 48), .int s] (sp_mq σ A) (wj_I V (sp_cb (sp_wp A s)) (sp_mq (sp_as σ A) A)) := by
  refine wj_ofI (own := RX5) [some (.ref (V.2.2.1 48)), some (.int s), none] (by decide) rfl rfl (Nat.le_of_ble_eq_true rfl) (fun X C hR => ?_)
  have lp : ∀ n i, i ≤ 200 → 200 - i < n → (∀ k, k < i → sp_wp A s k = false) → wj_J l V X 13 [some (.ref (V.2.2.1 48)), some (.int s), some (.int (nI i))] [] (sp_mq (sp_as σ A) (sp_yrs A i)) := by
    intro n
    induction n with
    | zero => intro i _ h _; omega
    | succ n ih =>
      intro i hi hm hno
      refine wj_iload_n C 2 dX5_closedBy_13 rfl rfl ?_
      refine wj_sipush (v := 200) C dX5_closedBy_14 (by decide) ?_
      refine wj_icmp_ge C 39 dX5_closedBy_17 (by decide) (fun h17 => ?_) (fun h17 => ?_)
      · have e9 : i = 200 := by have := (nI_leI (a := 200) (b := i) (by decide) (by omega)).mp h17; omega
        refine wj_aload_n C 0 dX5_closedBy_39 rfl rfl ?_
        refine wj_aload_n C 0 dX5_closedBy_40 rfl rfl ?_
        refine wj_cif C (wj_rV C dX5_closedBy_41 km_X5_gaps kl_X5_122 is_X5 rfl rfl (c_X5_gaps l V (sp_G_yrs hG i)) rfl rfl (Nat.le_of_ble_eq_true rfl) (by decide)) ?_
        refine wj_iload_n C 1 dX5_closedBy_44 rfl rfl ?_
        refine wj_iand C dX5_closedBy_45 ?_
        refine wj_if_eq C 53 dX5_closedBy_46 (by decide) (fun h46 => ?_) (fun h46 => ?_)
        · have hv : nI i = sp_cb (sp_wp A s) := sp_cb_y hno (decide_eq_true h46) (by omega)
          refine wj_iload_n C 2 dX5_closedBy_53 rfl rfl ?_
          refine wj_top (y := sp_cb (sp_wp A s)) hv ?_
          refine wj_cif C (wj_rV C dX5_closedBy_54 km_X5_putBack kl_X5_177 is_X5 rfl rfl (c_X5_putBack l V) rfl rfl (Nat.le_of_ble_eq_true rfl) (by decide)) ?_
          exact hR _ _ _ _ _ dX5_closedBy_57 ⟨rfl, rfl⟩ wj_rfl
        · have hv : -1 = sp_cb (sp_wp A s) := sp_cb_n (by have h9 := sp_nxt hno (decide_eq_false h46); rw [e9] at h9; exact h9)
          refine wj_iconst (v := -1) C dX5_closedBy_49 (by decide) ?_
          refine wj_goto C 54 dX5_closedBy_50 (by decide) ?_
          refine wj_top (y := sp_cb (sp_wp A s)) hv ?_
          refine wj_cif C (wj_rV C dX5_closedBy_54 km_X5_putBack kl_X5_177 is_X5 rfl rfl (c_X5_putBack l V) rfl rfl (Nat.le_of_ble_eq_true rfl) (by decide)) ?_
          exact hR _ _ _ _ _ dX5_closedBy_57 ⟨rfl, rfl⟩ wj_rfl
      · have hlt : i < 200 := by
          rcases Nat.lt_or_ge i 200 with q | q
          · exact q
          · exact absurd (nI_le (a := 200) (b := i) (by omega) (by omega)) h17
        refine wj_aload_n C 0 dX5_closedBy_20 rfl rfl ?_
        refine wj_cif C (wj_rV C dX5_closedBy_21 km_X5_gaps kl_X5_122 is_X5 rfl rfl (c_X5_gaps l V (sp_G_yrs hG i)) rfl rfl (Nat.le_of_ble_eq_true rfl) (by decide)) ?_
        refine wj_iload_n C 1 dX5_closedBy_24 rfl rfl ?_
        refine wj_iand C dX5_closedBy_25 ?_
        refine wj_if_eq C 39 dX5_closedBy_26 (by decide) (fun h26 => ?_) (fun h26 => ?_)
        · have hp : sp_wp A s i = true := decide_eq_true h26
          refine wj_aload_n C 0 dX5_closedBy_39 rfl rfl ?_
          refine wj_aload_n C 0 dX5_closedBy_40 rfl rfl ?_
          refine wj_cif C (wj_rV C dX5_closedBy_41 km_X5_gaps kl_X5_122 is_X5 rfl rfl (c_X5_gaps l V (sp_G_yrs hG i)) rfl rfl (Nat.le_of_ble_eq_true rfl) (by decide)) ?_
          refine wj_iload_n C 1 dX5_closedBy_44 rfl rfl ?_
          refine wj_iand C dX5_closedBy_45 ?_
          refine wj_if_eq C 53 dX5_closedBy_46 (by decide) (fun h46 => ?_) (fun h46 => ?_)
          · have hv : nI i = sp_cb (sp_wp A s) := sp_cb_y hno (decide_eq_true h46) (by omega)
            refine wj_iload_n C 2 dX5_closedBy_53 rfl rfl ?_
            refine wj_top (y := sp_cb (sp_wp A s)) hv ?_
            refine wj_cif C (wj_rV C dX5_closedBy_54 km_X5_putBack kl_X5_177 is_X5 rfl rfl (c_X5_putBack l V) rfl rfl (Nat.le_of_ble_eq_true rfl) (by decide)) ?_
            exact hR _ _ _ _ _ dX5_closedBy_57 ⟨rfl, rfl⟩ wj_rfl
          · exact absurd h26 h46
        · have hp : sp_wp A s i = false := decide_eq_false h26
          refine wj_aload_n C 0 dX5_closedBy_29 rfl rfl ?_
          refine wj_cvf C (wj_rV C dX5_closedBy_30 km_X5_year kl_X5_162 is_X5 rfl rfl (c_X5_year (c := false) l V (sp_G_yrs hG i) (by rw [sp_as_48]; exact hc) (by omega)) rfl rfl (Nat.le_of_ble_eq_true rfl) (by decide)) ?_
          rw [sp_yx_f]
          refine wj_iinc C (v := nI (i + 1)) dX5_closedBy_33 rfl (wj_i1 i) (by decide) rfl ?_
          dsimp only [List.set]
          refine wj_goto C 13 dX5_closedBy_36 (by decide) ?_
          exact ih (i + 1) (by omega) (by omega) (sp_nxt hno hp)
  refine wj_aload_n C 0 dX5_closedBy_0 rfl rfl ?_
  refine wg_X5_9 C dX5_closedBy_1 ?_
  refine wj_aload_n C 0 dX5_closedBy_4 rfl rfl ?_
  refine wg_X5_16 C dX5_closedBy_5 ?_
  refine wj_cvf C (wj_rS C dX5_closedBy_8 km_X5_copyRow kl_X5_61 (c_X5_copyRow (a := 49) (b := 51) l V (by decide) (by decide) (by decide)) rfl rfl (Nat.le_of_ble_eq_true rfl) (by decide)) ?_
  rw [sp_as_1]
  refine wj_iconst (v := 0) C dX5_closedBy_11 (by decide) ?_
  refine wj_istore_n C 2 dX5_closedBy_12 rfl (by decide) rfl ?_
  dsimp only [List.set]
  exact lp 201 0 (by omega) (by omega) (fun k hk => absurd hk (by omega))
set_option maxRecDepth 100000 in
set_option maxHeartbeats 4000000 in
theorem c_X5_closed (l : Launch) (V : wj_V) {σ : wj_St} {A : sp_L} {N y : Nat} {p : Int32} (hG : sp_G A N y) (hy : y < 90000) (hc : σ 48 5 = 0) : wj_M l V yX5_closed cX5_closed 2 (some .int) 8 182 [.ref (V.2.2.1 48), .int p] (sp_mq σ A) (wj_QI V (fun r u => r = sp_v (a_closed A p) ∧ ∃ g, u = sp_mq (wj_r (sp_fw σ (a_closed A p)) 51 g) A)) := by
  refine wj_ofI (own := RX5) [some (.ref (V.2.2.1 48)), some (.int p)] (by decide) rfl rfl (Nat.le_of_ble_eq_true rfl) (fun X C hR => ?_)
  refine wj_iload_n C 1 dX5_closed_0 rfl rfl ?_
  refine wj_cif C (wj_rS C dX5_closed_1 km_X5_isPlace kl_X5_110 (c_X5_isPlace l V) rfl rfl (Nat.le_of_ble_eq_true rfl) (by decide)) ?_
  refine wj_if_eq C 21 dX5_closed_4 (by decide) (fun h4 => ?_) (fun h4 => ?_)
  · refine wj_aload_n C 0 dX5_closed_21 rfl rfl ?_
    refine wj_ldc C dX5_closed_22 kc_X5_60 ?_
    refine wj_cif C (wj_rV C dX5_closed_24 km_X5_finding kl_X5_66 is_X5 rfl rfl (c_X5_finding (w := 0) l V (by decide) (by decide)) rfl rfl (Nat.le_of_ble_eq_true rfl) (by decide)) ?_
    exact hR _ _ _ _ _ dX5_closed_27 (by first | (rw [a_closed, if_pos (wj_c1 h4)]; exact ⟨rfl, sp_rwG⟩) | exact sp_rfM (by rw [a_closed, if_neg (wj_c0 h4)]) rfl rfl (by decide)) wj_rfl
  · refine wj_aload_n C 0 dX5_closed_7 rfl rfl ?_
    refine wj_aload_n C 0 dX5_closed_8 rfl rfl ?_
    refine wj_iconst (v := 1) C dX5_closed_9 (by decide) ?_
    refine wj_iload_n C 1 dX5_closed_10 rfl rfl ?_
    refine wj_ishl C dX5_closed_11 ?_
    refine wj_cif C (wj_rV C dX5_closed_12 km_X5_closedBy kl_X5_183 is_X5 rfl rfl (c_X5_closedBy l V hG hy hc) rfl rfl (Nat.le_of_ble_eq_true rfl) (by decide)) ?_
    refine wj_cif C (wj_rV C dX5_closed_15 km_X5_orNone kl_X5_186 is_X5 rfl rfl (c_X5_orNone_g l V) rfl rfl (Nat.le_of_ble_eq_true rfl) (by decide)) ?_
    refine wj_goto C 27 dX5_closed_18 (by decide) ?_
    exact hR _ _ _ _ _ dX5_closed_27 (by first | (rw [a_closed, if_pos (wj_c1 h4)]; exact ⟨rfl, sp_rwG⟩) | exact sp_rfM (by rw [a_closed, if_neg (wj_c0 h4)]) rfl rfl (by decide)) wj_rfl
set_option maxRecDepth 100000 in
set_option maxHeartbeats 4000000 in
theorem c_X5_whole (l : Launch) (V : wj_V) {σ : wj_St} {A : sp_L} {N y : Nat} (hG : sp_G A N y) (hy : y < 90000) (hc : σ 48 5 = 0) : wj_M l V yX5_whole cX5_whole 1 (some .int) 8 182 [.ref (V.2.2.1 48)] (sp_mq σ A) (wj_QI V (fun r u => r = sp_v (a_whole A) ∧ ∃ g, u = sp_mq (wj_r (sp_fw σ (a_whole A)) 51 g) A)) := by
  refine wj_ofI (own := RX5) [some (.ref (V.2.2.1 48))] (by decide) rfl rfl (Nat.le_of_ble_eq_true rfl) (fun X C hR => ?_)
  refine wj_aload_n C 0 dX5_whole_0 rfl rfl ?_
  refine wj_aload_n C 0 dX5_whole_1 rfl rfl ?_
  refine wj_ldc C dX5_whole_2 kc_X5_74 ?_
  refine wj_cif C (wj_rV C dX5_whole_4 km_X5_closedBy kl_X5_183 is_X5 rfl rfl (c_X5_closedBy l V hG hy hc) rfl rfl (Nat.le_of_ble_eq_true rfl) (by decide)) ?_
  refine wj_cif C (wj_rV C dX5_whole_7 km_X5_orNone kl_X5_186 is_X5 rfl rfl (c_X5_orNone_g l V) rfl rfl (Nat.le_of_ble_eq_true rfl) (by decide)) ?_
  exact hR _ _ _ _ _ dX5_whole_10 ⟨rfl, sp_rwG⟩ wj_rfl
set_option maxRecDepth 100000 in
set_option maxHeartbeats 4000000 in
theorem c_X5_strong (l : Launch) (V : wj_V) {σ : wj_St} {A : sp_L} {N y : Nat} {x nn : Int32} (hG : sp_G A N y) (hy : y < 90000) (hc : σ 48 5 = 0) : wj_M l V yX5_strong cX5_strong 3 (some .int) 9 204 [.ref (V.2.2.1 48), .int x, .int nn] (sp_mq σ A) (wj_QI V (fun r u => r = sp_v (a_strong A x nn) ∧ ∃ g, u = sp_mq (wj_r (sp_fw σ (a_strong A x nn)) 51 g) A)) := by
  refine wj_ofI (own := RX5) [some (.ref (V.2.2.1 48)), some (.int x), some (.int nn)] (by decide) rfl rfl (Nat.le_of_ble_eq_true rfl) (fun X C hR => ?_)
  refine wj_iload_n C 1 dX5_strong_0 rfl rfl ?_
  refine wj_cif C (wj_rS C dX5_strong_1 km_X5_isPlace kl_X5_110 (c_X5_isPlace l V) rfl rfl (Nat.le_of_ble_eq_true rfl) (by decide)) ?_
  refine wj_if_eq C 26 dX5_strong_4 (by decide) (fun h4 => ?_) (fun h4 => ?_)
  · refine wj_aload_n C 0 dX5_strong_26 rfl rfl ?_
    refine wj_ldc C dX5_strong_27 kc_X5_60 ?_
    refine wj_cif C (wj_rV C dX5_strong_29 km_X5_finding kl_X5_66 is_X5 rfl rfl (c_X5_finding (w := 0) l V (by decide) (by decide)) rfl rfl (Nat.le_of_ble_eq_true rfl) (by decide)) ?_
    exact hR _ _ _ _ _ dX5_strong_32 (by first | exact sp_rvG (by rw [a_strong, if_pos ⟨h4a, h14a⟩, nI_clamp (by omega)]) rfl rfl | exact sp_rfM (by rw [a_strong, if_neg (fun q => by first | exact wj_c0 h4 q.1 | exact wj_c0 h14 q.2)]) rfl rfl (by decide)) wj_rfl
  · refine wj_iload_n C 2 dX5_strong_7 rfl rfl ?_
    refine wj_iconst (v := 0) C dX5_strong_8 (by decide) ?_
    refine wj_bipush (v := 100) C dX5_strong_9 (by decide) ?_
    refine wj_cif C (wj_rS C dX5_strong_11 km_X5_within kl_X5_70 (c_X5_within l V) rfl rfl (Nat.le_of_ble_eq_true rfl) (by decide)) ?_
    refine wj_if_eq C 26 dX5_strong_14 (by decide) (fun h14 => ?_) (fun h14 => ?_)
    · refine wj_aload_n C 0 dX5_strong_26 rfl rfl ?_
      refine wj_ldc C dX5_strong_27 kc_X5_60 ?_
      refine wj_cif C (wj_rV C dX5_strong_29 km_X5_finding kl_X5_66 is_X5 rfl rfl (c_X5_finding (w := 0) l V (by decide) (by decide)) rfl rfl (Nat.le_of_ble_eq_true rfl) (by decide)) ?_
      exact hR _ _ _ _ _ dX5_strong_32 (by first | exact sp_rvG (by rw [a_strong, if_pos ⟨h4a, h14a⟩, nI_clamp (by omega)]) rfl rfl | exact sp_rfM (by rw [a_strong, if_neg (fun q => by first | exact wj_c0 h4 q.1 | exact wj_c0 h14 q.2)]) rfl rfl (by decide)) wj_rfl
    · have h4a := wj_c1 h4
      have h14a := wj_c1 h14
      obtain ⟨p, hp, rfl⟩ := wj_natC (N := 15) h4a
      obtain ⟨m, hm, rfl⟩ := wj_natC (N := 100) h14a
      refine wj_aload_n C 0 dX5_strong_17 rfl rfl ?_
      refine wj_iload_n C 1 dX5_strong_18 rfl rfl ?_
      refine wj_iload_n C 2 dX5_strong_19 rfl rfl ?_
      refine wj_cif C (wj_rV C dX5_strong_20 km_X5_strengthBehind kl_X5_180 is_X5 rfl rfl (c_X5_strengthBehind l V hG hy hc (by omega) (by omega)) rfl rfl (Nat.le_of_ble_eq_true rfl) (by decide)) ?_
      refine wj_goto C 32 dX5_strong_23 (by decide) ?_
      exact hR _ _ _ _ _ dX5_strong_32 (by first | exact sp_rvG (by rw [a_strong, if_pos ⟨h4a, h14a⟩, nI_clamp (by omega)]) rfl rfl | exact sp_rfM (by rw [a_strong, if_neg (fun q => by first | exact wj_c0 h4 q.1 | exact wj_c0 h14 q.2)]) rfl rfl (by decide)) wj_rfl
set_option maxRecDepth 100000 in
set_option maxHeartbeats 4000000 in
theorem c_X5_breaks (l : Launch) (V : wj_V) {σ : wj_St} {A : sp_L} {N y : Nat} {x : Int32} (hG : sp_G A N y) (hy : y < 90000) (hc : σ 48 5 = 0) : wj_M l V yX5_breaks cX5_breaks 4 (some .int) 7 160 [.ref (V.2.2.1 48), .int x] (sp_mq σ A) (wj_QI V (fun r u => r = sp_v (a_breaks A x) ∧ ∃ g, u = sp_mq (wj_r (sp_fw σ (a_breaks A x)) 51 g) A)) := by
  refine wj_ofI (own := RX5) [some (.ref (V.2.2.1 48)), some (.int x), none, none] (by decide) rfl rfl (Nat.le_of_ble_eq_true rfl) (fun X C hR => ?_)
  have lp : ∀ j, x = nI j → j < N → a_breaks A x = a_first (sp_bp A j) → ∀ n i, i ≤ 200 → 200 - i < n → (∀ k, k < i → sp_bp A j k = false) → wj_J l V X 36 [some (.ref (V.2.2.1 48)), some (.int (nI j)), some (.int (sp_sl A j 6)), some (.int (nI i))] [] (sp_mq (sp_as σ A) (sp_yrs A i)) := by
    intro j hxj hj ha n
    subst hxj
    have hN8 := hG.2.1
    induction n with
    | zero => intro i _ h _; omega
    | succ n ih =>
      intro i hi hm hno
      refine wj_iload_n C 3 dX5_breaks_36 rfl rfl ?_
      refine wj_sipush (v := 200) C dX5_breaks_37 (by decide) ?_
      refine wj_icmp_ge C 64 dX5_breaks_40 (by decide) (fun h40 => ?_) (fun h40 => ?_)
      · have e9 : i = 200 := by have := (nI_leI (a := 200) (b := i) (by decide) (by omega)).mp h40; omega
        refine wj_aload_n C 0 dX5_breaks_64 rfl rfl ?_
        refine wj_aload_n C 0 dX5_breaks_65 rfl rfl ?_
        refine wj_aload_n C 0 dX5_breaks_66 rfl rfl ?_
        refine wj_iload_n C 1 dX5_breaks_67 rfl rfl ?_
        refine wj_bipush (v := 6) C dX5_breaks_68 (by decide) ?_
        refine wj_cif C (wj_rV C dX5_breaks_70 km_X5_slipIs kl_X5_82 is_X5 rfl rfl (c_X5_slipIs (f := 6) l V (by omega) (by decide)) rfl rfl (Nat.le_of_ble_eq_true rfl) (by decide)) ?_
        refine wj_iload_n C 2 dX5_breaks_73 rfl rfl ?_
        refine wj_icmp_ne C 81 dX5_breaks_74 (by decide) (fun h74 => ?_) (fun h74 => ?_)
        · have hv : nI i = sp_cb (sp_bp A j) := sp_cb_y hno (decide_eq_true h74) (by omega)
          refine wj_iload_n C 3 dX5_breaks_81 rfl rfl ?_
          refine wj_top (y := sp_cb (sp_bp A j)) hv ?_
          refine wj_cif C (wj_rV C dX5_breaks_82 km_X5_putBack kl_X5_177 is_X5 rfl rfl (c_X5_putBack l V) rfl rfl (Nat.le_of_ble_eq_true rfl) (by decide)) ?_
          refine wj_cif C (wj_rV C dX5_breaks_85 km_X5_orNone kl_X5_186 is_X5 rfl rfl (c_X5_orNone_g l V) rfl rfl (Nat.le_of_ble_eq_true rfl) (by decide)) ?_
          exact hR _ _ _ _ _ dX5_breaks_88 (by rw [ha]; exact ⟨rfl, sp_rwG⟩) wj_rfl
        · have hv : -1 = sp_cb (sp_bp A j) := sp_cb_n (by have h9 := sp_nxt hno (decide_eq_false (fun z => z h74)); rw [e9] at h9; exact h9)
          refine wj_iconst (v := -1) C dX5_breaks_77 (by decide) ?_
          refine wj_goto C 82 dX5_breaks_78 (by decide) ?_
          refine wj_top (y := sp_cb (sp_bp A j)) hv ?_
          refine wj_cif C (wj_rV C dX5_breaks_82 km_X5_putBack kl_X5_177 is_X5 rfl rfl (c_X5_putBack l V) rfl rfl (Nat.le_of_ble_eq_true rfl) (by decide)) ?_
          refine wj_cif C (wj_rV C dX5_breaks_85 km_X5_orNone kl_X5_186 is_X5 rfl rfl (c_X5_orNone_g l V) rfl rfl (Nat.le_of_ble_eq_true rfl) (by decide)) ?_
          exact hR _ _ _ _ _ dX5_breaks_88 (by rw [ha]; exact ⟨rfl, sp_rwG⟩) wj_rfl
      · have hlt : i < 200 := by
          rcases Nat.lt_or_ge i 200 with q | q
          · exact q
          · exact absurd (nI_le (a := 200) (b := i) (by omega) (by omega)) h40
        refine wj_aload_n C 0 dX5_breaks_43 rfl rfl ?_
        refine wj_iload_n C 1 dX5_breaks_44 rfl rfl ?_
        refine wj_bipush (v := 6) C dX5_breaks_45 (by decide) ?_
        refine wj_cif C (wj_rV C dX5_breaks_47 km_X5_slipIs kl_X5_82 is_X5 rfl rfl (c_X5_slipIs (f := 6) l V (by omega) (by decide)) rfl rfl (Nat.le_of_ble_eq_true rfl) (by decide)) ?_
        refine wj_iload_n C 2 dX5_breaks_50 rfl rfl ?_
        refine wj_icmp_ne C 64 dX5_breaks_51 (by decide) (fun h51 => ?_) (fun h51 => ?_)
        · have hp : sp_bp A j i = true := decide_eq_true h51
          refine wj_aload_n C 0 dX5_breaks_64 rfl rfl ?_
          refine wj_aload_n C 0 dX5_breaks_65 rfl rfl ?_
          refine wj_aload_n C 0 dX5_breaks_66 rfl rfl ?_
          refine wj_iload_n C 1 dX5_breaks_67 rfl rfl ?_
          refine wj_bipush (v := 6) C dX5_breaks_68 (by decide) ?_
          refine wj_cif C (wj_rV C dX5_breaks_70 km_X5_slipIs kl_X5_82 is_X5 rfl rfl (c_X5_slipIs (f := 6) l V (by omega) (by decide)) rfl rfl (Nat.le_of_ble_eq_true rfl) (by decide)) ?_
          refine wj_iload_n C 2 dX5_breaks_73 rfl rfl ?_
          refine wj_icmp_ne C 81 dX5_breaks_74 (by decide) (fun h74 => ?_) (fun h74 => ?_)
          · have hv : nI i = sp_cb (sp_bp A j) := sp_cb_y hno (decide_eq_true h74) (by omega)
            refine wj_iload_n C 3 dX5_breaks_81 rfl rfl ?_
            refine wj_top (y := sp_cb (sp_bp A j)) hv ?_
            refine wj_cif C (wj_rV C dX5_breaks_82 km_X5_putBack kl_X5_177 is_X5 rfl rfl (c_X5_putBack l V) rfl rfl (Nat.le_of_ble_eq_true rfl) (by decide)) ?_
            refine wj_cif C (wj_rV C dX5_breaks_85 km_X5_orNone kl_X5_186 is_X5 rfl rfl (c_X5_orNone_g l V) rfl rfl (Nat.le_of_ble_eq_true rfl) (by decide)) ?_
            exact hR _ _ _ _ _ dX5_breaks_88 (by rw [ha]; exact ⟨rfl, sp_rwG⟩) wj_rfl
          · exact absurd h74 h51
        · have hp : sp_bp A j i = false := decide_eq_false (fun z => z h51)
          refine wj_aload_n C 0 dX5_breaks_54 rfl rfl ?_
          refine wj_cvf C (wj_rV C dX5_breaks_55 km_X5_year kl_X5_162 is_X5 rfl rfl (c_X5_year (c := false) l V (sp_G_yrs hG i) (by rw [sp_as_48]; exact hc) (by omega)) rfl rfl (Nat.le_of_ble_eq_true rfl) (by decide)) ?_
          rw [sp_yx_f]
          refine wj_iinc C (v := nI (i + 1)) dX5_breaks_58 rfl (wj_i1 i) (by decide) rfl ?_
          dsimp only [List.set]
          refine wj_goto C 36 dX5_breaks_61 (by decide) ?_
          exact ih (i + 1) (by omega) (by omega) (sp_nxt hno hp)
  refine wj_aload_n C 0 dX5_breaks_0 rfl rfl ?_
  refine wj_iload_n C 1 dX5_breaks_1 rfl rfl ?_
  refine wj_cif C (wj_rV C dX5_breaks_2 km_X5_isSlip kl_X5_146 is_X5 rfl rfl (c_X5_isSlip l V hG.1) rfl rfl (Nat.le_of_ble_eq_true rfl) (by decide)) ?_
  rw [sp_rgO hG.1]
  refine wj_if_ne C 15 dX5_breaks_5 (by decide) (fun h5 => ?_) (fun h5 => ?_)
  · have h5a := wj_c1 h5
    obtain ⟨j, hj, rfl⟩ := sp_rgi hG.1 hG.2.1 h5a
    have hN8 := hG.2.1
    have ha : a_breaks A (nI j) = a_first (sp_bp A j) := by rw [a_breaks, nI_clamp (by omega)]; exact if_pos h5a
    refine wj_aload_n C 0 dX5_breaks_15 rfl rfl ?_
    refine wg_X5_9 C dX5_breaks_16 ?_
    refine wj_aload_n C 0 dX5_breaks_19 rfl rfl ?_
    refine wg_X5_16 C dX5_breaks_20 ?_
    refine wj_cvf C (wj_rS C dX5_breaks_23 km_X5_copyRow kl_X5_61 (c_X5_copyRow (a := 49) (b := 51) l V (by decide) (by decide) (by decide)) rfl rfl (Nat.le_of_ble_eq_true rfl) (by decide)) ?_
    rw [sp_as_1]
    refine wj_aload_n C 0 dX5_breaks_26 rfl rfl ?_
    refine wj_iload_n C 1 dX5_breaks_27 rfl rfl ?_
    refine wj_bipush (v := 6) C dX5_breaks_28 (by decide) ?_
    refine wj_cif C (wj_rV C dX5_breaks_30 km_X5_slipIs kl_X5_82 is_X5 rfl rfl (c_X5_slipIs (f := 6) l V (by omega) (by decide)) rfl rfl (Nat.le_of_ble_eq_true rfl) (by decide)) ?_
    refine wj_istore_n C 2 dX5_breaks_33 rfl (by decide) rfl ?_
    dsimp only [List.set]
    refine wj_iconst (v := 0) C dX5_breaks_34 (by decide) ?_
    refine wj_istore_n C 3 dX5_breaks_35 rfl (by decide) rfl ?_
    dsimp only [List.set]
    exact lp j rfl hj ha 201 0 (by omega) (by omega) (fun k hk => absurd hk (by omega))
  · refine wj_aload_n C 0 dX5_breaks_8 rfl rfl ?_
    refine wj_ldc C dX5_breaks_9 kc_X5_60 ?_
    refine wj_cif C (wj_rV C dX5_breaks_11 km_X5_finding kl_X5_66 is_X5 rfl rfl (c_X5_finding (w := 0) l V (by decide) (by decide)) rfl rfl (Nat.le_of_ble_eq_true rfl) (by decide)) ?_
    exact hR _ _ _ _ _ dX5_breaks_14 (sp_rfM (by rw [a_breaks]; exact if_neg (wj_c0 h5)) rfl rfl (by decide)) wj_rfl
set_option maxRecDepth 100000 in
set_option maxHeartbeats 4000000 in
theorem c_X5_ahead (l : Launch) (V : wj_V) {σ : wj_St} {A : sp_L} {N y : Nat} {x w nn : Int32} (hG : sp_G A N y) (hy : y < 90000) (hc : σ 48 5 = 0) : wj_M l V yX5_ahead cX5_ahead 5 (some .int) 8 182 [.ref (V.2.2.1 48), .int x, .int w, .int nn] (sp_mq σ A) (wj_QI V (fun r u => r = sp_v (a_ahead A x w nn) ∧ ∃ g, u = sp_mq (wj_r (sp_fw σ (a_ahead A x w nn)) 51 g) A)) := by
  refine wj_ofI (own := RX5) [some (.ref (V.2.2.1 48)), some (.int x), some (.int w), some (.int nn), none] (by decide) rfl rfl (Nat.le_of_ble_eq_true rfl) (fun X C hR => ?_)
  refine wj_iload_n C 2 dX5_ahead_0 rfl rfl ?_
  refine wj_iconst (v := 2) C dX5_ahead_1 (by decide) ?_
  refine wj_icmp_eq C 28 dX5_ahead_2 (by decide) (fun h2 => ?_) (fun h2 => ?_)
  · refine wj_iconst (v := 1) C dX5_ahead_28 (by decide) ?_
    refine wj_goto C 33 dX5_ahead_29 (by decide) ?_
    refine wj_istore C dX5_ahead_33 (by decide) rfl ?_
    dsimp only [List.set]
    refine wj_aload_n C 0 dX5_ahead_35 rfl rfl ?_
    refine wj_iload_n C 1 dX5_ahead_36 rfl rfl ?_
    refine wj_cif C (wj_rV C dX5_ahead_37 km_X5_isSlip kl_X5_146 is_X5 rfl rfl (c_X5_isSlip l V hG.1) rfl rfl (Nat.le_of_ble_eq_true rfl) (by decide)) ?_
    rw [sp_rgO hG.1]
    refine wj_if_eq C 58 dX5_ahead_40 (by decide) (fun h40 => ?_) (fun h40 => ?_)
    · refine wj_aload_n C 0 dX5_ahead_58 rfl rfl ?_
      refine wj_ldc C dX5_ahead_59 kc_X5_60 ?_
      refine wj_cif C (wj_rV C dX5_ahead_61 km_X5_finding kl_X5_66 is_X5 rfl rfl (c_X5_finding (w := 0) l V (by decide) (by decide)) rfl rfl (Nat.le_of_ble_eq_true rfl) (by decide)) ?_
      exact hR _ _ _ _ _ dX5_ahead_64 (sp_rfM (by rw [a_ahead, if_neg (fun q => by first | exact wj_c0 h40 q.1 | exact wj_c0 h55 q.2.2 | exact q.2.1.elim h2 (fun q1 => q1.elim h7 (fun q2 => q2.elim h13 (fun q3 => q3.elim h19 h25))))]) rfl rfl (by decide)) wj_rfl
    · refine wj_iload C dX5_ahead_43 rfl ?_
      refine wj_if_eq C 58 dX5_ahead_45 (by decide) (fun h45 => ?_) (fun h45 => ?_)
      · exact absurd h45 (by decide)
      · refine wj_iload_n C 3 dX5_ahead_48 rfl rfl ?_
        refine wj_iconst (v := 0) C dX5_ahead_49 (by decide) ?_
        refine wj_bipush (v := 100) C dX5_ahead_50 (by decide) ?_
        refine wj_cif C (wj_rS C dX5_ahead_52 km_X5_within kl_X5_70 (c_X5_within l V) rfl rfl (Nat.le_of_ble_eq_true rfl) (by decide)) ?_
        refine wj_if_ne C 65 dX5_ahead_55 (by decide) (fun h55 => ?_) (fun h55 => ?_)
        · have h40a := wj_c1 h40
          have h55a := wj_c1 h55
          obtain ⟨i, hi, rfl⟩ := sp_rgi hG.1 hG.2.1 h40a
          obtain ⟨m, hm, rfl⟩ := wj_natC (N := 100) h55a
          have hN8 := hG.2.1
          have hw : w = 2 ∨ w = 3 ∨ w = 6 ∨ w = 7 ∨ w = 9 := by first | exact Or.inl h2 | exact Or.inr (Or.inl h7) | exact Or.inr (Or.inr (Or.inl h13)) | exact Or.inr (Or.inr (Or.inr (Or.inl h19))) | exact Or.inr (Or.inr (Or.inr (Or.inr h25)))
          obtain ⟨t, ht, ew⟩ : ∃ t, t < 12 ∧ w = nI t := by first | exact ⟨2, by decide, h2⟩ | exact ⟨3, by decide, h7⟩ | exact ⟨6, by decide, h13⟩ | exact ⟨7, by decide, h19⟩ | exact ⟨9, by decide, h25⟩
          refine wj_aload_n C 0 dX5_ahead_65 rfl rfl ?_
          refine wg_X5_9 C dX5_ahead_66 ?_
          refine wj_aload_n C 0 dX5_ahead_69 rfl rfl ?_
          refine wg_X5_16 C dX5_ahead_70 ?_
          refine wj_cvf C (wj_rS C dX5_ahead_73 km_X5_copyRow kl_X5_61 (c_X5_copyRow (a := 49) (b := 51) l V (by decide) (by decide) (by decide)) rfl rfl (Nat.le_of_ble_eq_true rfl) (by decide)) ?_
          rw [sp_as_1]
          refine wj_aload_n C 0 dX5_ahead_76 rfl rfl ?_
          refine wj_iload_n C 3 dX5_ahead_77 rfl rfl ?_
          refine wj_cvf C (wj_rV C dX5_ahead_78 km_X5_yearsGo kl_X5_167 is_X5 rfl rfl (c_X5_yearsGo (c := false) l V hG (by rw [sp_as_48]; exact hc) (by omega)) rfl rfl (Nat.le_of_ble_eq_true rfl) (by decide)) ?_
          rw [sp_yxs_f]
          refine wj_aload_n C 0 dX5_ahead_81 rfl rfl ?_
          refine wj_aload_n C 0 dX5_ahead_82 rfl rfl ?_
          refine wj_iload_n C 1 dX5_ahead_83 rfl rfl ?_
          refine wj_iload_n C 2 dX5_ahead_84 rfl rfl ?_
          rw [ew]
          refine wj_cif C (wj_rV C dX5_ahead_85 km_X5_told kl_X5_149 is_X5 rfl rfl (c_X5_told l V (sp_G_yrs hG m) hi ht) rfl rfl (Nat.le_of_ble_eq_true rfl) (by decide)) ?_
          rw [← ew]
          refine wj_cif C (wj_rV C dX5_ahead_88 km_X5_putBack kl_X5_177 is_X5 rfl rfl (c_X5_putBack l V) rfl rfl (Nat.le_of_ble_eq_true rfl) (by decide)) ?_
          exact hR _ _ _ _ _ dX5_ahead_91 (sp_rvG (by rw [a_ahead, if_pos ⟨h40a, hw, h55a⟩, nI_clamp (by omega), nI_clamp (by omega)]) rfl rfl) wj_rfl
        · refine wj_aload_n C 0 dX5_ahead_58 rfl rfl ?_
          refine wj_ldc C dX5_ahead_59 kc_X5_60 ?_
          refine wj_cif C (wj_rV C dX5_ahead_61 km_X5_finding kl_X5_66 is_X5 rfl rfl (c_X5_finding (w := 0) l V (by decide) (by decide)) rfl rfl (Nat.le_of_ble_eq_true rfl) (by decide)) ?_
          exact hR _ _ _ _ _ dX5_ahead_64 (sp_rfM (by rw [a_ahead, if_neg (fun q => by first | exact wj_c0 h40 q.1 | exact wj_c0 h55 q.2.2 | exact q.2.1.elim h2 (fun q1 => q1.elim h7 (fun q2 => q2.elim h13 (fun q3 => q3.elim h19 h25))))]) rfl rfl (by decide)) wj_rfl
  · refine wj_iload_n C 2 dX5_ahead_5 rfl rfl ?_
    refine wj_iconst (v := 3) C dX5_ahead_6 (by decide) ?_
    refine wj_icmp_eq C 28 dX5_ahead_7 (by decide) (fun h7 => ?_) (fun h7 => ?_)
    · refine wj_iconst (v := 1) C dX5_ahead_28 (by decide) ?_
      refine wj_goto C 33 dX5_ahead_29 (by decide) ?_
      refine wj_istore C dX5_ahead_33 (by decide) rfl ?_
      dsimp only [List.set]
      refine wj_aload_n C 0 dX5_ahead_35 rfl rfl ?_
      refine wj_iload_n C 1 dX5_ahead_36 rfl rfl ?_
      refine wj_cif C (wj_rV C dX5_ahead_37 km_X5_isSlip kl_X5_146 is_X5 rfl rfl (c_X5_isSlip l V hG.1) rfl rfl (Nat.le_of_ble_eq_true rfl) (by decide)) ?_
      rw [sp_rgO hG.1]
      refine wj_if_eq C 58 dX5_ahead_40 (by decide) (fun h40 => ?_) (fun h40 => ?_)
      · refine wj_aload_n C 0 dX5_ahead_58 rfl rfl ?_
        refine wj_ldc C dX5_ahead_59 kc_X5_60 ?_
        refine wj_cif C (wj_rV C dX5_ahead_61 km_X5_finding kl_X5_66 is_X5 rfl rfl (c_X5_finding (w := 0) l V (by decide) (by decide)) rfl rfl (Nat.le_of_ble_eq_true rfl) (by decide)) ?_
        exact hR _ _ _ _ _ dX5_ahead_64 (sp_rfM (by rw [a_ahead, if_neg (fun q => by first | exact wj_c0 h40 q.1 | exact wj_c0 h55 q.2.2 | exact q.2.1.elim h2 (fun q1 => q1.elim h7 (fun q2 => q2.elim h13 (fun q3 => q3.elim h19 h25))))]) rfl rfl (by decide)) wj_rfl
      · refine wj_iload C dX5_ahead_43 rfl ?_
        refine wj_if_eq C 58 dX5_ahead_45 (by decide) (fun h45 => ?_) (fun h45 => ?_)
        · exact absurd h45 (by decide)
        · refine wj_iload_n C 3 dX5_ahead_48 rfl rfl ?_
          refine wj_iconst (v := 0) C dX5_ahead_49 (by decide) ?_
          refine wj_bipush (v := 100) C dX5_ahead_50 (by decide) ?_
          refine wj_cif C (wj_rS C dX5_ahead_52 km_X5_within kl_X5_70 (c_X5_within l V) rfl rfl (Nat.le_of_ble_eq_true rfl) (by decide)) ?_
          refine wj_if_ne C 65 dX5_ahead_55 (by decide) (fun h55 => ?_) (fun h55 => ?_)
          · have h40a := wj_c1 h40
            have h55a := wj_c1 h55
            obtain ⟨i, hi, rfl⟩ := sp_rgi hG.1 hG.2.1 h40a
            obtain ⟨m, hm, rfl⟩ := wj_natC (N := 100) h55a
            have hN8 := hG.2.1
            have hw : w = 2 ∨ w = 3 ∨ w = 6 ∨ w = 7 ∨ w = 9 := by first | exact Or.inl h2 | exact Or.inr (Or.inl h7) | exact Or.inr (Or.inr (Or.inl h13)) | exact Or.inr (Or.inr (Or.inr (Or.inl h19))) | exact Or.inr (Or.inr (Or.inr (Or.inr h25)))
            obtain ⟨t, ht, ew⟩ : ∃ t, t < 12 ∧ w = nI t := by first | exact ⟨2, by decide, h2⟩ | exact ⟨3, by decide, h7⟩ | exact ⟨6, by decide, h13⟩ | exact ⟨7, by decide, h19⟩ | exact ⟨9, by decide, h25⟩
            refine wj_aload_n C 0 dX5_ahead_65 rfl rfl ?_
            refine wg_X5_9 C dX5_ahead_66 ?_
            refine wj_aload_n C 0 dX5_ahead_69 rfl rfl ?_
            refine wg_X5_16 C dX5_ahead_70 ?_
            refine wj_cvf C (wj_rS C dX5_ahead_73 km_X5_copyRow kl_X5_61 (c_X5_copyRow (a := 49) (b := 51) l V (by decide) (by decide) (by decide)) rfl rfl (Nat.le_of_ble_eq_true rfl) (by decide)) ?_
            rw [sp_as_1]
            refine wj_aload_n C 0 dX5_ahead_76 rfl rfl ?_
            refine wj_iload_n C 3 dX5_ahead_77 rfl rfl ?_
            refine wj_cvf C (wj_rV C dX5_ahead_78 km_X5_yearsGo kl_X5_167 is_X5 rfl rfl (c_X5_yearsGo (c := false) l V hG (by rw [sp_as_48]; exact hc) (by omega)) rfl rfl (Nat.le_of_ble_eq_true rfl) (by decide)) ?_
            rw [sp_yxs_f]
            refine wj_aload_n C 0 dX5_ahead_81 rfl rfl ?_
            refine wj_aload_n C 0 dX5_ahead_82 rfl rfl ?_
            refine wj_iload_n C 1 dX5_ahead_83 rfl rfl ?_
            refine wj_iload_n C 2 dX5_ahead_84 rfl rfl ?_
            rw [ew]
            refine wj_cif C (wj_rV C dX5_ahead_85 km_X5_told kl_X5_149 is_X5 rfl rfl (c_X5_told l V (sp_G_yrs hG m) hi ht) rfl rfl (Nat.le_of_ble_eq_true rfl) (by decide)) ?_
            rw [← ew]
            refine wj_cif C (wj_rV C dX5_ahead_88 km_X5_putBack kl_X5_177 is_X5 rfl rfl (c_X5_putBack l V) rfl rfl (Nat.le_of_ble_eq_true rfl) (by decide)) ?_
            exact hR _ _ _ _ _ dX5_ahead_91 (sp_rvG (by rw [a_ahead, if_pos ⟨h40a, hw, h55a⟩, nI_clamp (by omega), nI_clamp (by omega)]) rfl rfl) wj_rfl
          · refine wj_aload_n C 0 dX5_ahead_58 rfl rfl ?_
            refine wj_ldc C dX5_ahead_59 kc_X5_60 ?_
            refine wj_cif C (wj_rV C dX5_ahead_61 km_X5_finding kl_X5_66 is_X5 rfl rfl (c_X5_finding (w := 0) l V (by decide) (by decide)) rfl rfl (Nat.le_of_ble_eq_true rfl) (by decide)) ?_
            exact hR _ _ _ _ _ dX5_ahead_64 (sp_rfM (by rw [a_ahead, if_neg (fun q => by first | exact wj_c0 h40 q.1 | exact wj_c0 h55 q.2.2 | exact q.2.1.elim h2 (fun q1 => q1.elim h7 (fun q2 => q2.elim h13 (fun q3 => q3.elim h19 h25))))]) rfl rfl (by decide)) wj_rfl
    · refine wj_iload_n C 2 dX5_ahead_10 rfl rfl ?_
      refine wj_bipush (v := 6) C dX5_ahead_11 (by decide) ?_
      refine wj_icmp_eq C 28 dX5_ahead_13 (by decide) (fun h13 => ?_) (fun h13 => ?_)
      · refine wj_iconst (v := 1) C dX5_ahead_28 (by decide) ?_
        refine wj_goto C 33 dX5_ahead_29 (by decide) ?_
        refine wj_istore C dX5_ahead_33 (by decide) rfl ?_
        dsimp only [List.set]
        refine wj_aload_n C 0 dX5_ahead_35 rfl rfl ?_
        refine wj_iload_n C 1 dX5_ahead_36 rfl rfl ?_
        refine wj_cif C (wj_rV C dX5_ahead_37 km_X5_isSlip kl_X5_146 is_X5 rfl rfl (c_X5_isSlip l V hG.1) rfl rfl (Nat.le_of_ble_eq_true rfl) (by decide)) ?_
        rw [sp_rgO hG.1]
        refine wj_if_eq C 58 dX5_ahead_40 (by decide) (fun h40 => ?_) (fun h40 => ?_)
        · refine wj_aload_n C 0 dX5_ahead_58 rfl rfl ?_
          refine wj_ldc C dX5_ahead_59 kc_X5_60 ?_
          refine wj_cif C (wj_rV C dX5_ahead_61 km_X5_finding kl_X5_66 is_X5 rfl rfl (c_X5_finding (w := 0) l V (by decide) (by decide)) rfl rfl (Nat.le_of_ble_eq_true rfl) (by decide)) ?_
          exact hR _ _ _ _ _ dX5_ahead_64 (sp_rfM (by rw [a_ahead, if_neg (fun q => by first | exact wj_c0 h40 q.1 | exact wj_c0 h55 q.2.2 | exact q.2.1.elim h2 (fun q1 => q1.elim h7 (fun q2 => q2.elim h13 (fun q3 => q3.elim h19 h25))))]) rfl rfl (by decide)) wj_rfl
        · refine wj_iload C dX5_ahead_43 rfl ?_
          refine wj_if_eq C 58 dX5_ahead_45 (by decide) (fun h45 => ?_) (fun h45 => ?_)
          · exact absurd h45 (by decide)
          · refine wj_iload_n C 3 dX5_ahead_48 rfl rfl ?_
            refine wj_iconst (v := 0) C dX5_ahead_49 (by decide) ?_
            refine wj_bipush (v := 100) C dX5_ahead_50 (by decide) ?_
            refine wj_cif C (wj_rS C dX5_ahead_52 km_X5_within kl_X5_70 (c_X5_within l V) rfl rfl (Nat.le_of_ble_eq_true rfl) (by decide)) ?_
            refine wj_if_ne C 65 dX5_ahead_55 (by decide) (fun h55 => ?_) (fun h55 => ?_)
            · have h40a := wj_c1 h40
              have h55a := wj_c1 h55
              obtain ⟨i, hi, rfl⟩ := sp_rgi hG.1 hG.2.1 h40a
              obtain ⟨m, hm, rfl⟩ := wj_natC (N := 100) h55a
              have hN8 := hG.2.1
              have hw : w = 2 ∨ w = 3 ∨ w = 6 ∨ w = 7 ∨ w = 9 := by first | exact Or.inl h2 | exact Or.inr (Or.inl h7) | exact Or.inr (Or.inr (Or.inl h13)) | exact Or.inr (Or.inr (Or.inr (Or.inl h19))) | exact Or.inr (Or.inr (Or.inr (Or.inr h25)))
              obtain ⟨t, ht, ew⟩ : ∃ t, t < 12 ∧ w = nI t := by first | exact ⟨2, by decide, h2⟩ | exact ⟨3, by decide, h7⟩ | exact ⟨6, by decide, h13⟩ | exact ⟨7, by decide, h19⟩ | exact ⟨9, by decide, h25⟩
              refine wj_aload_n C 0 dX5_ahead_65 rfl rfl ?_
              refine wg_X5_9 C dX5_ahead_66 ?_
              refine wj_aload_n C 0 dX5_ahead_69 rfl rfl ?_
              refine wg_X5_16 C dX5_ahead_70 ?_
              refine wj_cvf C (wj_rS C dX5_ahead_73 km_X5_copyRow kl_X5_61 (c_X5_copyRow (a := 49) (b := 51) l V (by decide) (by decide) (by decide)) rfl rfl (Nat.le_of_ble_eq_true rfl) (by decide)) ?_
              rw [sp_as_1]
              refine wj_aload_n C 0 dX5_ahead_76 rfl rfl ?_
              refine wj_iload_n C 3 dX5_ahead_77 rfl rfl ?_
              refine wj_cvf C (wj_rV C dX5_ahead_78 km_X5_yearsGo kl_X5_167 is_X5 rfl rfl (c_X5_yearsGo (c := false) l V hG (by rw [sp_as_48]; exact hc) (by omega)) rfl rfl (Nat.le_of_ble_eq_true rfl) (by decide)) ?_
              rw [sp_yxs_f]
              refine wj_aload_n C 0 dX5_ahead_81 rfl rfl ?_
              refine wj_aload_n C 0 dX5_ahead_82 rfl rfl ?_
              refine wj_iload_n C 1 dX5_ahead_83 rfl rfl ?_
              refine wj_iload_n C 2 dX5_ahead_84 rfl rfl ?_
              rw [ew]
              refine wj_cif C (wj_rV C dX5_ahead_85 km_X5_told kl_X5_149 is_X5 rfl rfl (c_X5_told l V (sp_G_yrs hG m) hi ht) rfl rfl (Nat.le_of_ble_eq_true rfl) (by decide)) ?_
              rw [← ew]
              refine wj_cif C (wj_rV C dX5_ahead_88 km_X5_putBack kl_X5_177 is_X5 rfl rfl (c_X5_putBack l V) rfl rfl (Nat.le_of_ble_eq_true rfl) (by decide)) ?_
              exact hR _ _ _ _ _ dX5_ahead_91 (sp_rvG (by rw [a_ahead, if_pos ⟨h40a, hw, h55a⟩, nI_clamp (by omega), nI_clamp (by omega)]) rfl rfl) wj_rfl
            · refine wj_aload_n C 0 dX5_ahead_58 rfl rfl ?_
              refine wj_ldc C dX5_ahead_59 kc_X5_60 ?_
              refine wj_cif C (wj_rV C dX5_ahead_61 km_X5_finding kl_X5_66 is_X5 rfl rfl (c_X5_finding (w := 0) l V (by decide) (by decide)) rfl rfl (Nat.le_of_ble_eq_true rfl) (by decide)) ?_
              exact hR _ _ _ _ _ dX5_ahead_64 (sp_rfM (by rw [a_ahead, if_neg (fun q => by first | exact wj_c0 h40 q.1 | exact wj_c0 h55 q.2.2 | exact q.2.1.elim h2 (fun q1 => q1.elim h7 (fun q2 => q2.elim h13 (fun q3 => q3.elim h19 h25))))]) rfl rfl (by decide)) wj_rfl
      · refine wj_iload_n C 2 dX5_ahead_16 rfl rfl ?_
        refine wj_bipush (v := 7) C dX5_ahead_17 (by decide) ?_
        refine wj_icmp_eq C 28 dX5_ahead_19 (by decide) (fun h19 => ?_) (fun h19 => ?_)
        · refine wj_iconst (v := 1) C dX5_ahead_28 (by decide) ?_
          refine wj_goto C 33 dX5_ahead_29 (by decide) ?_
          refine wj_istore C dX5_ahead_33 (by decide) rfl ?_
          dsimp only [List.set]
          refine wj_aload_n C 0 dX5_ahead_35 rfl rfl ?_
          refine wj_iload_n C 1 dX5_ahead_36 rfl rfl ?_
          refine wj_cif C (wj_rV C dX5_ahead_37 km_X5_isSlip kl_X5_146 is_X5 rfl rfl (c_X5_isSlip l V hG.1) rfl rfl (Nat.le_of_ble_eq_true rfl) (by decide)) ?_
          rw [sp_rgO hG.1]
          refine wj_if_eq C 58 dX5_ahead_40 (by decide) (fun h40 => ?_) (fun h40 => ?_)
          · refine wj_aload_n C 0 dX5_ahead_58 rfl rfl ?_
            refine wj_ldc C dX5_ahead_59 kc_X5_60 ?_
            refine wj_cif C (wj_rV C dX5_ahead_61 km_X5_finding kl_X5_66 is_X5 rfl rfl (c_X5_finding (w := 0) l V (by decide) (by decide)) rfl rfl (Nat.le_of_ble_eq_true rfl) (by decide)) ?_
            exact hR _ _ _ _ _ dX5_ahead_64 (sp_rfM (by rw [a_ahead, if_neg (fun q => by first | exact wj_c0 h40 q.1 | exact wj_c0 h55 q.2.2 | exact q.2.1.elim h2 (fun q1 => q1.elim h7 (fun q2 => q2.elim h13 (fun q3 => q3.elim h19 h25))))]) rfl rfl (by decide)) wj_rfl
          · refine wj_iload C dX5_ahead_43 rfl ?_
            refine wj_if_eq C 58 dX5_ahead_45 (by decide) (fun h45 => ?_) (fun h45 => ?_)
            · exact absurd h45 (by decide)
            · refine wj_iload_n C 3 dX5_ahead_48 rfl rfl ?_
              refine wj_iconst (v := 0) C dX5_ahead_49 (by decide) ?_
              refine wj_bipush (v := 100) C dX5_ahead_50 (by decide) ?_
              refine wj_cif C (wj_rS C dX5_ahead_52 km_X5_within kl_X5_70 (c_X5_within l V) rfl rfl (Nat.le_of_ble_eq_true rfl) (by decide)) ?_
              refine wj_if_ne C 65 dX5_ahead_55 (by decide) (fun h55 => ?_) (fun h55 => ?_)
              · have h40a := wj_c1 h40
                have h55a := wj_c1 h55
                obtain ⟨i, hi, rfl⟩ := sp_rgi hG.1 hG.2.1 h40a
                obtain ⟨m, hm, rfl⟩ := wj_natC (N := 100) h55a
                have hN8 := hG.2.1
                have hw : w = 2 ∨ w = 3 ∨ w = 6 ∨ w = 7 ∨ w = 9 := by first | exact Or.inl h2 | exact Or.inr (Or.inl h7) | exact Or.inr (Or.inr (Or.inl h13)) | exact Or.inr (Or.inr (Or.inr (Or.inl h19))) | exact Or.inr (Or.inr (Or.inr (Or.inr h25)))
                obtain ⟨t, ht, ew⟩ : ∃ t, t < 12 ∧ w = nI t := by first | exact ⟨2, by decide, h2⟩ | exact ⟨3, by decide, h7⟩ | exact ⟨6, by decide, h13⟩ | exact ⟨7, by decide, h19⟩ | exact ⟨9, by decide, h25⟩
                refine wj_aload_n C 0 dX5_ahead_65 rfl rfl ?_
                refine wg_X5_9 C dX5_ahead_66 ?_
                refine wj_aload_n C 0 dX5_ahead_69 rfl rfl ?_
                refine wg_X5_16 C dX5_ahead_70 ?_
                refine wj_cvf C (wj_rS C dX5_ahead_73 km_X5_copyRow kl_X5_61 (c_X5_copyRow (a := 49) (b := 51) l V (by decide) (by decide) (by decide)) rfl rfl (Nat.le_of_ble_eq_true rfl) (by decide)) ?_
                rw [sp_as_1]
                refine wj_aload_n C 0 dX5_ahead_76 rfl rfl ?_
                refine wj_iload_n C 3 dX5_ahead_77 rfl rfl ?_
                refine wj_cvf C (wj_rV C dX5_ahead_78 km_X5_yearsGo kl_X5_167 is_X5 rfl rfl (c_X5_yearsGo (c := false) l V hG (by rw [sp_as_48]; exact hc) (by omega)) rfl rfl (Nat.le_of_ble_eq_true rfl) (by decide)) ?_
                rw [sp_yxs_f]
                refine wj_aload_n C 0 dX5_ahead_81 rfl rfl ?_
                refine wj_aload_n C 0 dX5_ahead_82 rfl rfl ?_
                refine wj_iload_n C 1 dX5_ahead_83 rfl rfl ?_
                refine wj_iload_n C 2 dX5_ahead_84 rfl rfl ?_
                rw [ew]
                refine wj_cif C (wj_rV C dX5_ahead_85 km_X5_told kl_X5_149 is_X5 rfl rfl (c_X5_told l V (sp_G_yrs hG m) hi ht) rfl rfl (Nat.le_of_ble_eq_true rfl) (by decide)) ?_
                rw [← ew]
                refine wj_cif C (wj_rV C dX5_ahead_88 km_X5_putBack kl_X5_177 is_X5 rfl rfl (c_X5_putBack l V) rfl rfl (Nat.le_of_ble_eq_true rfl) (by decide)) ?_
                exact hR _ _ _ _ _ dX5_ahead_91 (sp_rvG (by rw [a_ahead, if_pos ⟨h40a, hw, h55a⟩, nI_clamp (by omega), nI_clamp (by omega)]) rfl rfl) wj_rfl
              · refine wj_aload_n C 0 dX5_ahead_58 rfl rfl ?_
                refine wj_ldc C dX5_ahead_59 kc_X5_60 ?_
                refine wj_cif C (wj_rV C dX5_ahead_61 km_X5_finding kl_X5_66 is_X5 rfl rfl (c_X5_finding (w := 0) l V (by decide) (by decide)) rfl rfl (Nat.le_of_ble_eq_true rfl) (by decide)) ?_
                exact hR _ _ _ _ _ dX5_ahead_64 (sp_rfM (by rw [a_ahead, if_neg (fun q => by first | exact wj_c0 h40 q.1 | exact wj_c0 h55 q.2.2 | exact q.2.1.elim h2 (fun q1 => q1.elim h7 (fun q2 => q2.elim h13 (fun q3 => q3.elim h19 h25))))]) rfl rfl (by decide)) wj_rfl
        · refine wj_iload_n C 2 dX5_ahead_22 rfl rfl ?_
          refine wj_bipush (v := 9) C dX5_ahead_23 (by decide) ?_
          refine wj_icmp_ne C 32 dX5_ahead_25 (by decide) (fun h25 => ?_) (fun h25 => ?_)
          · refine wj_iconst (v := 0) C dX5_ahead_32 (by decide) ?_
            refine wj_istore C dX5_ahead_33 (by decide) rfl ?_
            dsimp only [List.set]
            refine wj_aload_n C 0 dX5_ahead_35 rfl rfl ?_
            refine wj_iload_n C 1 dX5_ahead_36 rfl rfl ?_
            refine wj_cif C (wj_rV C dX5_ahead_37 km_X5_isSlip kl_X5_146 is_X5 rfl rfl (c_X5_isSlip l V hG.1) rfl rfl (Nat.le_of_ble_eq_true rfl) (by decide)) ?_
            rw [sp_rgO hG.1]
            refine wj_if_eq C 58 dX5_ahead_40 (by decide) (fun h40 => ?_) (fun h40 => ?_)
            · refine wj_aload_n C 0 dX5_ahead_58 rfl rfl ?_
              refine wj_ldc C dX5_ahead_59 kc_X5_60 ?_
              refine wj_cif C (wj_rV C dX5_ahead_61 km_X5_finding kl_X5_66 is_X5 rfl rfl (c_X5_finding (w := 0) l V (by decide) (by decide)) rfl rfl (Nat.le_of_ble_eq_true rfl) (by decide)) ?_
              exact hR _ _ _ _ _ dX5_ahead_64 (sp_rfM (by rw [a_ahead, if_neg (fun q => by first | exact wj_c0 h40 q.1 | exact wj_c0 h55 q.2.2 | exact q.2.1.elim h2 (fun q1 => q1.elim h7 (fun q2 => q2.elim h13 (fun q3 => q3.elim h19 h25))))]) rfl rfl (by decide)) wj_rfl
            · refine wj_iload C dX5_ahead_43 rfl ?_
              refine wj_if_eq C 58 dX5_ahead_45 (by decide) (fun h45 => ?_) (fun h45 => ?_)
              · refine wj_aload_n C 0 dX5_ahead_58 rfl rfl ?_
                refine wj_ldc C dX5_ahead_59 kc_X5_60 ?_
                refine wj_cif C (wj_rV C dX5_ahead_61 km_X5_finding kl_X5_66 is_X5 rfl rfl (c_X5_finding (w := 0) l V (by decide) (by decide)) rfl rfl (Nat.le_of_ble_eq_true rfl) (by decide)) ?_
                exact hR _ _ _ _ _ dX5_ahead_64 (sp_rfM (by rw [a_ahead, if_neg (fun q => by first | exact wj_c0 h40 q.1 | exact wj_c0 h55 q.2.2 | exact q.2.1.elim h2 (fun q1 => q1.elim h7 (fun q2 => q2.elim h13 (fun q3 => q3.elim h19 h25))))]) rfl rfl (by decide)) wj_rfl
              · exact absurd rfl h45
          · refine wj_iconst (v := 1) C dX5_ahead_28 (by decide) ?_
            refine wj_goto C 33 dX5_ahead_29 (by decide) ?_
            refine wj_istore C dX5_ahead_33 (by decide) rfl ?_
            dsimp only [List.set]
            refine wj_aload_n C 0 dX5_ahead_35 rfl rfl ?_
            refine wj_iload_n C 1 dX5_ahead_36 rfl rfl ?_
            refine wj_cif C (wj_rV C dX5_ahead_37 km_X5_isSlip kl_X5_146 is_X5 rfl rfl (c_X5_isSlip l V hG.1) rfl rfl (Nat.le_of_ble_eq_true rfl) (by decide)) ?_
            rw [sp_rgO hG.1]
            refine wj_if_eq C 58 dX5_ahead_40 (by decide) (fun h40 => ?_) (fun h40 => ?_)
            · refine wj_aload_n C 0 dX5_ahead_58 rfl rfl ?_
              refine wj_ldc C dX5_ahead_59 kc_X5_60 ?_
              refine wj_cif C (wj_rV C dX5_ahead_61 km_X5_finding kl_X5_66 is_X5 rfl rfl (c_X5_finding (w := 0) l V (by decide) (by decide)) rfl rfl (Nat.le_of_ble_eq_true rfl) (by decide)) ?_
              exact hR _ _ _ _ _ dX5_ahead_64 (sp_rfM (by rw [a_ahead, if_neg (fun q => by first | exact wj_c0 h40 q.1 | exact wj_c0 h55 q.2.2 | exact q.2.1.elim h2 (fun q1 => q1.elim h7 (fun q2 => q2.elim h13 (fun q3 => q3.elim h19 h25))))]) rfl rfl (by decide)) wj_rfl
            · refine wj_iload C dX5_ahead_43 rfl ?_
              refine wj_if_eq C 58 dX5_ahead_45 (by decide) (fun h45 => ?_) (fun h45 => ?_)
              · exact absurd h45 (by decide)
              · refine wj_iload_n C 3 dX5_ahead_48 rfl rfl ?_
                refine wj_iconst (v := 0) C dX5_ahead_49 (by decide) ?_
                refine wj_bipush (v := 100) C dX5_ahead_50 (by decide) ?_
                refine wj_cif C (wj_rS C dX5_ahead_52 km_X5_within kl_X5_70 (c_X5_within l V) rfl rfl (Nat.le_of_ble_eq_true rfl) (by decide)) ?_
                refine wj_if_ne C 65 dX5_ahead_55 (by decide) (fun h55 => ?_) (fun h55 => ?_)
                · have h40a := wj_c1 h40
                  have h55a := wj_c1 h55
                  obtain ⟨i, hi, rfl⟩ := sp_rgi hG.1 hG.2.1 h40a
                  obtain ⟨m, hm, rfl⟩ := wj_natC (N := 100) h55a
                  have hN8 := hG.2.1
                  have hw : w = 2 ∨ w = 3 ∨ w = 6 ∨ w = 7 ∨ w = 9 := by first | exact Or.inl h2 | exact Or.inr (Or.inl h7) | exact Or.inr (Or.inr (Or.inl h13)) | exact Or.inr (Or.inr (Or.inr (Or.inl h19))) | exact Or.inr (Or.inr (Or.inr (Or.inr h25)))
                  obtain ⟨t, ht, ew⟩ : ∃ t, t < 12 ∧ w = nI t := by first | exact ⟨2, by decide, h2⟩ | exact ⟨3, by decide, h7⟩ | exact ⟨6, by decide, h13⟩ | exact ⟨7, by decide, h19⟩ | exact ⟨9, by decide, h25⟩
                  refine wj_aload_n C 0 dX5_ahead_65 rfl rfl ?_
                  refine wg_X5_9 C dX5_ahead_66 ?_
                  refine wj_aload_n C 0 dX5_ahead_69 rfl rfl ?_
                  refine wg_X5_16 C dX5_ahead_70 ?_
                  refine wj_cvf C (wj_rS C dX5_ahead_73 km_X5_copyRow kl_X5_61 (c_X5_copyRow (a := 49) (b := 51) l V (by decide) (by decide) (by decide)) rfl rfl (Nat.le_of_ble_eq_true rfl) (by decide)) ?_
                  rw [sp_as_1]
                  refine wj_aload_n C 0 dX5_ahead_76 rfl rfl ?_
                  refine wj_iload_n C 3 dX5_ahead_77 rfl rfl ?_
                  refine wj_cvf C (wj_rV C dX5_ahead_78 km_X5_yearsGo kl_X5_167 is_X5 rfl rfl (c_X5_yearsGo (c := false) l V hG (by rw [sp_as_48]; exact hc) (by omega)) rfl rfl (Nat.le_of_ble_eq_true rfl) (by decide)) ?_
                  rw [sp_yxs_f]
                  refine wj_aload_n C 0 dX5_ahead_81 rfl rfl ?_
                  refine wj_aload_n C 0 dX5_ahead_82 rfl rfl ?_
                  refine wj_iload_n C 1 dX5_ahead_83 rfl rfl ?_
                  refine wj_iload_n C 2 dX5_ahead_84 rfl rfl ?_
                  rw [ew]
                  refine wj_cif C (wj_rV C dX5_ahead_85 km_X5_told kl_X5_149 is_X5 rfl rfl (c_X5_told l V (sp_G_yrs hG m) hi ht) rfl rfl (Nat.le_of_ble_eq_true rfl) (by decide)) ?_
                  rw [← ew]
                  refine wj_cif C (wj_rV C dX5_ahead_88 km_X5_putBack kl_X5_177 is_X5 rfl rfl (c_X5_putBack l V) rfl rfl (Nat.le_of_ble_eq_true rfl) (by decide)) ?_
                  exact hR _ _ _ _ _ dX5_ahead_91 (sp_rvG (by rw [a_ahead, if_pos ⟨h40a, hw, h55a⟩, nI_clamp (by omega), nI_clamp (by omega)]) rfl rfl) wj_rfl
                · refine wj_aload_n C 0 dX5_ahead_58 rfl rfl ?_
                  refine wj_ldc C dX5_ahead_59 kc_X5_60 ?_
                  refine wj_cif C (wj_rV C dX5_ahead_61 km_X5_finding kl_X5_66 is_X5 rfl rfl (c_X5_finding (w := 0) l V (by decide) (by decide)) rfl rfl (Nat.le_of_ble_eq_true rfl) (by decide)) ?_
                  exact hR _ _ _ _ _ dX5_ahead_64 (sp_rfM (by rw [a_ahead, if_neg (fun q => by first | exact wj_c0 h40 q.1 | exact wj_c0 h55 q.2.2 | exact q.2.1.elim h2 (fun q1 => q1.elim h7 (fun q2 => q2.elim h13 (fun q3 => q3.elim h19 h25))))]) rfl rfl (by decide)) wj_rfl

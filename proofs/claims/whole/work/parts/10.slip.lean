/-! A SLIP, as its seven numbers s: 0 KIND, 1 PLACE, 2 HIGH, 3 THICK, 4 LAID, 5 WORDS, 6 BROKE -/
def sp_rea (s : Nat → Int32) : Int32 := if s 0 = 1 ∨ s 0 = 6 then (if s 5 ≤ 4 then s 2 / 40 + 1 else s 2 / 40) else if s 0 = 3 then 2 * (s 2 / 40) else if s 0 = 4 then (if s 2 / 40 ≤ 0 then 0 else 2 * (s 2 / 40) - 1) else if s 0 = 5 then 0 else s 2 / 40
def sp_lo (s : Nat → Int32) : Int32 := if s 4 = 2 then (if 0 < s 1 - sp_rea s then s 1 - sp_rea s else 0) else s 1
def sp_hi (s : Nat → Int32) : Int32 := if s 4 = 1 then (if s 1 + sp_rea s < 15 then s 1 + sp_rea s else 15) else s 1
def sp_cov (s : Nat → Int32) : Int32 := ((2 : Int32) <<< (sp_hi s &&& 31)) - ((1 : Int32) <<< (sp_lo s &&& 31))
def sp_isc (s : Nat → Int32) (p : Int32) : Bool := decide (p = s 1 ∨ (s 4 = 1 ∧ s 1 < p ∧ p - s 1 ≤ sp_rea s) ∨ (s 4 = 2 ∧ p < s 1 ∧ s 1 - p ≤ sp_rea s))
def sp_pro (s : Nat → Int32) : Int32 := if s 4 = 0 then s 3 + 10 else s 3
def sp_str (s : Nat → Int32) (y : Int32) : Int32 := if s 0 = 1 then s 3 + 12 - s 5 else if s 0 = 6 then (if y - y / 5 * 5 = 0 then s 3 + 12 - s 5 + 5 else s 3 + 12 - s 5) else if s 0 = 2 ∨ s 0 = 3 then sp_pro s else if s 0 = 4 then sp_pro s + s 2 / 5 else if s 0 = 5 then s 3 / 2 else s 3
def sp_gpr (s : Nat → Int32) : Int32 := if s 4 = 0 then 12 else 6
def sp_gro (s : Nat → Int32) : Int32 := if s 0 = 1 then 12 - s 5 else if s 0 = 6 then 12 - s 5 + 4 else if s 0 = 2 then sp_gpr s else if s 0 = 3 then sp_gpr s + s 5 else if s 0 = 4 then (sp_gpr s + s 5) / 2 else if s 0 = 5 then 3 else 12
def sp_fpl (s : Nat → Int32) : Int32 := if s 4 = 0 then 1 else 3
def sp_fil (s : Nat → Int32) : Int32 := if s 0 = 1 ∨ s 0 = 6 then sp_fpl s + 1 else if s 0 = 5 then 0 else sp_fpl s
def sp_tra (s : Nat → Int32) (w y : Int32) : Int32 := if w = 0 then s 0 else if w = 1 then s 1 else if w = 2 then s 2 else if w = 3 then s 3 else if w = 4 then s 4 else if w = 5 then s 5 else if w = 6 then s 6 else if w = 7 then sp_rea s else if w = 8 then sp_cov s else if w = 9 then sp_str s y else if w = 10 then sp_gro s else if w = 11 then sp_fil s else 0
def sp_lst (w : Int32) : Int32 := if w = 5 then 1 else 0
def sp_mst (w : Int32) : Int32 := if w = 0 then 6 else if w = 1 then 15 else if w = 2 then 199 else if w = 3 then 99 else if w = 4 then 2 else if w = 5 then 12 else if w = 6 then 9999 else -1
def sp_abv (k : Int32) : Int32 := if k = 3 then 2 else if k = 4 then 3 else if k = 6 then 1 else 0
/-- a slip gives way -/
def sp_giv (s : Nat → Int32) : Nat → Int32 := upd (upd (upd s 2 (s 2 / 2)) 3 (if 0 < s 3 - 5 then s 3 - 5 else 0)) 6 (if s 6 + 1 < 9999 then s 6 + 1 else 9999)
/-- a slip grows for a year -/
def sp_grw (s : Nat → Int32) : Nat → Int32 := upd (upd s 2 (if s 2 + sp_gro s < 199 then s 2 + sp_gro s else 199)) 3 (if s 3 + sp_fil s < 99 then s 3 + sp_fil s else 99)
theorem sp_gro_u (s : Nat → Int32) (x : Int32) : sp_gro (upd s 2 x) = sp_gro s := by simp [sp_gro, sp_gpr, upd]
theorem sp_fil_u (s : Nat → Int32) (x : Int32) : sp_fil (upd s 2 x) = sp_fil s := by simp [sp_fil, sp_fpl, upd]
/-- a number becomes a slip's field -/
def sp_set (s : Nat → Int32) (w x : Int32) : Nat → Int32 := if 0 ≤ w ∧ w ≤ 6 then upd s w.toNatClampNeg x else s
/-- a new slip -/
def sp_new (s : Nat → Int32) (k p w : Int32) : Nat → Int32 := fun j => if j = 0 then k else if j = 1 then p else if j = 2 then 20 else if j = 3 then 5 else if j = 4 then 0 else if j = 5 then w else if j = 6 then 0 else s j
theorem wj_r_c {σ : wj_St} {k : Nat} {f g : Nat → Int32} (h : ∀ j, j < wj_sl k → f j = g j) : wj_eq (wj_r σ k f) (wj_r σ k g) := by
  intro q j _ hj
  by_cases e : q = k
  · subst e; rw [wj_r_same, wj_r_same]; exact h j hj
  · rw [wj_r_ne e, wj_r_ne e]
def sp_cpy (s t : Nat → Int32) : Nat → Int32 := fun j => if j < 7 then t j else s j
theorem wj_uu (σ : wj_St) (k j : Nat) (x : Int32) (f : Nat → Int32) : wj_u (wj_r σ k f) k j x = wj_r σ k (upd f j x) := by
  funext q
  by_cases h : q = k
  · subst h; simp [wj_u, wj_r]
  · simp [wj_u, wj_r, h]
theorem wj_u_r (σ : wj_St) (k j : Nat) (x : Int32) : wj_u σ k j x = wj_r σ k (upd (σ k) j x) := by
  funext q
  by_cases h : q = k
  · subst h; simp [wj_u, wj_r]
  · simp [wj_u, wj_r, h]
theorem wj_r_id (σ : wj_St) (k : Nat) : wj_r σ k (σ k) = σ := by
  funext q
  by_cases h : q = k
  · subst h; simp [wj_r]
  · simp [wj_r, h]
theorem wj_rr2 (σ : wj_St) (k : Nat) (f g : Nat → Int32) : wj_r (wj_r σ k f) k g = wj_r σ k g := by
  funext q
  by_cases h : q = k
  · subst h; simp [wj_r]
  · simp [wj_r, h]
set_option maxRecDepth 100000 in
set_option maxHeartbeats 4000000 in
theorem c_X4_isIn (l : Launch) (V : wj_V) {σ : wj_St} {a b c : Int32} : wj_M l V yX4_isIn cX4_isIn 3 (some .boolean) 0 0 [.int a, .int b, .int c] σ (wj_I V (if b ≤ a ∧ a ≤ c then 1 else 0) σ) := by
  refine wj_ofZ (own := RX4) [some (.int a), some (.int b), some (.int c)] (by decide) rfl rfl (Nat.le_of_ble_eq_true rfl) (fun X C hR => ?_)
  refine wj_iload_n C 0 dX4_isIn_0 rfl rfl ?_
  refine wj_iload_n C 1 dX4_isIn_1 rfl rfl ?_
  refine wj_icmp_lt C 14 dX4_isIn_2 (by decide) (fun h2 => ?_) (fun h2 => ?_)
  · refine wj_iconst (v := 0) C dX4_isIn_14 (by decide) ?_
    exact hR _ _ _ _ _ dX4_isIn_15 ⟨by decide +kernel, (by simp only [Int32.le_iff_toInt_le, Int32.lt_iff_toInt_lt] at *; split <;> first | rfl | omega), rfl⟩ wj_rfl
  · refine wj_iload_n C 0 dX4_isIn_5 rfl rfl ?_
    refine wj_iload_n C 2 dX4_isIn_6 rfl rfl ?_
    refine wj_icmp_gt C 14 dX4_isIn_7 (by decide) (fun h7 => ?_) (fun h7 => ?_)
    · refine wj_iconst (v := 0) C dX4_isIn_14 (by decide) ?_
      exact hR _ _ _ _ _ dX4_isIn_15 ⟨by decide +kernel, (by simp only [Int32.le_iff_toInt_le, Int32.lt_iff_toInt_lt] at *; split <;> first | rfl | omega), rfl⟩ wj_rfl
    · refine wj_iconst (v := 1) C dX4_isIn_10 (by decide) ?_
      refine wj_goto C 15 dX4_isIn_11 (by decide) ?_
      exact hR _ _ _ _ _ dX4_isIn_15 ⟨by decide +kernel, (by simp only [Int32.le_iff_toInt_le, Int32.lt_iff_toInt_lt] at *; split <;> first | rfl | omega), rfl⟩ wj_rfl
set_option maxRecDepth 100000 in
set_option maxHeartbeats 4000000 in
theorem c_X2_least (l : Launch) (V : wj_V) {σ : wj_St} {w : Int32} : wj_M l V yX2_least cX2_least 1 (some .int) 0 0 [.int w] σ (wj_I V (sp_lst w) σ) := by
  refine wj_ofI (own := RX2) [some (.int w)] (by decide) rfl rfl (Nat.le_of_ble_eq_true rfl) (fun X C hR => ?_)
  refine wj_iload_n C 0 dX2_least_0 rfl rfl ?_
  refine wj_iconst (v := 5) C dX2_least_1 (by decide) ?_
  refine wj_icmp_ne C 9 dX2_least_2 (by decide) (fun h2 => ?_) (fun h2 => ?_)
  · refine wj_iconst (v := 0) C dX2_least_9 (by decide) ?_
    exact hR _ _ _ _ _ dX2_least_10 ⟨(by simp [sp_lst, *]), rfl⟩ wj_rfl
  · refine wj_iconst (v := 1) C dX2_least_5 (by decide) ?_
    refine wj_goto C 10 dX2_least_6 (by decide) ?_
    exact hR _ _ _ _ _ dX2_least_10 ⟨(by simp [sp_lst, *]), rfl⟩ wj_rfl
set_option maxRecDepth 100000 in
set_option maxHeartbeats 4000000 in
theorem c_X2_most (l : Launch) (V : wj_V) {σ : wj_St} {w : Int32} : wj_M l V yX2_most cX2_most 1 (some .int) 0 0 [.int w] σ (wj_I V (sp_mst w) σ) := by
  refine wj_ofI (own := RX2) [some (.int w)] (by decide) rfl rfl (Nat.le_of_ble_eq_true rfl) (fun X C hR => ?_)
  refine wj_iload_n C 0 dX2_most_0 rfl rfl ?_
  refine wj_swc C (0) (43) 44 dX2_most_1 (by decide) (by decide) (by decide) (by decide) (fun h1_0 => ?_) (fun h1_0 => ?_)
  · refine wj_bipush (v := 6) C dX2_most_44 (by decide) ?_
    exact hR _ _ _ _ _ dX2_most_46 ⟨(by simp [sp_mst, *]), rfl⟩ wj_rfl
  refine wj_swc C (1) (46) 47 dX2_most_1 (by decide) (by decide) (by decide) (by decide) (fun h1_1 => ?_) (fun h1_1 => ?_)
  · refine wj_bipush (v := 15) C dX2_most_47 (by decide) ?_
    exact hR _ _ _ _ _ dX2_most_49 ⟨(by simp [sp_mst, *]), rfl⟩ wj_rfl
  refine wj_swc C (2) (49) 50 dX2_most_1 (by decide) (by decide) (by decide) (by decide) (fun h1_2 => ?_) (fun h1_2 => ?_)
  · refine wj_sipush (v := 199) C dX2_most_50 (by decide) ?_
    exact hR _ _ _ _ _ dX2_most_53 ⟨(by simp [sp_mst, *]), rfl⟩ wj_rfl
  refine wj_swc C (3) (53) 54 dX2_most_1 (by decide) (by decide) (by decide) (by decide) (fun h1_3 => ?_) (fun h1_3 => ?_)
  · refine wj_bipush (v := 99) C dX2_most_54 (by decide) ?_
    exact hR _ _ _ _ _ dX2_most_56 ⟨(by simp [sp_mst, *]), rfl⟩ wj_rfl
  refine wj_swc C (4) (56) 57 dX2_most_1 (by decide) (by decide) (by decide) (by decide) (fun h1_4 => ?_) (fun h1_4 => ?_)
  · refine wj_iconst (v := 2) C dX2_most_57 (by decide) ?_
    exact hR _ _ _ _ _ dX2_most_58 ⟨(by simp [sp_mst, *]), rfl⟩ wj_rfl
  refine wj_swc C (5) (58) 59 dX2_most_1 (by decide) (by decide) (by decide) (by decide) (fun h1_5 => ?_) (fun h1_5 => ?_)
  · refine wj_bipush (v := 12) C dX2_most_59 (by decide) ?_
    exact hR _ _ _ _ _ dX2_most_61 ⟨(by simp [sp_mst, *]), rfl⟩ wj_rfl
  refine wj_swc C (6) (61) 62 dX2_most_1 (by decide) (by decide) (by decide) (by decide) (fun h1_6 => ?_) (fun h1_6 => ?_)
  · refine wj_sipush (v := 9999) C dX2_most_62 (by decide) ?_
    exact hR _ _ _ _ _ dX2_most_65 ⟨(by simp [sp_mst, *]), rfl⟩ wj_rfl
  refine wj_tabOut C 66 dX2_most_1 (by have q0 := lv_neT h1_0 (a := 0) (by decide); have q1 := lv_neT h1_1 (a := 1) (by decide); have q2 := lv_neT h1_2 (a := 2) (by decide); have q3 := lv_neT h1_3 (a := 3) (by decide); have q4 := lv_neT h1_4 (a := 4) (by decide); have q5 := lv_neT h1_5 (a := 5) (by decide); have q6 := lv_neT h1_6 (a := 6) (by decide); omega) (by decide) ?_
  refine wj_iconst (v := -1) C dX2_most_66 (by decide) ?_
  exact hR _ _ _ _ _ dX2_most_67 ⟨(by simp [sp_mst, *]), rfl⟩ wj_rfl
set_option maxRecDepth 100000 in
set_option maxHeartbeats 4000000 in
theorem c_X2_allows (l : Launch) (V : wj_V) {σ : wj_St} {w v : Int32} : wj_M l V yX2_allows cX2_allows 2 (some .boolean) 1 22 [.int w, .int v] σ (wj_I V (if sp_lst w ≤ v ∧ v ≤ sp_mst w then 1 else 0) σ) := by
  refine wj_ofZ (own := RX2) [some (.int w), some (.int v)] (by decide) rfl rfl (Nat.le_of_ble_eq_true rfl) (fun X C hR => ?_)
  refine wj_iload_n C 1 dX2_allows_0 rfl rfl ?_
  refine wj_iload_n C 0 dX2_allows_1 rfl rfl ?_
  refine wj_cif C (wj_rS C dX2_allows_2 km_X2_least kl_X2_11 (c_X2_least l V) rfl rfl (Nat.le_of_ble_eq_true rfl) (by decide)) ?_
  refine wj_iload_n C 0 dX2_allows_5 rfl rfl ?_
  refine wj_cif C (wj_rS C dX2_allows_6 km_X2_most kl_X2_15 (c_X2_most l V) rfl rfl (Nat.le_of_ble_eq_true rfl) (by decide)) ?_
  refine wj_cif C (wj_rSN C dX2_allows_9 km_X4_isIn kl_X2_18 (c_X4_isIn l V) rfl rfl (Nat.le_of_ble_eq_true rfl) (by decide)) ?_
  exact hR _ _ _ _ _ dX2_allows_12 ⟨wj_nzi, rfl, rfl⟩ wj_rfl
set_option maxRecDepth 100000 in
set_option maxHeartbeats 4000000 in
theorem c_X2_isLaid (l : Launch) (V : wj_V) {σ : wj_St} {k : Nat} (hk : 10 ≤ k ∧ k < 34) : wj_M l V yX2_isLaid cX2_isLaid 1 (some .boolean) 0 0 [.ref (V.2.2.1 k)] σ (wj_I V (if ¬ σ k 4 = 0 then 1 else 0) σ) := by
  refine wj_ofZ (own := RX2) [some (.ref (V.2.2.1 k))] (by decide) rfl rfl (Nat.le_of_ble_eq_true rfl) (fun X C hR => ?_)
  refine wj_aload_n C 0 dX2_isLaid_0 rfl rfl ?_
  refine wg_X2_35 C dX2_isLaid_1 (by first | assumption | omega) ?_
  refine wj_if_eq C 11 dX2_isLaid_4 (by decide) (fun h4 => ?_) (fun h4 => ?_)
  · refine wj_iconst (v := 0) C dX2_isLaid_11 (by decide) ?_
    exact hR _ _ _ _ _ dX2_isLaid_12 ⟨by decide +kernel, (by simp [*]), rfl⟩ wj_rfl
  · refine wj_iconst (v := 1) C dX2_isLaid_7 (by decide) ?_
    refine wj_goto C 12 dX2_isLaid_8 (by decide) ?_
    exact hR _ _ _ _ _ dX2_isLaid_12 ⟨by decide +kernel, (by simp [*]), rfl⟩ wj_rfl
set_option maxRecDepth 100000 in
set_option maxHeartbeats 4000000 in
theorem c_X2_kindAbove (l : Launch) (V : wj_V) {σ : wj_St} {w : Int32} : wj_M l V yX2_kindAbove cX2_kindAbove 1 (some .int) 0 0 [.int w] σ (wj_I V (sp_abv w) σ) := by
  refine wj_ofI (own := RX2) [some (.int w)] (by decide) rfl rfl (Nat.le_of_ble_eq_true rfl) (fun X C hR => ?_)
  refine wj_iload_n C 0 dX2_kindAbove_0 rfl rfl ?_
  refine wj_swc C (3) (31) 32 dX2_kindAbove_1 (by decide) (by decide) (by decide) (by decide) (fun h1_3 => ?_) (fun h1_3 => ?_)
  · refine wj_iconst (v := 2) C dX2_kindAbove_32 (by decide) ?_
    exact hR _ _ _ _ _ dX2_kindAbove_33 ⟨(by simp [sp_abv, *]), rfl⟩ wj_rfl
  refine wj_swc C (4) (33) 34 dX2_kindAbove_1 (by decide) (by decide) (by decide) (by decide) (fun h1_4 => ?_) (fun h1_4 => ?_)
  · refine wj_iconst (v := 3) C dX2_kindAbove_34 (by decide) ?_
    exact hR _ _ _ _ _ dX2_kindAbove_35 ⟨(by simp [sp_abv, *]), rfl⟩ wj_rfl
  refine wj_swc C (5) (37) 38 dX2_kindAbove_1 (by decide) (by decide) (by decide) (by decide) (fun h1_5 => ?_) (fun h1_5 => ?_)
  · refine wj_iconst (v := 0) C dX2_kindAbove_38 (by decide) ?_
    exact hR _ _ _ _ _ dX2_kindAbove_39 ⟨(by simp [sp_abv, *]), rfl⟩ wj_rfl
  refine wj_swc C (6) (35) 36 dX2_kindAbove_1 (by decide) (by decide) (by decide) (by decide) (fun h1_6 => ?_) (fun h1_6 => ?_)
  · refine wj_iconst (v := 1) C dX2_kindAbove_36 (by decide) ?_
    exact hR _ _ _ _ _ dX2_kindAbove_37 ⟨(by simp [sp_abv, *]), rfl⟩ wj_rfl
  refine wj_tabOut C 38 dX2_kindAbove_1 (by have q0 := lv_neT h1_3 (a := 3) (by decide); have q1 := lv_neT h1_4 (a := 4) (by decide); have q2 := lv_neT h1_5 (a := 5) (by decide); have q3 := lv_neT h1_6 (a := 6) (by decide); omega) (by decide) ?_
  refine wj_iconst (v := 0) C dX2_kindAbove_38 (by decide) ?_
  exact hR _ _ _ _ _ dX2_kindAbove_39 ⟨(by simp [sp_abv, *]), rfl⟩ wj_rfl
set_option maxRecDepth 100000 in
set_option maxHeartbeats 4000000 in
theorem c_X2_reaches (l : Launch) (V : wj_V) {σ : wj_St} {k : Nat} (hk : 10 ≤ k ∧ k < 34) : wj_M l V yX2_reaches cX2_reaches 2 (some .int) 0 0 [.ref (V.2.2.1 k)] σ (wj_I V (sp_rea (σ k)) σ) := by
  refine wj_ofI (own := RX2) [some (.ref (V.2.2.1 k)), none] (by decide) rfl rfl (Nat.le_of_ble_eq_true rfl) (fun X C hR => ?_)
  refine wj_aload_n C 0 dX2_reaches_0 rfl rfl ?_
  refine wg_X2_29 C dX2_reaches_1 (by first | assumption | omega) ?_
  refine wj_bipush (v := 40) C dX2_reaches_4 (by decide) ?_
  refine wj_idiv C dX2_reaches_6 (by decide) ?_
  refine wj_istore_n C 1 dX2_reaches_7 rfl (by decide) rfl ?_
  dsimp only [List.set]
  refine wj_aload_n C 0 dX2_reaches_8 rfl rfl ?_
  refine wg_X2_22 C dX2_reaches_9 (by first | assumption | omega) ?_
  refine wj_swc C (1) (40) 52 dX2_reaches_12 (by decide) (by decide) (by decide) (by decide) (fun h12_1 => ?_) (fun h12_1 => ?_)
  · refine wj_aload_n C 0 dX2_reaches_52 rfl rfl ?_
    refine wg_X2_38 C dX2_reaches_53 (by first | assumption | omega) ?_
    refine wj_iconst (v := 4) C dX2_reaches_56 (by decide) ?_
    refine wj_icmp_gt C 66 dX2_reaches_57 (by decide) (fun h57 => ?_) (fun h57 => ?_)
    · refine wj_iload_n C 1 dX2_reaches_66 rfl rfl ?_
      exact hR _ _ _ _ _ dX2_reaches_67 ⟨(by simp [sp_rea, *]), rfl⟩ wj_rfl
    · refine wj_iload_n C 1 dX2_reaches_60 rfl rfl ?_
      refine wj_iconst (v := 1) C dX2_reaches_61 (by decide) ?_
      refine wj_iadd C dX2_reaches_62 ?_
      refine wj_goto C 67 dX2_reaches_63 (by decide) ?_
      exact hR _ _ _ _ _ dX2_reaches_67 ⟨(by simp [sp_rea, *]), rfl⟩ wj_rfl
  refine wj_swc C (2) (76) 88 dX2_reaches_12 (by decide) (by decide) (by decide) (by decide) (fun h12_2 => ?_) (fun h12_2 => ?_)
  · refine wj_iload_n C 1 dX2_reaches_88 rfl rfl ?_
    exact hR _ _ _ _ _ dX2_reaches_89 ⟨(by simp [sp_rea, *]), rfl⟩ wj_rfl
  refine wj_swc C (3) (56) 68 dX2_reaches_12 (by decide) (by decide) (by decide) (by decide) (fun h12_3 => ?_) (fun h12_3 => ?_)
  · refine wj_iconst (v := 2) C dX2_reaches_68 (by decide) ?_
    refine wj_iload_n C 1 dX2_reaches_69 rfl rfl ?_
    refine wj_imul C dX2_reaches_70 ?_
    exact hR _ _ _ _ _ dX2_reaches_71 ⟨(by simp [sp_rea, *]), rfl⟩ wj_rfl
  refine wj_swc C (4) (60) 72 dX2_reaches_12 (by decide) (by decide) (by decide) (by decide) (fun h12_4 => ?_) (fun h12_4 => ?_)
  · refine wj_iload_n C 1 dX2_reaches_72 rfl rfl ?_
    refine wj_if_le C 84 dX2_reaches_73 (by decide) (fun h73 => ?_) (fun h73 => ?_)
    · refine wj_iconst (v := 0) C dX2_reaches_84 (by decide) ?_
      exact hR _ _ _ _ _ dX2_reaches_85 ⟨(by simp [sp_rea, *]), rfl⟩ wj_rfl
    · refine wj_iconst (v := 2) C dX2_reaches_76 (by decide) ?_
      refine wj_iload_n C 1 dX2_reaches_77 rfl rfl ?_
      refine wj_imul C dX2_reaches_78 ?_
      refine wj_iconst (v := 1) C dX2_reaches_79 (by decide) ?_
      refine wj_isub C dX2_reaches_80 ?_
      refine wj_goto C 85 dX2_reaches_81 (by decide) ?_
      exact hR _ _ _ _ _ dX2_reaches_85 ⟨(by simp [sp_rea, *]), rfl⟩ wj_rfl
  refine wj_swc C (5) (74) 86 dX2_reaches_12 (by decide) (by decide) (by decide) (by decide) (fun h12_5 => ?_) (fun h12_5 => ?_)
  · refine wj_iconst (v := 0) C dX2_reaches_86 (by decide) ?_
    exact hR _ _ _ _ _ dX2_reaches_87 ⟨(by simp [sp_rea, *]), rfl⟩ wj_rfl
  refine wj_swc C (6) (40) 52 dX2_reaches_12 (by decide) (by decide) (by decide) (by decide) (fun h12_6 => ?_) (fun h12_6 => ?_)
  · refine wj_aload_n C 0 dX2_reaches_52 rfl rfl ?_
    refine wg_X2_38 C dX2_reaches_53 (by first | assumption | omega) ?_
    refine wj_iconst (v := 4) C dX2_reaches_56 (by decide) ?_
    refine wj_icmp_gt C 66 dX2_reaches_57 (by decide) (fun h57 => ?_) (fun h57 => ?_)
    · refine wj_iload_n C 1 dX2_reaches_66 rfl rfl ?_
      exact hR _ _ _ _ _ dX2_reaches_67 ⟨(by simp [sp_rea, *]), rfl⟩ wj_rfl
    · refine wj_iload_n C 1 dX2_reaches_60 rfl rfl ?_
      refine wj_iconst (v := 1) C dX2_reaches_61 (by decide) ?_
      refine wj_iadd C dX2_reaches_62 ?_
      refine wj_goto C 67 dX2_reaches_63 (by decide) ?_
      exact hR _ _ _ _ _ dX2_reaches_67 ⟨(by simp [sp_rea, *]), rfl⟩ wj_rfl
  refine wj_tabOut C 88 dX2_reaches_12 (by have q0 := lv_neT h12_1 (a := 1) (by decide); have q1 := lv_neT h12_2 (a := 2) (by decide); have q2 := lv_neT h12_3 (a := 3) (by decide); have q3 := lv_neT h12_4 (a := 4) (by decide); have q4 := lv_neT h12_5 (a := 5) (by decide); have q5 := lv_neT h12_6 (a := 6) (by decide); omega) (by decide) ?_
  refine wj_iload_n C 1 dX2_reaches_88 rfl rfl ?_
  exact hR _ _ _ _ _ dX2_reaches_89 ⟨(by simp [sp_rea, *]), rfl⟩ wj_rfl
set_option maxRecDepth 100000 in
set_option maxHeartbeats 4000000 in
theorem c_X2_coverSet (l : Launch) (V : wj_V) {σ : wj_St} {k : Nat} (hk : 10 ≤ k ∧ k < 34) : wj_M l V yX2_coverSet cX2_coverSet 3 (some .int) 1 21 [.ref (V.2.2.1 k)] σ (wj_I V (sp_cov (σ k)) σ) := by
  refine wj_ofI (own := RX2) [some (.ref (V.2.2.1 k)), none, none] (by decide) rfl rfl (Nat.le_of_ble_eq_true rfl) (fun X C hR => ?_)
  refine wj_aload_n C 0 dX2_coverSet_0 rfl rfl ?_
  refine wg_X2_35 C dX2_coverSet_1 (by first | assumption | omega) ?_
  refine wj_iconst (v := 2) C dX2_coverSet_4 (by decide) ?_
  refine wj_icmp_ne C 24 dX2_coverSet_5 (by decide) (fun h5 => ?_) (fun h5 => ?_)
  · refine wj_aload_n C 0 dX2_coverSet_24 rfl rfl ?_
    refine wg_X2_26 C dX2_coverSet_25 (by first | assumption | omega) ?_
    refine wj_istore_n C 1 dX2_coverSet_28 rfl (by decide) rfl ?_
    dsimp only [List.set]
    refine wj_aload_n C 0 dX2_coverSet_29 rfl rfl ?_
    refine wg_X2_35 C dX2_coverSet_30 (by first | assumption | omega) ?_
    refine wj_iconst (v := 1) C dX2_coverSet_33 (by decide) ?_
    refine wj_icmp_ne C 54 dX2_coverSet_34 (by decide) (fun h34 => ?_) (fun h34 => ?_)
    · refine wj_aload_n C 0 dX2_coverSet_54 rfl rfl ?_
      refine wg_X2_26 C dX2_coverSet_55 (by first | assumption | omega) ?_
      refine wj_istore_n C 2 dX2_coverSet_58 rfl (by decide) rfl ?_
      dsimp only [List.set]
      refine wj_iconst (v := 2) C dX2_coverSet_59 (by decide) ?_
      refine wj_iload_n C 2 dX2_coverSet_60 rfl rfl ?_
      refine wj_ishl C dX2_coverSet_61 ?_
      refine wj_iconst (v := 1) C dX2_coverSet_62 (by decide) ?_
      refine wj_iload_n C 1 dX2_coverSet_63 rfl rfl ?_
      refine wj_ishl C dX2_coverSet_64 ?_
      refine wj_isub C dX2_coverSet_65 ?_
      exact hR _ _ _ _ _ dX2_coverSet_66 ⟨(by first | (simp [sp_cov, sp_lo, sp_hi, *]; done) | (exfalso; rw [h5] at h34; revert h34; decide)), rfl⟩ wj_rfl
    · refine wj_bipush (v := 15) C dX2_coverSet_37 (by decide) ?_
      refine wj_aload_n C 0 dX2_coverSet_39 rfl rfl ?_
      refine wg_X2_26 C dX2_coverSet_40 (by first | assumption | omega) ?_
      refine wj_aload_n C 0 dX2_coverSet_43 rfl rfl ?_
      refine wj_cif C (wj_rV C dX2_coverSet_44 km_X2_reaches kl_X2_47 (is_X2 (by first | assumption | omega)) rfl rfl (c_X2_reaches l V hk) rfl rfl (Nat.le_of_ble_eq_true rfl) (by decide)) ?_
      refine wj_iadd C dX2_coverSet_47 ?_
      refine wj_min C dX2_coverSet_48 kx_X2_57 (by decide) (Nat.le_of_ble_eq_true rfl) ?_
      refine wj_goto C 58 dX2_coverSet_51 (by decide) ?_
      refine wj_istore_n C 2 dX2_coverSet_58 rfl (by decide) rfl ?_
      dsimp only [List.set]
      refine wj_iconst (v := 2) C dX2_coverSet_59 (by decide) ?_
      refine wj_iload_n C 2 dX2_coverSet_60 rfl rfl ?_
      refine wj_ishl C dX2_coverSet_61 ?_
      refine wj_iconst (v := 1) C dX2_coverSet_62 (by decide) ?_
      refine wj_iload_n C 1 dX2_coverSet_63 rfl rfl ?_
      refine wj_ishl C dX2_coverSet_64 ?_
      refine wj_isub C dX2_coverSet_65 ?_
      exact hR _ _ _ _ _ dX2_coverSet_66 ⟨(by first | (simp [sp_cov, sp_lo, sp_hi, *]; done) | (exfalso; rw [h5] at h34; revert h34; decide)), rfl⟩ wj_rfl
  · refine wj_iconst (v := 0) C dX2_coverSet_8 (by decide) ?_
    refine wj_aload_n C 0 dX2_coverSet_9 rfl rfl ?_
    refine wg_X2_26 C dX2_coverSet_10 (by first | assumption | omega) ?_
    refine wj_aload_n C 0 dX2_coverSet_13 rfl rfl ?_
    refine wj_cif C (wj_rV C dX2_coverSet_14 km_X2_reaches kl_X2_47 (is_X2 (by first | assumption | omega)) rfl rfl (c_X2_reaches l V hk) rfl rfl (Nat.le_of_ble_eq_true rfl) (by decide)) ?_
    refine wj_isub C dX2_coverSet_17 ?_
    refine wj_max C dX2_coverSet_18 kx_X2_51 (by decide) (Nat.le_of_ble_eq_true rfl) ?_
    refine wj_goto C 28 dX2_coverSet_21 (by decide) ?_
    refine wj_istore_n C 1 dX2_coverSet_28 rfl (by decide) rfl ?_
    dsimp only [List.set]
    refine wj_aload_n C 0 dX2_coverSet_29 rfl rfl ?_
    refine wg_X2_35 C dX2_coverSet_30 (by first | assumption | omega) ?_
    refine wj_iconst (v := 1) C dX2_coverSet_33 (by decide) ?_
    refine wj_icmp_ne C 54 dX2_coverSet_34 (by decide) (fun h34 => ?_) (fun h34 => ?_)
    · refine wj_aload_n C 0 dX2_coverSet_54 rfl rfl ?_
      refine wg_X2_26 C dX2_coverSet_55 (by first | assumption | omega) ?_
      refine wj_istore_n C 2 dX2_coverSet_58 rfl (by decide) rfl ?_
      dsimp only [List.set]
      refine wj_iconst (v := 2) C dX2_coverSet_59 (by decide) ?_
      refine wj_iload_n C 2 dX2_coverSet_60 rfl rfl ?_
      refine wj_ishl C dX2_coverSet_61 ?_
      refine wj_iconst (v := 1) C dX2_coverSet_62 (by decide) ?_
      refine wj_iload_n C 1 dX2_coverSet_63 rfl rfl ?_
      refine wj_ishl C dX2_coverSet_64 ?_
      refine wj_isub C dX2_coverSet_65 ?_
      exact hR _ _ _ _ _ dX2_coverSet_66 ⟨(by first | (simp [sp_cov, sp_lo, sp_hi, *]; done) | (exfalso; rw [h5] at h34; revert h34; decide)), rfl⟩ wj_rfl
    · refine wj_bipush (v := 15) C dX2_coverSet_37 (by decide) ?_
      refine wj_aload_n C 0 dX2_coverSet_39 rfl rfl ?_
      refine wg_X2_26 C dX2_coverSet_40 (by first | assumption | omega) ?_
      refine wj_aload_n C 0 dX2_coverSet_43 rfl rfl ?_
      refine wj_cif C (wj_rV C dX2_coverSet_44 km_X2_reaches kl_X2_47 (is_X2 (by first | assumption | omega)) rfl rfl (c_X2_reaches l V hk) rfl rfl (Nat.le_of_ble_eq_true rfl) (by decide)) ?_
      refine wj_iadd C dX2_coverSet_47 ?_
      refine wj_min C dX2_coverSet_48 kx_X2_57 (by decide) (Nat.le_of_ble_eq_true rfl) ?_
      refine wj_goto C 58 dX2_coverSet_51 (by decide) ?_
      refine wj_istore_n C 2 dX2_coverSet_58 rfl (by decide) rfl ?_
      dsimp only [List.set]
      refine wj_iconst (v := 2) C dX2_coverSet_59 (by decide) ?_
      refine wj_iload_n C 2 dX2_coverSet_60 rfl rfl ?_
      refine wj_ishl C dX2_coverSet_61 ?_
      refine wj_iconst (v := 1) C dX2_coverSet_62 (by decide) ?_
      refine wj_iload_n C 1 dX2_coverSet_63 rfl rfl ?_
      refine wj_ishl C dX2_coverSet_64 ?_
      refine wj_isub C dX2_coverSet_65 ?_
      exact hR _ _ _ _ _ dX2_coverSet_66 ⟨(by first | (simp [sp_cov, sp_lo, sp_hi, *]; done) | (exfalso; rw [h5] at h34; revert h34; decide)), rfl⟩ wj_rfl
set_option maxRecDepth 100000 in
set_option maxHeartbeats 4000000 in
theorem c_X2_strongIn (l : Launch) (V : wj_V) {σ : wj_St} {k : Nat} {y : Int32} (hk : 10 ≤ k ∧ k < 34) : wj_M l V yX2_strongIn cX2_strongIn 4 (some .int) 1 20 [.ref (V.2.2.1 k), .int y] σ (wj_I V (sp_str (σ k) y) σ) := by
  refine wj_ofI (own := RX2) [some (.ref (V.2.2.1 k)), some (.int y), none, none] (by decide) rfl rfl (Nat.le_of_ble_eq_true rfl) (fun X C hR => ?_)
  refine wj_aload_n C 0 dX2_strongIn_0 rfl rfl ?_
  refine wj_cif C (wj_rV C dX2_strongIn_1 km_X2_isLaid kl_X2_60 (is_X2 (by first | assumption | omega)) rfl rfl (c_X2_isLaid l V hk) rfl rfl (Nat.le_of_ble_eq_true rfl) (by decide)) ?_
  refine wj_if_eq C 14 dX2_strongIn_4 (by decide) (fun h4 => ?_) (fun h4 => ?_)
  · replace h4 : σ k 4 = 0 := Classical.not_not.mp (wj_c0 h4)
    refine wj_aload_n C 0 dX2_strongIn_14 rfl rfl ?_
    refine wg_X2_32 C dX2_strongIn_15 (by first | assumption | omega) ?_
    refine wj_bipush (v := 10) C dX2_strongIn_18 (by decide) ?_
    refine wj_iadd C dX2_strongIn_20 ?_
    refine wj_istore_n C 2 dX2_strongIn_21 rfl (by decide) rfl ?_
    dsimp only [List.set]
    refine wj_aload_n C 0 dX2_strongIn_22 rfl rfl ?_
    refine wg_X2_32 C dX2_strongIn_23 (by first | assumption | omega) ?_
    refine wj_bipush (v := 12) C dX2_strongIn_26 (by decide) ?_
    refine wj_iadd C dX2_strongIn_28 ?_
    refine wj_aload_n C 0 dX2_strongIn_29 rfl rfl ?_
    refine wg_X2_38 C dX2_strongIn_30 (by first | assumption | omega) ?_
    refine wj_isub C dX2_strongIn_33 ?_
    refine wj_istore_n C 3 dX2_strongIn_34 rfl (by decide) rfl ?_
    dsimp only [List.set]
    refine wj_aload_n C 0 dX2_strongIn_35 rfl rfl ?_
    refine wg_X2_22 C dX2_strongIn_36 (by first | assumption | omega) ?_
    refine wj_swc C (1) (37) 76 dX2_strongIn_39 (by decide) (by decide) (by decide) (by decide) (fun h39_1 => ?_) (fun h39_1 => ?_)
    · refine wj_iload_n C 3 dX2_strongIn_76 rfl rfl ?_
      exact hR _ _ _ _ _ dX2_strongIn_77 ⟨(by simp [sp_str, sp_pro, *]), rfl⟩ wj_rfl
    refine wj_swc C (2) (53) 92 dX2_strongIn_39 (by decide) (by decide) (by decide) (by decide) (fun h39_2 => ?_) (fun h39_2 => ?_)
    · refine wj_iload_n C 2 dX2_strongIn_92 rfl rfl ?_
      exact hR _ _ _ _ _ dX2_strongIn_93 ⟨(by simp [sp_str, sp_pro, *]), rfl⟩ wj_rfl
    refine wj_swc C (3) (53) 92 dX2_strongIn_39 (by decide) (by decide) (by decide) (by decide) (fun h39_3 => ?_) (fun h39_3 => ?_)
    · refine wj_iload_n C 2 dX2_strongIn_92 rfl rfl ?_
      exact hR _ _ _ _ _ dX2_strongIn_93 ⟨(by simp [sp_str, sp_pro, *]), rfl⟩ wj_rfl
    refine wj_swc C (4) (55) 94 dX2_strongIn_39 (by decide) (by decide) (by decide) (by decide) (fun h39_4 => ?_) (fun h39_4 => ?_)
    · refine wj_iload_n C 2 dX2_strongIn_94 rfl rfl ?_
      refine wj_aload_n C 0 dX2_strongIn_95 rfl rfl ?_
      refine wg_X2_29 C dX2_strongIn_96 (by first | assumption | omega) ?_
      refine wj_iconst (v := 5) C dX2_strongIn_99 (by decide) ?_
      refine wj_idiv C dX2_strongIn_100 (by decide) ?_
      refine wj_iadd C dX2_strongIn_101 ?_
      exact hR _ _ _ _ _ dX2_strongIn_102 ⟨(by simp [sp_str, sp_pro, *]), rfl⟩ wj_rfl
    refine wj_swc C (5) (64) 103 dX2_strongIn_39 (by decide) (by decide) (by decide) (by decide) (fun h39_5 => ?_) (fun h39_5 => ?_)
    · refine wj_aload_n C 0 dX2_strongIn_103 rfl rfl ?_
      refine wg_X2_32 C dX2_strongIn_104 (by first | assumption | omega) ?_
      refine wj_iconst (v := 2) C dX2_strongIn_107 (by decide) ?_
      refine wj_idiv C dX2_strongIn_108 (by decide) ?_
      exact hR _ _ _ _ _ dX2_strongIn_109 ⟨(by simp [sp_str, sp_pro, *]), rfl⟩ wj_rfl
    refine wj_swc C (6) (39) 78 dX2_strongIn_39 (by decide) (by decide) (by decide) (by decide) (fun h39_6 => ?_) (fun h39_6 => ?_)
    · refine wj_iload_n C 1 dX2_strongIn_78 rfl rfl ?_
      refine wj_iconst (v := 5) C dX2_strongIn_79 (by decide) ?_
      refine wj_irem C dX2_strongIn_80 (by decide) ?_
      refine wj_if_ne C 90 dX2_strongIn_81 (by decide) (fun h81 => ?_) (fun h81 => ?_)
      · refine wj_iload_n C 3 dX2_strongIn_90 rfl rfl ?_
        exact hR _ _ _ _ _ dX2_strongIn_91 ⟨(by simp [sp_str, sp_pro, *]), rfl⟩ wj_rfl
      · refine wj_iload_n C 3 dX2_strongIn_84 rfl rfl ?_
        refine wj_iconst (v := 5) C dX2_strongIn_85 (by decide) ?_
        refine wj_iadd C dX2_strongIn_86 ?_
        refine wj_goto C 91 dX2_strongIn_87 (by decide) ?_
        exact hR _ _ _ _ _ dX2_strongIn_91 ⟨(by simp [sp_str, sp_pro, *]), rfl⟩ wj_rfl
    refine wj_tabOut C 110 dX2_strongIn_39 (by have q0 := lv_neT h39_1 (a := 1) (by decide); have q1 := lv_neT h39_2 (a := 2) (by decide); have q2 := lv_neT h39_3 (a := 3) (by decide); have q3 := lv_neT h39_4 (a := 4) (by decide); have q4 := lv_neT h39_5 (a := 5) (by decide); have q5 := lv_neT h39_6 (a := 6) (by decide); omega) (by decide) ?_
    refine wj_aload_n C 0 dX2_strongIn_110 rfl rfl ?_
    refine wg_X2_32 C dX2_strongIn_111 (by first | assumption | omega) ?_
    exact hR _ _ _ _ _ dX2_strongIn_114 ⟨(by simp [sp_str, sp_pro, *]), rfl⟩ wj_rfl
  · replace h4 := wj_c1 h4
    refine wj_aload_n C 0 dX2_strongIn_7 rfl rfl ?_
    refine wg_X2_32 C dX2_strongIn_8 (by first | assumption | omega) ?_
    refine wj_goto C 21 dX2_strongIn_11 (by decide) ?_
    refine wj_istore_n C 2 dX2_strongIn_21 rfl (by decide) rfl ?_
    dsimp only [List.set]
    refine wj_aload_n C 0 dX2_strongIn_22 rfl rfl ?_
    refine wg_X2_32 C dX2_strongIn_23 (by first | assumption | omega) ?_
    refine wj_bipush (v := 12) C dX2_strongIn_26 (by decide) ?_
    refine wj_iadd C dX2_strongIn_28 ?_
    refine wj_aload_n C 0 dX2_strongIn_29 rfl rfl ?_
    refine wg_X2_38 C dX2_strongIn_30 (by first | assumption | omega) ?_
    refine wj_isub C dX2_strongIn_33 ?_
    refine wj_istore_n C 3 dX2_strongIn_34 rfl (by decide) rfl ?_
    dsimp only [List.set]
    refine wj_aload_n C 0 dX2_strongIn_35 rfl rfl ?_
    refine wg_X2_22 C dX2_strongIn_36 (by first | assumption | omega) ?_
    refine wj_swc C (1) (37) 76 dX2_strongIn_39 (by decide) (by decide) (by decide) (by decide) (fun h39_1 => ?_) (fun h39_1 => ?_)
    · refine wj_iload_n C 3 dX2_strongIn_76 rfl rfl ?_
      exact hR _ _ _ _ _ dX2_strongIn_77 ⟨(by simp [sp_str, sp_pro, *]), rfl⟩ wj_rfl
    refine wj_swc C (2) (53) 92 dX2_strongIn_39 (by decide) (by decide) (by decide) (by decide) (fun h39_2 => ?_) (fun h39_2 => ?_)
    · refine wj_iload_n C 2 dX2_strongIn_92 rfl rfl ?_
      exact hR _ _ _ _ _ dX2_strongIn_93 ⟨(by simp [sp_str, sp_pro, *]), rfl⟩ wj_rfl
    refine wj_swc C (3) (53) 92 dX2_strongIn_39 (by decide) (by decide) (by decide) (by decide) (fun h39_3 => ?_) (fun h39_3 => ?_)
    · refine wj_iload_n C 2 dX2_strongIn_92 rfl rfl ?_
      exact hR _ _ _ _ _ dX2_strongIn_93 ⟨(by simp [sp_str, sp_pro, *]), rfl⟩ wj_rfl
    refine wj_swc C (4) (55) 94 dX2_strongIn_39 (by decide) (by decide) (by decide) (by decide) (fun h39_4 => ?_) (fun h39_4 => ?_)
    · refine wj_iload_n C 2 dX2_strongIn_94 rfl rfl ?_
      refine wj_aload_n C 0 dX2_strongIn_95 rfl rfl ?_
      refine wg_X2_29 C dX2_strongIn_96 (by first | assumption | omega) ?_
      refine wj_iconst (v := 5) C dX2_strongIn_99 (by decide) ?_
      refine wj_idiv C dX2_strongIn_100 (by decide) ?_
      refine wj_iadd C dX2_strongIn_101 ?_
      exact hR _ _ _ _ _ dX2_strongIn_102 ⟨(by simp [sp_str, sp_pro, *]), rfl⟩ wj_rfl
    refine wj_swc C (5) (64) 103 dX2_strongIn_39 (by decide) (by decide) (by decide) (by decide) (fun h39_5 => ?_) (fun h39_5 => ?_)
    · refine wj_aload_n C 0 dX2_strongIn_103 rfl rfl ?_
      refine wg_X2_32 C dX2_strongIn_104 (by first | assumption | omega) ?_
      refine wj_iconst (v := 2) C dX2_strongIn_107 (by decide) ?_
      refine wj_idiv C dX2_strongIn_108 (by decide) ?_
      exact hR _ _ _ _ _ dX2_strongIn_109 ⟨(by simp [sp_str, sp_pro, *]), rfl⟩ wj_rfl
    refine wj_swc C (6) (39) 78 dX2_strongIn_39 (by decide) (by decide) (by decide) (by decide) (fun h39_6 => ?_) (fun h39_6 => ?_)
    · refine wj_iload_n C 1 dX2_strongIn_78 rfl rfl ?_
      refine wj_iconst (v := 5) C dX2_strongIn_79 (by decide) ?_
      refine wj_irem C dX2_strongIn_80 (by decide) ?_
      refine wj_if_ne C 90 dX2_strongIn_81 (by decide) (fun h81 => ?_) (fun h81 => ?_)
      · refine wj_iload_n C 3 dX2_strongIn_90 rfl rfl ?_
        exact hR _ _ _ _ _ dX2_strongIn_91 ⟨(by simp [sp_str, sp_pro, *]), rfl⟩ wj_rfl
      · refine wj_iload_n C 3 dX2_strongIn_84 rfl rfl ?_
        refine wj_iconst (v := 5) C dX2_strongIn_85 (by decide) ?_
        refine wj_iadd C dX2_strongIn_86 ?_
        refine wj_goto C 91 dX2_strongIn_87 (by decide) ?_
        exact hR _ _ _ _ _ dX2_strongIn_91 ⟨(by simp [sp_str, sp_pro, *]), rfl⟩ wj_rfl
    refine wj_tabOut C 110 dX2_strongIn_39 (by have q0 := lv_neT h39_1 (a := 1) (by decide); have q1 := lv_neT h39_2 (a := 2) (by decide); have q2 := lv_neT h39_3 (a := 3) (by decide); have q3 := lv_neT h39_4 (a := 4) (by decide); have q4 := lv_neT h39_5 (a := 5) (by decide); have q5 := lv_neT h39_6 (a := 6) (by decide); omega) (by decide) ?_
    refine wj_aload_n C 0 dX2_strongIn_110 rfl rfl ?_
    refine wg_X2_32 C dX2_strongIn_111 (by first | assumption | omega) ?_
    exact hR _ _ _ _ _ dX2_strongIn_114 ⟨(by simp [sp_str, sp_pro, *]), rfl⟩ wj_rfl
set_option maxRecDepth 100000 in
set_option maxHeartbeats 4000000 in
theorem c_X2_growth (l : Launch) (V : wj_V) {σ : wj_St} {k : Nat} (hk : 10 ≤ k ∧ k < 34) : wj_M l V yX2_growth cX2_growth 3 (some .int) 1 20 [.ref (V.2.2.1 k)] σ (wj_I V (sp_gro (σ k)) σ) := by
  refine wj_ofI (own := RX2) [some (.ref (V.2.2.1 k)), none, none] (by decide) rfl rfl (Nat.le_of_ble_eq_true rfl) (fun X C hR => ?_)
  refine wj_aload_n C 0 dX2_growth_0 rfl rfl ?_
  refine wj_cif C (wj_rV C dX2_growth_1 km_X2_isLaid kl_X2_60 (is_X2 (by first | assumption | omega)) rfl rfl (c_X2_isLaid l V hk) rfl rfl (Nat.le_of_ble_eq_true rfl) (by decide)) ?_
  refine wj_if_eq C 12 dX2_growth_4 (by decide) (fun h4 => ?_) (fun h4 => ?_)
  · replace h4 : σ k 4 = 0 := Classical.not_not.mp (wj_c0 h4)
    refine wj_bipush (v := 12) C dX2_growth_12 (by decide) ?_
    refine wj_istore_n C 1 dX2_growth_14 rfl (by decide) rfl ?_
    dsimp only [List.set]
    refine wj_bipush (v := 12) C dX2_growth_15 (by decide) ?_
    refine wj_aload_n C 0 dX2_growth_17 rfl rfl ?_
    refine wg_X2_38 C dX2_growth_18 (by first | assumption | omega) ?_
    refine wj_isub C dX2_growth_21 ?_
    refine wj_istore_n C 2 dX2_growth_22 rfl (by decide) rfl ?_
    dsimp only [List.set]
    refine wj_aload_n C 0 dX2_growth_23 rfl rfl ?_
    refine wg_X2_22 C dX2_growth_24 (by first | assumption | omega) ?_
    refine wj_swc C (1) (37) 64 dX2_growth_27 (by decide) (by decide) (by decide) (by decide) (fun h27_1 => ?_) (fun h27_1 => ?_)
    · refine wj_iload_n C 2 dX2_growth_64 rfl rfl ?_
      exact hR _ _ _ _ _ dX2_growth_65 ⟨(by simp [sp_gro, sp_gpr, *]), rfl⟩ wj_rfl
    refine wj_swc C (2) (43) 70 dX2_growth_27 (by decide) (by decide) (by decide) (by decide) (fun h27_2 => ?_) (fun h27_2 => ?_)
    · refine wj_iload_n C 1 dX2_growth_70 rfl rfl ?_
      exact hR _ _ _ _ _ dX2_growth_71 ⟨(by simp [sp_gro, sp_gpr, *]), rfl⟩ wj_rfl
    refine wj_swc C (3) (45) 72 dX2_growth_27 (by decide) (by decide) (by decide) (by decide) (fun h27_3 => ?_) (fun h27_3 => ?_)
    · refine wj_iload_n C 1 dX2_growth_72 rfl rfl ?_
      refine wj_aload_n C 0 dX2_growth_73 rfl rfl ?_
      refine wg_X2_38 C dX2_growth_74 (by first | assumption | omega) ?_
      refine wj_iadd C dX2_growth_77 ?_
      exact hR _ _ _ _ _ dX2_growth_78 ⟨(by simp [sp_gro, sp_gpr, *]), rfl⟩ wj_rfl
    refine wj_swc C (4) (52) 79 dX2_growth_27 (by decide) (by decide) (by decide) (by decide) (fun h27_4 => ?_) (fun h27_4 => ?_)
    · refine wj_iload_n C 1 dX2_growth_79 rfl rfl ?_
      refine wj_aload_n C 0 dX2_growth_80 rfl rfl ?_
      refine wg_X2_38 C dX2_growth_81 (by first | assumption | omega) ?_
      refine wj_iadd C dX2_growth_84 ?_
      refine wj_iconst (v := 2) C dX2_growth_85 (by decide) ?_
      refine wj_idiv C dX2_growth_86 (by decide) ?_
      exact hR _ _ _ _ _ dX2_growth_87 ⟨(by simp [sp_gro, sp_gpr, *]), rfl⟩ wj_rfl
    refine wj_swc C (5) (61) 88 dX2_growth_27 (by decide) (by decide) (by decide) (by decide) (fun h27_5 => ?_) (fun h27_5 => ?_)
    · refine wj_iconst (v := 3) C dX2_growth_88 (by decide) ?_
      exact hR _ _ _ _ _ dX2_growth_89 ⟨(by simp [sp_gro, sp_gpr, *]), rfl⟩ wj_rfl
    refine wj_swc C (6) (39) 66 dX2_growth_27 (by decide) (by decide) (by decide) (by decide) (fun h27_6 => ?_) (fun h27_6 => ?_)
    · refine wj_iload_n C 2 dX2_growth_66 rfl rfl ?_
      refine wj_iconst (v := 4) C dX2_growth_67 (by decide) ?_
      refine wj_iadd C dX2_growth_68 ?_
      exact hR _ _ _ _ _ dX2_growth_69 ⟨(by simp [sp_gro, sp_gpr, *]), rfl⟩ wj_rfl
    refine wj_tabOut C 90 dX2_growth_27 (by have q0 := lv_neT h27_1 (a := 1) (by decide); have q1 := lv_neT h27_2 (a := 2) (by decide); have q2 := lv_neT h27_3 (a := 3) (by decide); have q3 := lv_neT h27_4 (a := 4) (by decide); have q4 := lv_neT h27_5 (a := 5) (by decide); have q5 := lv_neT h27_6 (a := 6) (by decide); omega) (by decide) ?_
    refine wj_bipush (v := 12) C dX2_growth_90 (by decide) ?_
    exact hR _ _ _ _ _ dX2_growth_92 ⟨(by simp [sp_gro, sp_gpr, *]), rfl⟩ wj_rfl
  · replace h4 := wj_c1 h4
    refine wj_bipush (v := 6) C dX2_growth_7 (by decide) ?_
    refine wj_goto C 14 dX2_growth_9 (by decide) ?_
    refine wj_istore_n C 1 dX2_growth_14 rfl (by decide) rfl ?_
    dsimp only [List.set]
    refine wj_bipush (v := 12) C dX2_growth_15 (by decide) ?_
    refine wj_aload_n C 0 dX2_growth_17 rfl rfl ?_
    refine wg_X2_38 C dX2_growth_18 (by first | assumption | omega) ?_
    refine wj_isub C dX2_growth_21 ?_
    refine wj_istore_n C 2 dX2_growth_22 rfl (by decide) rfl ?_
    dsimp only [List.set]
    refine wj_aload_n C 0 dX2_growth_23 rfl rfl ?_
    refine wg_X2_22 C dX2_growth_24 (by first | assumption | omega) ?_
    refine wj_swc C (1) (37) 64 dX2_growth_27 (by decide) (by decide) (by decide) (by decide) (fun h27_1 => ?_) (fun h27_1 => ?_)
    · refine wj_iload_n C 2 dX2_growth_64 rfl rfl ?_
      exact hR _ _ _ _ _ dX2_growth_65 ⟨(by simp [sp_gro, sp_gpr, *]), rfl⟩ wj_rfl
    refine wj_swc C (2) (43) 70 dX2_growth_27 (by decide) (by decide) (by decide) (by decide) (fun h27_2 => ?_) (fun h27_2 => ?_)
    · refine wj_iload_n C 1 dX2_growth_70 rfl rfl ?_
      exact hR _ _ _ _ _ dX2_growth_71 ⟨(by simp [sp_gro, sp_gpr, *]), rfl⟩ wj_rfl
    refine wj_swc C (3) (45) 72 dX2_growth_27 (by decide) (by decide) (by decide) (by decide) (fun h27_3 => ?_) (fun h27_3 => ?_)
    · refine wj_iload_n C 1 dX2_growth_72 rfl rfl ?_
      refine wj_aload_n C 0 dX2_growth_73 rfl rfl ?_
      refine wg_X2_38 C dX2_growth_74 (by first | assumption | omega) ?_
      refine wj_iadd C dX2_growth_77 ?_
      exact hR _ _ _ _ _ dX2_growth_78 ⟨(by simp [sp_gro, sp_gpr, *]), rfl⟩ wj_rfl
    refine wj_swc C (4) (52) 79 dX2_growth_27 (by decide) (by decide) (by decide) (by decide) (fun h27_4 => ?_) (fun h27_4 => ?_)
    · refine wj_iload_n C 1 dX2_growth_79 rfl rfl ?_
      refine wj_aload_n C 0 dX2_growth_80 rfl rfl ?_
      refine wg_X2_38 C dX2_growth_81 (by first | assumption | omega) ?_
      refine wj_iadd C dX2_growth_84 ?_
      refine wj_iconst (v := 2) C dX2_growth_85 (by decide) ?_
      refine wj_idiv C dX2_growth_86 (by decide) ?_
      exact hR _ _ _ _ _ dX2_growth_87 ⟨(by simp [sp_gro, sp_gpr, *]), rfl⟩ wj_rfl
    refine wj_swc C (5) (61) 88 dX2_growth_27 (by decide) (by decide) (by decide) (by decide) (fun h27_5 => ?_) (fun h27_5 => ?_)
    · refine wj_iconst (v := 3) C dX2_growth_88 (by decide) ?_
      exact hR _ _ _ _ _ dX2_growth_89 ⟨(by simp [sp_gro, sp_gpr, *]), rfl⟩ wj_rfl
    refine wj_swc C (6) (39) 66 dX2_growth_27 (by decide) (by decide) (by decide) (by decide) (fun h27_6 => ?_) (fun h27_6 => ?_)
    · refine wj_iload_n C 2 dX2_growth_66 rfl rfl ?_
      refine wj_iconst (v := 4) C dX2_growth_67 (by decide) ?_
      refine wj_iadd C dX2_growth_68 ?_
      exact hR _ _ _ _ _ dX2_growth_69 ⟨(by simp [sp_gro, sp_gpr, *]), rfl⟩ wj_rfl
    refine wj_tabOut C 90 dX2_growth_27 (by have q0 := lv_neT h27_1 (a := 1) (by decide); have q1 := lv_neT h27_2 (a := 2) (by decide); have q2 := lv_neT h27_3 (a := 3) (by decide); have q3 := lv_neT h27_4 (a := 4) (by decide); have q4 := lv_neT h27_5 (a := 5) (by decide); have q5 := lv_neT h27_6 (a := 6) (by decide); omega) (by decide) ?_
    refine wj_bipush (v := 12) C dX2_growth_90 (by decide) ?_
    exact hR _ _ _ _ _ dX2_growth_92 ⟨(by simp [sp_gro, sp_gpr, *]), rfl⟩ wj_rfl
set_option maxRecDepth 100000 in
set_option maxHeartbeats 4000000 in
theorem c_X2_filling (l : Launch) (V : wj_V) {σ : wj_St} {k : Nat} (hk : 10 ≤ k ∧ k < 34) : wj_M l V yX2_filling cX2_filling 2 (some .int) 1 20 [.ref (V.2.2.1 k)] σ (wj_I V (sp_fil (σ k)) σ) := by
  refine wj_ofI (own := RX2) [some (.ref (V.2.2.1 k)), none] (by decide) rfl rfl (Nat.le_of_ble_eq_true rfl) (fun X C hR => ?_)
  refine wj_aload_n C 0 dX2_filling_0 rfl rfl ?_
  refine wj_cif C (wj_rV C dX2_filling_1 km_X2_isLaid kl_X2_60 (is_X2 (by first | assumption | omega)) rfl rfl (c_X2_isLaid l V hk) rfl rfl (Nat.le_of_ble_eq_true rfl) (by decide)) ?_
  refine wj_if_eq C 11 dX2_filling_4 (by decide) (fun h4 => ?_) (fun h4 => ?_)
  · replace h4 : σ k 4 = 0 := Classical.not_not.mp (wj_c0 h4)
    refine wj_iconst (v := 1) C dX2_filling_11 (by decide) ?_
    refine wj_istore_n C 1 dX2_filling_12 rfl (by decide) rfl ?_
    dsimp only [List.set]
    refine wj_aload_n C 0 dX2_filling_13 rfl rfl ?_
    refine wg_X2_22 C dX2_filling_14 (by first | assumption | omega) ?_
    refine wj_lkc C (1) (35) 52 dX2_filling_17 (by decide) (by decide) (by decide) (fun h17_1 => ?_) (fun h17_1 => ?_)
    · refine wj_iload_n C 1 dX2_filling_52 rfl rfl ?_
      refine wj_iconst (v := 1) C dX2_filling_53 (by decide) ?_
      refine wj_iadd C dX2_filling_54 ?_
      exact hR _ _ _ _ _ dX2_filling_55 ⟨(by simp [sp_fil, sp_fpl, *]), rfl⟩ wj_rfl
    refine wj_lkc C (5) (39) 56 dX2_filling_17 (by decide) (by decide) (by decide) (fun h17_5 => ?_) (fun h17_5 => ?_)
    · refine wj_iconst (v := 0) C dX2_filling_56 (by decide) ?_
      exact hR _ _ _ _ _ dX2_filling_57 ⟨(by simp [sp_fil, sp_fpl, *]), rfl⟩ wj_rfl
    refine wj_lkc C (6) (35) 52 dX2_filling_17 (by decide) (by decide) (by decide) (fun h17_6 => ?_) (fun h17_6 => ?_)
    · refine wj_iload_n C 1 dX2_filling_52 rfl rfl ?_
      refine wj_iconst (v := 1) C dX2_filling_53 (by decide) ?_
      refine wj_iadd C dX2_filling_54 ?_
      exact hR _ _ _ _ _ dX2_filling_55 ⟨(by simp [sp_fil, sp_fpl, *]), rfl⟩ wj_rfl
    refine wj_look C (41) 58 dX2_filling_17 (by decide) (by rw [lv_osw h17_1 (by decide)]; rw [lv_osw h17_5 (by decide)]; rw [lv_osw h17_6 (by decide)]; rfl) (by decide) ?_
    refine wj_iload_n C 1 dX2_filling_58 rfl rfl ?_
    exact hR _ _ _ _ _ dX2_filling_59 ⟨(by simp [sp_fil, sp_fpl, *]), rfl⟩ wj_rfl
  · replace h4 := wj_c1 h4
    refine wj_iconst (v := 3) C dX2_filling_7 (by decide) ?_
    refine wj_goto C 12 dX2_filling_8 (by decide) ?_
    refine wj_istore_n C 1 dX2_filling_12 rfl (by decide) rfl ?_
    dsimp only [List.set]
    refine wj_aload_n C 0 dX2_filling_13 rfl rfl ?_
    refine wg_X2_22 C dX2_filling_14 (by first | assumption | omega) ?_
    refine wj_lkc C (1) (35) 52 dX2_filling_17 (by decide) (by decide) (by decide) (fun h17_1 => ?_) (fun h17_1 => ?_)
    · refine wj_iload_n C 1 dX2_filling_52 rfl rfl ?_
      refine wj_iconst (v := 1) C dX2_filling_53 (by decide) ?_
      refine wj_iadd C dX2_filling_54 ?_
      exact hR _ _ _ _ _ dX2_filling_55 ⟨(by simp [sp_fil, sp_fpl, *]), rfl⟩ wj_rfl
    refine wj_lkc C (5) (39) 56 dX2_filling_17 (by decide) (by decide) (by decide) (fun h17_5 => ?_) (fun h17_5 => ?_)
    · refine wj_iconst (v := 0) C dX2_filling_56 (by decide) ?_
      exact hR _ _ _ _ _ dX2_filling_57 ⟨(by simp [sp_fil, sp_fpl, *]), rfl⟩ wj_rfl
    refine wj_lkc C (6) (35) 52 dX2_filling_17 (by decide) (by decide) (by decide) (fun h17_6 => ?_) (fun h17_6 => ?_)
    · refine wj_iload_n C 1 dX2_filling_52 rfl rfl ?_
      refine wj_iconst (v := 1) C dX2_filling_53 (by decide) ?_
      refine wj_iadd C dX2_filling_54 ?_
      exact hR _ _ _ _ _ dX2_filling_55 ⟨(by simp [sp_fil, sp_fpl, *]), rfl⟩ wj_rfl
    refine wj_look C (41) 58 dX2_filling_17 (by decide) (by rw [lv_osw h17_1 (by decide)]; rw [lv_osw h17_5 (by decide)]; rw [lv_osw h17_6 (by decide)]; rfl) (by decide) ?_
    refine wj_iload_n C 1 dX2_filling_58 rfl rfl ?_
    exact hR _ _ _ _ _ dX2_filling_59 ⟨(by simp [sp_fil, sp_fpl, *]), rfl⟩ wj_rfl
set_option maxRecDepth 100000 in
set_option maxHeartbeats 4000000 in
theorem c_X2_isCovering (l : Launch) (V : wj_V) {σ : wj_St} {k : Nat} {p : Int32} (hk : 10 ≤ k ∧ k < 34) : wj_M l V yX2_isCovering cX2_isCovering 2 (some .boolean) 1 21 [.ref (V.2.2.1 k), .int p] σ (wj_I V (if sp_isc (σ k) p = true then 1 else 0) σ) := by
  refine wj_ofZ (own := RX2) [some (.ref (V.2.2.1 k)), some (.int p)] (by decide) rfl rfl (Nat.le_of_ble_eq_true rfl) (fun X C hR => ?_)
  refine wj_iload_n C 1 dX2_isCovering_0 rfl rfl ?_
  refine wj_aload_n C 0 dX2_isCovering_1 rfl rfl ?_
  refine wg_X2_26 C dX2_isCovering_2 (by first | assumption | omega) ?_
  refine wj_icmp_ne C 10 dX2_isCovering_5 (by decide) (fun h5 => ?_) (fun h5 => ?_)
  · refine wj_aload_n C 0 dX2_isCovering_10 rfl rfl ?_
    refine wg_X2_35 C dX2_isCovering_11 (by first | assumption | omega) ?_
    refine wj_iconst (v := 1) C dX2_isCovering_14 (by decide) ?_
    refine wj_icmp_ne C 45 dX2_isCovering_15 (by decide) (fun h15 => ?_) (fun h15 => ?_)
    · refine wj_aload_n C 0 dX2_isCovering_45 rfl rfl ?_
      refine wg_X2_35 C dX2_isCovering_46 (by first | assumption | omega) ?_
      refine wj_iconst (v := 2) C dX2_isCovering_49 (by decide) ?_
      refine wj_icmp_ne C 78 dX2_isCovering_50 (by decide) (fun h50 => ?_) (fun h50 => ?_)
      · refine wj_iconst (v := 0) C dX2_isCovering_78 (by decide) ?_
        exact hR _ _ _ _ _ dX2_isCovering_79 ⟨by decide +kernel, (by first | (simp_all [sp_isc]; done) | (simp_all [sp_isc]; intro q; exact absurd q (Int32.not_lt.mpr (by assumption)))), rfl⟩ wj_rfl
      · refine wj_iload_n C 1 dX2_isCovering_53 rfl rfl ?_
        refine wj_aload_n C 0 dX2_isCovering_54 rfl rfl ?_
        refine wg_X2_26 C dX2_isCovering_55 (by first | assumption | omega) ?_
        refine wj_icmp_ge C 78 dX2_isCovering_58 (by decide) (fun h58 => ?_) (fun h58 => ?_)
        · refine wj_iconst (v := 0) C dX2_isCovering_78 (by decide) ?_
          exact hR _ _ _ _ _ dX2_isCovering_79 ⟨by decide +kernel, (by first | (simp_all [sp_isc]; done) | (simp_all [sp_isc]; intro q; exact absurd q (Int32.not_lt.mpr (by assumption)))), rfl⟩ wj_rfl
        · refine wj_aload_n C 0 dX2_isCovering_61 rfl rfl ?_
          refine wg_X2_26 C dX2_isCovering_62 (by first | assumption | omega) ?_
          refine wj_iload_n C 1 dX2_isCovering_65 rfl rfl ?_
          refine wj_isub C dX2_isCovering_66 ?_
          refine wj_aload_n C 0 dX2_isCovering_67 rfl rfl ?_
          refine wj_cif C (wj_rV C dX2_isCovering_68 km_X2_reaches kl_X2_47 (is_X2 (by first | assumption | omega)) rfl rfl (c_X2_reaches l V hk) rfl rfl (Nat.le_of_ble_eq_true rfl) (by decide)) ?_
          refine wj_icmp_gt C 78 dX2_isCovering_71 (by decide) (fun h71 => ?_) (fun h71 => ?_)
          · refine wj_iconst (v := 0) C dX2_isCovering_78 (by decide) ?_
            exact hR _ _ _ _ _ dX2_isCovering_79 ⟨by decide +kernel, (by first | (simp_all [sp_isc]; done) | (simp_all [sp_isc]; intro q; exact absurd q (Int32.not_lt.mpr (by assumption)))), rfl⟩ wj_rfl
          · refine wj_iconst (v := 1) C dX2_isCovering_74 (by decide) ?_
            refine wj_goto C 79 dX2_isCovering_75 (by decide) ?_
            exact hR _ _ _ _ _ dX2_isCovering_79 ⟨by decide +kernel, (by first | (simp_all [sp_isc]; done) | (simp_all [sp_isc]; intro q; exact absurd q (Int32.not_lt.mpr (by assumption)))), rfl⟩ wj_rfl
    · refine wj_iload_n C 1 dX2_isCovering_18 rfl rfl ?_
      refine wj_aload_n C 0 dX2_isCovering_19 rfl rfl ?_
      refine wg_X2_26 C dX2_isCovering_20 (by first | assumption | omega) ?_
      refine wj_icmp_le C 43 dX2_isCovering_23 (by decide) (fun h23 => ?_) (fun h23 => ?_)
      · refine wj_iconst (v := 0) C dX2_isCovering_43 (by decide) ?_
        exact hR _ _ _ _ _ dX2_isCovering_44 ⟨by decide +kernel, (by first | (simp_all [sp_isc]; done) | (simp_all [sp_isc]; intro q; exact absurd q (Int32.not_lt.mpr (by assumption)))), rfl⟩ wj_rfl
      · refine wj_iload_n C 1 dX2_isCovering_26 rfl rfl ?_
        refine wj_aload_n C 0 dX2_isCovering_27 rfl rfl ?_
        refine wg_X2_26 C dX2_isCovering_28 (by first | assumption | omega) ?_
        refine wj_isub C dX2_isCovering_31 ?_
        refine wj_aload_n C 0 dX2_isCovering_32 rfl rfl ?_
        refine wj_cif C (wj_rV C dX2_isCovering_33 km_X2_reaches kl_X2_47 (is_X2 (by first | assumption | omega)) rfl rfl (c_X2_reaches l V hk) rfl rfl (Nat.le_of_ble_eq_true rfl) (by decide)) ?_
        refine wj_icmp_gt C 43 dX2_isCovering_36 (by decide) (fun h36 => ?_) (fun h36 => ?_)
        · refine wj_iconst (v := 0) C dX2_isCovering_43 (by decide) ?_
          exact hR _ _ _ _ _ dX2_isCovering_44 ⟨by decide +kernel, (by first | (simp_all [sp_isc]; done) | (simp_all [sp_isc]; intro q; exact absurd q (Int32.not_lt.mpr (by assumption)))), rfl⟩ wj_rfl
        · refine wj_iconst (v := 1) C dX2_isCovering_39 (by decide) ?_
          refine wj_goto C 44 dX2_isCovering_40 (by decide) ?_
          exact hR _ _ _ _ _ dX2_isCovering_44 ⟨by decide +kernel, (by first | (simp_all [sp_isc]; done) | (simp_all [sp_isc]; intro q; exact absurd q (Int32.not_lt.mpr (by assumption)))), rfl⟩ wj_rfl
  · refine wj_iconst (v := 1) C dX2_isCovering_8 (by decide) ?_
    exact hR _ _ _ _ _ dX2_isCovering_9 ⟨by decide +kernel, (by first | (simp_all [sp_isc]; done) | (simp_all [sp_isc]; intro q; exact absurd q (Int32.not_lt.mpr (by assumption)))), rfl⟩ wj_rfl
set_option maxRecDepth 100000 in
set_option maxHeartbeats 4000000 in
theorem c_X2_trait (l : Launch) (V : wj_V) {σ : wj_St} {k : Nat} {w y : Int32} (hk : 10 ≤ k ∧ k < 34) : wj_M l V yX2_trait cX2_trait 3 (some .int) 2 43 [.ref (V.2.2.1 k), .int w, .int y] σ (wj_I V (sp_tra (σ k) w y) σ) := by
  refine wj_ofI (own := RX2) [some (.ref (V.2.2.1 k)), some (.int w), some (.int y)] (by decide) rfl rfl (Nat.le_of_ble_eq_true rfl) (fun X C hR => ?_)
  refine wj_iload_n C 1 dX2_trait_0 rfl rfl ?_
  refine wj_swc C (0) (63) 64 dX2_trait_1 (by decide) (by decide) (by decide) (by decide) (fun h1_0 => ?_) (fun h1_0 => ?_)
  · refine wj_aload_n C 0 dX2_trait_64 rfl rfl ?_
    refine wg_X2_22 C dX2_trait_65 (by first | assumption | omega) ?_
    exact hR _ _ _ _ _ dX2_trait_68 ⟨(by simp [sp_tra, *]), rfl⟩ wj_rfl
  refine wj_swc C (1) (68) 69 dX2_trait_1 (by decide) (by decide) (by decide) (by decide) (fun h1_1 => ?_) (fun h1_1 => ?_)
  · refine wj_aload_n C 0 dX2_trait_69 rfl rfl ?_
    refine wg_X2_26 C dX2_trait_70 (by first | assumption | omega) ?_
    exact hR _ _ _ _ _ dX2_trait_73 ⟨(by simp [sp_tra, *]), rfl⟩ wj_rfl
  refine wj_swc C (2) (73) 74 dX2_trait_1 (by decide) (by decide) (by decide) (by decide) (fun h1_2 => ?_) (fun h1_2 => ?_)
  · refine wj_aload_n C 0 dX2_trait_74 rfl rfl ?_
    refine wg_X2_29 C dX2_trait_75 (by first | assumption | omega) ?_
    exact hR _ _ _ _ _ dX2_trait_78 ⟨(by simp [sp_tra, *]), rfl⟩ wj_rfl
  refine wj_swc C (3) (78) 79 dX2_trait_1 (by decide) (by decide) (by decide) (by decide) (fun h1_3 => ?_) (fun h1_3 => ?_)
  · refine wj_aload_n C 0 dX2_trait_79 rfl rfl ?_
    refine wg_X2_32 C dX2_trait_80 (by first | assumption | omega) ?_
    exact hR _ _ _ _ _ dX2_trait_83 ⟨(by simp [sp_tra, *]), rfl⟩ wj_rfl
  refine wj_swc C (4) (83) 84 dX2_trait_1 (by decide) (by decide) (by decide) (by decide) (fun h1_4 => ?_) (fun h1_4 => ?_)
  · refine wj_aload_n C 0 dX2_trait_84 rfl rfl ?_
    refine wg_X2_35 C dX2_trait_85 (by first | assumption | omega) ?_
    exact hR _ _ _ _ _ dX2_trait_88 ⟨(by simp [sp_tra, *]), rfl⟩ wj_rfl
  refine wj_swc C (5) (88) 89 dX2_trait_1 (by decide) (by decide) (by decide) (by decide) (fun h1_5 => ?_) (fun h1_5 => ?_)
  · refine wj_aload_n C 0 dX2_trait_89 rfl rfl ?_
    refine wg_X2_38 C dX2_trait_90 (by first | assumption | omega) ?_
    exact hR _ _ _ _ _ dX2_trait_93 ⟨(by simp [sp_tra, *]), rfl⟩ wj_rfl
  refine wj_swc C (6) (93) 94 dX2_trait_1 (by decide) (by decide) (by decide) (by decide) (fun h1_6 => ?_) (fun h1_6 => ?_)
  · refine wj_aload_n C 0 dX2_trait_94 rfl rfl ?_
    refine wg_X2_41 C dX2_trait_95 (by first | assumption | omega) ?_
    exact hR _ _ _ _ _ dX2_trait_98 ⟨(by simp [sp_tra, *]), rfl⟩ wj_rfl
  refine wj_swc C (7) (98) 99 dX2_trait_1 (by decide) (by decide) (by decide) (by decide) (fun h1_7 => ?_) (fun h1_7 => ?_)
  · refine wj_aload_n C 0 dX2_trait_99 rfl rfl ?_
    refine wj_cif C (wj_rV C dX2_trait_100 km_X2_reaches kl_X2_47 (is_X2 (by first | assumption | omega)) rfl rfl (c_X2_reaches l V hk) rfl rfl (Nat.le_of_ble_eq_true rfl) (by decide)) ?_
    exact hR _ _ _ _ _ dX2_trait_103 ⟨(by simp [sp_tra, *]), rfl⟩ wj_rfl
  refine wj_swc C (8) (103) 104 dX2_trait_1 (by decide) (by decide) (by decide) (by decide) (fun h1_8 => ?_) (fun h1_8 => ?_)
  · refine wj_aload_n C 0 dX2_trait_104 rfl rfl ?_
    refine wj_cif C (wj_rV C dX2_trait_105 km_X2_coverSet kl_X2_64 (is_X2 (by first | assumption | omega)) rfl rfl (c_X2_coverSet l V hk) rfl rfl (Nat.le_of_ble_eq_true rfl) (by decide)) ?_
    exact hR _ _ _ _ _ dX2_trait_108 ⟨(by simp [sp_tra, *]), rfl⟩ wj_rfl
  refine wj_swc C (9) (108) 109 dX2_trait_1 (by decide) (by decide) (by decide) (by decide) (fun h1_9 => ?_) (fun h1_9 => ?_)
  · refine wj_aload_n C 0 dX2_trait_109 rfl rfl ?_
    refine wj_iload_n C 2 dX2_trait_110 rfl rfl ?_
    refine wj_cif C (wj_rV C dX2_trait_111 km_X2_strongIn kl_X2_67 (is_X2 (by first | assumption | omega)) rfl rfl (c_X2_strongIn l V hk) rfl rfl (Nat.le_of_ble_eq_true rfl) (by decide)) ?_
    exact hR _ _ _ _ _ dX2_trait_114 ⟨(by simp [sp_tra, *]), rfl⟩ wj_rfl
  refine wj_swc C (10) (114) 115 dX2_trait_1 (by decide) (by decide) (by decide) (by decide) (fun h1_10 => ?_) (fun h1_10 => ?_)
  · refine wj_aload_n C 0 dX2_trait_115 rfl rfl ?_
    refine wj_cif C (wj_rV C dX2_trait_116 km_X2_growth kl_X2_70 (is_X2 (by first | assumption | omega)) rfl rfl (c_X2_growth l V hk) rfl rfl (Nat.le_of_ble_eq_true rfl) (by decide)) ?_
    exact hR _ _ _ _ _ dX2_trait_119 ⟨(by simp [sp_tra, *]), rfl⟩ wj_rfl
  refine wj_swc C (11) (119) 120 dX2_trait_1 (by decide) (by decide) (by decide) (by decide) (fun h1_11 => ?_) (fun h1_11 => ?_)
  · refine wj_aload_n C 0 dX2_trait_120 rfl rfl ?_
    refine wj_cif C (wj_rV C dX2_trait_121 km_X2_filling kl_X2_73 (is_X2 (by first | assumption | omega)) rfl rfl (c_X2_filling l V hk) rfl rfl (Nat.le_of_ble_eq_true rfl) (by decide)) ?_
    exact hR _ _ _ _ _ dX2_trait_124 ⟨(by simp [sp_tra, *]), rfl⟩ wj_rfl
  refine wj_tabOut C 125 dX2_trait_1 (by have q0 := lv_neT h1_0 (a := 0) (by decide); have q1 := lv_neT h1_1 (a := 1) (by decide); have q2 := lv_neT h1_2 (a := 2) (by decide); have q3 := lv_neT h1_3 (a := 3) (by decide); have q4 := lv_neT h1_4 (a := 4) (by decide); have q5 := lv_neT h1_5 (a := 5) (by decide); have q6 := lv_neT h1_6 (a := 6) (by decide); have q7 := lv_neT h1_7 (a := 7) (by decide); have q8 := lv_neT h1_8 (a := 8) (by decide); have q9 := lv_neT h1_9 (a := 9) (by decide); have q10 := lv_neT h1_10 (a := 10) (by decide); have q11 := lv_neT h1_11 (a := 11) (by decide); omega) (by decide) ?_
  refine wj_iconst (v := 0) C dX2_trait_125 (by decide) ?_
  exact hR _ _ _ _ _ dX2_trait_126 ⟨(by simp [sp_tra, *]), rfl⟩ wj_rfl
set_option maxRecDepth 100000 in
set_option maxHeartbeats 4000000 in
theorem c_X2_put (l : Launch) (V : wj_V) {σ : wj_St} {k : Nat} {w v : Int32} (hk : 10 ≤ k ∧ k < 34) : wj_M l V yX2_put cX2_put 3 none 0 0 [.ref (V.2.2.1 k), .int w, .int v] σ (wj_Vd V (wj_r σ k (sp_set (σ k) w v))) := by
  refine wj_ofV (own := RX2) [some (.ref (V.2.2.1 k)), some (.int w), some (.int v)] (by decide) rfl rfl (Nat.le_of_ble_eq_true rfl) (fun X C hR => ?_)
  refine wj_iload_n C 1 dX2_put_0 rfl rfl ?_
  refine wj_swc C (0) (43) 44 dX2_put_1 (by decide) (by decide) (by decide) (by decide) (fun h1_0 => ?_) (fun h1_0 => ?_)
  · refine wj_aload_n C 0 dX2_put_44 rfl rfl ?_
    refine wj_iload_n C 2 dX2_put_45 rfl rfl ?_
    refine wp_X2_22 C dX2_put_46 (by first | assumption | omega) ?_
    refine wj_goto C 100 dX2_put_49 (by decide) ?_
    exact hR _ _ _ _ dX2_put_100 rfl (by first | (subst_vars; simp only [wj_u_r]; exact wj_rfl) | (rw [sp_set, if_neg (by intro q; have q0 := lv_neT h1_0 (a := 0) (by decide); have q1 := lv_neT h1_1 (a := 1) (by decide); have q2 := lv_neT h1_2 (a := 2) (by decide); have q3 := lv_neT h1_3 (a := 3) (by decide); have q4 := lv_neT h1_4 (a := 4) (by decide); have q5 := lv_neT h1_5 (a := 5) (by decide); have q6 := lv_neT h1_6 (a := 6) (by decide); have g1 := Int32.le_iff_toInt_le.mp q.1; have g2 := Int32.le_iff_toInt_le.mp q.2; simp at g1 g2; omega), wj_r_id]; exact wj_rfl))
  refine wj_swc C (1) (51) 52 dX2_put_1 (by decide) (by decide) (by decide) (by decide) (fun h1_1 => ?_) (fun h1_1 => ?_)
  · refine wj_aload_n C 0 dX2_put_52 rfl rfl ?_
    refine wj_iload_n C 2 dX2_put_53 rfl rfl ?_
    refine wp_X2_26 C dX2_put_54 (by first | assumption | omega) ?_
    refine wj_goto C 100 dX2_put_57 (by decide) ?_
    exact hR _ _ _ _ dX2_put_100 rfl (by first | (subst_vars; simp only [wj_u_r]; exact wj_rfl) | (rw [sp_set, if_neg (by intro q; have q0 := lv_neT h1_0 (a := 0) (by decide); have q1 := lv_neT h1_1 (a := 1) (by decide); have q2 := lv_neT h1_2 (a := 2) (by decide); have q3 := lv_neT h1_3 (a := 3) (by decide); have q4 := lv_neT h1_4 (a := 4) (by decide); have q5 := lv_neT h1_5 (a := 5) (by decide); have q6 := lv_neT h1_6 (a := 6) (by decide); have g1 := Int32.le_iff_toInt_le.mp q.1; have g2 := Int32.le_iff_toInt_le.mp q.2; simp at g1 g2; omega), wj_r_id]; exact wj_rfl))
  refine wj_swc C (2) (59) 60 dX2_put_1 (by decide) (by decide) (by decide) (by decide) (fun h1_2 => ?_) (fun h1_2 => ?_)
  · refine wj_aload_n C 0 dX2_put_60 rfl rfl ?_
    refine wj_iload_n C 2 dX2_put_61 rfl rfl ?_
    refine wp_X2_29 C dX2_put_62 (by first | assumption | omega) ?_
    refine wj_goto C 100 dX2_put_65 (by decide) ?_
    exact hR _ _ _ _ dX2_put_100 rfl (by first | (subst_vars; simp only [wj_u_r]; exact wj_rfl) | (rw [sp_set, if_neg (by intro q; have q0 := lv_neT h1_0 (a := 0) (by decide); have q1 := lv_neT h1_1 (a := 1) (by decide); have q2 := lv_neT h1_2 (a := 2) (by decide); have q3 := lv_neT h1_3 (a := 3) (by decide); have q4 := lv_neT h1_4 (a := 4) (by decide); have q5 := lv_neT h1_5 (a := 5) (by decide); have q6 := lv_neT h1_6 (a := 6) (by decide); have g1 := Int32.le_iff_toInt_le.mp q.1; have g2 := Int32.le_iff_toInt_le.mp q.2; simp at g1 g2; omega), wj_r_id]; exact wj_rfl))
  refine wj_swc C (3) (67) 68 dX2_put_1 (by decide) (by decide) (by decide) (by decide) (fun h1_3 => ?_) (fun h1_3 => ?_)
  · refine wj_aload_n C 0 dX2_put_68 rfl rfl ?_
    refine wj_iload_n C 2 dX2_put_69 rfl rfl ?_
    refine wp_X2_32 C dX2_put_70 (by first | assumption | omega) ?_
    refine wj_goto C 100 dX2_put_73 (by decide) ?_
    exact hR _ _ _ _ dX2_put_100 rfl (by first | (subst_vars; simp only [wj_u_r]; exact wj_rfl) | (rw [sp_set, if_neg (by intro q; have q0 := lv_neT h1_0 (a := 0) (by decide); have q1 := lv_neT h1_1 (a := 1) (by decide); have q2 := lv_neT h1_2 (a := 2) (by decide); have q3 := lv_neT h1_3 (a := 3) (by decide); have q4 := lv_neT h1_4 (a := 4) (by decide); have q5 := lv_neT h1_5 (a := 5) (by decide); have q6 := lv_neT h1_6 (a := 6) (by decide); have g1 := Int32.le_iff_toInt_le.mp q.1; have g2 := Int32.le_iff_toInt_le.mp q.2; simp at g1 g2; omega), wj_r_id]; exact wj_rfl))
  refine wj_swc C (4) (75) 76 dX2_put_1 (by decide) (by decide) (by decide) (by decide) (fun h1_4 => ?_) (fun h1_4 => ?_)
  · refine wj_aload_n C 0 dX2_put_76 rfl rfl ?_
    refine wj_iload_n C 2 dX2_put_77 rfl rfl ?_
    refine wp_X2_35 C dX2_put_78 (by first | assumption | omega) ?_
    refine wj_goto C 100 dX2_put_81 (by decide) ?_
    exact hR _ _ _ _ dX2_put_100 rfl (by first | (subst_vars; simp only [wj_u_r]; exact wj_rfl) | (rw [sp_set, if_neg (by intro q; have q0 := lv_neT h1_0 (a := 0) (by decide); have q1 := lv_neT h1_1 (a := 1) (by decide); have q2 := lv_neT h1_2 (a := 2) (by decide); have q3 := lv_neT h1_3 (a := 3) (by decide); have q4 := lv_neT h1_4 (a := 4) (by decide); have q5 := lv_neT h1_5 (a := 5) (by decide); have q6 := lv_neT h1_6 (a := 6) (by decide); have g1 := Int32.le_iff_toInt_le.mp q.1; have g2 := Int32.le_iff_toInt_le.mp q.2; simp at g1 g2; omega), wj_r_id]; exact wj_rfl))
  refine wj_swc C (5) (83) 84 dX2_put_1 (by decide) (by decide) (by decide) (by decide) (fun h1_5 => ?_) (fun h1_5 => ?_)
  · refine wj_aload_n C 0 dX2_put_84 rfl rfl ?_
    refine wj_iload_n C 2 dX2_put_85 rfl rfl ?_
    refine wp_X2_38 C dX2_put_86 (by first | assumption | omega) ?_
    refine wj_goto C 100 dX2_put_89 (by decide) ?_
    exact hR _ _ _ _ dX2_put_100 rfl (by first | (subst_vars; simp only [wj_u_r]; exact wj_rfl) | (rw [sp_set, if_neg (by intro q; have q0 := lv_neT h1_0 (a := 0) (by decide); have q1 := lv_neT h1_1 (a := 1) (by decide); have q2 := lv_neT h1_2 (a := 2) (by decide); have q3 := lv_neT h1_3 (a := 3) (by decide); have q4 := lv_neT h1_4 (a := 4) (by decide); have q5 := lv_neT h1_5 (a := 5) (by decide); have q6 := lv_neT h1_6 (a := 6) (by decide); have g1 := Int32.le_iff_toInt_le.mp q.1; have g2 := Int32.le_iff_toInt_le.mp q.2; simp at g1 g2; omega), wj_r_id]; exact wj_rfl))
  refine wj_swc C (6) (91) 92 dX2_put_1 (by decide) (by decide) (by decide) (by decide) (fun h1_6 => ?_) (fun h1_6 => ?_)
  · refine wj_aload_n C 0 dX2_put_92 rfl rfl ?_
    refine wj_iload_n C 2 dX2_put_93 rfl rfl ?_
    refine wp_X2_41 C dX2_put_94 (by first | assumption | omega) ?_
    refine wj_goto C 100 dX2_put_97 (by decide) ?_
    exact hR _ _ _ _ dX2_put_100 rfl (by first | (subst_vars; simp only [wj_u_r]; exact wj_rfl) | (rw [sp_set, if_neg (by intro q; have q0 := lv_neT h1_0 (a := 0) (by decide); have q1 := lv_neT h1_1 (a := 1) (by decide); have q2 := lv_neT h1_2 (a := 2) (by decide); have q3 := lv_neT h1_3 (a := 3) (by decide); have q4 := lv_neT h1_4 (a := 4) (by decide); have q5 := lv_neT h1_5 (a := 5) (by decide); have q6 := lv_neT h1_6 (a := 6) (by decide); have g1 := Int32.le_iff_toInt_le.mp q.1; have g2 := Int32.le_iff_toInt_le.mp q.2; simp at g1 g2; omega), wj_r_id]; exact wj_rfl))
  refine wj_tabOut C 100 dX2_put_1 (by have q0 := lv_neT h1_0 (a := 0) (by decide); have q1 := lv_neT h1_1 (a := 1) (by decide); have q2 := lv_neT h1_2 (a := 2) (by decide); have q3 := lv_neT h1_3 (a := 3) (by decide); have q4 := lv_neT h1_4 (a := 4) (by decide); have q5 := lv_neT h1_5 (a := 5) (by decide); have q6 := lv_neT h1_6 (a := 6) (by decide); omega) (by decide) ?_
  exact hR _ _ _ _ dX2_put_100 rfl (by first | (subst_vars; simp only [wj_u_r]; exact wj_rfl) | (rw [sp_set, if_neg (by intro q; have q0 := lv_neT h1_0 (a := 0) (by decide); have q1 := lv_neT h1_1 (a := 1) (by decide); have q2 := lv_neT h1_2 (a := 2) (by decide); have q3 := lv_neT h1_3 (a := 3) (by decide); have q4 := lv_neT h1_4 (a := 4) (by decide); have q5 := lv_neT h1_5 (a := 5) (by decide); have q6 := lv_neT h1_6 (a := 6) (by decide); have g1 := Int32.le_iff_toInt_le.mp q.1; have g2 := Int32.le_iff_toInt_le.mp q.2; simp at g1 g2; omega), wj_r_id]; exact wj_rfl))
set_option maxRecDepth 100000 in
set_option maxHeartbeats 4000000 in
theorem c_X2_giveWay (l : Launch) (V : wj_V) {σ : wj_St} {k : Nat} (hk : 10 ≤ k ∧ k < 34) : wj_M l V yX2_giveWay cX2_giveWay 1 none 1 21 [.ref (V.2.2.1 k)] σ (wj_Vd V (wj_r σ k (sp_giv (σ k)))) := by
  refine wj_ofV (own := RX2) [some (.ref (V.2.2.1 k))] (by decide) rfl rfl (Nat.le_of_ble_eq_true rfl) (fun X C hR => ?_)
  refine wj_aload_n C 0 dX2_giveWay_0 rfl rfl ?_
  refine wj_dup C dX2_giveWay_1 rfl ?_
  refine wg_X2_29 C dX2_giveWay_2 (by first | assumption | omega) ?_
  refine wj_iconst (v := 2) C dX2_giveWay_5 (by decide) ?_
  refine wj_idiv C dX2_giveWay_6 (by decide) ?_
  refine wp_X2_29 C dX2_giveWay_7 (by first | assumption | omega) ?_
  refine wj_aload_n C 0 dX2_giveWay_10 rfl rfl ?_
  refine wj_iconst (v := 0) C dX2_giveWay_11 (by decide) ?_
  refine wj_aload_n C 0 dX2_giveWay_12 rfl rfl ?_
  refine wg_X2_32 C dX2_giveWay_13 (by first | assumption | omega) ?_
  refine wj_iconst (v := 5) C dX2_giveWay_16 (by decide) ?_
  refine wj_isub C dX2_giveWay_17 ?_
  refine wj_max C dX2_giveWay_18 kx_X2_51 (by decide) (Nat.le_of_ble_eq_true rfl) ?_
  refine wp_X2_32 C dX2_giveWay_21 (by first | assumption | omega) ?_
  refine wj_aload_n C 0 dX2_giveWay_24 rfl rfl ?_
  refine wj_sipush (v := 9999) C dX2_giveWay_25 (by decide) ?_
  refine wj_aload_n C 0 dX2_giveWay_28 rfl rfl ?_
  refine wg_X2_41 C dX2_giveWay_29 (by first | assumption | omega) ?_
  refine wj_iconst (v := 1) C dX2_giveWay_32 (by decide) ?_
  refine wj_iadd C dX2_giveWay_33 ?_
  refine wj_min C dX2_giveWay_34 kx_X2_57 (by decide) (Nat.le_of_ble_eq_true rfl) ?_
  refine wp_X2_41 C dX2_giveWay_37 (by first | assumption | omega) ?_
  exact hR _ _ _ _ dX2_giveWay_40 rfl (by simp [wj_u_r, wj_rr2, wj_r_same, sp_giv, upd]; exact wj_rfl)
set_option maxRecDepth 100000 in
set_option maxHeartbeats 4000000 in
theorem c_X2_grow (l : Launch) (V : wj_V) {σ : wj_St} {k : Nat} (hk : 10 ≤ k ∧ k < 34) : wj_M l V yX2_grow cX2_grow 1 none 2 42 [.ref (V.2.2.1 k)] σ (wj_Vd V (wj_r σ k (sp_grw (σ k)))) := by
  refine wj_ofV (own := RX2) [some (.ref (V.2.2.1 k))] (by decide) rfl rfl (Nat.le_of_ble_eq_true rfl) (fun X C hR => ?_)
  refine wj_aload_n C 0 dX2_grow_0 rfl rfl ?_
  refine wj_sipush (v := 199) C dX2_grow_1 (by decide) ?_
  refine wj_aload_n C 0 dX2_grow_4 rfl rfl ?_
  refine wg_X2_29 C dX2_grow_5 (by first | assumption | omega) ?_
  refine wj_aload_n C 0 dX2_grow_8 rfl rfl ?_
  refine wj_cif C (wj_rV C dX2_grow_9 km_X2_growth kl_X2_70 (is_X2 (by first | assumption | omega)) rfl rfl (c_X2_growth l V hk) rfl rfl (Nat.le_of_ble_eq_true rfl) (by decide)) ?_
  refine wj_iadd C dX2_grow_12 ?_
  refine wj_min C dX2_grow_13 kx_X2_57 (by decide) (Nat.le_of_ble_eq_true rfl) ?_
  refine wp_X2_29 C dX2_grow_16 (by first | assumption | omega) ?_
  refine wj_aload_n C 0 dX2_grow_19 rfl rfl ?_
  refine wj_bipush (v := 99) C dX2_grow_20 (by decide) ?_
  refine wj_aload_n C 0 dX2_grow_22 rfl rfl ?_
  refine wg_X2_32 C dX2_grow_23 (by first | assumption | omega) ?_
  refine wj_aload_n C 0 dX2_grow_26 rfl rfl ?_
  refine wj_cif C (wj_rV C dX2_grow_27 km_X2_filling kl_X2_73 (is_X2 (by first | assumption | omega)) rfl rfl (c_X2_filling l V hk) rfl rfl (Nat.le_of_ble_eq_true rfl) (by decide)) ?_
  refine wj_iadd C dX2_grow_30 ?_
  refine wj_min C dX2_grow_31 kx_X2_57 (by decide) (Nat.le_of_ble_eq_true rfl) ?_
  refine wp_X2_32 C dX2_grow_34 (by first | assumption | omega) ?_
  exact hR _ _ _ _ dX2_grow_37 rfl (by simp [wj_u_r, wj_rr2, wj_r_same, sp_grw, sp_fil_u]; simp [upd]; exact wj_rfl)
set_option maxRecDepth 100000 in
set_option maxHeartbeats 4000000 in
theorem c_X2_start (l : Launch) (V : wj_V) {σ : wj_St} {k : Nat} {a b c : Int32} (hk : 10 ≤ k ∧ k < 34) : wj_M l V yX2_start cX2_start 4 none 0 0 [.ref (V.2.2.1 k), .int a, .int b, .int c] σ (wj_Vd V (wj_r σ k (sp_new (σ k) a b c))) := by
  refine wj_ofV (own := RX2) [some (.ref (V.2.2.1 k)), some (.int a), some (.int b), some (.int c)] (by decide) rfl rfl (Nat.le_of_ble_eq_true rfl) (fun X C hR => ?_)
  refine wj_aload_n C 0 dX2_start_0 rfl rfl ?_
  refine wj_iload_n C 1 dX2_start_1 rfl rfl ?_
  refine wp_X2_22 C dX2_start_2 (by first | assumption | omega) ?_
  refine wj_aload_n C 0 dX2_start_5 rfl rfl ?_
  refine wj_iload_n C 2 dX2_start_6 rfl rfl ?_
  refine wp_X2_26 C dX2_start_7 (by first | assumption | omega) ?_
  refine wj_aload_n C 0 dX2_start_10 rfl rfl ?_
  refine wj_bipush (v := 20) C dX2_start_11 (by decide) ?_
  refine wp_X2_29 C dX2_start_13 (by first | assumption | omega) ?_
  refine wj_aload_n C 0 dX2_start_16 rfl rfl ?_
  refine wj_iconst (v := 5) C dX2_start_17 (by decide) ?_
  refine wp_X2_32 C dX2_start_18 (by first | assumption | omega) ?_
  refine wj_aload_n C 0 dX2_start_21 rfl rfl ?_
  refine wj_iconst (v := 0) C dX2_start_22 (by decide) ?_
  refine wp_X2_35 C dX2_start_23 (by first | assumption | omega) ?_
  refine wj_aload_n C 0 dX2_start_26 rfl rfl ?_
  refine wj_iload_n C 3 dX2_start_27 rfl rfl ?_
  refine wp_X2_38 C dX2_start_28 (by first | assumption | omega) ?_
  refine wj_aload_n C 0 dX2_start_31 rfl rfl ?_
  refine wj_iconst (v := 0) C dX2_start_32 (by decide) ?_
  refine wp_X2_41 C dX2_start_33 (by first | assumption | omega) ?_
  exact hR _ _ _ _ dX2_start_36 rfl (by simp only [wj_u_r, wj_rr2, wj_r_same]; refine wj_r_c (fun j _ => ?_); rcases j with _ | _ | _ | _ | _ | _ | _ | j <;> simp [upd, sp_new])
set_option maxRecDepth 100000 in
set_option maxHeartbeats 4000000 in
theorem c_X2_become (l : Launch) (V : wj_V) {σ : wj_St} {k k2 : Nat} (hk : 10 ≤ k ∧ k < 34) (hk2 : 10 ≤ k2 ∧ k2 < 34) (hne : k2 ≠ k) : wj_M l V yX2_become cX2_become 2 none 0 0 [.ref (V.2.2.1 k), .ref (V.2.2.1 k2)] σ (wj_Vd V (wj_r σ k (sp_cpy (σ k) (σ k2)))) := by
  refine wj_ofV (own := RX2) [some (.ref (V.2.2.1 k)), some (.ref (V.2.2.1 k2))] (by decide) rfl rfl (Nat.le_of_ble_eq_true rfl) (fun X C hR => ?_)
  refine wj_aload_n C 0 dX2_become_0 rfl rfl ?_
  refine wj_aload_n C 1 dX2_become_1 rfl rfl ?_
  refine wg_X2_22 C dX2_become_2 (by first | assumption | omega) ?_
  refine wp_X2_22 C dX2_become_5 (by first | assumption | omega) ?_
  refine wj_aload_n C 0 dX2_become_8 rfl rfl ?_
  refine wj_aload_n C 1 dX2_become_9 rfl rfl ?_
  refine wg_X2_26 C dX2_become_10 (by first | assumption | omega) ?_
  refine wp_X2_26 C dX2_become_13 (by first | assumption | omega) ?_
  refine wj_aload_n C 0 dX2_become_16 rfl rfl ?_
  refine wj_aload_n C 1 dX2_become_17 rfl rfl ?_
  refine wg_X2_29 C dX2_become_18 (by first | assumption | omega) ?_
  refine wp_X2_29 C dX2_become_21 (by first | assumption | omega) ?_
  refine wj_aload_n C 0 dX2_become_24 rfl rfl ?_
  refine wj_aload_n C 1 dX2_become_25 rfl rfl ?_
  refine wg_X2_32 C dX2_become_26 (by first | assumption | omega) ?_
  refine wp_X2_32 C dX2_become_29 (by first | assumption | omega) ?_
  refine wj_aload_n C 0 dX2_become_32 rfl rfl ?_
  refine wj_aload_n C 1 dX2_become_33 rfl rfl ?_
  refine wg_X2_35 C dX2_become_34 (by first | assumption | omega) ?_
  refine wp_X2_35 C dX2_become_37 (by first | assumption | omega) ?_
  refine wj_aload_n C 0 dX2_become_40 rfl rfl ?_
  refine wj_aload_n C 1 dX2_become_41 rfl rfl ?_
  refine wg_X2_38 C dX2_become_42 (by first | assumption | omega) ?_
  refine wp_X2_38 C dX2_become_45 (by first | assumption | omega) ?_
  refine wj_aload_n C 0 dX2_become_48 rfl rfl ?_
  refine wj_aload_n C 1 dX2_become_49 rfl rfl ?_
  refine wg_X2_41 C dX2_become_50 (by first | assumption | omega) ?_
  refine wp_X2_41 C dX2_become_53 (by first | assumption | omega) ?_
  exact hR _ _ _ _ dX2_become_56 rfl (by simp only [wj_u_r, wj_rr2, wj_r_same, wj_r_ne hne]; refine wj_r_c (fun j hj => ?_); simp only [upd, sp_cpy]; repeat' (first | split | simp_all | omega))

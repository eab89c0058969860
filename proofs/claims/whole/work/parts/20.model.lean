/-! THE REFERENCE's ROW now AS A LANE -/
def sp_mg (g : Nat → Int32) : sp_L := (g 0, g 1, g 3, g 4, fun i => g (5 + i), fun i f => g (21 + 7 * i + f))
def sp_mr (g : Nat → Int32) (A : sp_L) : Nat → Int32 := fun j => if j = 0 then A.1 else if j = 1 then A.2.1 else if j = 3 then A.2.2.1 else if j = 4 then A.2.2.2.1 else if 5 ≤ j ∧ j < 11 then A.2.2.2.2.1 (j - 5) else if 21 ≤ j ∧ j < 77 then A.2.2.2.2.2 ((j - 21) / 7) ((j - 21) % 7) else g j
def sp_mq (σ : wj_St) (A : sp_L) : wj_St := wj_r σ 49 (sp_mr (σ 49) A)
theorem sp_mr_id (g : Nat → Int32) : sp_mr g (sp_mg g) = g := by
  funext j
  simp only [sp_mr, sp_mg]
  by_cases h0 : j = 0
  · simp [h0]
  · by_cases h1 : j = 1
    · simp [h1]
    · by_cases h3 : j = 3
      · simp [h3]
      · by_cases h4 : j = 4
        · simp [h4]
        · rw [if_neg h0, if_neg h1, if_neg h3, if_neg h4]
          by_cases h5 : 5 ≤ j ∧ j < 11
          · rw [if_pos h5, show 5 + (j - 5) = j by omega]
          · rw [if_neg h5]
            by_cases h6 : 21 ≤ j ∧ j < 77
            · rw [if_pos h6, show 21 + 7 * ((j - 21) / 7) + (j - 21) % 7 = j by omega]
            · rw [if_neg h6]
theorem sp_mq_id (σ : wj_St) : sp_mq σ (sp_mg (σ 49)) = σ := by rw [sp_mq, sp_mr_id, wj_r_id]
theorem sp_mq_49 (σ : wj_St) (A : sp_L) : sp_mq σ A 49 = sp_mr (σ 49) A := wj_r_same _ _ _
theorem sp_mq_o {σ : wj_St} {A : sp_L} {q : Nat} (h : q ≠ 49) : sp_mq σ A q = σ q := wj_r_ne h
theorem sp_mr_0 (g : Nat → Int32) (A : sp_L) : sp_mr g A 0 = A.1 := rfl
theorem sp_mr_1 (g : Nat → Int32) (A : sp_L) : sp_mr g A 1 = A.2.1 := rfl
theorem sp_mr_3 (g : Nat → Int32) (A : sp_L) : sp_mr g A 3 = A.2.2.1 := rfl
theorem sp_mr_4 (g : Nat → Int32) (A : sp_L) : sp_mr g A 4 = A.2.2.2.1 := rfl
theorem sp_mr_l (g : Nat → Int32) (A : sp_L) {i : Nat} (hi : i < 6) : sp_mr g A (5 + i) = sp_ls A i := by
  simp only [sp_mr]
  rw [if_neg (by omega), if_neg (by omega), if_neg (by omega), if_neg (by omega), if_pos (by omega), show 5 + i - 5 = i by omega]
theorem sp_mr_s (g : Nat → Int32) (A : sp_L) {i f : Nat} (hi : i < 8) (hf : f < 7) : sp_mr g A (21 + 7 * i + f) = sp_sl A i f := by
  simp only [sp_mr]
  rw [if_neg (by omega), if_neg (by omega), if_neg (by omega), if_neg (by omega), if_neg (by omega), if_pos (by omega), show (21 + 7 * i + f - 21) / 7 = i by omega, show (21 + 7 * i + f - 21) % 7 = f by omega]
theorem sp_mr_o (g : Nat → Int32) (A : sp_L) {j : Nat} (h : j = 2 ∨ (11 ≤ j ∧ j < 21) ∨ 77 ≤ j) : sp_mr g A j = g j := by
  simp only [sp_mr]
  rw [if_neg (by omega), if_neg (by omega), if_neg (by omega), if_neg (by omega), if_neg (by omega), if_neg (by omega)]
theorem sp_mq_u {σ : wj_St} {A : sp_L} {j : Nat} {x : Int32} : wj_u (sp_mq σ A) 49 j x = wj_r σ 49 (upd (sp_mr (σ 49) A) j x) := by rw [sp_mq, wj_uu]
theorem sp_mq_u0 {σ : wj_St} {A : sp_L} {x : Int32} : wj_u (sp_mq σ A) 49 0 x = sp_mq σ (sp_wY A x) := by
  rw [sp_mq_u, sp_mq]
  congr 1
  funext j
  by_cases h : j = 0
  · subst h; simp [upd, sp_mr, sp_wY]
  · simp [upd, sp_mr, sp_wY, h]
theorem sp_mq_u1 {σ : wj_St} {A : sp_L} {x : Int32} : wj_u (sp_mq σ A) 49 1 x = sp_mq σ (sp_wC A x) := by
  rw [sp_mq_u, sp_mq]
  congr 1
  funext j
  by_cases h : j = 1
  · subst h; simp [upd, sp_mr, sp_wC]
  · simp [upd, sp_mr, sp_wC, h]
theorem sp_mq_u3 {σ : wj_St} {A : sp_L} {x : Int32} : wj_u (sp_mq σ A) 49 3 x = sp_mq σ (sp_wH A x) := by
  rw [sp_mq_u, sp_mq]
  congr 1
  funext j
  by_cases h : j = 3
  · subst h; simp [upd, sp_mr, sp_wH]
  · simp [upd, sp_mr, sp_wH, h]
theorem sp_mq_u4 {σ : wj_St} {A : sp_L} {x : Int32} : wj_u (sp_mq σ A) 49 4 x = sp_mq σ (sp_wM A x) := by
  rw [sp_mq_u, sp_mq]
  congr 1
  funext j
  by_cases h : j = 4
  · subst h; simp [upd, sp_mr, sp_wM]
  · simp [upd, sp_mr, sp_wM, h]
theorem sp_mq_ul {σ : wj_St} {A : sp_L} {i : Nat} {x : Int32} (hi : i < 6) : wj_u (sp_mq σ A) 49 (5 + i) x = sp_mq σ (sp_wL A (upd A.2.2.2.2.1 i x)) := by
  rw [sp_mq_u, sp_mq]
  congr 1
  funext j
  by_cases h : j = 5 + i
  · subst h
    rw [sp_mr_l _ _ hi]
    simp [upd, sp_wL, sp_ls]
  · simp only [upd, sp_mr, sp_wL, if_neg h]
    by_cases h5 : 5 ≤ j ∧ j < 11
    · simp only [if_pos h5, if_neg (show ¬ j - 5 = i by omega)]
    · simp only [if_neg h5]
/-- number f of slip i becomes x -/
def sp_us (A : sp_L) (i f : Nat) (x : Int32) : sp_L := sp_wS A (fun a => if a = i then upd (sp_sl A i) f x else sp_sl A a)
theorem sp_mq_us {σ : wj_St} {A : sp_L} {i f : Nat} {x : Int32} (hi : i < 8) (hf : f < 7) : wj_u (sp_mq σ A) 49 (21 + 7 * i + f) x = sp_mq σ (sp_us A i f x) := by
  rw [sp_mq_u, sp_mq]
  congr 1
  funext j
  by_cases h : j = 21 + 7 * i + f
  · subst h
    rw [sp_mr_s _ _ hi hf]
    simp [upd, sp_us, sp_wS, sp_sl]
  · simp only [upd, sp_mr, sp_us, sp_wS, if_neg h]
    by_cases h6 : 21 ≤ j ∧ j < 77
    · simp only [if_pos h6]
      by_cases h7 : (j - 21) / 7 = i
      · have h8 : ¬ (j - 21) % 7 = f := by omega
        simp only [h7, if_true, sp_sl, upd, if_neg h8]
      · simp only [if_neg h7, sp_sl]
    · simp only [if_neg h6]
theorem sp_us_same (A : sp_L) (i f : Nat) (x : Int32) : sp_sl (sp_us A i f x) i = upd (sp_sl A i) f x := by simp [sp_us, sp_wS, sp_sl]
theorem sp_us_us (A : sp_L) (i f g : Nat) (x y : Int32) : sp_us (sp_us A i f x) i g y = sp_wS A (fun a => if a = i then upd (upd (sp_sl A i) f x) g y else sp_sl A a) := by
  rw [sp_us, sp_us_same]
  refine sp_wS_c (A := A) (fun a => ?_)
  by_cases h : a = i
  · rw [if_pos h, if_pos h]
  · rw [if_neg h, if_neg h]; simp only [sp_us, sp_wS, sp_sl, if_neg h]
theorem sp_wS_us (A : sp_L) (i f : Nat) (x : Int32) (s : Nat → Int32) : sp_us (sp_wS A (fun a => if a = i then s else sp_sl A a)) i f x = sp_wS A (fun a => if a = i then upd s f x else sp_sl A a) := by
  refine sp_wS_c (A := A) (fun a => ?_)
  by_cases h : a = i
  · rw [if_pos h, if_pos h]; simp [sp_wS, sp_sl]
  · rw [if_neg h, if_neg h]; simp only [sp_wS, sp_sl, if_neg h]
theorem sp_at (i f : Nat) : (21 : Int32) + 7 * nI i + nI f = nI (21 + 7 * i + f) := by
  rw [show (21 : Int32) = nI 21 from rfl, show (7 : Int32) = nI 7 from rfl, pk_mul, nI_add, nI_add]
/-- a slip is as the document has it -/
def sp_gs (s : Nat → Int32) : Prop := (0 ≤ (s 0).toInt ∧ (s 0).toInt ≤ 6) ∧ (0 ≤ (s 1).toInt ∧ (s 1).toInt ≤ 15) ∧ (0 ≤ (s 2).toInt ∧ (s 2).toInt ≤ 199) ∧ (0 ≤ (s 3).toInt ∧ (s 3).toInt ≤ 99) ∧ (0 ≤ (s 4).toInt ∧ (s 4).toInt ≤ 2) ∧ (1 ≤ (s 5).toInt ∧ (s 5).toInt ≤ 12) ∧ (0 ≤ (s 6).toInt ∧ (s 6).toInt ≤ 9999)
theorem sp_gs_rea {s : Nat → Int32} (h : sp_gs s) : ∃ r, r ≤ 8 ∧ sp_rea s = nI r := by
  obtain ⟨-, -, h2, -⟩ := h
  obtain ⟨j, hj, e, hz⟩ := wj_nat h2.1
  have e2 : s 2 / 40 = nI (j / 40) := by rw [e, show (40 : Int32) = nI 40 from rfl, pk_div hj (by decide) (by decide)]
  have hb : j / 40 ≤ 4 := by omega
  unfold sp_rea
  rw [e2]
  split
  · split
    · exact ⟨j / 40 + 1, by omega, nI_1 _⟩
    · exact ⟨j / 40, by omega, rfl⟩
  · split
    · exact ⟨2 * (j / 40), by omega, by rw [show (2 : Int32) = nI 2 from rfl, pk_mul]⟩
    · split
      · split
        · exact ⟨0, by omega, rfl⟩
        · rename_i q
          have : 0 < j / 40 := by
            rcases Nat.eq_zero_or_pos (j / 40) with z | z
            · rw [z] at q; exact absurd (show nI 0 ≤ 0 by decide) q
            · exact z
          exact ⟨2 * (j / 40) - 1, by omega, by rw [show (2 : Int32) = nI 2 from rfl, show (1 : Int32) = nI 1 from rfl, pk_mul, pk_sub (by omega)]⟩
      · split
        · exact ⟨0, by omega, rfl⟩
        · exact ⟨j / 40, by omega, rfl⟩
/-- which places a slip covers, by numbers -/
theorem sp_gs_cov {s : Nat → Int32} (h : sp_gs s) : ∃ a b p r, a ≤ p ∧ p ≤ b ∧ b ≤ 15 ∧ sp_lo s = nI a ∧ sp_hi s = nI b ∧ s 1 = nI p ∧ sp_rea s = nI r ∧ r ≤ 8 ∧ a = (if s 4 = 2 then p - r else p) ∧ b = (if s 4 = 1 then min 15 (p + r) else p) := by
  obtain ⟨r, hr, er⟩ := sp_gs_rea h
  obtain ⟨p, hp, ep, hz⟩ := wj_nat h.2.1.1
  have hp15 : p ≤ 15 := by have := h.2.1.2; omega
  have e1 : sp_lo s = nI (if s 4 = 2 then p - r else p) := by
    unfold sp_lo
    rw [ep, er]
    split
    · by_cases q : r < p
      · rw [pk_sub (by omega), if_pos (by rw [show (0 : Int32) = nI 0 from rfl]; exact nI_lt (by omega) (by omega))]
      · rw [if_neg, show p - r = 0 by omega]
        · rfl
        · rw [Int32.lt_iff_toInt_lt, pk_sub_toInt (by omega) (by omega), Int32.toInt_zero]; omega
    · rfl
  have e2 : sp_hi s = nI (if s 4 = 1 then min 15 (p + r) else p) := by
    unfold sp_hi
    rw [ep, er]
    split
    · rw [nI_add]
      show (if nI (p + r) < nI 15 then nI (p + r) else nI 15) = nI (min 15 (p + r))
      by_cases q : p + r < 15
      · rw [if_pos (nI_lt (b := 15) q (by decide)), show min 15 (p + r) = p + r by omega]
      · rw [if_neg (nI_nlt (b := 15) (by omega) (by omega)), show min 15 (p + r) = 15 by omega]
    · rfl
  refine ⟨_, _, p, r, ?_, ?_, ?_, e1, e2, ep, er, hr, rfl, rfl⟩
  · split <;> omega
  · split <;> omega
  · split <;> omega
/-- the places from a to b, as a set -/
def sp_cv (a b : Nat) : Int32 := ((2 : Int32) <<< (nI b &&& 31)) - ((1 : Int32) <<< (nI a &&& 31))
theorem sp_cv_bit : ∀ a, a < 16 → ∀ b, b < 16 → a ≤ b → ∀ p, p < 16 → (((sp_cv a b) >>> (nI p &&& 31)) &&& 1 = 1 ↔ a ≤ p ∧ p ≤ b) := by decide +kernel
theorem sp_cv_0 : ∀ a, a < 16 → ((1 : Int32) <<< (nI a &&& 31)) = sp_cv a a := by decide +kernel
theorem sp_cv_s : ∀ a, a < 16 → ∀ b, b < 15 → a ≤ b → sp_cv a b ||| ((1 : Int32) <<< (nI (b + 1) &&& 31)) = sp_cv a (b + 1) := by decide +kernel
theorem sp_cov_cv {s : Nat → Int32} {a b : Nat} (h1 : sp_lo s = nI a) (h2 : sp_hi s = nI b) : sp_cov s = sp_cv a b := by rw [sp_cov, h1, h2, sp_cv]
/-- a slip covers a place: two ways to say it -/
theorem sp_isc_cov {s : Nat → Int32} (h : sp_gs s) {p : Nat} (hp : p < 16) : sp_hur (sp_cov s) (nI p) = sp_isc s (nI p) := by
  obtain ⟨a, b, q, r, h1, h2, h3, e1, e2, e3, e4, h5, h6, h7⟩ := sp_gs_cov h
  rw [sp_cov_cv e1 e2, sp_hur, sp_isc, e3, e4]
  rw [decide_eq_decide]
  rw [sp_cv_bit a (by omega) b (by omega) (by omega) p hp]
  have hlt : ∀ x y : Nat, x < 100 → y < 100 → (nI x < nI y ↔ x < y) := fun x y hx hy => nI_ltI (by omega) (by omega)
  have heq : (nI p = nI q) ↔ p = q := nI_eq (by omega) (by omega)
  have hs : ∀ x y : Nat, x < 100 → y < 100 → (nI x - nI y ≤ nI r ↔ (x : Int) - y ≤ r) := fun x y hx hy => by
    rw [Int32.le_iff_toInt_le, pk_sub_toInt (by omega) (by omega), nI_toInt (by omega)]
  rw [heq, hlt q p (by omega) (by omega), hlt p q (by omega) (by omega), hs p q (by omega) (by omega), hs q p (by omega) (by omega)]
  by_cases c1 : s 4 = 1
  · have c2 : ¬ s 4 = 2 := by rw [c1]; decide
    rw [if_neg c2] at h6
    rw [if_pos c1] at h7
    simp only [c1, true_and, show ¬ (1 : Int32) = 2 by decide, false_and, or_false]
    omega
  · by_cases c2 : s 4 = 2
    · rw [if_pos c2] at h6
      rw [if_neg c1] at h7
      simp only [c2, true_and, show ¬ (2 : Int32) = 1 by decide, false_and, false_or]
      omega
    · rw [if_neg c2] at h6
      rw [if_neg c1] at h7
      simp only [c1, c2, false_and, or_false]
      omega
set_option maxRecDepth 100000 in
set_option maxHeartbeats 4000000 in
theorem c_X5_within (l : Launch) (V : wj_V) {σ : wj_St} {a b c : Int32} : wj_M l V yX5_within cX5_within 3 (some .boolean) 0 0 [.int a, .int b, .int c] σ (wj_I V (if b ≤ a ∧ a ≤ c then 1 else 0) σ) := by
  refine wj_ofZ (own := RX5) [some (.int a), some (.int b), some (.int c)] (by decide) rfl rfl (Nat.le_of_ble_eq_true rfl) (fun X C hR => ?_)
  refine wj_iload_n C 0 dX5_within_0 rfl rfl ?_
  refine wj_iload_n C 1 dX5_within_1 rfl rfl ?_
  refine wj_icmp_lt C 14 dX5_within_2 (by decide) (fun h2 => ?_) (fun h2 => ?_)
  · refine wj_iconst (v := 0) C dX5_within_14 (by decide) ?_
    exact hR _ _ _ _ _ dX5_within_15 ⟨by decide +kernel, (by simp only [Int32.le_iff_toInt_le, Int32.lt_iff_toInt_lt] at *; split <;> first | rfl | omega), rfl⟩ wj_rfl
  · refine wj_iload_n C 0 dX5_within_5 rfl rfl ?_
    refine wj_iload_n C 2 dX5_within_6 rfl rfl ?_
    refine wj_icmp_gt C 14 dX5_within_7 (by decide) (fun h7 => ?_) (fun h7 => ?_)
    · refine wj_iconst (v := 0) C dX5_within_14 (by decide) ?_
      exact hR _ _ _ _ _ dX5_within_15 ⟨by decide +kernel, (by simp only [Int32.le_iff_toInt_le, Int32.lt_iff_toInt_lt] at *; split <;> first | rfl | omega), rfl⟩ wj_rfl
    · refine wj_iconst (v := 1) C dX5_within_10 (by decide) ?_
      refine wj_goto C 15 dX5_within_11 (by decide) ?_
      exact hR _ _ _ _ _ dX5_within_15 ⟨by decide +kernel, (by simp only [Int32.le_iff_toInt_le, Int32.lt_iff_toInt_lt] at *; split <;> first | rfl | omega), rfl⟩ wj_rfl
set_option maxRecDepth 100000 in
set_option maxHeartbeats 4000000 in
theorem c_X5_hasBit (l : Launch) (V : wj_V) {σ : wj_St} {a b : Int32} : wj_M l V yX5_hasBit cX5_hasBit 2 (some .boolean) 0 0 [.int a, .int b] σ (wj_I V (if sp_hur a b = true then 1 else 0) σ) := by
  refine wj_ofZ (own := RX5) [some (.int a), some (.int b)] (by decide) rfl rfl (Nat.le_of_ble_eq_true rfl) (fun X C hR => ?_)
  refine wj_iload_n C 0 dX5_hasBit_0 rfl rfl ?_
  refine wj_iload_n C 1 dX5_hasBit_1 rfl rfl ?_
  refine wj_ishr C dX5_hasBit_2 ?_
  refine wj_iconst (v := 1) C dX5_hasBit_3 (by decide) ?_
  refine wj_iand C dX5_hasBit_4 ?_
  refine wj_iconst (v := 1) C dX5_hasBit_5 (by decide) ?_
  refine wj_icmp_ne C 13 dX5_hasBit_6 (by decide) (fun h6 => ?_) (fun h6 => ?_)
  · refine wj_iconst (v := 0) C dX5_hasBit_13 (by decide) ?_
    exact hR _ _ _ _ _ dX5_hasBit_14 ⟨by decide +kernel, (by simp_all [sp_hur]), rfl⟩ wj_rfl
  · refine wj_iconst (v := 1) C dX5_hasBit_9 (by decide) ?_
    refine wj_goto C 14 dX5_hasBit_10 (by decide) ?_
    exact hR _ _ _ _ _ dX5_hasBit_14 ⟨by decide +kernel, (by simp_all [sp_hur]), rfl⟩ wj_rfl
set_option maxRecDepth 100000 in
set_option maxHeartbeats 4000000 in
theorem c_X5_isPlace (l : Launch) (V : wj_V) {σ : wj_St} {a : Int32} : wj_M l V yX5_isPlace cX5_isPlace 1 (some .boolean) 1 22 [.int a] σ (wj_I V (if 0 ≤ a ∧ a ≤ 15 then 1 else 0) σ) := by
  refine wj_ofZ (own := RX5) [some (.int a)] (by decide) rfl rfl (Nat.le_of_ble_eq_true rfl) (fun X C hR => ?_)
  refine wj_iload_n C 0 dX5_isPlace_0 rfl rfl ?_
  refine wj_iconst (v := 0) C dX5_isPlace_1 (by decide) ?_
  refine wj_bipush (v := 15) C dX5_isPlace_2 (by decide) ?_
  refine wj_cif C (wj_rS C dX5_isPlace_4 km_X5_within kl_X5_70 (c_X5_within l V) rfl rfl (Nat.le_of_ble_eq_true rfl) (by decide)) ?_
  exact hR _ _ _ _ _ dX5_isPlace_7 ⟨wj_nzi, rfl, rfl⟩ wj_rfl
set_option maxRecDepth 100000 in
set_option maxHeartbeats 4000000 in
theorem c_X5_isLeaning (l : Launch) (V : wj_V) {σ : wj_St} {a : Int32} : wj_M l V yX5_isLeaning cX5_isLeaning 1 (some .boolean) 1 22 [.int a] σ (wj_I V (if 0 ≤ a ∧ a ≤ 5 then 1 else 0) σ) := by
  refine wj_ofZ (own := RX5) [some (.int a)] (by decide) rfl rfl (Nat.le_of_ble_eq_true rfl) (fun X C hR => ?_)
  refine wj_iload_n C 0 dX5_isLeaning_0 rfl rfl ?_
  refine wj_iconst (v := 0) C dX5_isLeaning_1 (by decide) ?_
  refine wj_iconst (v := 5) C dX5_isLeaning_2 (by decide) ?_
  refine wj_cif C (wj_rS C dX5_isLeaning_3 km_X5_within kl_X5_70 (c_X5_within l V) rfl rfl (Nat.le_of_ble_eq_true rfl) (by decide)) ?_
  exact hR _ _ _ _ _ dX5_isLeaning_6 ⟨wj_nzi, rfl, rfl⟩ wj_rfl
set_option maxRecDepth 100000 in
set_option maxHeartbeats 4000000 in
theorem c_X5_isKind (l : Launch) (V : wj_V) {σ : wj_St} {a : Int32} : wj_M l V yX5_isKind cX5_isKind 1 (some .boolean) 1 22 [.int a] σ (wj_I V (if 0 ≤ a ∧ a ≤ 6 then 1 else 0) σ) := by
  refine wj_ofZ (own := RX5) [some (.int a)] (by decide) rfl rfl (Nat.le_of_ble_eq_true rfl) (fun X C hR => ?_)
  refine wj_iload_n C 0 dX5_isKind_0 rfl rfl ?_
  refine wj_iconst (v := 0) C dX5_isKind_1 (by decide) ?_
  refine wj_bipush (v := 6) C dX5_isKind_2 (by decide) ?_
  refine wj_cif C (wj_rS C dX5_isKind_4 km_X5_within kl_X5_70 (c_X5_within l V) rfl rfl (Nat.le_of_ble_eq_true rfl) (by decide)) ?_
  exact hR _ _ _ _ _ dX5_isKind_7 ⟨wj_nzi, rfl, rfl⟩ wj_rfl
set_option maxRecDepth 100000 in
set_option maxHeartbeats 4000000 in
theorem c_X5_areWords (l : Launch) (V : wj_V) {σ : wj_St} {a : Int32} : wj_M l V yX5_areWords cX5_areWords 1 (some .boolean) 1 22 [.int a] σ (wj_I V (if 1 ≤ a ∧ a ≤ 12 then 1 else 0) σ) := by
  refine wj_ofZ (own := RX5) [some (.int a)] (by decide) rfl rfl (Nat.le_of_ble_eq_true rfl) (fun X C hR => ?_)
  refine wj_iload_n C 0 dX5_areWords_0 rfl rfl ?_
  refine wj_iconst (v := 1) C dX5_areWords_1 (by decide) ?_
  refine wj_bipush (v := 12) C dX5_areWords_2 (by decide) ?_
  refine wj_cif C (wj_rS C dX5_areWords_4 km_X5_within kl_X5_70 (c_X5_within l V) rfl rfl (Nat.le_of_ble_eq_true rfl) (by decide)) ?_
  exact hR _ _ _ _ _ dX5_areWords_7 ⟨wj_nzi, rfl, rfl⟩ wj_rfl
set_option maxRecDepth 100000 in
set_option maxHeartbeats 4000000 in
theorem c_X5_isThought (l : Launch) (V : wj_V) {σ : wj_St} {a : Int32} : wj_M l V yX5_isThought cX5_isThought 1 (some .boolean) 1 22 [.int a] σ (wj_I V (if 0 ≤ a ∧ a ≤ 60 then 1 else 0) σ) := by
  refine wj_ofZ (own := RX5) [some (.int a)] (by decide) rfl rfl (Nat.le_of_ble_eq_true rfl) (fun X C hR => ?_)
  refine wj_iload_n C 0 dX5_isThought_0 rfl rfl ?_
  refine wj_iconst (v := 0) C dX5_isThought_1 (by decide) ?_
  refine wj_bipush (v := 60) C dX5_isThought_2 (by decide) ?_
  refine wj_cif C (wj_rS C dX5_isThought_4 km_X5_within kl_X5_70 (c_X5_within l V) rfl rfl (Nat.le_of_ble_eq_true rfl) (by decide)) ?_
  exact hR _ _ _ _ _ dX5_isThought_7 ⟨wj_nzi, rfl, rfl⟩ wj_rfl
set_option maxRecDepth 100000 in
set_option maxHeartbeats 4000000 in
theorem c_X5_isSpot (l : Launch) (V : wj_V) {σ : wj_St} {a : Int32} : wj_M l V yX5_isSpot cX5_isSpot 1 (some .boolean) 1 22 [.int a] σ (wj_I V (if 0 ≤ a ∧ a ≤ 9 then 1 else 0) σ) := by
  refine wj_ofZ (own := RX5) [some (.int a)] (by decide) rfl rfl (Nat.le_of_ble_eq_true rfl) (fun X C hR => ?_)
  refine wj_iload_n C 0 dX5_isSpot_0 rfl rfl ?_
  refine wj_iconst (v := 0) C dX5_isSpot_1 (by decide) ?_
  refine wj_bipush (v := 9) C dX5_isSpot_2 (by decide) ?_
  refine wj_cif C (wj_rS C dX5_isSpot_4 km_X5_within kl_X5_70 (c_X5_within l V) rfl rfl (Nat.le_of_ble_eq_true rfl) (by decide)) ?_
  exact hR _ _ _ _ _ dX5_isSpot_7 ⟨wj_nzi, rfl, rfl⟩ wj_rfl
set_option maxRecDepth 100000 in
set_option maxHeartbeats 4000000 in
theorem c_X5_isSheet (l : Launch) (V : wj_V) {σ : wj_St} {a : Int32} : wj_M l V yX5_isSheet cX5_isSheet 1 (some .boolean) 1 22 [.int a] σ (wj_I V (if 0 ≤ a ∧ a ≤ 3 then 1 else 0) σ) := by
  refine wj_ofZ (own := RX5) [some (.int a)] (by decide) rfl rfl (Nat.le_of_ble_eq_true rfl) (fun X C hR => ?_)
  refine wj_iload_n C 0 dX5_isSheet_0 rfl rfl ?_
  refine wj_iconst (v := 0) C dX5_isSheet_1 (by decide) ?_
  refine wj_iconst (v := 3) C dX5_isSheet_2 (by decide) ?_
  refine wj_cif C (wj_rS C dX5_isSheet_3 km_X5_within kl_X5_70 (c_X5_within l V) rfl rfl (Nat.le_of_ble_eq_true rfl) (by decide)) ?_
  exact hR _ _ _ _ _ dX5_isSheet_6 ⟨wj_nzi, rfl, rfl⟩ wj_rfl
set_option maxRecDepth 100000 in
set_option maxHeartbeats 4000000 in
theorem c_X5_slipAt (l : Launch) (V : wj_V) {σ : wj_St} {i f : Nat} : wj_M l V yX5_slipAt cX5_slipAt 2 (some .int) 0 0 [.int (nI i), .int (nI f)] σ (wj_I V (nI (21 + 7 * i + f)) σ) := by
  refine wj_ofI (own := RX5) [some (.int (nI i)), some (.int (nI f))] (by decide) rfl rfl (Nat.le_of_ble_eq_true rfl) (fun X C hR => ?_)
  refine wj_bipush (v := 21) C dX5_slipAt_0 (by decide) ?_
  refine wj_bipush (v := 7) C dX5_slipAt_2 (by decide) ?_
  refine wj_iload_n C 0 dX5_slipAt_4 rfl rfl ?_
  refine wj_imul C dX5_slipAt_5 ?_
  refine wj_iadd C dX5_slipAt_6 ?_
  refine wj_iload_n C 1 dX5_slipAt_7 rfl rfl ?_
  refine wj_iadd C dX5_slipAt_8 ?_
  exact hR _ _ _ _ _ dX5_slipAt_9 ⟨sp_at i f, rfl⟩ wj_rfl
set_option maxRecDepth 100000 in
set_option maxHeartbeats 4000000 in
theorem c_X5_slipIs (l : Launch) (V : wj_V) {σ : wj_St} {A : sp_L} {i : Nat} {f : Nat} (hi : i < 8) (hf : f < 7) : wj_M l V yX5_slipIs cX5_slipIs 3 (some .int) 1 21 [.ref (V.2.2.1 48), .int (nI i), .int (nI f)] (sp_mq σ A) (wj_I V (sp_sl A i f) (sp_mq σ A)) := by
  refine wj_ofI (own := RX5) [some (.ref (V.2.2.1 48)), some (.int (nI i)), some (.int (nI f))] (by decide) rfl rfl (Nat.le_of_ble_eq_true rfl) (fun X C hR => ?_)
  refine wj_aload_n C 0 dX5_slipIs_0 rfl rfl ?_
  refine wg_X5_9 C dX5_slipIs_1 ?_
  refine wj_iload_n C 1 dX5_slipIs_4 rfl rfl ?_
  refine wj_iload_n C 2 dX5_slipIs_5 rfl rfl ?_
  refine wj_cif C (wj_rS C dX5_slipIs_6 km_X5_slipAt kl_X5_79 (c_X5_slipAt l V) rfl rfl (Nat.le_of_ble_eq_true rfl) (by decide)) ?_
  refine wj_ialdN C dX5_slipIs_9 ar_now ⟨by omega, by decide⟩ ?_
  rw [sp_mq_49, sp_mr_s _ _ hi hf]
  exact hR _ _ _ _ _ dX5_slipIs_10 ⟨rfl, rfl⟩ wj_rfl
theorem wj_le0 {x : Int32} (h0 : 0 ≤ x.toInt) (h : x ≤ 0) : x = 0 := by
  rw [Int32.le_iff_toInt_le, Int32.toInt_zero] at h
  exact Int32.toInt_inj.mp (by rw [Int32.toInt_zero]; omega)
theorem wj_nle0 {x : Int32} (h : ¬ x ≤ 0) : ¬ x = 0 := fun e => h (by rw [e]; decide)
theorem wj_top {l : Launch} {V : wj_V} {X : wj_X} {pc : Nat} {lv : List (Option Value)} {st : List Value} {σ : wj_St} {x y : Int32} (h : x = y) (k : wj_J l V X pc lv (.int y :: st) σ) : wj_J l V X pc lv (.int x :: st) σ := h ▸ k
theorem sp_g16 (x : Int32) : (16 : Int32) - x = 12 - x + 4 := by
  rw [Int32.sub_eq_add_neg, Int32.sub_eq_add_neg, Int32.add_assoc, Int32.add_comm (-x) 4, ← Int32.add_assoc]; rfl
theorem sp_elg {s : Nat → Int32} (h : sp_gs s) (h4 : s 0 = 4) : (if (0 : Int32) < 2 * (s 2 / 40) - 1 then 2 * (s 2 / 40) - 1 else 0) = sp_rea s := by
  obtain ⟨j, hj, e, hz⟩ := wj_nat h.2.2.1.1
  have e2 : s 2 / 40 = nI (j / 40) := by rw [e, show (40 : Int32) = nI 40 from rfl, pk_div hj (by decide) (by decide)]
  have hb : j / 40 ≤ 4 := by have := h.2.2.1.2; omega
  simp only [sp_rea, h4, e2]
  generalize j / 40 = t at hb
  have : ∀ t, t ≤ 4 → (if (0 : Int32) < 2 * nI t - 1 then 2 * nI t - 1 else 0) = (if (4 : Int32) = 1 ∨ (4 : Int32) = 6 then (if s 5 ≤ 4 then nI t + 1 else nI t) else if (4 : Int32) = 3 then 2 * nI t else if (4 : Int32) = 4 then (if nI t ≤ 0 then 0 else 2 * nI t - 1) else if (4 : Int32) = 5 then 0 else nI t) := by
    intro t ht
    have k : ∀ t, t < 5 → (if (0 : Int32) < 2 * nI t - 1 then 2 * nI t - 1 else 0) = (if nI t ≤ 0 then 0 else 2 * nI t - 1) := by decide +kernel
    have k3 := k t (by omega)
    rw [k3]
    simp
  exact this t hb
/-- the places a to a + m - 1, one after the other -/
def sp_bk (a : Nat) : Nat → Int32
  | 0 => 0
  | m + 1 => sp_bk a m ||| ((1 : Int32) <<< (nI (a + m) &&& 31))
theorem sp_bk_k : ∀ a, a < 16 → ∀ b, b < 16 → a ≤ b → sp_bk a (b + 1 - a) = sp_cv a b := by decide +kernel
theorem sp_bk_all {a b : Nat} (h1 : a ≤ b) (h2 : b ≤ 15) : sp_bk a (b + 1 - a) = sp_cv a b := sp_bk_k a (by omega) b (by omega) h1
set_option maxRecDepth 100000 in
set_option maxHeartbeats 4000000 in
theorem c_X5_isLaid (l : Launch) (V : wj_V) {σ : wj_St} {A : sp_L} {i : Nat} (hi : i < 8) (hg : sp_gs (sp_sl A i)) : wj_M l V yX5_isLaid cX5_isLaid 2 (some .boolean) 2 43 [.ref (V.2.2.1 48), .int (nI i)] (sp_mq σ A) (wj_I V (if ¬ sp_sl A i 4 = 0 then 1 else 0) (sp_mq σ A)) := by
  refine wj_ofZ (own := RX5) [some (.ref (V.2.2.1 48)), some (.int (nI i))] (by decide) rfl rfl (Nat.le_of_ble_eq_true rfl) (fun X C hR => ?_)
  refine wj_aload_n C 0 dX5_isLaid_0 rfl rfl ?_
  refine wj_iload_n C 1 dX5_isLaid_1 rfl rfl ?_
  refine wj_iconst (v := 4) C dX5_isLaid_2 (by decide) ?_
  refine wj_cif C (wj_rV C dX5_isLaid_3 km_X5_slipIs kl_X5_82 is_X5 rfl rfl (c_X5_slipIs (f := 4) l V hi (by decide)) rfl rfl (Nat.le_of_ble_eq_true rfl) (by decide)) ?_
  refine wj_if_le C 13 dX5_isLaid_6 (by decide) (fun h6 => ?_) (fun h6 => ?_)
  · have e6 := wj_le0 hg.2.2.2.2.1.1 h6
    refine wj_iconst (v := 0) C dX5_isLaid_13 (by decide) ?_
    exact hR _ _ _ _ _ dX5_isLaid_14 ⟨by decide +kernel, (by simp [e6]), rfl⟩ wj_rfl
  · have e6 := wj_nle0 h6
    refine wj_iconst (v := 1) C dX5_isLaid_9 (by decide) ?_
    refine wj_goto C 14 dX5_isLaid_10 (by decide) ?_
    exact hR _ _ _ _ _ dX5_isLaid_14 ⟨by decide +kernel, (by simp [e6]), rfl⟩ wj_rfl
set_option maxRecDepth 100000 in
set_option maxHeartbeats 4000000 in
theorem c_X5_reaches (l : Launch) (V : wj_V) {σ : wj_St} {A : sp_L} {i : Nat} (hi : i < 8) (hg : sp_gs (sp_sl A i)) : wj_M l V yX5_reaches cX5_reaches 3 (some .int) 2 43 [.ref (V.2.2.1 48), .int (nI i)] (sp_mq σ A) (wj_I V (sp_rea (sp_sl A i)) (sp_mq σ A)) := by
  refine wj_ofI (own := RX5) [some (.ref (V.2.2.1 48)), some (.int (nI i)), none] (by decide) rfl rfl (Nat.le_of_ble_eq_true rfl) (fun X C hR => ?_)
  refine wj_aload_n C 0 dX5_reaches_0 rfl rfl ?_
  refine wj_iload_n C 1 dX5_reaches_1 rfl rfl ?_
  refine wj_iconst (v := 2) C dX5_reaches_2 (by decide) ?_
  refine wj_cif C (wj_rV C dX5_reaches_3 km_X5_slipIs kl_X5_82 is_X5 rfl rfl (c_X5_slipIs (f := 2) l V hi (by decide)) rfl rfl (Nat.le_of_ble_eq_true rfl) (by decide)) ?_
  refine wj_bipush (v := 40) C dX5_reaches_6 (by decide) ?_
  refine wj_idiv C dX5_reaches_8 (by decide) ?_
  refine wj_istore_n C 2 dX5_reaches_9 rfl (by decide) rfl ?_
  dsimp only [List.set]
  refine wj_aload_n C 0 dX5_reaches_10 rfl rfl ?_
  refine wj_iload_n C 1 dX5_reaches_11 rfl rfl ?_
  refine wj_iconst (v := 0) C dX5_reaches_12 (by decide) ?_
  refine wj_cif C (wj_rV C dX5_reaches_13 km_X5_slipIs kl_X5_82 is_X5 rfl rfl (c_X5_slipIs (f := 0) l V hi (by decide)) rfl rfl (Nat.le_of_ble_eq_true rfl) (by decide)) ?_
  refine wj_swc C (1) (40) 56 dX5_reaches_16 (by decide) (by decide) (by decide) (by decide) (fun h16_1 => ?_) (fun h16_1 => ?_)
  · refine wj_aload_n C 0 dX5_reaches_56 rfl rfl ?_
    refine wj_iload_n C 1 dX5_reaches_57 rfl rfl ?_
    refine wj_iconst (v := 5) C dX5_reaches_58 (by decide) ?_
    refine wj_cif C (wj_rV C dX5_reaches_59 km_X5_slipIs kl_X5_82 is_X5 rfl rfl (c_X5_slipIs (f := 5) l V hi (by decide)) rfl rfl (Nat.le_of_ble_eq_true rfl) (by decide)) ?_
    refine wj_iconst (v := 4) C dX5_reaches_62 (by decide) ?_
    refine wj_icmp_gt C 72 dX5_reaches_63 (by decide) (fun h63 => ?_) (fun h63 => ?_)
    · refine wj_iload_n C 2 dX5_reaches_72 rfl rfl ?_
      exact hR _ _ _ _ _ dX5_reaches_73 ⟨(by simp [sp_rea, *]), rfl⟩ wj_rfl
    · refine wj_iload_n C 2 dX5_reaches_66 rfl rfl ?_
      refine wj_iconst (v := 1) C dX5_reaches_67 (by decide) ?_
      refine wj_iadd C dX5_reaches_68 ?_
      refine wj_goto C 73 dX5_reaches_69 (by decide) ?_
      exact hR _ _ _ _ _ dX5_reaches_73 ⟨(by simp [sp_rea, *]), rfl⟩ wj_rfl
  refine wj_swc C (2) (74) 90 dX5_reaches_16 (by decide) (by decide) (by decide) (by decide) (fun h16_2 => ?_) (fun h16_2 => ?_)
  · refine wj_iload_n C 2 dX5_reaches_90 rfl rfl ?_
    exact hR _ _ _ _ _ dX5_reaches_91 ⟨(by simp [sp_rea, *]), rfl⟩ wj_rfl
  refine wj_swc C (3) (58) 74 dX5_reaches_16 (by decide) (by decide) (by decide) (by decide) (fun h16_3 => ?_) (fun h16_3 => ?_)
  · refine wj_iconst (v := 2) C dX5_reaches_74 (by decide) ?_
    refine wj_iload_n C 2 dX5_reaches_75 rfl rfl ?_
    refine wj_imul C dX5_reaches_76 ?_
    exact hR _ _ _ _ _ dX5_reaches_77 ⟨(by simp [sp_rea, *]), rfl⟩ wj_rfl
  refine wj_swc C (4) (62) 78 dX5_reaches_16 (by decide) (by decide) (by decide) (by decide) (fun h16_4 => ?_) (fun h16_4 => ?_)
  · refine wj_iconst (v := 0) C dX5_reaches_78 (by decide) ?_
    refine wj_iconst (v := 2) C dX5_reaches_79 (by decide) ?_
    refine wj_iload_n C 2 dX5_reaches_80 rfl rfl ?_
    refine wj_imul C dX5_reaches_81 ?_
    refine wj_iconst (v := 1) C dX5_reaches_82 (by decide) ?_
    refine wj_isub C dX5_reaches_83 ?_
    refine wj_max C dX5_reaches_84 kx_X5_85 (by decide) (Nat.le_of_ble_eq_true rfl) ?_
    exact hR _ _ _ _ _ dX5_reaches_87 ⟨sp_elg hg h16_4, rfl⟩ wj_rfl
  refine wj_swc C (5) (72) 88 dX5_reaches_16 (by decide) (by decide) (by decide) (by decide) (fun h16_5 => ?_) (fun h16_5 => ?_)
  · refine wj_iconst (v := 0) C dX5_reaches_88 (by decide) ?_
    exact hR _ _ _ _ _ dX5_reaches_89 ⟨(by simp [sp_rea, *]), rfl⟩ wj_rfl
  refine wj_swc C (6) (40) 56 dX5_reaches_16 (by decide) (by decide) (by decide) (by decide) (fun h16_6 => ?_) (fun h16_6 => ?_)
  · refine wj_aload_n C 0 dX5_reaches_56 rfl rfl ?_
    refine wj_iload_n C 1 dX5_reaches_57 rfl rfl ?_
    refine wj_iconst (v := 5) C dX5_reaches_58 (by decide) ?_
    refine wj_cif C (wj_rV C dX5_reaches_59 km_X5_slipIs kl_X5_82 is_X5 rfl rfl (c_X5_slipIs (f := 5) l V hi (by decide)) rfl rfl (Nat.le_of_ble_eq_true rfl) (by decide)) ?_
    refine wj_iconst (v := 4) C dX5_reaches_62 (by decide) ?_
    refine wj_icmp_gt C 72 dX5_reaches_63 (by decide) (fun h63 => ?_) (fun h63 => ?_)
    · refine wj_iload_n C 2 dX5_reaches_72 rfl rfl ?_
      exact hR _ _ _ _ _ dX5_reaches_73 ⟨(by simp [sp_rea, *]), rfl⟩ wj_rfl
    · refine wj_iload_n C 2 dX5_reaches_66 rfl rfl ?_
      refine wj_iconst (v := 1) C dX5_reaches_67 (by decide) ?_
      refine wj_iadd C dX5_reaches_68 ?_
      refine wj_goto C 73 dX5_reaches_69 (by decide) ?_
      exact hR _ _ _ _ _ dX5_reaches_73 ⟨(by simp [sp_rea, *]), rfl⟩ wj_rfl
  refine wj_tabOut C 90 dX5_reaches_16 (by have q0 := lv_neT h16_1 (a := 1) (by decide); have q1 := lv_neT h16_2 (a := 2) (by decide); have q2 := lv_neT h16_3 (a := 3) (by decide); have q3 := lv_neT h16_4 (a := 4) (by decide); have q4 := lv_neT h16_5 (a := 5) (by decide); have q5 := lv_neT h16_6 (a := 6) (by decide); omega) (by decide) ?_
  refine wj_iload_n C 2 dX5_reaches_90 rfl rfl ?_
  exact hR _ _ _ _ _ dX5_reaches_91 ⟨(by simp [sp_rea, *]), rfl⟩ wj_rfl
set_option maxRecDepth 100000 in
set_option maxHeartbeats 4000000 in
theorem c_X5_strongIs (l : Launch) (V : wj_V) {σ : wj_St} {A : sp_L} {i : Nat} (hi : i < 8) (hg : sp_gs (sp_sl A i)) : wj_M l V yX5_strongIs cX5_strongIs 5 (some .int) 3 64 [.ref (V.2.2.1 48), .int (nI i)] (sp_mq σ A) (wj_I V (sp_str (sp_sl A i) A.1) (sp_mq σ A)) := by
  refine wj_ofI (own := RX5) [some (.ref (V.2.2.1 48)), some (.int (nI i)), none, none, none] (by decide) rfl rfl (Nat.le_of_ble_eq_true rfl) (fun X C hR => ?_)
  refine wj_aload_n C 0 dX5_strongIs_0 rfl rfl ?_
  refine wj_iload_n C 1 dX5_strongIs_1 rfl rfl ?_
  refine wj_iconst (v := 3) C dX5_strongIs_2 (by decide) ?_
  refine wj_cif C (wj_rV C dX5_strongIs_3 km_X5_slipIs kl_X5_82 is_X5 rfl rfl (c_X5_slipIs (f := 3) l V hi (by decide)) rfl rfl (Nat.le_of_ble_eq_true rfl) (by decide)) ?_
  refine wj_istore_n C 2 dX5_strongIs_6 rfl (by decide) rfl ?_
  dsimp only [List.set]
  refine wj_iload_n C 2 dX5_strongIs_7 rfl rfl ?_
  refine wj_bipush (v := 12) C dX5_strongIs_8 (by decide) ?_
  refine wj_iadd C dX5_strongIs_10 ?_
  refine wj_aload_n C 0 dX5_strongIs_11 rfl rfl ?_
  refine wj_iload_n C 1 dX5_strongIs_12 rfl rfl ?_
  refine wj_iconst (v := 5) C dX5_strongIs_13 (by decide) ?_
  refine wj_cif C (wj_rV C dX5_strongIs_14 km_X5_slipIs kl_X5_82 is_X5 rfl rfl (c_X5_slipIs (f := 5) l V hi (by decide)) rfl rfl (Nat.le_of_ble_eq_true rfl) (by decide)) ?_
  refine wj_isub C dX5_strongIs_17 ?_
  refine wj_istore_n C 3 dX5_strongIs_18 rfl (by decide) rfl ?_
  dsimp only [List.set]
  refine wj_aload_n C 0 dX5_strongIs_19 rfl rfl ?_
  refine wj_iload_n C 1 dX5_strongIs_20 rfl rfl ?_
  refine wj_cif C (wj_rV C dX5_strongIs_21 km_X5_isLaid kl_X5_90 is_X5 rfl rfl (c_X5_isLaid l V hi hg) rfl rfl (Nat.le_of_ble_eq_true rfl) (by decide)) ?_
  refine wj_if_eq C 31 dX5_strongIs_24 (by decide) (fun h24 => ?_) (fun h24 => ?_)
  · replace h24 : sp_sl A i 4 = 0 := Classical.not_not.mp (wj_c0 h24)
    refine wj_iload_n C 2 dX5_strongIs_31 rfl rfl ?_
    refine wj_bipush (v := 10) C dX5_strongIs_32 (by decide) ?_
    refine wj_iadd C dX5_strongIs_34 ?_
    refine wj_istore C dX5_strongIs_35 (by decide) rfl ?_
    dsimp only [List.set]
    refine wj_aload_n C 0 dX5_strongIs_37 rfl rfl ?_
    refine wj_iload_n C 1 dX5_strongIs_38 rfl rfl ?_
    refine wj_iconst (v := 0) C dX5_strongIs_39 (by decide) ?_
    refine wj_cif C (wj_rV C dX5_strongIs_40 km_X5_slipIs kl_X5_82 is_X5 rfl rfl (c_X5_slipIs (f := 0) l V hi (by decide)) rfl rfl (Nat.le_of_ble_eq_true rfl) (by decide)) ?_
    refine wj_swc C (1) (37) 80 dX5_strongIs_43 (by decide) (by decide) (by decide) (by decide) (fun h43_1 => ?_) (fun h43_1 => ?_)
    · refine wj_iload_n C 3 dX5_strongIs_80 rfl rfl ?_
      exact hR _ _ _ _ _ dX5_strongIs_81 ⟨(by simp [sp_str, sp_pro, *]), rfl⟩ wj_rfl
    refine wj_swc C (2) (58) 101 dX5_strongIs_43 (by decide) (by decide) (by decide) (by decide) (fun h43_2 => ?_) (fun h43_2 => ?_)
    · refine wj_iload C dX5_strongIs_101 rfl ?_
      exact hR _ _ _ _ _ dX5_strongIs_103 ⟨(by simp [sp_str, sp_pro, *]), rfl⟩ wj_rfl
    refine wj_swc C (3) (58) 101 dX5_strongIs_43 (by decide) (by decide) (by decide) (by decide) (fun h43_3 => ?_) (fun h43_3 => ?_)
    · refine wj_iload C dX5_strongIs_101 rfl ?_
      exact hR _ _ _ _ _ dX5_strongIs_103 ⟨(by simp [sp_str, sp_pro, *]), rfl⟩ wj_rfl
    refine wj_swc C (4) (61) 104 dX5_strongIs_43 (by decide) (by decide) (by decide) (by decide) (fun h43_4 => ?_) (fun h43_4 => ?_)
    · refine wj_iload C dX5_strongIs_104 rfl ?_
      refine wj_aload_n C 0 dX5_strongIs_106 rfl rfl ?_
      refine wj_iload_n C 1 dX5_strongIs_107 rfl rfl ?_
      refine wj_iconst (v := 2) C dX5_strongIs_108 (by decide) ?_
      refine wj_cif C (wj_rV C dX5_strongIs_109 km_X5_slipIs kl_X5_82 is_X5 rfl rfl (c_X5_slipIs (f := 2) l V hi (by decide)) rfl rfl (Nat.le_of_ble_eq_true rfl) (by decide)) ?_
      refine wj_iconst (v := 5) C dX5_strongIs_112 (by decide) ?_
      refine wj_idiv C dX5_strongIs_113 (by decide) ?_
      refine wj_iadd C dX5_strongIs_114 ?_
      exact hR _ _ _ _ _ dX5_strongIs_115 ⟨(by simp [sp_str, sp_pro, *]), rfl⟩ wj_rfl
    refine wj_swc C (5) (73) 116 dX5_strongIs_43 (by decide) (by decide) (by decide) (by decide) (fun h43_5 => ?_) (fun h43_5 => ?_)
    · refine wj_iload_n C 2 dX5_strongIs_116 rfl rfl ?_
      refine wj_iconst (v := 2) C dX5_strongIs_117 (by decide) ?_
      refine wj_idiv C dX5_strongIs_118 (by decide) ?_
      exact hR _ _ _ _ _ dX5_strongIs_119 ⟨(by simp [sp_str, sp_pro, *]), rfl⟩ wj_rfl
    refine wj_swc C (6) (39) 82 dX5_strongIs_43 (by decide) (by decide) (by decide) (by decide) (fun h43_6 => ?_) (fun h43_6 => ?_)
    · refine wj_aload_n C 0 dX5_strongIs_82 rfl rfl ?_
      refine wg_X5_9 C dX5_strongIs_83 ?_
      refine wj_iconst (v := 0) C dX5_strongIs_86 (by decide) ?_
      refine wj_ialdN C dX5_strongIs_87 ar_now ⟨by decide, by decide⟩ ?_
      rw [sp_mq_49, sp_mr_0]
      refine wj_iconst (v := 5) C dX5_strongIs_88 (by decide) ?_
      refine wj_irem C dX5_strongIs_89 (by decide) ?_
      refine wj_if_ne C 99 dX5_strongIs_90 (by decide) (fun h90 => ?_) (fun h90 => ?_)
      · refine wj_iload_n C 3 dX5_strongIs_99 rfl rfl ?_
        exact hR _ _ _ _ _ dX5_strongIs_100 ⟨(by simp [sp_str, sp_pro, *]), rfl⟩ wj_rfl
      · refine wj_iload_n C 3 dX5_strongIs_93 rfl rfl ?_
        refine wj_iconst (v := 5) C dX5_strongIs_94 (by decide) ?_
        refine wj_iadd C dX5_strongIs_95 ?_
        refine wj_goto C 100 dX5_strongIs_96 (by decide) ?_
        exact hR _ _ _ _ _ dX5_strongIs_100 ⟨(by simp [sp_str, sp_pro, *]), rfl⟩ wj_rfl
    refine wj_tabOut C 120 dX5_strongIs_43 (by have q0 := lv_neT h43_1 (a := 1) (by decide); have q1 := lv_neT h43_2 (a := 2) (by decide); have q2 := lv_neT h43_3 (a := 3) (by decide); have q3 := lv_neT h43_4 (a := 4) (by decide); have q4 := lv_neT h43_5 (a := 5) (by decide); have q5 := lv_neT h43_6 (a := 6) (by decide); omega) (by decide) ?_
    refine wj_iload_n C 2 dX5_strongIs_120 rfl rfl ?_
    exact hR _ _ _ _ _ dX5_strongIs_121 ⟨(by simp [sp_str, sp_pro, *]), rfl⟩ wj_rfl
  · replace h24 := wj_c1 h24
    refine wj_iload_n C 2 dX5_strongIs_27 rfl rfl ?_
    refine wj_goto C 35 dX5_strongIs_28 (by decide) ?_
    refine wj_istore C dX5_strongIs_35 (by decide) rfl ?_
    dsimp only [List.set]
    refine wj_aload_n C 0 dX5_strongIs_37 rfl rfl ?_
    refine wj_iload_n C 1 dX5_strongIs_38 rfl rfl ?_
    refine wj_iconst (v := 0) C dX5_strongIs_39 (by decide) ?_
    refine wj_cif C (wj_rV C dX5_strongIs_40 km_X5_slipIs kl_X5_82 is_X5 rfl rfl (c_X5_slipIs (f := 0) l V hi (by decide)) rfl rfl (Nat.le_of_ble_eq_true rfl) (by decide)) ?_
    refine wj_swc C (1) (37) 80 dX5_strongIs_43 (by decide) (by decide) (by decide) (by decide) (fun h43_1 => ?_) (fun h43_1 => ?_)
    · refine wj_iload_n C 3 dX5_strongIs_80 rfl rfl ?_
      exact hR _ _ _ _ _ dX5_strongIs_81 ⟨(by simp [sp_str, sp_pro, *]), rfl⟩ wj_rfl
    refine wj_swc C (2) (58) 101 dX5_strongIs_43 (by decide) (by decide) (by decide) (by decide) (fun h43_2 => ?_) (fun h43_2 => ?_)
    · refine wj_iload C dX5_strongIs_101 rfl ?_
      exact hR _ _ _ _ _ dX5_strongIs_103 ⟨(by simp [sp_str, sp_pro, *]), rfl⟩ wj_rfl
    refine wj_swc C (3) (58) 101 dX5_strongIs_43 (by decide) (by decide) (by decide) (by decide) (fun h43_3 => ?_) (fun h43_3 => ?_)
    · refine wj_iload C dX5_strongIs_101 rfl ?_
      exact hR _ _ _ _ _ dX5_strongIs_103 ⟨(by simp [sp_str, sp_pro, *]), rfl⟩ wj_rfl
    refine wj_swc C (4) (61) 104 dX5_strongIs_43 (by decide) (by decide) (by decide) (by decide) (fun h43_4 => ?_) (fun h43_4 => ?_)
    · refine wj_iload C dX5_strongIs_104 rfl ?_
      refine wj_aload_n C 0 dX5_strongIs_106 rfl rfl ?_
      refine wj_iload_n C 1 dX5_strongIs_107 rfl rfl ?_
      refine wj_iconst (v := 2) C dX5_strongIs_108 (by decide) ?_
      refine wj_cif C (wj_rV C dX5_strongIs_109 km_X5_slipIs kl_X5_82 is_X5 rfl rfl (c_X5_slipIs (f := 2) l V hi (by decide)) rfl rfl (Nat.le_of_ble_eq_true rfl) (by decide)) ?_
      refine wj_iconst (v := 5) C dX5_strongIs_112 (by decide) ?_
      refine wj_idiv C dX5_strongIs_113 (by decide) ?_
      refine wj_iadd C dX5_strongIs_114 ?_
      exact hR _ _ _ _ _ dX5_strongIs_115 ⟨(by simp [sp_str, sp_pro, *]), rfl⟩ wj_rfl
    refine wj_swc C (5) (73) 116 dX5_strongIs_43 (by decide) (by decide) (by decide) (by decide) (fun h43_5 => ?_) (fun h43_5 => ?_)
    · refine wj_iload_n C 2 dX5_strongIs_116 rfl rfl ?_
      refine wj_iconst (v := 2) C dX5_strongIs_117 (by decide) ?_
      refine wj_idiv C dX5_strongIs_118 (by decide) ?_
      exact hR _ _ _ _ _ dX5_strongIs_119 ⟨(by simp [sp_str, sp_pro, *]), rfl⟩ wj_rfl
    refine wj_swc C (6) (39) 82 dX5_strongIs_43 (by decide) (by decide) (by decide) (by decide) (fun h43_6 => ?_) (fun h43_6 => ?_)
    · refine wj_aload_n C 0 dX5_strongIs_82 rfl rfl ?_
      refine wg_X5_9 C dX5_strongIs_83 ?_
      refine wj_iconst (v := 0) C dX5_strongIs_86 (by decide) ?_
      refine wj_ialdN C dX5_strongIs_87 ar_now ⟨by decide, by decide⟩ ?_
      rw [sp_mq_49, sp_mr_0]
      refine wj_iconst (v := 5) C dX5_strongIs_88 (by decide) ?_
      refine wj_irem C dX5_strongIs_89 (by decide) ?_
      refine wj_if_ne C 99 dX5_strongIs_90 (by decide) (fun h90 => ?_) (fun h90 => ?_)
      · refine wj_iload_n C 3 dX5_strongIs_99 rfl rfl ?_
        exact hR _ _ _ _ _ dX5_strongIs_100 ⟨(by simp [sp_str, sp_pro, *]), rfl⟩ wj_rfl
      · refine wj_iload_n C 3 dX5_strongIs_93 rfl rfl ?_
        refine wj_iconst (v := 5) C dX5_strongIs_94 (by decide) ?_
        refine wj_iadd C dX5_strongIs_95 ?_
        refine wj_goto C 100 dX5_strongIs_96 (by decide) ?_
        exact hR _ _ _ _ _ dX5_strongIs_100 ⟨(by simp [sp_str, sp_pro, *]), rfl⟩ wj_rfl
    refine wj_tabOut C 120 dX5_strongIs_43 (by have q0 := lv_neT h43_1 (a := 1) (by decide); have q1 := lv_neT h43_2 (a := 2) (by decide); have q2 := lv_neT h43_3 (a := 3) (by decide); have q3 := lv_neT h43_4 (a := 4) (by decide); have q4 := lv_neT h43_5 (a := 5) (by decide); have q5 := lv_neT h43_6 (a := 6) (by decide); omega) (by decide) ?_
    refine wj_iload_n C 2 dX5_strongIs_120 rfl rfl ?_
    exact hR _ _ _ _ _ dX5_strongIs_121 ⟨(by simp [sp_str, sp_pro, *]), rfl⟩ wj_rfl
set_option maxRecDepth 100000 in
set_option maxHeartbeats 4000000 in
theorem c_X5_grows (l : Launch) (V : wj_V) {σ : wj_St} {A : sp_L} {i : Nat} (hi : i < 8) (hg : sp_gs (sp_sl A i)) : wj_M l V yX5_grows cX5_grows 4 (some .int) 3 64 [.ref (V.2.2.1 48), .int (nI i)] (sp_mq σ A) (wj_I V (sp_gro (sp_sl A i)) (sp_mq σ A)) := by
  refine wj_ofI (own := RX5) [some (.ref (V.2.2.1 48)), some (.int (nI i)), none, none] (by decide) rfl rfl (Nat.le_of_ble_eq_true rfl) (fun X C hR => ?_)
  refine wj_aload_n C 0 dX5_grows_0 rfl rfl ?_
  refine wj_iload_n C 1 dX5_grows_1 rfl rfl ?_
  refine wj_iconst (v := 5) C dX5_grows_2 (by decide) ?_
  refine wj_cif C (wj_rV C dX5_grows_3 km_X5_slipIs kl_X5_82 is_X5 rfl rfl (c_X5_slipIs (f := 5) l V hi (by decide)) rfl rfl (Nat.le_of_ble_eq_true rfl) (by decide)) ?_
  refine wj_istore_n C 2 dX5_grows_6 rfl (by decide) rfl ?_
  dsimp only [List.set]
  refine wj_aload_n C 0 dX5_grows_7 rfl rfl ?_
  refine wj_iload_n C 1 dX5_grows_8 rfl rfl ?_
  refine wj_cif C (wj_rV C dX5_grows_9 km_X5_isLaid kl_X5_90 is_X5 rfl rfl (c_X5_isLaid l V hi hg) rfl rfl (Nat.le_of_ble_eq_true rfl) (by decide)) ?_
  refine wj_if_eq C 20 dX5_grows_12 (by decide) (fun h12 => ?_) (fun h12 => ?_)
  · replace h12 : sp_sl A i 4 = 0 := Classical.not_not.mp (wj_c0 h12)
    refine wj_bipush (v := 12) C dX5_grows_20 (by decide) ?_
    refine wj_istore_n C 3 dX5_grows_22 rfl (by decide) rfl ?_
    dsimp only [List.set]
    refine wj_aload_n C 0 dX5_grows_23 rfl rfl ?_
    refine wj_iload_n C 1 dX5_grows_24 rfl rfl ?_
    refine wj_iconst (v := 0) C dX5_grows_25 (by decide) ?_
    refine wj_cif C (wj_rV C dX5_grows_26 km_X5_slipIs kl_X5_82 is_X5 rfl rfl (c_X5_slipIs (f := 0) l V hi (by decide)) rfl rfl (Nat.le_of_ble_eq_true rfl) (by decide)) ?_
    refine wj_swc C (1) (39) 68 dX5_grows_29 (by decide) (by decide) (by decide) (by decide) (fun h29_1 => ?_) (fun h29_1 => ?_)
    · refine wj_bipush (v := 12) C dX5_grows_68 (by decide) ?_
      refine wj_iload_n C 2 dX5_grows_70 rfl rfl ?_
      refine wj_isub C dX5_grows_71 ?_
      exact hR _ _ _ _ _ dX5_grows_72 ⟨(by simp [sp_gro, sp_gpr, *]), rfl⟩ wj_rfl
    refine wj_swc C (2) (49) 78 dX5_grows_29 (by decide) (by decide) (by decide) (by decide) (fun h29_2 => ?_) (fun h29_2 => ?_)
    · refine wj_iload_n C 3 dX5_grows_78 rfl rfl ?_
      exact hR _ _ _ _ _ dX5_grows_79 ⟨(by simp [sp_gro, sp_gpr, *]), rfl⟩ wj_rfl
    refine wj_swc C (3) (51) 80 dX5_grows_29 (by decide) (by decide) (by decide) (by decide) (fun h29_3 => ?_) (fun h29_3 => ?_)
    · refine wj_iload_n C 3 dX5_grows_80 rfl rfl ?_
      refine wj_iload_n C 2 dX5_grows_81 rfl rfl ?_
      refine wj_iadd C dX5_grows_82 ?_
      exact hR _ _ _ _ _ dX5_grows_83 ⟨(by simp [sp_gro, sp_gpr, *]), rfl⟩ wj_rfl
    refine wj_swc C (4) (55) 84 dX5_grows_29 (by decide) (by decide) (by decide) (by decide) (fun h29_4 => ?_) (fun h29_4 => ?_)
    · refine wj_iload_n C 3 dX5_grows_84 rfl rfl ?_
      refine wj_iload_n C 2 dX5_grows_85 rfl rfl ?_
      refine wj_iadd C dX5_grows_86 ?_
      refine wj_iconst (v := 2) C dX5_grows_87 (by decide) ?_
      refine wj_idiv C dX5_grows_88 (by decide) ?_
      exact hR _ _ _ _ _ dX5_grows_89 ⟨(by simp [sp_gro, sp_gpr, *]), rfl⟩ wj_rfl
    refine wj_swc C (5) (61) 90 dX5_grows_29 (by decide) (by decide) (by decide) (by decide) (fun h29_5 => ?_) (fun h29_5 => ?_)
    · refine wj_iconst (v := 3) C dX5_grows_90 (by decide) ?_
      exact hR _ _ _ _ _ dX5_grows_91 ⟨(by simp [sp_gro, sp_gpr, *]), rfl⟩ wj_rfl
    refine wj_swc C (6) (44) 73 dX5_grows_29 (by decide) (by decide) (by decide) (by decide) (fun h29_6 => ?_) (fun h29_6 => ?_)
    · refine wj_bipush (v := 16) C dX5_grows_73 (by decide) ?_
      refine wj_iload_n C 2 dX5_grows_75 rfl rfl ?_
      refine wj_isub C dX5_grows_76 ?_
      exact hR _ _ _ _ _ dX5_grows_77 ⟨(by simp [sp_gro, *]; exact sp_g16 _), rfl⟩ wj_rfl
    refine wj_tabOut C 92 dX5_grows_29 (by have q0 := lv_neT h29_1 (a := 1) (by decide); have q1 := lv_neT h29_2 (a := 2) (by decide); have q2 := lv_neT h29_3 (a := 3) (by decide); have q3 := lv_neT h29_4 (a := 4) (by decide); have q4 := lv_neT h29_5 (a := 5) (by decide); have q5 := lv_neT h29_6 (a := 6) (by decide); omega) (by decide) ?_
    refine wj_bipush (v := 12) C dX5_grows_92 (by decide) ?_
    exact hR _ _ _ _ _ dX5_grows_94 ⟨(by simp [sp_gro, sp_gpr, *]), rfl⟩ wj_rfl
  · replace h12 := wj_c1 h12
    refine wj_bipush (v := 6) C dX5_grows_15 (by decide) ?_
    refine wj_goto C 22 dX5_grows_17 (by decide) ?_
    refine wj_istore_n C 3 dX5_grows_22 rfl (by decide) rfl ?_
    dsimp only [List.set]
    refine wj_aload_n C 0 dX5_grows_23 rfl rfl ?_
    refine wj_iload_n C 1 dX5_grows_24 rfl rfl ?_
    refine wj_iconst (v := 0) C dX5_grows_25 (by decide) ?_
    refine wj_cif C (wj_rV C dX5_grows_26 km_X5_slipIs kl_X5_82 is_X5 rfl rfl (c_X5_slipIs (f := 0) l V hi (by decide)) rfl rfl (Nat.le_of_ble_eq_true rfl) (by decide)) ?_
    refine wj_swc C (1) (39) 68 dX5_grows_29 (by decide) (by decide) (by decide) (by decide) (fun h29_1 => ?_) (fun h29_1 => ?_)
    · refine wj_bipush (v := 12) C dX5_grows_68 (by decide) ?_
      refine wj_iload_n C 2 dX5_grows_70 rfl rfl ?_
      refine wj_isub C dX5_grows_71 ?_
      exact hR _ _ _ _ _ dX5_grows_72 ⟨(by simp [sp_gro, sp_gpr, *]), rfl⟩ wj_rfl
    refine wj_swc C (2) (49) 78 dX5_grows_29 (by decide) (by decide) (by decide) (by decide) (fun h29_2 => ?_) (fun h29_2 => ?_)
    · refine wj_iload_n C 3 dX5_grows_78 rfl rfl ?_
      exact hR _ _ _ _ _ dX5_grows_79 ⟨(by simp [sp_gro, sp_gpr, *]), rfl⟩ wj_rfl
    refine wj_swc C (3) (51) 80 dX5_grows_29 (by decide) (by decide) (by decide) (by decide) (fun h29_3 => ?_) (fun h29_3 => ?_)
    · refine wj_iload_n C 3 dX5_grows_80 rfl rfl ?_
      refine wj_iload_n C 2 dX5_grows_81 rfl rfl ?_
      refine wj_iadd C dX5_grows_82 ?_
      exact hR _ _ _ _ _ dX5_grows_83 ⟨(by simp [sp_gro, sp_gpr, *]), rfl⟩ wj_rfl
    refine wj_swc C (4) (55) 84 dX5_grows_29 (by decide) (by decide) (by decide) (by decide) (fun h29_4 => ?_) (fun h29_4 => ?_)
    · refine wj_iload_n C 3 dX5_grows_84 rfl rfl ?_
      refine wj_iload_n C 2 dX5_grows_85 rfl rfl ?_
      refine wj_iadd C dX5_grows_86 ?_
      refine wj_iconst (v := 2) C dX5_grows_87 (by decide) ?_
      refine wj_idiv C dX5_grows_88 (by decide) ?_
      exact hR _ _ _ _ _ dX5_grows_89 ⟨(by simp [sp_gro, sp_gpr, *]), rfl⟩ wj_rfl
    refine wj_swc C (5) (61) 90 dX5_grows_29 (by decide) (by decide) (by decide) (by decide) (fun h29_5 => ?_) (fun h29_5 => ?_)
    · refine wj_iconst (v := 3) C dX5_grows_90 (by decide) ?_
      exact hR _ _ _ _ _ dX5_grows_91 ⟨(by simp [sp_gro, sp_gpr, *]), rfl⟩ wj_rfl
    refine wj_swc C (6) (44) 73 dX5_grows_29 (by decide) (by decide) (by decide) (by decide) (fun h29_6 => ?_) (fun h29_6 => ?_)
    · refine wj_bipush (v := 16) C dX5_grows_73 (by decide) ?_
      refine wj_iload_n C 2 dX5_grows_75 rfl rfl ?_
      refine wj_isub C dX5_grows_76 ?_
      exact hR _ _ _ _ _ dX5_grows_77 ⟨(by simp [sp_gro, *]; exact sp_g16 _), rfl⟩ wj_rfl
    refine wj_tabOut C 92 dX5_grows_29 (by have q0 := lv_neT h29_1 (a := 1) (by decide); have q1 := lv_neT h29_2 (a := 2) (by decide); have q2 := lv_neT h29_3 (a := 3) (by decide); have q3 := lv_neT h29_4 (a := 4) (by decide); have q4 := lv_neT h29_5 (a := 5) (by decide); have q5 := lv_neT h29_6 (a := 6) (by decide); omega) (by decide) ?_
    refine wj_bipush (v := 12) C dX5_grows_92 (by decide) ?_
    exact hR _ _ _ _ _ dX5_grows_94 ⟨(by simp [sp_gro, sp_gpr, *]), rfl⟩ wj_rfl
set_option maxRecDepth 100000 in
set_option maxHeartbeats 4000000 in
theorem c_X5_fills (l : Launch) (V : wj_V) {σ : wj_St} {A : sp_L} {i : Nat} (hi : i < 8) (hg : sp_gs (sp_sl A i)) : wj_M l V yX5_fills cX5_fills 3 (some .int) 3 64 [.ref (V.2.2.1 48), .int (nI i)] (sp_mq σ A) (wj_I V (sp_fil (sp_sl A i)) (sp_mq σ A)) := by
  refine wj_ofI (own := RX5) [some (.ref (V.2.2.1 48)), some (.int (nI i)), none] (by decide) rfl rfl (Nat.le_of_ble_eq_true rfl) (fun X C hR => ?_)
  refine wj_aload_n C 0 dX5_fills_0 rfl rfl ?_
  refine wj_iload_n C 1 dX5_fills_1 rfl rfl ?_
  refine wj_cif C (wj_rV C dX5_fills_2 km_X5_isLaid kl_X5_90 is_X5 rfl rfl (c_X5_isLaid l V hi hg) rfl rfl (Nat.le_of_ble_eq_true rfl) (by decide)) ?_
  refine wj_if_eq C 12 dX5_fills_5 (by decide) (fun h5 => ?_) (fun h5 => ?_)
  · replace h5 : sp_sl A i 4 = 0 := Classical.not_not.mp (wj_c0 h5)
    refine wj_iconst (v := 1) C dX5_fills_12 (by decide) ?_
    refine wj_istore_n C 2 dX5_fills_13 rfl (by decide) rfl ?_
    dsimp only [List.set]
    refine wj_aload_n C 0 dX5_fills_14 rfl rfl ?_
    refine wj_iload_n C 1 dX5_fills_15 rfl rfl ?_
    refine wj_iconst (v := 0) C dX5_fills_16 (by decide) ?_
    refine wj_cif C (wj_rV C dX5_fills_17 km_X5_slipIs kl_X5_82 is_X5 rfl rfl (c_X5_slipIs (f := 0) l V hi (by decide)) rfl rfl (Nat.le_of_ble_eq_true rfl) (by decide)) ?_
    refine wj_lkc C (1) (36) 56 dX5_fills_20 (by decide) (by decide) (by decide) (fun h20_1 => ?_) (fun h20_1 => ?_)
    · refine wj_iload_n C 2 dX5_fills_56 rfl rfl ?_
      refine wj_iconst (v := 1) C dX5_fills_57 (by decide) ?_
      refine wj_iadd C dX5_fills_58 ?_
      exact hR _ _ _ _ _ dX5_fills_59 ⟨(by simp [sp_fil, sp_fpl, *]), rfl⟩ wj_rfl
    refine wj_lkc C (5) (40) 60 dX5_fills_20 (by decide) (by decide) (by decide) (fun h20_5 => ?_) (fun h20_5 => ?_)
    · refine wj_iconst (v := 0) C dX5_fills_60 (by decide) ?_
      exact hR _ _ _ _ _ dX5_fills_61 ⟨(by simp [sp_fil, sp_fpl, *]), rfl⟩ wj_rfl
    refine wj_lkc C (6) (36) 56 dX5_fills_20 (by decide) (by decide) (by decide) (fun h20_6 => ?_) (fun h20_6 => ?_)
    · refine wj_iload_n C 2 dX5_fills_56 rfl rfl ?_
      refine wj_iconst (v := 1) C dX5_fills_57 (by decide) ?_
      refine wj_iadd C dX5_fills_58 ?_
      exact hR _ _ _ _ _ dX5_fills_59 ⟨(by simp [sp_fil, sp_fpl, *]), rfl⟩ wj_rfl
    refine wj_look C (42) 62 dX5_fills_20 (by decide) (by rw [lv_osw h20_1 (by decide)]; rw [lv_osw h20_5 (by decide)]; rw [lv_osw h20_6 (by decide)]; rfl) (by decide) ?_
    refine wj_iload_n C 2 dX5_fills_62 rfl rfl ?_
    exact hR _ _ _ _ _ dX5_fills_63 ⟨(by simp [sp_fil, sp_fpl, *]), rfl⟩ wj_rfl
  · replace h5 := wj_c1 h5
    refine wj_iconst (v := 3) C dX5_fills_8 (by decide) ?_
    refine wj_goto C 13 dX5_fills_9 (by decide) ?_
    refine wj_istore_n C 2 dX5_fills_13 rfl (by decide) rfl ?_
    dsimp only [List.set]
    refine wj_aload_n C 0 dX5_fills_14 rfl rfl ?_
    refine wj_iload_n C 1 dX5_fills_15 rfl rfl ?_
    refine wj_iconst (v := 0) C dX5_fills_16 (by decide) ?_
    refine wj_cif C (wj_rV C dX5_fills_17 km_X5_slipIs kl_X5_82 is_X5 rfl rfl (c_X5_slipIs (f := 0) l V hi (by decide)) rfl rfl (Nat.le_of_ble_eq_true rfl) (by decide)) ?_
    refine wj_lkc C (1) (36) 56 dX5_fills_20 (by decide) (by decide) (by decide) (fun h20_1 => ?_) (fun h20_1 => ?_)
    · refine wj_iload_n C 2 dX5_fills_56 rfl rfl ?_
      refine wj_iconst (v := 1) C dX5_fills_57 (by decide) ?_
      refine wj_iadd C dX5_fills_58 ?_
      exact hR _ _ _ _ _ dX5_fills_59 ⟨(by simp [sp_fil, sp_fpl, *]), rfl⟩ wj_rfl
    refine wj_lkc C (5) (40) 60 dX5_fills_20 (by decide) (by decide) (by decide) (fun h20_5 => ?_) (fun h20_5 => ?_)
    · refine wj_iconst (v := 0) C dX5_fills_60 (by decide) ?_
      exact hR _ _ _ _ _ dX5_fills_61 ⟨(by simp [sp_fil, sp_fpl, *]), rfl⟩ wj_rfl
    refine wj_lkc C (6) (36) 56 dX5_fills_20 (by decide) (by decide) (by decide) (fun h20_6 => ?_) (fun h20_6 => ?_)
    · refine wj_iload_n C 2 dX5_fills_56 rfl rfl ?_
      refine wj_iconst (v := 1) C dX5_fills_57 (by decide) ?_
      refine wj_iadd C dX5_fills_58 ?_
      exact hR _ _ _ _ _ dX5_fills_59 ⟨(by simp [sp_fil, sp_fpl, *]), rfl⟩ wj_rfl
    refine wj_look C (42) 62 dX5_fills_20 (by decide) (by rw [lv_osw h20_1 (by decide)]; rw [lv_osw h20_5 (by decide)]; rw [lv_osw h20_6 (by decide)]; rfl) (by decide) ?_
    refine wj_iload_n C 2 dX5_fills_62 rfl rfl ?_
    exact hR _ _ _ _ _ dX5_fills_63 ⟨(by simp [sp_fil, sp_fpl, *]), rfl⟩ wj_rfl
set_option maxRecDepth 100000 in
set_option maxHeartbeats 4000000 in
theorem c_X5_covers (l : Launch) (V : wj_V) {σ : wj_St} {A : sp_L} {i : Nat} (hi : i < 8) (hg : sp_gs (sp_sl A i)) : wj_M l V yX5_covers cX5_covers 8 (some .int) 3 65 [.ref (V.2.2.1 48), .int (nI i)] (sp_mq σ A) (wj_I V (sp_cov (sp_sl A i)) (sp_mq σ A)) := by
  refine wj_ofI (own := RX5) [some (.ref (V.2.2.1 48)), some (.int (nI i)), none, none, none, none, none, none] (by decide) rfl rfl (Nat.le_of_ble_eq_true rfl) (fun X C hR => ?_)
  obtain ⟨a, b, p, r, q1, q2, q3, e1, e2, e3, e4, q5, q6, q7⟩ := sp_gs_cov hg
  have lp : ∀ (v2 v3 : Int32) n m, a + m ≤ b + 1 → b + 1 - (a + m) < n → wj_J l V X 79 [some (.ref (V.2.2.1 48)), some (.int (nI i)), some (.int v2), some (.int v3), some (.int (nI a)), some (.int (nI b)), some (.int (sp_bk a m)), some (.int (nI (a + m)))] [] (sp_mq σ A) := by
    intro v2 v3 n
    induction n with
    | zero => intro m _ h; omega
    | succ n ih =>
      intro m hi9 hm
      refine wj_iload C dX5_covers_79 rfl ?_
      refine wj_iload C dX5_covers_81 rfl ?_
      refine wj_icmp_gt C 101 dX5_covers_83 (by decide) (fun h83 => ?_) (fun h83 => ?_)
      · have hx := (nI_ltI (by omega) (by omega)).mp h83
        have e9 : m = b + 1 - a := by omega
        subst e9
        refine wj_iload C dX5_covers_101 rfl ?_
        exact hR _ _ _ _ _ dX5_covers_103 ⟨by rw [sp_cov_cv e1 e2, sp_bk_all (by omega) (by omega)], rfl⟩ wj_rfl
      · have hx : a + m ≤ b := by
          rcases Nat.lt_or_ge b (a + m) with q | q
          · exact absurd (nI_lt q (by omega)) h83
          · exact q
        refine wj_iload C dX5_covers_86 rfl ?_
        refine wj_iconst (v := 1) C dX5_covers_88 (by decide) ?_
        refine wj_iload C dX5_covers_89 rfl ?_
        refine wj_ishl C dX5_covers_91 ?_
        refine wj_ior C dX5_covers_92 ?_
        refine wj_istore C dX5_covers_93 (by decide) rfl ?_
        dsimp only [List.set]
        refine wj_iinc C (v := nI (a + m + 1)) dX5_covers_95 rfl (wj_i1 (a + m)) (by decide) rfl ?_
        dsimp only [List.set]
        refine wj_goto C 79 dX5_covers_98 (by decide) ?_
        exact ih (m + 1) (by omega) (by omega)
  refine wj_aload_n C 0 dX5_covers_0 rfl rfl ?_
  refine wj_iload_n C 1 dX5_covers_1 rfl rfl ?_
  refine wj_cif C (wj_rV C dX5_covers_2 km_X5_isLaid kl_X5_90 is_X5 rfl rfl (c_X5_isLaid l V hi hg) rfl rfl (Nat.le_of_ble_eq_true rfl) (by decide)) ?_
  refine wj_if_eq C 16 dX5_covers_5 (by decide) (fun h5 => ?_) (fun h5 => ?_)
  · replace h5 : sp_sl A i 4 = 0 := Classical.not_not.mp (wj_c0 h5)
    refine wj_iconst (v := 0) C dX5_covers_16 (by decide) ?_
    refine wj_istore_n C 2 dX5_covers_17 rfl (by decide) rfl ?_
    dsimp only [List.set]
    refine wj_aload_n C 0 dX5_covers_18 rfl rfl ?_
    refine wj_iload_n C 1 dX5_covers_19 rfl rfl ?_
    refine wj_iconst (v := 1) C dX5_covers_20 (by decide) ?_
    refine wj_cif C (wj_rV C dX5_covers_21 km_X5_slipIs kl_X5_82 is_X5 rfl rfl (c_X5_slipIs (f := 1) l V hi (by decide)) rfl rfl (Nat.le_of_ble_eq_true rfl) (by decide)) ?_
    refine wj_istore_n C 3 dX5_covers_24 rfl (by decide) rfl ?_
    dsimp only [List.set]
    refine wj_aload_n C 0 dX5_covers_25 rfl rfl ?_
    refine wj_iload_n C 1 dX5_covers_26 rfl rfl ?_
    refine wj_iconst (v := 4) C dX5_covers_27 (by decide) ?_
    refine wj_cif C (wj_rV C dX5_covers_28 km_X5_slipIs kl_X5_82 is_X5 rfl rfl (c_X5_slipIs (f := 4) l V hi (by decide)) rfl rfl (Nat.le_of_ble_eq_true rfl) (by decide)) ?_
    refine wj_iconst (v := 2) C dX5_covers_31 (by decide) ?_
    refine wj_icmp_ne C 45 dX5_covers_32 (by decide) (fun h32 => ?_) (fun h32 => ?_)
    · refine wj_iload_n C 3 dX5_covers_45 rfl rfl ?_
      refine wj_top (y := nI a) (by rw [← e1, sp_lo]; first | (simp [h5, h32]; done) | (exfalso; rw [h5] at h32; revert h32; decide)) ?_
      refine wj_istore C dX5_covers_46 (by decide) rfl ?_
      dsimp only [List.set]
      refine wj_aload_n C 0 dX5_covers_48 rfl rfl ?_
      refine wj_iload_n C 1 dX5_covers_49 rfl rfl ?_
      refine wj_iconst (v := 4) C dX5_covers_50 (by decide) ?_
      refine wj_cif C (wj_rV C dX5_covers_51 km_X5_slipIs kl_X5_82 is_X5 rfl rfl (c_X5_slipIs (f := 4) l V hi (by decide)) rfl rfl (Nat.le_of_ble_eq_true rfl) (by decide)) ?_
      refine wj_iconst (v := 1) C dX5_covers_54 (by decide) ?_
      refine wj_icmp_ne C 69 dX5_covers_55 (by decide) (fun h55 => ?_) (fun h55 => ?_)
      · refine wj_iload_n C 3 dX5_covers_69 rfl rfl ?_
        refine wj_top (y := nI b) (by rw [← e2, sp_hi]; first | (simp [h5, h55]; done) | (exfalso; rw [h5] at h55; revert h55; decide)) ?_
        refine wj_istore C dX5_covers_70 (by decide) rfl ?_
        dsimp only [List.set]
        refine wj_iconst (v := 0) C dX5_covers_72 (by decide) ?_
        refine wj_istore C dX5_covers_73 (by decide) rfl ?_
        dsimp only [List.set]
        refine wj_iload C dX5_covers_75 rfl ?_
        refine wj_istore C dX5_covers_77 (by decide) rfl ?_
        dsimp only [List.set]
        exact lp _ _ (b + 2) 0 (by omega) (by omega)
      · refine wj_bipush (v := 15) C dX5_covers_58 (by decide) ?_
        refine wj_iload_n C 3 dX5_covers_60 rfl rfl ?_
        refine wj_iload_n C 2 dX5_covers_61 rfl rfl ?_
        refine wj_iadd C dX5_covers_62 ?_
        refine wj_min C dX5_covers_63 kx_X5_97 (by decide) (Nat.le_of_ble_eq_true rfl) ?_
        refine wj_goto C 70 dX5_covers_66 (by decide) ?_
        refine wj_top (y := nI b) (by rw [← e2, sp_hi]; first | (simp [h5, h55]; done) | (exfalso; rw [h5] at h55; revert h55; decide)) ?_
        refine wj_istore C dX5_covers_70 (by decide) rfl ?_
        dsimp only [List.set]
        refine wj_iconst (v := 0) C dX5_covers_72 (by decide) ?_
        refine wj_istore C dX5_covers_73 (by decide) rfl ?_
        dsimp only [List.set]
        refine wj_iload C dX5_covers_75 rfl ?_
        refine wj_istore C dX5_covers_77 (by decide) rfl ?_
        dsimp only [List.set]
        exact lp _ _ (b + 2) 0 (by omega) (by omega)
    · refine wj_iconst (v := 0) C dX5_covers_35 (by decide) ?_
      refine wj_iload_n C 3 dX5_covers_36 rfl rfl ?_
      refine wj_iload_n C 2 dX5_covers_37 rfl rfl ?_
      refine wj_isub C dX5_covers_38 ?_
      refine wj_max C dX5_covers_39 kx_X5_85 (by decide) (Nat.le_of_ble_eq_true rfl) ?_
      refine wj_goto C 46 dX5_covers_42 (by decide) ?_
      refine wj_top (y := nI a) (by rw [← e1, sp_lo]; first | (simp [h5, h32]; done) | (exfalso; rw [h5] at h32; revert h32; decide)) ?_
      refine wj_istore C dX5_covers_46 (by decide) rfl ?_
      dsimp only [List.set]
      refine wj_aload_n C 0 dX5_covers_48 rfl rfl ?_
      refine wj_iload_n C 1 dX5_covers_49 rfl rfl ?_
      refine wj_iconst (v := 4) C dX5_covers_50 (by decide) ?_
      refine wj_cif C (wj_rV C dX5_covers_51 km_X5_slipIs kl_X5_82 is_X5 rfl rfl (c_X5_slipIs (f := 4) l V hi (by decide)) rfl rfl (Nat.le_of_ble_eq_true rfl) (by decide)) ?_
      refine wj_iconst (v := 1) C dX5_covers_54 (by decide) ?_
      refine wj_icmp_ne C 69 dX5_covers_55 (by decide) (fun h55 => ?_) (fun h55 => ?_)
      · refine wj_iload_n C 3 dX5_covers_69 rfl rfl ?_
        refine wj_top (y := nI b) (by rw [← e2, sp_hi]; first | (simp [h5, h55]; done) | (exfalso; rw [h5] at h55; revert h55; decide)) ?_
        refine wj_istore C dX5_covers_70 (by decide) rfl ?_
        dsimp only [List.set]
        refine wj_iconst (v := 0) C dX5_covers_72 (by decide) ?_
        refine wj_istore C dX5_covers_73 (by decide) rfl ?_
        dsimp only [List.set]
        refine wj_iload C dX5_covers_75 rfl ?_
        refine wj_istore C dX5_covers_77 (by decide) rfl ?_
        dsimp only [List.set]
        exact lp _ _ (b + 2) 0 (by omega) (by omega)
      · refine wj_bipush (v := 15) C dX5_covers_58 (by decide) ?_
        refine wj_iload_n C 3 dX5_covers_60 rfl rfl ?_
        refine wj_iload_n C 2 dX5_covers_61 rfl rfl ?_
        refine wj_iadd C dX5_covers_62 ?_
        refine wj_min C dX5_covers_63 kx_X5_97 (by decide) (Nat.le_of_ble_eq_true rfl) ?_
        refine wj_goto C 70 dX5_covers_66 (by decide) ?_
        refine wj_top (y := nI b) (by rw [← e2, sp_hi]; first | (simp [h5, h55]; done) | (exfalso; rw [h5] at h55; revert h55; decide)) ?_
        refine wj_istore C dX5_covers_70 (by decide) rfl ?_
        dsimp only [List.set]
        refine wj_iconst (v := 0) C dX5_covers_72 (by decide) ?_
        refine wj_istore C dX5_covers_73 (by decide) rfl ?_
        dsimp only [List.set]
        refine wj_iload C dX5_covers_75 rfl ?_
        refine wj_istore C dX5_covers_77 (by decide) rfl ?_
        dsimp only [List.set]
        exact lp _ _ (b + 2) 0 (by omega) (by omega)
  · replace h5 := wj_c1 h5
    refine wj_aload_n C 0 dX5_covers_8 rfl rfl ?_
    refine wj_iload_n C 1 dX5_covers_9 rfl rfl ?_
    refine wj_cif C (wj_rV C dX5_covers_10 km_X5_reaches kl_X5_94 is_X5 rfl rfl (c_X5_reaches l V hi hg) rfl rfl (Nat.le_of_ble_eq_true rfl) (by decide)) ?_
    refine wj_goto C 17 dX5_covers_13 (by decide) ?_
    refine wj_istore_n C 2 dX5_covers_17 rfl (by decide) rfl ?_
    dsimp only [List.set]
    refine wj_aload_n C 0 dX5_covers_18 rfl rfl ?_
    refine wj_iload_n C 1 dX5_covers_19 rfl rfl ?_
    refine wj_iconst (v := 1) C dX5_covers_20 (by decide) ?_
    refine wj_cif C (wj_rV C dX5_covers_21 km_X5_slipIs kl_X5_82 is_X5 rfl rfl (c_X5_slipIs (f := 1) l V hi (by decide)) rfl rfl (Nat.le_of_ble_eq_true rfl) (by decide)) ?_
    refine wj_istore_n C 3 dX5_covers_24 rfl (by decide) rfl ?_
    dsimp only [List.set]
    refine wj_aload_n C 0 dX5_covers_25 rfl rfl ?_
    refine wj_iload_n C 1 dX5_covers_26 rfl rfl ?_
    refine wj_iconst (v := 4) C dX5_covers_27 (by decide) ?_
    refine wj_cif C (wj_rV C dX5_covers_28 km_X5_slipIs kl_X5_82 is_X5 rfl rfl (c_X5_slipIs (f := 4) l V hi (by decide)) rfl rfl (Nat.le_of_ble_eq_true rfl) (by decide)) ?_
    refine wj_iconst (v := 2) C dX5_covers_31 (by decide) ?_
    refine wj_icmp_ne C 45 dX5_covers_32 (by decide) (fun h32 => ?_) (fun h32 => ?_)
    · refine wj_iload_n C 3 dX5_covers_45 rfl rfl ?_
      refine wj_top (y := nI a) (by rw [← e1, sp_lo]; first | (simp [h5, h32]; done) | (exfalso; rw [h5] at h32; revert h32; decide)) ?_
      refine wj_istore C dX5_covers_46 (by decide) rfl ?_
      dsimp only [List.set]
      refine wj_aload_n C 0 dX5_covers_48 rfl rfl ?_
      refine wj_iload_n C 1 dX5_covers_49 rfl rfl ?_
      refine wj_iconst (v := 4) C dX5_covers_50 (by decide) ?_
      refine wj_cif C (wj_rV C dX5_covers_51 km_X5_slipIs kl_X5_82 is_X5 rfl rfl (c_X5_slipIs (f := 4) l V hi (by decide)) rfl rfl (Nat.le_of_ble_eq_true rfl) (by decide)) ?_
      refine wj_iconst (v := 1) C dX5_covers_54 (by decide) ?_
      refine wj_icmp_ne C 69 dX5_covers_55 (by decide) (fun h55 => ?_) (fun h55 => ?_)
      · refine wj_iload_n C 3 dX5_covers_69 rfl rfl ?_
        refine wj_top (y := nI b) (by rw [← e2, sp_hi]; first | (simp [h5, h55]; done) | (exfalso; rw [h5] at h55; revert h55; decide)) ?_
        refine wj_istore C dX5_covers_70 (by decide) rfl ?_
        dsimp only [List.set]
        refine wj_iconst (v := 0) C dX5_covers_72 (by decide) ?_
        refine wj_istore C dX5_covers_73 (by decide) rfl ?_
        dsimp only [List.set]
        refine wj_iload C dX5_covers_75 rfl ?_
        refine wj_istore C dX5_covers_77 (by decide) rfl ?_
        dsimp only [List.set]
        exact lp _ _ (b + 2) 0 (by omega) (by omega)
      · refine wj_bipush (v := 15) C dX5_covers_58 (by decide) ?_
        refine wj_iload_n C 3 dX5_covers_60 rfl rfl ?_
        refine wj_iload_n C 2 dX5_covers_61 rfl rfl ?_
        refine wj_iadd C dX5_covers_62 ?_
        refine wj_min C dX5_covers_63 kx_X5_97 (by decide) (Nat.le_of_ble_eq_true rfl) ?_
        refine wj_goto C 70 dX5_covers_66 (by decide) ?_
        refine wj_top (y := nI b) (by rw [← e2, sp_hi]; first | (simp [h5, h55]; done) | (exfalso; rw [h5] at h55; revert h55; decide)) ?_
        refine wj_istore C dX5_covers_70 (by decide) rfl ?_
        dsimp only [List.set]
        refine wj_iconst (v := 0) C dX5_covers_72 (by decide) ?_
        refine wj_istore C dX5_covers_73 (by decide) rfl ?_
        dsimp only [List.set]
        refine wj_iload C dX5_covers_75 rfl ?_
        refine wj_istore C dX5_covers_77 (by decide) rfl ?_
        dsimp only [List.set]
        exact lp _ _ (b + 2) 0 (by omega) (by omega)
    · refine wj_iconst (v := 0) C dX5_covers_35 (by decide) ?_
      refine wj_iload_n C 3 dX5_covers_36 rfl rfl ?_
      refine wj_iload_n C 2 dX5_covers_37 rfl rfl ?_
      refine wj_isub C dX5_covers_38 ?_
      refine wj_max C dX5_covers_39 kx_X5_85 (by decide) (Nat.le_of_ble_eq_true rfl) ?_
      refine wj_goto C 46 dX5_covers_42 (by decide) ?_
      refine wj_top (y := nI a) (by rw [← e1, sp_lo]; first | (simp [h5, h32]; done) | (exfalso; rw [h5] at h32; revert h32; decide)) ?_
      refine wj_istore C dX5_covers_46 (by decide) rfl ?_
      dsimp only [List.set]
      refine wj_aload_n C 0 dX5_covers_48 rfl rfl ?_
      refine wj_iload_n C 1 dX5_covers_49 rfl rfl ?_
      refine wj_iconst (v := 4) C dX5_covers_50 (by decide) ?_
      refine wj_cif C (wj_rV C dX5_covers_51 km_X5_slipIs kl_X5_82 is_X5 rfl rfl (c_X5_slipIs (f := 4) l V hi (by decide)) rfl rfl (Nat.le_of_ble_eq_true rfl) (by decide)) ?_
      refine wj_iconst (v := 1) C dX5_covers_54 (by decide) ?_
      refine wj_icmp_ne C 69 dX5_covers_55 (by decide) (fun h55 => ?_) (fun h55 => ?_)
      · refine wj_iload_n C 3 dX5_covers_69 rfl rfl ?_
        refine wj_top (y := nI b) (by rw [← e2, sp_hi]; first | (simp [h5, h55]; done) | (exfalso; rw [h5] at h55; revert h55; decide)) ?_
        refine wj_istore C dX5_covers_70 (by decide) rfl ?_
        dsimp only [List.set]
        refine wj_iconst (v := 0) C dX5_covers_72 (by decide) ?_
        refine wj_istore C dX5_covers_73 (by decide) rfl ?_
        dsimp only [List.set]
        refine wj_iload C dX5_covers_75 rfl ?_
        refine wj_istore C dX5_covers_77 (by decide) rfl ?_
        dsimp only [List.set]
        exact lp _ _ (b + 2) 0 (by omega) (by omega)
      · refine wj_bipush (v := 15) C dX5_covers_58 (by decide) ?_
        refine wj_iload_n C 3 dX5_covers_60 rfl rfl ?_
        refine wj_iload_n C 2 dX5_covers_61 rfl rfl ?_
        refine wj_iadd C dX5_covers_62 ?_
        refine wj_min C dX5_covers_63 kx_X5_97 (by decide) (Nat.le_of_ble_eq_true rfl) ?_
        refine wj_goto C 70 dX5_covers_66 (by decide) ?_
        refine wj_top (y := nI b) (by rw [← e2, sp_hi]; first | (simp [h5, h55]; done) | (exfalso; rw [h5] at h55; revert h55; decide)) ?_
        refine wj_istore C dX5_covers_70 (by decide) rfl ?_
        dsimp only [List.set]
        refine wj_iconst (v := 0) C dX5_covers_72 (by decide) ?_
        refine wj_istore C dX5_covers_73 (by decide) rfl ?_
        dsimp only [List.set]
        refine wj_iload C dX5_covers_75 rfl ?_
        refine wj_istore C dX5_covers_77 (by decide) rfl ?_
        dsimp only [List.set]
        exact lp _ _ (b + 2) 0 (by omega) (by omega)

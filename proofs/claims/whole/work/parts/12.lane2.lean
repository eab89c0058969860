/-! how years change a lane: what stays -/
theorem sp_wS_id (A : sp_L) : sp_wS A (sp_sl A) = A := rfl
theorem sp_gr0 (A : sp_L) : sp_grN A 0 = A := by simp [sp_grN, sp_wS, sp_sl]
theorem sp_gv0 (A : sp_L) (p : Int32) : sp_gvN A p 0 = A := by simp [sp_gvN, sp_wS, sp_sl]
theorem sp_lay0 (A : sp_L) (p : Int32) : sp_layN A p 0 = A := by simp [sp_layN, sp_wS, sp_sl]
theorem sp_gr_i (A : sp_L) (i : Nat) : sp_sl (sp_grN A i) i = sp_sl A i := by simp [sp_grN, sp_wS, sp_sl]
theorem sp_gv_i (A : sp_L) (p : Int32) (i : Nat) : sp_sl (sp_gvN A p i) i = sp_sl A i := by simp [sp_gvN, sp_wS, sp_sl]
theorem sp_lay_i (A : sp_L) (p : Int32) (i : Nat) : sp_sl (sp_layN A p i) i = sp_sl A i := by simp [sp_layN, sp_wS, sp_sl]
theorem sp_gr_s (A : sp_L) (i : Nat) : sp_wS (sp_grN A i) (fun a => if a = i then sp_grw (sp_sl A i) else sp_sl (sp_grN A i) a) = sp_grN A (i + 1) := by
  refine sp_wS_c (A := A) (fun a => ?_)
  simp only [sp_grN, sp_wS, sp_sl]
  by_cases h : a = i
  · subst h; rw [if_pos rfl, if_pos (Nat.lt_succ_self a)]
  · rw [if_neg h]
    by_cases h2 : a < i
    · rw [if_pos h2, if_pos (by omega)]
    · rw [if_neg h2, if_neg (by omega)]
theorem sp_gv_s (A : sp_L) (p : Int32) (i : Nat) (hc : sp_isc (sp_sl A i) p = true) : sp_wS (sp_gvN A p i) (fun a => if a = i then sp_giv (sp_sl A i) else sp_sl (sp_gvN A p i) a) = sp_gvN A p (i + 1) := by
  refine sp_wS_c (A := A) (fun a => ?_)
  simp only [sp_gvN, sp_wS, sp_sl] at hc ⊢
  by_cases h : a = i
  · subst h; rw [if_pos rfl, if_pos ⟨Nat.lt_succ_self a, hc⟩]
  · rw [if_neg h]
    by_cases h2 : a < i ∧ sp_isc (A.2.2.2.2.2 a) p = true
    · rw [if_pos h2, if_pos ⟨by omega, h2.2⟩]
    · rw [if_neg h2, if_neg (fun q => h2 ⟨by omega, q.2⟩)]
theorem sp_gv_n (A : sp_L) (p : Int32) (i : Nat) (hc : sp_isc (sp_sl A i) p = false) : sp_gvN A p i = sp_gvN A p (i + 1) := by
  refine sp_wS_c (A := A) (fun a => ?_)
  simp only [sp_sl] at hc ⊢
  by_cases h : a = i
  · subst h; rw [if_neg (by omega), if_neg (by rw [hc]; simp)]
  · by_cases h2 : a < i ∧ sp_isc (A.2.2.2.2.2 a) p = true
    · rw [if_pos h2, if_pos ⟨by omega, h2.2⟩]
    · rw [if_neg h2, if_neg (fun q => h2 ⟨by omega, q.2⟩)]
theorem sp_lay_s (A : sp_L) (p : Int32) (i : Nat) : sp_wS (sp_layN A p i) (fun a => if a = i then upd (sp_sl A i) 4 (if (p >>> (nI i &&& 31)) &&& 1 = 1 then 1 else 0) else sp_sl (sp_layN A p i) a) = sp_layN A p (i + 1) := by
  refine sp_wS_c (A := A) (fun a => ?_)
  simp only [sp_layN, sp_wS, sp_sl]
  by_cases h : a = i
  · subst h; rw [if_pos rfl, if_pos (Nat.lt_succ_self a)]
  · rw [if_neg h]
    by_cases h2 : a < i
    · simp only [if_pos h2, if_pos (show a < i + 1 by omega)]
    · simp only [if_neg h2, if_neg (show ¬ a < i + 1 by omega)]
theorem sp_le_of {A : sp_L} {y : Nat} (hY : A.1 = nI y) (hy : y < 2 ^ 31) : sp_le A = sp_ls A (y % 6) := by
  rw [sp_le, hY, show (6 : Int32) = nI 6 from rfl, pk_rem hy (by decide) (by decide), nI_clamp (by omega)]
theorem sp_brk_c (A : sp_L) (p : Int32) : (sp_brk A p).2.1 = A.2.1 := rfl
theorem sp_brk_y (A : sp_L) (p : Int32) : (sp_brk A p).1 = A.1 := rfl
theorem sp_lean_c (A : sp_L) : (sp_lean A).2.1 = A.2.1 := by unfold sp_lean; split <;> rfl
theorem sp_lean_y (A : sp_L) : (sp_lean A).1 = A.1 := by unfold sp_lean; split <;> rfl
theorem sp_yr_c (A : sp_L) : (sp_yr A).2.1 = A.2.1 := sp_lean_c A
theorem sp_yr_y (A : sp_L) : (sp_yr A).1 = A.1 + 1 := rfl
theorem sp_yrs_c (A : sp_L) : ∀ m, (sp_yrs A m).2.1 = A.2.1
  | 0 => rfl
  | m + 1 => by rw [sp_yrs, sp_yr_c, sp_yrs_c A m]
theorem sp_yrs_y {A : sp_L} {y : Nat} (hY : A.1 = nI y) : ∀ m, (sp_yrs A m).1 = nI (y + m)
  | 0 => hY
  | m + 1 => by rw [sp_yrs, sp_yr_y, sp_yrs_y hY m, nI_1]; rfl
theorem sp_minY {y : Nat} (hy : y < 99999) : (if nI y + 1 < 99999 then nI y + 1 else 99999) = nI y + 1 := by
  rw [nI_1]
  show (if nI (y + 1) < nI 99999 then nI (y + 1) else nI 99999) = nI (y + 1)
  by_cases h : y + 1 < 99999
  · rw [if_pos (nI_lt (b := 99999) h (by decide))]
  · rw [if_neg (nI_nlt (b := 99999) (by omega) (by omega)), show y + 1 = 99999 by omega]
/-- GAPS MADE only grow -/
theorem sp_yr_m (A : sp_L) : (sp_yr A).2.2.2.1 = A.2.2.2.1 ∨ (sp_yr A).2.2.2.1 = (if A.2.2.2.1 + 1 < 9999 then A.2.2.2.1 + 1 else 9999) := by
  show (sp_lean A).2.2.2.1 = _ ∨ (sp_lean A).2.2.2.1 = _
  unfold sp_lean
  split
  · exact Or.inr rfl
  · exact Or.inl rfl
theorem sp_yr_mle {A : sp_L} (h : A.2.2.2.1.toInt ≤ 9999 ∧ 0 ≤ A.2.2.2.1.toInt) : A.2.2.2.1.toInt ≤ (sp_yr A).2.2.2.1.toInt ∧ (sp_yr A).2.2.2.1.toInt ≤ 9999 := by
  rcases sp_yr_m A with e | e
  · rw [e]; omega
  · rw [e]
    obtain ⟨j, hj, hx, hz⟩ := wj_nat (x := A.2.2.2.1) h.2
    rw [hx, nI_1]
    split
    · rw [nI_toInt (by omega), nI_toInt (by rw [← hz] at h; omega)]
      rename_i q
      have := (nI_ltI (b := 9999) (by rw [← hz] at h; omega) (by decide)).mp q
      omega
    · rw [nI_toInt hj, show (9999 : Int32).toInt = 9999 by decide]
      rw [← hz] at h
      omega
theorem sp_yrs_mle {A : sp_L} (h : A.2.2.2.1.toInt ≤ 9999 ∧ 0 ≤ A.2.2.2.1.toInt) (j : Nat) : ∀ m, (sp_yrs A j).2.2.2.1.toInt ≤ (sp_yrs A (j + m)).2.2.2.1.toInt ∧ A.2.2.2.1.toInt ≤ (sp_yrs A (j + m)).2.2.2.1.toInt ∧ (sp_yrs A (j + m)).2.2.2.1.toInt ≤ 9999 := by
  have all : ∀ m, A.2.2.2.1.toInt ≤ (sp_yrs A m).2.2.2.1.toInt ∧ (sp_yrs A m).2.2.2.1.toInt ≤ 9999 := by
    intro m
    induction m with
    | zero => exact ⟨Int.le_refl _, h.1⟩
    | succ m ih =>
      have := sp_yr_mle (A := sp_yrs A m) ⟨ih.2, by omega⟩
      show _ ≤ (sp_yr (sp_yrs A m)).2.2.2.1.toInt ∧ _
      exact ⟨by omega, this.2⟩
  intro m
  refine ⟨?_, all (j + m)⟩
  induction m with
  | zero => exact Int.le_refl _
  | succ m ih =>
    have a := all (j + m)
    have := sp_yr_mle (A := sp_yrs A (j + m)) ⟨a.2, by omega⟩
    show _ ≤ (sp_yr (sp_yrs A (j + m))).2.2.2.1.toInt
    omega
set_option maxRecDepth 100000 in
set_option maxHeartbeats 4000000 in
theorem c_X0_weakestPlace (l : Launch) (V : wj_V) {σ : wj_St} {k : Nat} {A : sp_L} {N : Nat} (hk : 1 ≤ k ∧ k < 4) (hn : A.2.1 = nI N) (hN : N ≤ 8) : wj_M l V yX0_weakestPlace cX0_weakestPlace 3 (some .int) 3 66 [.ref (V.2.2.1 k)] (sp_put σ k A) (wj_I V (sp_wk A 15) (sp_put σ k A)) := by
  refine wj_ofI (own := RX0) [some (.ref (V.2.2.1 k)), none, none] (by decide) rfl rfl (Nat.le_of_ble_eq_true rfl) (fun X C hR => ?_)
  have lp : ∀ n i, i ≤ 15 → 15 - i < n → wj_J l V X 4 [some (.ref (V.2.2.1 k)), some (.int (sp_wk A i)), some (.int (nI (i + 1)))] [] (sp_put σ k A) := by
    intro n
    induction n with
    | zero => intro i _ h; omega
    | succ n ih =>
      intro i hi hm
      refine wj_iload_n C 2 dX0_weakestPlace_4 rfl rfl ?_
      refine wj_bipush (v := 16) C dX0_weakestPlace_5 (by decide) ?_
      refine wj_icmp_ge C 31 dX0_weakestPlace_7 (by decide) (fun h7 => ?_) (fun h7 => ?_)
      · have e9 : i = 15 := by have := (nI_leI (a := 16) (b := i + 1) (by decide) (by omega)).mp h7; omega
        subst e9
        refine wj_iload_n C 1 dX0_weakestPlace_31 rfl rfl ?_
        exact hR _ _ _ _ _ dX0_weakestPlace_32 ⟨rfl, rfl⟩ wj_rfl
      · have hlt : i < 15 := by
          rcases Nat.lt_or_ge i 15 with q | q
          · exact q
          · exact absurd (nI_le (a := 16) (b := i + 1) (by omega) (by omega)) h7
        refine wj_aload_n C 0 dX0_weakestPlace_10 rfl rfl ?_
        refine wj_iload_n C 2 dX0_weakestPlace_11 rfl rfl ?_
        refine wj_cif C (wj_rV C dX0_weakestPlace_12 km_X0_strengthOf kl_X0_81 (is_X0 (by first | assumption | omega)) rfl rfl (c_X0_strengthOf l V hk hn hN) rfl rfl (Nat.le_of_ble_eq_true rfl) (by decide)) ?_
        refine wj_aload_n C 0 dX0_weakestPlace_15 rfl rfl ?_
        refine wj_iload_n C 1 dX0_weakestPlace_16 rfl rfl ?_
        refine wj_cif C (wj_rV C dX0_weakestPlace_17 km_X0_strengthOf kl_X0_81 (is_X0 (by first | assumption | omega)) rfl rfl (c_X0_strengthOf l V hk hn hN) rfl rfl (Nat.le_of_ble_eq_true rfl) (by decide)) ?_
        refine wj_icmp_ge C 25 dX0_weakestPlace_20 (by decide) (fun h20 => ?_) (fun h20 => ?_)
        · have e8 : sp_wk A (i + 1) = sp_wk A i := by rw [sp_wk, if_neg (Int32.not_lt.mpr h20)]
          refine wj_iinc C (v := nI (i + 1 + 1)) dX0_weakestPlace_25 rfl (wj_i1 (i + 1)) (by decide) rfl ?_
          dsimp only [List.set]
          refine wj_goto C 4 dX0_weakestPlace_28 (by decide) ?_
          exact (by have hh := ih (i + 1) (by omega) (by omega); rw [e8] at hh; exact hh)
        · have e8 : sp_wk A (i + 1) = nI (i + 1) := by rw [sp_wk, if_pos (Int32.not_le.mp h20)]
          refine wj_iload_n C 2 dX0_weakestPlace_23 rfl rfl ?_
          refine wj_istore_n C 1 dX0_weakestPlace_24 rfl (by decide) rfl ?_
          dsimp only [List.set]
          refine wj_iinc C (v := nI (i + 1 + 1)) dX0_weakestPlace_25 rfl (wj_i1 (i + 1)) (by decide) rfl ?_
          dsimp only [List.set]
          refine wj_goto C 4 dX0_weakestPlace_28 (by decide) ?_
          exact (by have hh := ih (i + 1) (by omega) (by omega); rw [e8] at hh; exact hh)
  refine wj_iconst (v := 0) C dX0_weakestPlace_0 (by decide) ?_
  refine wj_istore_n C 1 dX0_weakestPlace_1 rfl (by decide) rfl ?_
  dsimp only [List.set]
  refine wj_iconst (v := 1) C dX0_weakestPlace_2 (by decide) ?_
  refine wj_istore_n C 2 dX0_weakestPlace_3 rfl (by decide) rfl ?_
  dsimp only [List.set]
  exact lp 16 0 (by omega) (by omega)
set_option maxRecDepth 100000 in
set_option maxHeartbeats 4000000 in
theorem c_X0_placesBrokenBy (l : Launch) (V : wj_V) {σ : wj_St} {k : Nat} {A : sp_L} {N : Nat} {w : Int32} (hk : 1 ≤ k ∧ k < 4) (hn : A.2.1 = nI N) (hN : N ≤ 8) : wj_M l V yX0_placesBrokenBy cX0_placesBrokenBy 4 (some .int) 3 66 [.ref (V.2.2.1 k), .int w] (sp_put σ k A) (wj_I V (sp_pb A w 16) (sp_put σ k A)) := by
  refine wj_ofI (own := RX0) [some (.ref (V.2.2.1 k)), some (.int w), none, none] (by decide) rfl rfl (Nat.le_of_ble_eq_true rfl) (fun X C hR => ?_)
  have lp : ∀ n i, i ≤ 16 → 16 - i < n → wj_J l V X 4 [some (.ref (V.2.2.1 k)), some (.int w), some (.int (sp_pb A w i)), some (.int (nI i))] [] (sp_put σ k A) := by
    intro n
    induction n with
    | zero => intro i _ h; omega
    | succ n ih =>
      intro i hi hm
      refine wj_iload_n C 3 dX0_placesBrokenBy_4 rfl rfl ?_
      refine wj_bipush (v := 16) C dX0_placesBrokenBy_5 (by decide) ?_
      refine wj_icmp_ge C 28 dX0_placesBrokenBy_7 (by decide) (fun h7 => ?_) (fun h7 => ?_)
      · have e9 := wj_ge (N := 16) (by decide) hi h7
        subst e9
        refine wj_iload_n C 2 dX0_placesBrokenBy_28 rfl rfl ?_
        exact hR _ _ _ _ _ dX0_placesBrokenBy_29 ⟨rfl, rfl⟩ wj_rfl
      · have hlt := wj_nge (N := 16) (by decide) hi h7
        refine wj_iload_n C 1 dX0_placesBrokenBy_10 rfl rfl ?_
        refine wj_aload_n C 0 dX0_placesBrokenBy_11 rfl rfl ?_
        refine wj_iload_n C 3 dX0_placesBrokenBy_12 rfl rfl ?_
        refine wj_cif C (wj_rV C dX0_placesBrokenBy_13 km_X0_strengthOf kl_X0_81 (is_X0 (by first | assumption | omega)) rfl rfl (c_X0_strengthOf l V hk hn hN) rfl rfl (Nat.le_of_ble_eq_true rfl) (by decide)) ?_
        refine wj_icmp_le C 22 dX0_placesBrokenBy_16 (by decide) (fun h16 => ?_) (fun h16 => ?_)
        · have e8 : sp_pb A w (i + 1) = sp_pb A w i := by rw [sp_pb, if_neg (Int32.not_lt.mpr h16)]
          refine wj_iinc C (v := nI (i + 1)) dX0_placesBrokenBy_22 rfl (wj_i1 i) (by decide) rfl ?_
          dsimp only [List.set]
          refine wj_goto C 4 dX0_placesBrokenBy_25 (by decide) ?_
          exact (by have hh := ih (i + 1) (by omega) (by omega); rw [e8] at hh; exact hh)
        · have e8 : sp_pb A w (i + 1) = sp_pb A w i + 1 := by rw [sp_pb, if_pos (Int32.not_le.mp h16)]
          refine wj_iinc C (v := sp_pb A w i + 1) dX0_placesBrokenBy_19 rfl (rfl) (by decide) rfl ?_
          dsimp only [List.set]
          refine wj_iinc C (v := nI (i + 1)) dX0_placesBrokenBy_22 rfl (wj_i1 i) (by decide) rfl ?_
          dsimp only [List.set]
          refine wj_goto C 4 dX0_placesBrokenBy_25 (by decide) ?_
          exact (by have hh := ih (i + 1) (by omega) (by omega); rw [e8] at hh; exact hh)
  refine wj_iconst (v := 0) C dX0_placesBrokenBy_0 (by decide) ?_
  refine wj_istore_n C 2 dX0_placesBrokenBy_1 rfl (by decide) rfl ?_
  dsimp only [List.set]
  refine wj_iconst (v := 0) C dX0_placesBrokenBy_2 (by decide) ?_
  refine wj_istore_n C 3 dX0_placesBrokenBy_3 rfl (by decide) rfl ?_
  dsimp only [List.set]
  exact lp 17 0 (by omega) (by omega)
set_option maxRecDepth 100000 in
set_option maxHeartbeats 4000000 in
theorem c_X0_layToGreater (l : Launch) (V : wj_V) {σ : wj_St} {k : Nat} {A : sp_L} {N : Nat} {p : Int32} (hk : 1 ≤ k ∧ k < 4) (hn : A.2.1 = nI N) (hN : N ≤ 8) : wj_M l V yX0_layToGreater cX0_layToGreater 3 none 0 0 [.ref (V.2.2.1 k), .int p] (sp_put σ k A) (wj_Vd V (sp_put σ k (sp_layN A p (sp_N A)))) := by
  refine wj_ofV (own := RX0) [some (.ref (V.2.2.1 k)), some (.int p), none] (by decide) rfl rfl (Nat.le_of_ble_eq_true rfl) (fun X C hR => ?_)
  have lp : ∀ n i, i ≤ N → N - i < n → wj_J l V X 2 [some (.ref (V.2.2.1 k)), some (.int p), some (.int (nI i))] [] (sp_put σ k (sp_layN A p i)) := by
    intro n
    induction n with
    | zero => intro i _ h; omega
    | succ n ih =>
      intro i hi hm
      refine wj_iload_n C 2 dX0_layToGreater_2 rfl rfl ?_
      refine wj_aload_n C 0 dX0_layToGreater_3 rfl rfl ?_
      refine wg_X0_21 C dX0_layToGreater_4 (by first | assumption | omega) ?_
      rw [sp_put_2]
      refine wj_icmp_ge C 39 dX0_layToGreater_7 (by decide) (fun h7 => ?_) (fun h7 => ?_)
      · rw [show (sp_layN A p i).2.1 = nI N from hn] at h7
        have e9 := wj_ge (N := N) (by omega) hi h7
        subst e9
        exact hR _ _ _ _ dX0_layToGreater_39 (by rw [sp_N_of hn hN]) wj_rfl
      · rw [show (sp_layN A p i).2.1 = nI N from hn] at h7
        have hlt := wj_nge (N := N) (by omega) hi h7
        refine wj_aload_n C 0 dX0_layToGreater_10 rfl rfl ?_
        refine wg_X0_11 C dX0_layToGreater_11 (by first | assumption | omega) ?_
        refine wj_iload_n C 2 dX0_layToGreater_14 rfl rfl ?_
        refine wj_aaldS C dX0_layToGreater_15 (by first | assumption | omega) (by first | assumption | omega) ?_
        refine wj_iload_n C 1 dX0_layToGreater_16 rfl rfl ?_
        refine wj_iload_n C 2 dX0_layToGreater_17 rfl rfl ?_
        refine wj_ishr C dX0_layToGreater_18 ?_
        refine wj_iconst (v := 1) C dX0_layToGreater_19 (by decide) ?_
        refine wj_iand C dX0_layToGreater_20 ?_
        refine wj_iconst (v := 1) C dX0_layToGreater_21 (by decide) ?_
        refine wj_icmp_ne C 29 dX0_layToGreater_22 (by decide) (fun h22 => ?_) (fun h22 => ?_)
        · have e8 : (if (p >>> (nI i &&& 31)) &&& 1 = 1 then (1 : Int32) else 0) = 0 := by rw [if_neg h22]
          refine wj_iconst (v := 0) C dX0_layToGreater_29 (by decide) ?_
          refine wp_X0_87 C dX0_layToGreater_30 (by first | assumption | omega) ?_
          rw [wj_u_r, sp_put_s hk (by omega), sp_put_rs hk (by omega), sp_lay_i]
          refine wj_iinc C (v := nI (i + 1)) dX0_layToGreater_33 rfl (wj_i1 i) (by decide) rfl ?_
          dsimp only [List.set]
          refine wj_goto C 2 dX0_layToGreater_36 (by decide) ?_
          exact (by have hh := ih (i + 1) (by omega) (by omega); rw [← sp_lay_s, e8] at hh; exact hh)
        · have e8 : (if (p >>> (nI i &&& 31)) &&& 1 = 1 then (1 : Int32) else 0) = 1 := by rw [if_pos h22]
          refine wj_iconst (v := 1) C dX0_layToGreater_25 (by decide) ?_
          refine wj_goto C 30 dX0_layToGreater_26 (by decide) ?_
          refine wp_X0_87 C dX0_layToGreater_30 (by first | assumption | omega) ?_
          rw [wj_u_r, sp_put_s hk (by omega), sp_put_rs hk (by omega), sp_lay_i]
          refine wj_iinc C (v := nI (i + 1)) dX0_layToGreater_33 rfl (wj_i1 i) (by decide) rfl ?_
          dsimp only [List.set]
          refine wj_goto C 2 dX0_layToGreater_36 (by decide) ?_
          exact (by have hh := ih (i + 1) (by omega) (by omega); rw [← sp_lay_s, e8] at hh; exact hh)
  refine wj_iconst (v := 0) C dX0_layToGreater_0 (by decide) ?_
  refine wj_istore_n C 2 dX0_layToGreater_1 rfl (by decide) rfl ?_
  dsimp only [List.set]
  exact (by have hh := lp (N + 1) 0 (by omega) (by omega); rw [sp_lay0] at hh; exact hh)
set_option maxRecDepth 100000 in
set_option maxHeartbeats 4000000 in
theorem c_X0_breakDown (l : Launch) (V : wj_V) {σ : wj_St} {k : Nat} {A : sp_L} {N : Nat} {p : Int32} (hk : 1 ≤ k ∧ k < 4) (hn : A.2.1 = nI N) (hN : N ≤ 8) : wj_M l V yX0_breakDown cX0_breakDown 3 none 2 42 [.ref (V.2.2.1 k), .int p] (sp_put σ k A) (wj_Vd V (sp_put σ k (sp_brk A p))) := by
  refine wj_ofV (own := RX0) [some (.ref (V.2.2.1 k)), some (.int p), none] (by decide) rfl rfl (Nat.le_of_ble_eq_true rfl) (fun X C hR => ?_)
  have lp : ∀ n i, i ≤ N → N - i < n → wj_J l V X 16 [some (.ref (V.2.2.1 k)), some (.int p), some (.int (nI i))] [] (sp_put σ k (sp_gvN (sp_wH A (A.2.2.1 &&& (((1 : Int32) <<< (p &&& 31)) ^^^ (-1)))) p i)) := by
    intro n
    induction n with
    | zero => intro i _ h; omega
    | succ n ih =>
      intro i hi hm
      refine wj_iload_n C 2 dX0_breakDown_16 rfl rfl ?_
      refine wj_aload_n C 0 dX0_breakDown_17 rfl rfl ?_
      refine wg_X0_21 C dX0_breakDown_18 (by first | assumption | omega) ?_
      rw [sp_put_2]
      refine wj_icmp_ge C 52 dX0_breakDown_21 (by decide) (fun h21 => ?_) (fun h21 => ?_)
      · rw [show (sp_gvN (sp_wH A (A.2.2.1 &&& (((1 : Int32) <<< (p &&& 31)) ^^^ (-1)))) p i).2.1 = nI N from hn] at h21
        have e9 := wj_ge (N := N) (by omega) hi h21
        subst e9
        refine wj_aload_n C 0 dX0_breakDown_52 rfl rfl ?_
        refine wj_sipush (v := 9999) C dX0_breakDown_53 (by decide) ?_
        refine wj_aload_n C 0 dX0_breakDown_56 rfl rfl ?_
        refine wg_X0_28 C dX0_breakDown_57 (by first | assumption | omega) ?_
        rw [sp_put_4]
        refine wj_iconst (v := 1) C dX0_breakDown_60 (by decide) ?_
        refine wj_iadd C dX0_breakDown_61 ?_
        refine wj_min C dX0_breakDown_62 kx_X0_104 (by decide) (Nat.le_of_ble_eq_true rfl) ?_
        refine wp_X0_28 C dX0_breakDown_65 (by first | assumption | omega) ?_
        rw [sp_put_u4]
        exact hR _ _ _ _ dX0_breakDown_68 (by show _ = _; rw [sp_brk, sp_N_of hn hN]; rfl) wj_rfl
      · rw [show (sp_gvN (sp_wH A (A.2.2.1 &&& (((1 : Int32) <<< (p &&& 31)) ^^^ (-1)))) p i).2.1 = nI N from hn] at h21
        have hlt := wj_nge (N := N) (by omega) hi h21
        refine wj_aload_n C 0 dX0_breakDown_24 rfl rfl ?_
        refine wg_X0_11 C dX0_breakDown_25 (by first | assumption | omega) ?_
        refine wj_iload_n C 2 dX0_breakDown_28 rfl rfl ?_
        refine wj_aaldS C dX0_breakDown_29 (by first | assumption | omega) (by first | assumption | omega) ?_
        refine wj_iload_n C 1 dX0_breakDown_30 rfl rfl ?_
        refine wj_cif C (wj_rV C dX0_breakDown_31 km_X2_isCovering kl_X0_62 (is_X2 (by first | assumption | omega)) rfl rfl (c_X2_isCovering l V (by omega)) rfl rfl (Nat.le_of_ble_eq_true rfl) (by decide)) ?_
        rw [sp_put_s hk (by omega), sp_gv_i]
        refine wj_if_eq C 46 dX0_breakDown_34 (by decide) (fun h34 => ?_) (fun h34 => ?_)
        · have hc := wj_b0 h34
          refine wj_iinc C (v := nI (i + 1)) dX0_breakDown_46 rfl (wj_i1 i) (by decide) rfl ?_
          dsimp only [List.set]
          refine wj_goto C 16 dX0_breakDown_49 (by decide) ?_
          exact (by have hh := ih (i + 1) (by omega) (by omega); first | (rw [← sp_gv_n _ _ _ hc] at hh; exact hh) | (rw [← sp_gv_s _ _ _ hc] at hh; exact hh))
        · have hc := wj_b1 h34
          refine wj_aload_n C 0 dX0_breakDown_37 rfl rfl ?_
          refine wg_X0_11 C dX0_breakDown_38 (by first | assumption | omega) ?_
          refine wj_iload_n C 2 dX0_breakDown_41 rfl rfl ?_
          refine wj_aaldS C dX0_breakDown_42 (by first | assumption | omega) (by first | assumption | omega) ?_
          refine wj_cvf C (wj_rV C dX0_breakDown_43 km_X2_giveWay kl_X0_107 (is_X2 (by first | assumption | omega)) rfl rfl (c_X2_giveWay l V (by omega)) rfl rfl (Nat.le_of_ble_eq_true rfl) (by decide)) ?_
          rw [sp_put_s hk (by omega), sp_gv_i, sp_put_rs hk (by omega)]
          refine wj_iinc C (v := nI (i + 1)) dX0_breakDown_46 rfl (wj_i1 i) (by decide) rfl ?_
          dsimp only [List.set]
          refine wj_goto C 16 dX0_breakDown_49 (by decide) ?_
          exact (by have hh := ih (i + 1) (by omega) (by omega); first | (rw [← sp_gv_n _ _ _ hc] at hh; exact hh) | (rw [← sp_gv_s _ _ _ hc] at hh; exact hh))
  refine wj_aload_n C 0 dX0_breakDown_0 rfl rfl ?_
  refine wj_dup C dX0_breakDown_1 rfl ?_
  refine wg_X0_25 C dX0_breakDown_2 (by first | assumption | omega) ?_
  rw [sp_put_3]
  refine wj_iconst (v := 1) C dX0_breakDown_5 (by decide) ?_
  refine wj_iload_n C 1 dX0_breakDown_6 rfl rfl ?_
  refine wj_ishl C dX0_breakDown_7 ?_
  refine wj_iconst (v := -1) C dX0_breakDown_8 (by decide) ?_
  refine wj_ixor C dX0_breakDown_9 ?_
  refine wj_iand C dX0_breakDown_10 ?_
  refine wp_X0_25 C dX0_breakDown_11 (by first | assumption | omega) ?_
  rw [sp_put_u3]
  refine wj_iconst (v := 0) C dX0_breakDown_14 (by decide) ?_
  refine wj_istore_n C 2 dX0_breakDown_15 rfl (by decide) rfl ?_
  dsimp only [List.set]
  exact (by have hh := lp (N + 1) 0 (by omega) (by omega); rw [sp_gv0] at hh; exact hh)
set_option maxRecDepth 100000 in
set_option maxHeartbeats 4000000 in
theorem c_X0_passYear (l : Launch) (V : wj_V) {σ : wj_St} {k : Nat} {A : sp_L} {N : Nat} {y : Nat} (hk : 1 ≤ k ∧ k < 4) (hn : A.2.1 = nI N) (hN : N ≤ 8) (hY : A.1 = nI y) (hy : y < 99999) : wj_M l V yX0_passYear cX0_passYear 4 none 3 66 [.ref (V.2.2.1 k)] (sp_put σ k A) (wj_Vd V (sp_put σ k (sp_yr A))) := by
  refine wj_ofV (own := RX0) [some (.ref (V.2.2.1 k)), none, none, none] (by decide) rfl rfl (Nat.le_of_ble_eq_true rfl) (fun X C hR => ?_)
  have lp : ∀ (a1 a2 : Int32) n i, i ≤ N → N - i < n → wj_J l V X 37 [some (.ref (V.2.2.1 k)), some (.int a1), some (.int a2), some (.int (nI i))] [] (sp_put σ k (sp_grN (sp_lean A) i)) := by
    intro a1 a2 n
    induction n with
    | zero => intro i _ h; omega
    | succ n ih =>
      intro i hi hm
      refine wj_iload_n C 3 dX0_passYear_37 rfl rfl ?_
      refine wj_aload_n C 0 dX0_passYear_38 rfl rfl ?_
      refine wg_X0_21 C dX0_passYear_39 (by first | assumption | omega) ?_
      rw [sp_put_2]
      refine wj_icmp_ge C 60 dX0_passYear_42 (by decide) (fun h42 => ?_) (fun h42 => ?_)
      · rw [show (sp_grN (sp_lean A) i).2.1 = nI N from (sp_lean_c A).trans hn] at h42
        have e9 := wj_ge (N := N) (by omega) hi h42
        subst e9
        refine wj_aload_n C 0 dX0_passYear_60 rfl rfl ?_
        refine wj_ldc C dX0_passYear_61 kc_X0_103 ?_
        refine wj_aload_n C 0 dX0_passYear_63 rfl rfl ?_
        refine wg_X0_31 C dX0_passYear_64 (by first | assumption | omega) ?_
        rw [sp_put_5]
        rw [show (sp_grN (sp_lean A) i).1 = nI y from (sp_lean_y A).trans hY]
        refine wj_iconst (v := 1) C dX0_passYear_67 (by decide) ?_
        refine wj_iadd C dX0_passYear_68 ?_
        refine wj_min C dX0_passYear_69 kx_X0_104 (by decide) (Nat.le_of_ble_eq_true rfl) ?_
        refine wp_X0_31 C dX0_passYear_72 (by first | assumption | omega) ?_
        rw [sp_put_u5]
        exact hR _ _ _ _ dX0_passYear_75 (by show _ = _; rw [sp_yr, sp_N_of hn hN, hY, sp_minY hy]) wj_rfl
      · rw [show (sp_grN (sp_lean A) i).2.1 = nI N from (sp_lean_c A).trans hn] at h42
        have hlt := wj_nge (N := N) (by omega) hi h42
        refine wj_aload_n C 0 dX0_passYear_45 rfl rfl ?_
        refine wg_X0_11 C dX0_passYear_46 (by first | assumption | omega) ?_
        refine wj_iload_n C 3 dX0_passYear_49 rfl rfl ?_
        refine wj_aaldS C dX0_passYear_50 (by first | assumption | omega) (by first | assumption | omega) ?_
        refine wj_cvf C (wj_rV C dX0_passYear_51 km_X2_grow kl_X0_100 (is_X2 (by first | assumption | omega)) rfl rfl (c_X2_grow l V (by omega)) rfl rfl (Nat.le_of_ble_eq_true rfl) (by decide)) ?_
        rw [sp_put_s hk (by omega), sp_gr_i, sp_put_rs hk (by omega), sp_gr_s]
        refine wj_iinc C (v := nI (i + 1)) dX0_passYear_54 rfl (wj_i1 i) (by decide) rfl ?_
        dsimp only [List.set]
        refine wj_goto C 37 dX0_passYear_57 (by decide) ?_
        exact ih (i + 1) (by omega) (by omega)
  refine wj_aload_n C 0 dX0_passYear_0 rfl rfl ?_
  refine wg_X0_17 C dX0_passYear_1 (by first | assumption | omega) ?_
  refine wj_aload_n C 0 dX0_passYear_4 rfl rfl ?_
  refine wg_X0_31 C dX0_passYear_5 (by first | assumption | omega) ?_
  rw [sp_put_5]
  rw [hY]
  refine wj_cif C (wj_rS C dX0_passYear_8 km_X0_listedFor kl_X0_93 (c_X0_listedFor l V (by omega)) rfl rfl (Nat.le_of_ble_eq_true rfl) (by decide)) ?_
  rw [show (6 : Int32) = nI 6 from rfl, pk_rem (by omega) (by decide) (by decide)]
  refine wj_ialdN C dX0_passYear_11 (ar_leanings (by first | assumption | omega)) ⟨Nat.mod_lt _ (by decide), by decide⟩ ?_
  rw [sp_put_l, show A.2.2.2.2.1 (y % 6) = sp_le A from (sp_le_of hY (by omega)).symm]
  refine wj_istore_n C 1 dX0_passYear_12 rfl (by decide) rfl ?_
  dsimp only [List.set]
  refine wj_iload_n C 1 dX0_passYear_13 rfl rfl ?_
  refine wj_bipush (v := 100) C dX0_passYear_14 (by decide) ?_
  refine wj_idiv C dX0_passYear_16 (by decide) ?_
  refine wj_istore_n C 2 dX0_passYear_17 rfl (by decide) rfl ?_
  dsimp only [List.set]
  refine wj_iload_n C 1 dX0_passYear_18 rfl rfl ?_
  refine wj_bipush (v := 100) C dX0_passYear_19 (by decide) ?_
  refine wj_irem C dX0_passYear_21 (by decide) ?_
  refine wj_aload_n C 0 dX0_passYear_22 rfl rfl ?_
  refine wj_iload_n C 2 dX0_passYear_23 rfl rfl ?_
  refine wj_cif C (wj_rV C dX0_passYear_24 km_X0_strengthOf kl_X0_81 (is_X0 (by first | assumption | omega)) rfl rfl (c_X0_strengthOf l V hk hn hN) rfl rfl (Nat.le_of_ble_eq_true rfl) (by decide)) ?_
  refine wj_icmp_le C 35 dX0_passYear_27 (by decide) (fun h27 => ?_) (fun h27 => ?_)
  · have e8 : sp_lean A = A := by rw [sp_lean, if_neg (Int32.not_lt.mpr h27)]
    refine wj_iconst (v := 0) C dX0_passYear_35 (by decide) ?_
    refine wj_istore_n C 3 dX0_passYear_36 rfl (by decide) rfl ?_
    dsimp only [List.set]
    exact (by have hh := lp (sp_le A) (sp_le A / 100) (N + 1) 0 (by omega) (by omega); rw [sp_gr0, e8] at hh; exact hh)
  · have e8 : sp_lean A = sp_brk A (sp_le A / 100) := by rw [sp_lean, if_pos (Int32.not_le.mp h27)]
    refine wj_aload_n C 0 dX0_passYear_30 rfl rfl ?_
    refine wj_iload_n C 2 dX0_passYear_31 rfl rfl ?_
    refine wj_cvf C (wj_rV C dX0_passYear_32 km_X0_breakDown kl_X0_96 (is_X0 (by first | assumption | omega)) rfl rfl (c_X0_breakDown l V hk hn hN) rfl rfl (Nat.le_of_ble_eq_true rfl) (by decide)) ?_
    refine wj_iconst (v := 0) C dX0_passYear_35 (by decide) ?_
    refine wj_istore_n C 3 dX0_passYear_36 rfl (by decide) rfl ?_
    dsimp only [List.set]
    exact (by have hh := lp (sp_le A) (sp_le A / 100) (N + 1) 0 (by omega) (by omega); rw [sp_gr0, e8] at hh; exact hh)
set_option maxRecDepth 100000 in
set_option maxHeartbeats 4000000 in
theorem c_X0_passYears (l : Launch) (V : wj_V) {σ : wj_St} {k : Nat} {A : sp_L} {N : Nat} {y M : Nat} (hk : 1 ≤ k ∧ k < 4) (hn : A.2.1 = nI N) (hN : N ≤ 8) (hY : A.1 = nI y) (hy : y + M ≤ 99999) : wj_M l V yX0_passYears cX0_passYears 3 none 4 89 [.ref (V.2.2.1 k), .int (nI M)] (sp_put σ k A) (wj_Vd V (sp_put σ k (sp_yrs A M))) := by
  refine wj_ofV (own := RX0) [some (.ref (V.2.2.1 k)), some (.int (nI M)), none] (by decide) rfl rfl (Nat.le_of_ble_eq_true rfl) (fun X C hR => ?_)
  have lp : ∀ n i, i ≤ M → M - i < n → wj_J l V X 2 [some (.ref (V.2.2.1 k)), some (.int (nI M)), some (.int (nI i))] [] (sp_put σ k (sp_yrs A i)) := by
    intro n
    induction n with
    | zero => intro i _ h; omega
    | succ n ih =>
      intro i hi hm
      refine wj_iload_n C 2 dX0_passYears_2 rfl rfl ?_
      refine wj_iload_n C 1 dX0_passYears_3 rfl rfl ?_
      refine wj_icmp_ge C 17 dX0_passYears_4 (by decide) (fun h4 => ?_) (fun h4 => ?_)
      · have e9 := wj_ge (N := M) (by omega) hi h4
        subst e9
        exact hR _ _ _ _ dX0_passYears_17 rfl wj_rfl
      · have hlt := wj_nge (N := M) (by omega) hi h4
        refine wj_aload_n C 0 dX0_passYears_7 rfl rfl ?_
        refine wj_cvf C (wj_rV C dX0_passYears_8 km_X0_passYear kl_X0_90 (is_X0 (by first | assumption | omega)) rfl rfl (c_X0_passYear l V hk ((sp_yrs_c A i).trans hn) hN (sp_yrs_y hY i) (by omega)) rfl rfl (Nat.le_of_ble_eq_true rfl) (by decide)) ?_
        refine wj_iinc C (v := nI (i + 1)) dX0_passYears_11 rfl (wj_i1 i) (by decide) rfl ?_
        dsimp only [List.set]
        refine wj_goto C 2 dX0_passYears_14 (by decide) ?_
        exact ih (i + 1) (by omega) (by omega)
  refine wj_iconst (v := 0) C dX0_passYears_0 (by decide) ?_
  refine wj_istore_n C 2 dX0_passYears_1 rfl (by decide) rfl ?_
  dsimp only [List.set]
  exact lp (M + 1) 0 (by omega) (by omega)
theorem sp_mng {A : sp_L} {i M : Nat} (hM : A.2.2.2.1.toInt ≤ 9999 ∧ 0 ≤ A.2.2.2.1.toInt) (hi : i ≤ M) (h : ¬ (sp_yrs A i).2.2.2.1 = A.2.2.2.1) : ¬ (sp_yrs A M).2.2.2.1 = A.2.2.2.1 := by
  intro q
  apply h
  have a := sp_yrs_mle hM i (M - i)
  rw [show i + (M - i) = M by omega, q] at a
  have b := sp_yrs_mle hM 0 i
  rw [Nat.zero_add] at b
  exact Int32.toInt_inj.mp (by have := b.1; show _ = _; have c := a.1; have d : (sp_yrs A 0).2.2.2.1 = A.2.2.2.1 := rfl; rw [d] at this; omega)
set_option maxRecDepth 100000 in
set_option maxHeartbeats 4000000 in
theorem c_X0_madeNoGapIn (l : Launch) (V : wj_V) {σ : wj_St} {k : Nat} {A : sp_L} {N : Nat} {y M : Nat} (hk : 1 ≤ k ∧ k < 4) (hn : A.2.1 = nI N) (hN : N ≤ 8) (hY : A.1 = nI y) (hy : y + M ≤ 99999) (hM : A.2.2.2.1.toInt ≤ 9999 ∧ 0 ≤ A.2.2.2.1.toInt) : wj_M l V yX0_madeNoGapIn cX0_madeNoGapIn 4 (some .boolean) 4 89 [.ref (V.2.2.1 k), .int (nI M)] (sp_put σ k A) (wj_QI V (fun r u => r = (if (sp_yrs A M).2.2.2.1 = A.2.2.2.1 then 1 else 0) ∧ ∃ B, u = sp_put σ k B)) := by
  refine wj_ofZ (own := RX0) [some (.ref (V.2.2.1 k)), some (.int (nI M)), none, none] (by decide) rfl rfl (Nat.le_of_ble_eq_true rfl) (fun X C hR => ?_)
  have lp : ∀ n i, i ≤ M → M - i < n → wj_J l V X 7 [some (.ref (V.2.2.1 k)), some (.int (nI M)), some (.int A.2.2.2.1), some (.int (nI i))] [] (sp_put σ k (sp_yrs A i)) := by
    intro n
    induction n with
    | zero => intro i _ h; omega
    | succ n ih =>
      intro i hi hm
      refine wj_iload_n C 3 dX0_madeNoGapIn_7 rfl rfl ?_
      refine wj_iload_n C 1 dX0_madeNoGapIn_8 rfl rfl ?_
      refine wj_icmp_ge C 30 dX0_madeNoGapIn_9 (by decide) (fun h9 => ?_) (fun h9 => ?_)
      · have e9 := wj_ge (N := M) (by omega) hi h9
        subst e9
        refine wj_aload_n C 0 dX0_madeNoGapIn_30 rfl rfl ?_
        refine wg_X0_28 C dX0_madeNoGapIn_31 (by first | assumption | omega) ?_
        rw [sp_put_4]
        refine wj_iload_n C 2 dX0_madeNoGapIn_34 rfl rfl ?_
        refine wj_icmp_ne C 42 dX0_madeNoGapIn_35 (by decide) (fun h35 => ?_) (fun h35 => ?_)
        · refine wj_iconst (v := 0) C dX0_madeNoGapIn_42 (by decide) ?_
          exact hR _ _ _ _ _ dX0_madeNoGapIn_43 ⟨by decide +kernel, (by first | (rw [if_pos (by assumption)]; done) | (rw [if_neg (by assumption)]; done) | (exact absurd (by assumption) h17)), _, rfl⟩ wj_rfl
        · refine wj_iconst (v := 1) C dX0_madeNoGapIn_38 (by decide) ?_
          refine wj_goto C 43 dX0_madeNoGapIn_39 (by decide) ?_
          exact hR _ _ _ _ _ dX0_madeNoGapIn_43 ⟨by decide +kernel, (by first | (rw [if_pos (by assumption)]; done) | (rw [if_neg (by assumption)]; done) | (exact absurd (by assumption) h17)), _, rfl⟩ wj_rfl
      · have hlt := wj_nge (N := M) (by omega) hi h9
        refine wj_aload_n C 0 dX0_madeNoGapIn_12 rfl rfl ?_
        refine wg_X0_28 C dX0_madeNoGapIn_13 (by first | assumption | omega) ?_
        rw [sp_put_4]
        refine wj_iload_n C 2 dX0_madeNoGapIn_16 rfl rfl ?_
        refine wj_icmp_ne C 30 dX0_madeNoGapIn_17 (by decide) (fun h17 => ?_) (fun h17 => ?_)
        · have e5 : ¬ (sp_yrs A M).2.2.2.1 = A.2.2.2.1 := sp_mng hM hi h17
          refine wj_aload_n C 0 dX0_madeNoGapIn_30 rfl rfl ?_
          refine wg_X0_28 C dX0_madeNoGapIn_31 (by first | assumption | omega) ?_
          rw [sp_put_4]
          refine wj_iload_n C 2 dX0_madeNoGapIn_34 rfl rfl ?_
          refine wj_icmp_ne C 42 dX0_madeNoGapIn_35 (by decide) (fun h35 => ?_) (fun h35 => ?_)
          · refine wj_iconst (v := 0) C dX0_madeNoGapIn_42 (by decide) ?_
            exact hR _ _ _ _ _ dX0_madeNoGapIn_43 ⟨by decide +kernel, (by first | (rw [if_pos (by assumption)]; done) | (rw [if_neg (by assumption)]; done) | (exact absurd (by assumption) h17)), _, rfl⟩ wj_rfl
          · refine wj_iconst (v := 1) C dX0_madeNoGapIn_38 (by decide) ?_
            refine wj_goto C 43 dX0_madeNoGapIn_39 (by decide) ?_
            exact hR _ _ _ _ _ dX0_madeNoGapIn_43 ⟨by decide +kernel, (by first | (rw [if_pos (by assumption)]; done) | (rw [if_neg (by assumption)]; done) | (exact absurd (by assumption) h17)), _, rfl⟩ wj_rfl
        · refine wj_aload_n C 0 dX0_madeNoGapIn_20 rfl rfl ?_
          refine wj_cvf C (wj_rV C dX0_madeNoGapIn_21 km_X0_passYear kl_X0_90 (is_X0 (by first | assumption | omega)) rfl rfl (c_X0_passYear l V hk ((sp_yrs_c A i).trans hn) hN (sp_yrs_y hY i) (by omega)) rfl rfl (Nat.le_of_ble_eq_true rfl) (by decide)) ?_
          refine wj_iinc C (v := nI (i + 1)) dX0_madeNoGapIn_24 rfl (wj_i1 i) (by decide) rfl ?_
          dsimp only [List.set]
          refine wj_goto C 7 dX0_madeNoGapIn_27 (by decide) ?_
          exact ih (i + 1) (by omega) (by omega)
  refine wj_aload_n C 0 dX0_madeNoGapIn_0 rfl rfl ?_
  refine wg_X0_28 C dX0_madeNoGapIn_1 (by first | assumption | omega) ?_
  rw [sp_put_4]
  refine wj_istore_n C 2 dX0_madeNoGapIn_4 rfl (by decide) rfl ?_
  dsimp only [List.set]
  refine wj_iconst (v := 0) C dX0_madeNoGapIn_5 (by decide) ?_
  refine wj_istore_n C 3 dX0_madeNoGapIn_6 rfl (by decide) rfl ?_
  dsimp only [List.set]
  exact lp (M + 1) 0 (by omega) (by omega)
theorem wj_rng (x : Int32) {N : Nat} (hN : N ≤ 8) : (∃ i, i < N ∧ x = nI i) ∨ ¬ (0 ≤ x ∧ x ≤ nI N - 1) := by
  by_cases h : 0 ≤ x ∧ x ≤ nI N - 1
  · left
    have h1 := Int32.le_iff_toInt_le.mp h.1
    have h2 := Int32.le_iff_toInt_le.mp h.2
    rw [Int32.toInt_zero] at h1
    rw [show (1 : Int32) = nI 1 from rfl, pk_sub_toInt (by omega) (by omega)] at h2
    obtain ⟨j, hj, rfl, hz⟩ := wj_nat h1
    exact ⟨j, by omega, rfl⟩
  · exact Or.inr h
theorem wj_rngI {i N : Nat} (hi : i < N) (hN : N ≤ 8) : 0 ≤ nI i ∧ nI i ≤ nI N - 1 := by
  refine ⟨nI_pos' (by omega), ?_⟩
  rw [Int32.le_iff_toInt_le, show (1 : Int32) = nI 1 from rfl, pk_sub_toInt (by omega) (by omega), nI_toInt (by omega)]
  omega
set_option maxRecDepth 100000 in
set_option maxHeartbeats 4000000 in
theorem c_X0_slipAt (l : Launch) (V : wj_V) {σ : wj_St} {k : Nat} {A : sp_L} {N : Nat} {i : Nat} (hk : 1 ≤ k ∧ k < 4) (hn : A.2.1 = nI N) (hN : N ≤ 8) (hlt : i < N) : wj_M l V yX0_slipAt cX0_slipAt 2 (some (.object "WordHedge$Slip")) 1 22 [.ref (V.2.2.1 k), .int (nI i)] (sp_put σ k A) (wj_Rf V (some (V.2.2.1 (2 + 8 * k + i))) (sp_put σ k A)) := by
  refine wj_ofR (own := RX0) [some (.ref (V.2.2.1 k)), some (.int (nI i))] (by decide) rfl rfl (Nat.le_of_ble_eq_true rfl) (fun X C hR => ?_)
  refine wj_iload_n C 1 dX0_slipAt_0 rfl rfl ?_
  refine wj_iconst (v := 0) C dX0_slipAt_1 (by decide) ?_
  refine wj_aload_n C 0 dX0_slipAt_2 rfl rfl ?_
  refine wg_X0_21 C dX0_slipAt_3 (by first | assumption | omega) ?_
  rw [sp_put_2]
  rw [hn]
  refine wj_iconst (v := 1) C dX0_slipAt_6 (by decide) ?_
  refine wj_isub C dX0_slipAt_7 ?_
  refine wj_cif C (wj_rSN C dX0_slipAt_8 km_X4_isIn kl_X0_51 (c_X4_isIn l V) rfl rfl (Nat.le_of_ble_eq_true rfl) (by decide)) ?_
  rw [if_pos (wj_rngI hlt hN)]
  refine wj_if_eq C 29 dX0_slipAt_11 (by decide) (fun h11 => absurd h11 (by decide)) (fun h11 => ?_)
  refine wj_iload_n C 1 dX0_slipAt_14 rfl rfl ?_
  refine wj_bipush (v := 8) C dX0_slipAt_15 (by decide) ?_
  refine wj_icmp_ge C 29 dX0_slipAt_17 (by decide) (fun h17 => absurd h17 (nI_ge (a := i) (b := 8) (by omega) (by decide))) (fun h17 => ?_)
  refine wj_aload_n C 0 dX0_slipAt_20 rfl rfl ?_
  refine wg_X0_11 C dX0_slipAt_21 (by first | assumption | omega) ?_
  refine wj_iload_n C 1 dX0_slipAt_24 rfl rfl ?_
  refine wj_aaldS C dX0_slipAt_25 (by first | assumption | omega) (by first | assumption | omega) ?_
  refine wj_goto C 30 dX0_slipAt_26 (by decide) ?_
  exact hR _ _ _ _ _ dX0_slipAt_30 ⟨rfl, rfl⟩ wj_rfl
set_option maxRecDepth 100000 in
set_option maxHeartbeats 4000000 in
theorem c_X0_slipAt_no (l : Launch) (V : wj_V) {σ : wj_St} {k : Nat} {A : sp_L} {N : Nat} {x : Int32} (hk : 1 ≤ k ∧ k < 4) (hn : A.2.1 = nI N) (hN : N ≤ 8) (hx : ¬ (0 ≤ x ∧ x ≤ nI N - 1)) : wj_M l V yX0_slipAt cX0_slipAt 2 (some (.object "WordHedge$Slip")) 1 22 [.ref (V.2.2.1 k), .int x] (sp_put σ k A) (wj_Rf V none (sp_put σ k A)) := by
  refine wj_ofR (own := RX0) [some (.ref (V.2.2.1 k)), some (.int x)] (by decide) rfl rfl (Nat.le_of_ble_eq_true rfl) (fun X C hR => ?_)
  refine wj_iload_n C 1 dX0_slipAt_0 rfl rfl ?_
  refine wj_iconst (v := 0) C dX0_slipAt_1 (by decide) ?_
  refine wj_aload_n C 0 dX0_slipAt_2 rfl rfl ?_
  refine wg_X0_21 C dX0_slipAt_3 (by first | assumption | omega) ?_
  rw [sp_put_2]
  rw [hn]
  refine wj_iconst (v := 1) C dX0_slipAt_6 (by decide) ?_
  refine wj_isub C dX0_slipAt_7 ?_
  refine wj_cif C (wj_rSN C dX0_slipAt_8 km_X4_isIn kl_X0_51 (c_X4_isIn l V) rfl rfl (Nat.le_of_ble_eq_true rfl) (by decide)) ?_
  rw [if_neg hx]
  refine wj_if_eq C 29 dX0_slipAt_11 (by decide) (fun h11 => ?_) (fun h11 => absurd rfl h11)
  refine wj_null C dX0_slipAt_29 ?_
  exact hR _ _ _ _ _ dX0_slipAt_30 ⟨rfl, rfl⟩ wj_rfl
/-- one slip more -/
def sp_add (A : sp_L) (N : Nat) (a b c : Int32) : sp_L := sp_wC (sp_wS A (fun i => if i = N then sp_new (sp_sl A N) a b c else sp_sl A i)) (nI (N + 1))
set_option maxRecDepth 100000 in
set_option maxHeartbeats 4000000 in
theorem c_X0_add (l : Launch) (V : wj_V) {σ : wj_St} {k : Nat} {A : sp_L} {N : Nat} {a b c : Int32} (hk : 1 ≤ k ∧ k < 4) (hn : A.2.1 = nI N) (hN : N ≤ 8) (h8 : N < 8) : wj_M l V yX0_add cX0_add 5 (some (.object "WordHedge$Slip")) 1 23 [.ref (V.2.2.1 k), .int a, .int b, .int c] (sp_put σ k A) (wj_Rf V (some (V.2.2.1 (2 + 8 * k + N))) (sp_put σ k (sp_add A N a b c))) := by
  refine wj_ofR (own := RX0) [some (.ref (V.2.2.1 k)), some (.int a), some (.int b), some (.int c), none] (by decide) rfl rfl (Nat.le_of_ble_eq_true rfl) (fun X C hR => ?_)
  refine wj_aload_n C 0 dX0_add_0 rfl rfl ?_
  refine wg_X0_21 C dX0_add_1 (by first | assumption | omega) ?_
  rw [sp_put_2]
  rw [hn]
  refine wj_bipush (v := 8) C dX0_add_4 (by decide) ?_
  refine wj_icmp_lt C 11 dX0_add_6 (by decide) (fun h6 => ?_) (fun h6 => absurd (nI_lt (b := 8) h8 (by decide)) h6)
  refine wj_aload_n C 0 dX0_add_11 rfl rfl ?_
  refine wg_X0_11 C dX0_add_12 (by first | assumption | omega) ?_
  refine wj_aload_n C 0 dX0_add_15 rfl rfl ?_
  refine wg_X0_21 C dX0_add_16 (by first | assumption | omega) ?_
  rw [sp_put_2]
  rw [hn]
  refine wj_aaldS C dX0_add_19 (by first | assumption | omega) (by first | assumption | omega) ?_
  refine wj_astore C dX0_add_20 (by decide) rfl ?_
  dsimp only [List.set]
  refine wj_aload C dX0_add_22 rfl ?_
  refine wj_iload_n C 1 dX0_add_24 rfl rfl ?_
  refine wj_iload_n C 2 dX0_add_25 rfl rfl ?_
  refine wj_iload_n C 3 dX0_add_26 rfl rfl ?_
  refine wj_cvf C (wj_rV C dX0_add_27 km_X2_start kl_X0_55 (is_X2 (by first | assumption | omega)) rfl rfl (c_X2_start l V (by omega)) rfl rfl (Nat.le_of_ble_eq_true rfl) (by decide)) ?_
  rw [sp_put_s hk h8, sp_put_rs hk h8]
  refine wj_aload_n C 0 dX0_add_30 rfl rfl ?_
  refine wj_dup C dX0_add_31 rfl ?_
  refine wg_X0_21 C dX0_add_32 (by first | assumption | omega) ?_
  rw [sp_put_2]
  rw [show (sp_wS A (fun a_1 => if a_1 = N then sp_new (sp_sl A N) a b c else sp_sl A a_1)).2.1 = nI N from hn]
  refine wj_iconst (v := 1) C dX0_add_35 (by decide) ?_
  refine wj_iadd C dX0_add_36 ?_
  refine wp_X0_21 C dX0_add_37 (by first | assumption | omega) ?_
  rw [nI_1, sp_put_u2]
  refine wj_aload C dX0_add_40 rfl ?_
  exact hR _ _ _ _ _ dX0_add_42 ⟨rfl, rfl⟩ wj_rfl
set_option maxRecDepth 100000 in
set_option maxHeartbeats 4000000 in
theorem c_X0_add_no (l : Launch) (V : wj_V) {σ : wj_St} {k : Nat} {A : sp_L} {N : Nat} {a b c : Int32} (hk : 1 ≤ k ∧ k < 4) (hn : A.2.1 = nI N) (hN : N ≤ 8) (h8 : 8 ≤ N) : wj_M l V yX0_add cX0_add 5 (some (.object "WordHedge$Slip")) 1 23 [.ref (V.2.2.1 k), .int a, .int b, .int c] (sp_put σ k A) (wj_Rf V none (sp_put σ k A)) := by
  refine wj_ofR (own := RX0) [some (.ref (V.2.2.1 k)), some (.int a), some (.int b), some (.int c), none] (by decide) rfl rfl (Nat.le_of_ble_eq_true rfl) (fun X C hR => ?_)
  refine wj_aload_n C 0 dX0_add_0 rfl rfl ?_
  refine wg_X0_21 C dX0_add_1 (by first | assumption | omega) ?_
  rw [sp_put_2]
  rw [hn]
  refine wj_bipush (v := 8) C dX0_add_4 (by decide) ?_
  refine wj_icmp_lt C 11 dX0_add_6 (by decide) (fun h6 => absurd h6 (nI_nlt (b := 8) (by omega) (by omega))) (fun h6 => ?_)
  refine wj_null C dX0_add_9 ?_
  exact hR _ _ _ _ _ dX0_add_10 ⟨rfl, rfl⟩ wj_rfl
theorem sp_put_rl2 {σ : wj_St} {k : Nat} {A : sp_L} {g : Nat → Int32} : wj_r (sp_put σ k A) (k + 6) g = sp_put σ k (sp_wL A g) := sp_put_rl
/-- the first m slips of another lane -/
def sp_bcN (A B : sp_L) (m : Nat) : sp_L := sp_wS A (fun i => if i < m then sp_sl B i else sp_sl A i)
theorem sp_bc0 (A B : sp_L) : sp_bcN A B 0 = A := by simp [sp_bcN, sp_wS, sp_sl]
theorem sp_put_eq {σ : wj_St} {k : Nat} {A B : sp_L} (hk : 1 ≤ k ∧ k < 4) (h1 : A.1 = B.1) (h2 : A.2.1 = B.2.1) (h3 : A.2.2.1 = B.2.2.1) (h4 : A.2.2.2.1 = B.2.2.2.1) (h5 : ∀ i, i < 6 → sp_ls A i = sp_ls B i) (h6 : ∀ i f, i < 8 → f < 7 → sp_sl A i f = sp_sl B i f) : wj_eq (sp_put σ k A) (sp_put σ k B) := by
  intro q j hq hj
  by_cases a1 : q = k
  · subst a1; simp only [sp_put, if_true, h1, h2, h3, h4]
  · by_cases a2 : q = k + 6
    · subst a2
      rw [sp_put_l, sp_put_l]
      refine h5 j ?_
      have : wj_sl (k + 6) = 6 := by
        unfold wj_sl wj_len
        rw [if_neg (by omega), if_neg (by omega), if_neg (by omega), if_pos (by omega), if_pos (by omega)]
      omega
    · by_cases a3 : 2 + 8 * k ≤ q ∧ q < 10 + 8 * k
      · have e : q = 2 + 8 * k + (q - (2 + 8 * k)) := by omega
        rw [e, sp_put_s hk (by omega), sp_put_s hk (by omega)]
        refine h6 _ j (by omega) ?_
        have : wj_sl q = 7 := by
          unfold wj_sl
          rw [if_neg (by omega), if_neg (by omega), if_neg (by omega), if_neg (by omega), if_pos (by omega)]
        omega
      · rw [sp_put_o (by omega), sp_put_o (by omega)]
theorem sp_cpy_c (s t : Nat → Int32) (f : Nat) (hf : f < 7) : sp_cpy s t f = t f := by rw [sp_cpy, if_pos hf]
theorem sp_becS {σ : wj_St} {k k2 i : Nat} {A : sp_L} (hk : 1 ≤ k ∧ k < 4) (hk2 : 1 ≤ k2 ∧ k2 < 4) (hne : k2 ≠ k) (hi : i < 8) : wj_eq (wj_r (sp_put σ k (sp_bcN A (sp_get σ k2) i)) (2 + 8 * k + i) (sp_cpy (sp_put σ k (sp_bcN A (sp_get σ k2) i) (2 + 8 * k + i)) (sp_put σ k (sp_bcN A (sp_get σ k2) i) (2 + 8 * k2 + i)))) (sp_put σ k (sp_bcN A (sp_get σ k2) (i + 1))) := by
  rw [sp_put_rs hk hi]
  refine sp_put_eq hk rfl rfl rfl rfl (fun _ _ => rfl) (fun a f _ hf => ?_)
  simp only [sp_bcN, sp_wS, sp_sl]
  by_cases h : a = i
  · subst h
    rw [if_pos rfl, if_pos (by omega), sp_cpy_c _ _ _ hf, sp_put_o (by omega)]
    rfl
  · rw [if_neg h]
    by_cases h2 : a < i
    · rw [if_pos h2, if_pos (by omega)]
    · rw [if_neg h2, if_neg (by omega)]
theorem sp_becE {σ : wj_St} {k k2 N : Nat} {A : sp_L} {g : Nat → Int32} (hk : 1 ≤ k ∧ k < 4) (hn : σ k2 2 = nI N) (hN : N ≤ 8) : wj_eq (sp_put σ k (sp_wY (sp_wM (sp_wH (sp_wC (sp_wL (sp_bcN A (sp_get σ k2) N) (va_cpy (σ (k2 + 6)) g (0 : Int32).toNatClampNeg (0 : Int32).toNatClampNeg (6 : Int32).toNatClampNeg)) (σ k2 2)) (σ k2 3)) (σ k2 4)) (σ k2 5))) (sp_put σ k (sp_bec A (sp_get σ k2))) := by
  have e6 : (6 : Int32).toNatClampNeg = 6 := by decide +kernel
  refine sp_put_eq hk rfl rfl rfl rfl (fun i hi => ?_) (fun a f _ hf => ?_)
  · show va_cpy _ _ _ _ _ i = σ (k2 + 6) i
    rw [sb_cl0, e6, pk_cpy_in (by omega) (by omega)]
    simp
  · show (if a < N then sp_sl (sp_get σ k2) a else sp_sl A a) f = (if a < sp_N (sp_get σ k2) then sp_sl (sp_get σ k2) a else sp_sl A a) f
    rw [sp_N_of (A := sp_get σ k2) hn hN]
set_option maxRecDepth 100000 in
set_option maxHeartbeats 4000000 in
theorem c_X0_become (l : Launch) (V : wj_V) {σ : wj_St} {k k2 : Nat} {A : sp_L} {N : Nat} (hk : 1 ≤ k ∧ k < 4) (hk2 : 1 ≤ k2 ∧ k2 < 4) (hne : k2 ≠ k) (hn : σ k2 2 = nI N) (hN : N ≤ 8) : wj_M l V yX0_become cX0_become 3 none 1 26 [.ref (V.2.2.1 k), .ref (V.2.2.1 k2)] (sp_put σ k A) (wj_Vd V (sp_put σ k (sp_bec A (sp_get σ k2)))) := by
  refine wj_ofV (own := RX0) [some (.ref (V.2.2.1 k)), some (.ref (V.2.2.1 k2)), none] (by decide) rfl rfl (Nat.le_of_ble_eq_true rfl) (fun X C hR => ?_)
  have lp : ∀ n i, i ≤ N → N - i < n → wj_J l V X 2 [some (.ref (V.2.2.1 k)), some (.ref (V.2.2.1 k2)), some (.int (nI i))] [] (sp_put σ k (sp_bcN A (sp_get σ k2) i)) := by
    intro n
    induction n with
    | zero => intro i _ h; omega
    | succ n ih =>
      intro i hi hm
      refine wj_iload_n C 2 dX0_become_2 rfl rfl ?_
      refine wj_aload_n C 1 dX0_become_3 rfl rfl ?_
      refine wg_X0_21 C dX0_become_4 (by first | assumption | omega) ?_
      rw [sp_put_o (by omega)]
      refine wj_icmp_ge C 37 dX0_become_7 (by decide) (fun h7 => ?_) (fun h7 => ?_)
      · rw [hn] at h7
        have e9 := wj_ge (N := N) (by omega) hi h7
        subst e9
        refine wj_aload_n C 1 dX0_become_37 rfl rfl ?_
        refine wg_X0_17 C dX0_become_38 (by first | assumption | omega) ?_
        refine wj_iconst (v := 0) C dX0_become_41 (by decide) ?_
        refine wj_aload_n C 0 dX0_become_42 rfl rfl ?_
        refine wg_X0_17 C dX0_become_43 (by first | assumption | omega) ?_
        refine wj_iconst (v := 0) C dX0_become_46 (by decide) ?_
        refine wj_bipush (v := 6) C dX0_become_47 (by decide) ?_
        refine wj_copy C dX0_become_49 kx_X0_45 (ar_leanings (by first | assumption | omega)) (ar_leanings (by first | assumption | omega)) (by decide) (by decide) (by decide) (by decide) (by decide) (by decide) (Nat.le_of_ble_eq_true rfl) ?_
        rw [sp_put_rl, sp_put_o (q := k2 + 6) (by omega)]
        refine wj_aload_n C 0 dX0_become_52 rfl rfl ?_
        refine wj_aload_n C 1 dX0_become_53 rfl rfl ?_
        refine wg_X0_21 C dX0_become_54 (by first | assumption | omega) ?_
        rw [sp_put_o (by omega)]
        refine wp_X0_21 C dX0_become_57 (by first | assumption | omega) ?_
        rw [sp_put_u2]
        refine wj_aload_n C 0 dX0_become_60 rfl rfl ?_
        refine wj_aload_n C 1 dX0_become_61 rfl rfl ?_
        refine wg_X0_25 C dX0_become_62 (by first | assumption | omega) ?_
        rw [sp_put_o (by omega)]
        refine wp_X0_25 C dX0_become_65 (by first | assumption | omega) ?_
        rw [sp_put_u3]
        refine wj_aload_n C 0 dX0_become_68 rfl rfl ?_
        refine wj_aload_n C 1 dX0_become_69 rfl rfl ?_
        refine wg_X0_28 C dX0_become_70 (by first | assumption | omega) ?_
        rw [sp_put_o (by omega)]
        refine wp_X0_28 C dX0_become_73 (by first | assumption | omega) ?_
        rw [sp_put_u4]
        refine wj_aload_n C 0 dX0_become_76 rfl rfl ?_
        refine wj_aload_n C 1 dX0_become_77 rfl rfl ?_
        refine wg_X0_31 C dX0_become_78 (by first | assumption | omega) ?_
        rw [sp_put_o (by omega)]
        refine wp_X0_31 C dX0_become_81 (by first | assumption | omega) ?_
        rw [sp_put_u5]
        exact hR _ _ _ _ dX0_become_84 rfl (sp_becE hk hn hN)
      · rw [hn] at h7
        have hlt := wj_nge (N := N) (by omega) hi h7
        refine wj_iload_n C 2 dX0_become_10 rfl rfl ?_
        refine wj_bipush (v := 8) C dX0_become_11 (by decide) ?_
        refine wj_icmp_ge C 37 dX0_become_13 (by decide) (fun h13 => ?_) (fun h13 => ?_)
        · exact absurd (nI_lt (b := 8) (by omega) (by decide)) (Int32.not_lt.mpr h13)
        · refine wj_aload_n C 0 dX0_become_16 rfl rfl ?_
          refine wg_X0_11 C dX0_become_17 (by first | assumption | omega) ?_
          refine wj_iload_n C 2 dX0_become_20 rfl rfl ?_
          refine wj_aaldS C dX0_become_21 (by first | assumption | omega) (by first | assumption | omega) ?_
          refine wj_aload_n C 1 dX0_become_22 rfl rfl ?_
          refine wg_X0_11 C dX0_become_23 (by first | assumption | omega) ?_
          refine wj_iload_n C 2 dX0_become_26 rfl rfl ?_
          refine wj_aaldS C dX0_become_27 (by first | assumption | omega) (by first | assumption | omega) ?_
          refine wj_cvf C (wj_rV C dX0_become_28 km_X2_become kl_X0_41 (is_X2 (by first | assumption | omega)) rfl rfl (c_X2_become l V (by omega) (by omega) (by omega)) rfl rfl (Nat.le_of_ble_eq_true rfl) (by decide)) ?_
          refine wj_to C (τ := sp_put σ k (sp_bcN A (sp_get σ k2) (i + 1))) ?_ ?_
          · exact sp_becS hk (by omega) (by omega) (by omega)
          refine wj_iinc C (v := nI (i + 1)) dX0_become_31 rfl (wj_i1 i) (by decide) rfl ?_
          dsimp only [List.set]
          refine wj_goto C 2 dX0_become_34 (by decide) ?_
          exact ih (i + 1) (by omega) (by omega)
  refine wj_iconst (v := 0) C dX0_become_0 (by decide) ?_
  refine wj_istore_n C 2 dX0_become_1 rfl (by decide) rfl ?_
  dsimp only [List.set]
  exact (by have hh := lp (N + 1) 0 (by omega) (by omega); rw [sp_bc0] at hh; exact hh)

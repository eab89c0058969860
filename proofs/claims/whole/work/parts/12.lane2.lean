/-! how years change a lane: what stays -/
theorem sp_wS_id (A : sp_L) : sp_wS A (sp_sl A) = A := rfl
theorem sp_gr0 (A : sp_L) : sp_grN A 0 = A := by simp [sp_grN, sp_wS, sp_sl]
theorem sp_gv0 (A : sp_L) (p : Int32) : sp_gvN A p 0 = A := by simp [sp_gvN, sp_wS, sp_sl]
theorem sp_lay0 (A : sp_L) (p : Int32) : sp_layN A p 0 = A := by simp [sp_layN, sp_wS, sp_sl]
theorem sp_gr_i (A : sp_L) (i : Nat) : sp_sl (sp_grN A i) i = sp_sl A i := by simp [sp_grN, sp_wS]
theorem sp_gv_i (A : sp_L) (p : Int32) (i : Nat) : sp_sl (sp_gvN A p i) i = sp_sl A i := by simp [sp_gvN, sp_wS]
theorem sp_lay_i (A : sp_L) (p : Int32) (i : Nat) : sp_sl (sp_layN A p i) i = sp_sl A i := by simp [sp_layN, sp_wS]
theorem sp_gr_s (A : sp_L) (i : Nat) : sp_wS (sp_grN A i) (fun a => if a = i then sp_grw (sp_sl A i) else sp_sl (sp_grN A i) a) = sp_grN A (i + 1) := by
  refine sp_wS_c (A := A) (fun a => ?_)
  simp only [sp_grN, sp_wS, sp_sl]
  by_cases h : a = i
  · subst h; rw [if_pos rfl, if_pos (Nat.lt_succ_self a)]
  · rw [if_neg h]
    by_cases h2 : a < i
    · rw [if_pos h2, if_pos (by omega)]
    · rw [if_neg h2, if_neg (by omega)]
theorem sp_gv_s (A : sp_L) (p : Int32) (i : Nat) (hc : sp_isc (sp_sl A i) p = true) : sp_wS (sp_gvN A p i) (fun a => if a = i then sp_giv (sp_sl A i) else sp_sl (sp_gvN A p i) a) = sp_gvN A p (i + 1) := by
  refine sp_wS_c (A := A) (fun a => ?_)
  simp only [sp_gvN, sp_wS, sp_sl] at hc ⊢
  by_cases h : a = i
  · subst h; rw [if_pos rfl, if_pos ⟨Nat.lt_succ_self a, hc⟩]
  · rw [if_neg h]
    by_cases h2 : a < i ∧ sp_isc (A.2.2.2.2.2 a) p = true
    · rw [if_pos h2, if_pos ⟨by omega, h2.2⟩]
    · rw [if_neg h2, if_neg (fun q => h2 ⟨by omega, q.2⟩)]
theorem sp_gv_n (A : sp_L) (p : Int32) (i : Nat) (hc : sp_isc (sp_sl A i) p = false) : sp_gvN A p i = sp_gvN A p (i + 1) := by
  refine sp_wS_c (A := A) (fun a => ?_)
  simp only [sp_sl] at hc ⊢
  by_cases h : a = i
  · subst h; rw [if_neg (by omega), if_neg (by rw [hc]; simp)]
  · by_cases h2 : a < i ∧ sp_isc (A.2.2.2.2.2 a) p = true
    · rw [if_pos h2, if_pos ⟨by omega, h2.2⟩]
    · rw [if_neg h2, if_neg (fun q => h2 ⟨by omega, q.2⟩)]
theorem sp_lay_s (A : sp_L) (p : Int32) (i : Nat) : sp_wS (sp_layN A p i) (fun a => if a = i then upd (sp_sl A i) 4 (if (p >>> (nI i &&& 31)) &&& 1 = 1 then 1 else 0) else sp_sl (sp_layN A p i) a) = sp_layN A p (i + 1) := by
  refine sp_wS_c (A := A) (fun a => ?_)
  simp only [sp_layN, sp_wS, sp_sl]
  by_cases h : a = i
  · subst h; rw [if_pos rfl, if_pos (Nat.lt_succ_self a)]
  · rw [if_neg h]
    by_cases h2 : a < i
    · rw [if_pos h2, if_pos (by omega)]
    · rw [if_neg h2, if_neg (by omega)]
theorem sp_le_of {A : sp_L} {y : Nat} (hY : A.1 = nI y) (hy : y < 2 ^ 31) : sp_le A = sp_ls A (y % 6) := by
  rw [sp_le, hY, show (6 : Int32) = nI 6 from rfl, pk_rem hy (by decide) (by decide), nI_clamp (by omega)]
theorem sp_brk_c (A : sp_L) (p : Int32) : (sp_brk A p).2.1 = A.2.1 := rfl
theorem sp_brk_y (A : sp_L) (p : Int32) : (sp_brk A p).1 = A.1 := rfl
theorem sp_lean_c (A : sp_L) : (sp_lean A).2.1 = A.2.1 := by unfold sp_lean; split <;> rfl
theorem sp_lean_y (A : sp_L) : (sp_lean A).1 = A.1 := by unfold sp_lean; split <;> rfl
theorem sp_yr_c (A : sp_L) : (sp_yr A).2.1 = A.2.1 := sp_lean_c A
theorem sp_yr_y (A : sp_L) : (sp_yr A).1 = A.1 + 1 := rfl
theorem sp_yrs_c (A : sp_L) : ∀ m, (sp_yrs A m).2.1 = A.2.1
  | 0 => rfl
  | m + 1 => by rw [sp_yrs, sp_yr_c, sp_yrs_c A m]
theorem sp_yrs_y {A : sp_L} {y : Nat} (hY : A.1 = nI y) : ∀ m, (sp_yrs A m).1 = nI (y + m)
  | 0 => hY
  | m + 1 => by rw [sp_yrs, sp_yr_y, sp_yrs_y hY m, nI_1]; rfl
theorem sp_minY {y : Nat} (hy : y < 99999) : (if nI y + 1 < 99999 then nI y + 1 else 99999) = nI y + 1 := by
  rw [nI_1]
  by_cases h : y + 1 < 99999
  · rw [if_pos (nI_lt (b := 99999) h (by decide))]
  · rw [if_neg (nI_nlt (b := 99999) (by omega) (by omega)), show y + 1 = 99999 by omega]; rfl
/-- GAPS MADE only grow -/
theorem sp_yr_m (A : sp_L) : (sp_yr A).2.2.2.1 = A.2.2.2.1 ∨ (sp_yr A).2.2.2.1 = (if A.2.2.2.1 + 1 < 9999 then A.2.2.2.1 + 1 else 9999) := by
  show (sp_lean A).2.2.2.1 = _ ∨ (sp_lean A).2.2.2.1 = _
  unfold sp_lean
  split
  · exact Or.inr rfl
  · exact Or.inl rfl
theorem sp_yr_mle {A : sp_L} (h : A.2.2.2.1.toInt ≤ 9999 ∧ 0 ≤ A.2.2.2.1.toInt) : A.2.2.2.1.toInt ≤ (sp_yr A).2.2.2.1.toInt ∧ (sp_yr A).2.2.2.1.toInt ≤ 9999 := by
  rcases sp_yr_m A with e | e
  · rw [e]; omega
  · rw [e]
    obtain ⟨j, hj, hx, hz⟩ := wj_nat (x := A.2.2.2.1) h.2
    rw [hx, nI_1]
    split
    · rw [nI_toInt (by omega), nI_toInt (by rw [← hz] at h; omega)]
      rename_i q
      have := (nI_ltI (b := 9999) (by rw [← hz] at h; omega) (by decide)).mp q
      omega
    · rw [nI_toInt hj, show (9999 : Int32).toInt = 9999 by decide]
      rw [← hz] at h
      omega
theorem sp_yrs_mle {A : sp_L} (h : A.2.2.2.1.toInt ≤ 9999 ∧ 0 ≤ A.2.2.2.1.toInt) (j : Nat) : ∀ m, (sp_yrs A j).2.2.2.1.toInt ≤ (sp_yrs A (j + m)).2.2.2.1.toInt ∧ A.2.2.2.1.toInt ≤ (sp_yrs A (j + m)).2.2.2.1.toInt ∧ (sp_yrs A (j + m)).2.2.2.1.toInt ≤ 9999 := by
  have all : ∀ m, A.2.2.2.1.toInt ≤ (sp_yrs A m).2.2.2.1.toInt ∧ (sp_yrs A m).2.2.2.1.toInt ≤ 9999 := by
    intro m
    induction m with
    | zero => exact ⟨Int.le_refl _, h.1⟩
    | succ m ih =>
      have := sp_yr_mle (A := sp_yrs A m) ⟨ih.2, by omega⟩
      show _ ≤ (sp_yr (sp_yrs A m)).2.2.2.1.toInt ∧ _
      exact ⟨by omega, this.2⟩
  intro m
  refine ⟨?_, all (j + m)⟩
  induction m with
  | zero => exact Int.le_refl _
  | succ m ih =>
    have a := all (j + m)
    have := sp_yr_mle (A := sp_yrs A (j + m)) ⟨a.2, by omega⟩
    show _ ≤ (sp_yr (sp_yrs A (j + m))).2.2.2.1.toInt
    omega
set_option maxRecDepth 100000 in
set_option maxHeartbeats 4000000 in
theorem c_X0_weakestPlace (l : Launch) (V : wj_V) {σ : wj_St} {k : Nat} {A : sp_L} {N : Nat} (hk : 1 ≤ k ∧ k < 4) (hn : A.2.1 = nI N) (hN : N ≤ 8) : wj_M l V yX0_weakestPlace cX0_weakestPlace 3 (some .int) 3 66 [.ref (V.2.2.1 k)] (sp_put σ k A) (wj_I V (sp_wk A 15) (sp_put σ k A)) := by
  refine wj_ofI (own := RX0) [some (.ref (V.2.2.1 k)), none, none] (by decide) rfl rfl (Nat.le_of_ble_eq_true rfl) (fun X C hR => ?_)
  have lp : ∀ n i, i ≤ 15 → 15 - i < n → wj_J l V X 4 [some (.ref (V.2.2.1 k)), some (.int (sp_wk A i)), some (.int (nI (i + 1)))] [] (sp_put σ k A) := by
    intro n
    induction n with
    | zero => intro i _ h; omega
    | succ n ih =>
      intro i hi hm
      refine wj_iload_n C 2 dX0_weakestPlace_4 rfl rfl ?_
      refine wj_bipush (v := 16) C dX0_weakestPlace_5 (by decide) ?_
      refine wj_icmp_ge C 31 dX0_weakestPlace_7 (by decide) (fun h7 => ?_) (fun h7 => ?_)
      · have e9 : i = 15 := by have := (nI_leI (a := 16) (b := i + 1) (by decide) (by omega)).mp h7; omega
        subst e9
        refine wj_iload_n C 1 dX0_weakestPlace_31 rfl rfl ?_
        exact hR _ _ _ _ _ dX0_weakestPlace_32 ⟨rfl, rfl⟩ wj_rfl
      · have hlt : i < 15 := by
          rcases Nat.lt_or_ge i 15 with q | q
          · exact q
          · exact absurd (nI_le (a := 16) (b := i + 1) (by omega) (by omega)) h7
        refine wj_aload_n C 0 dX0_weakestPlace_10 rfl rfl ?_
        refine wj_iload_n C 2 dX0_weakestPlace_11 rfl rfl ?_
        refine wj_cif C (wj_rV C dX0_weakestPlace_12 km_X0_strengthOf kl_X0_81 (is_X0 (by first | assumption | omega)) rfl rfl (c_X0_strengthOf l V hk hn hN) rfl rfl (Nat.le_of_ble_eq_true rfl) (by decide)) ?_
        refine wj_aload_n C 0 dX0_weakestPlace_15 rfl rfl ?_
        refine wj_iload_n C 1 dX0_weakestPlace_16 rfl rfl ?_
        refine wj_cif C (wj_rV C dX0_weakestPlace_17 km_X0_strengthOf kl_X0_81 (is_X0 (by first | assumption | omega)) rfl rfl (c_X0_strengthOf l V hk hn hN) rfl rfl (Nat.le_of_ble_eq_true rfl) (by decide)) ?_
        refine wj_icmp_ge C 25 dX0_weakestPlace_20 (by decide) (fun h20 => ?_) (fun h20 => ?_)
        · have e8 : sp_wk A (i + 1) = sp_wk A i := by rw [sp_wk, if_neg (Int32.not_lt.mpr h20)]
          refine wj_iinc C (v := nI (i + 1 + 1)) dX0_weakestPlace_25 rfl (wj_i1 (i + 1)) (by decide) rfl ?_
          dsimp only [List.set]
          refine wj_goto C 4 dX0_weakestPlace_28 (by decide) ?_
          exact (by have hh := ih (i + 1) (by omega) (by omega); rw [e8] at hh; exact hh)
        · have e8 : sp_wk A (i + 1) = nI (i + 1) := by rw [sp_wk, if_pos (Int32.not_le.mp h20)]
          refine wj_iload_n C 2 dX0_weakestPlace_23 rfl rfl ?_
          refine wj_istore_n C 1 dX0_weakestPlace_24 rfl (by decide) rfl ?_
          dsimp only [List.set]
          refine wj_iinc C (v := nI (i + 1 + 1)) dX0_weakestPlace_25 rfl (wj_i1 (i + 1)) (by decide) rfl ?_
          dsimp only [List.set]
          refine wj_goto C 4 dX0_weakestPlace_28 (by decide) ?_
          exact (by have hh := ih (i + 1) (by omega) (by omega); rw [e8] at hh; exact hh)
  refine wj_iconst (v := 0) C dX0_weakestPlace_0 (by decide) ?_
  refine wj_istore_n C 1 dX0_weakestPlace_1 rfl (by decide) rfl ?_
  dsimp only [List.set]
  refine wj_iconst (v := 1) C dX0_weakestPlace_2 (by decide) ?_
  refine wj_istore_n C 2 dX0_weakestPlace_3 rfl (by decide) rfl ?_
  dsimp only [List.set]
  exact lp 16 0 (by omega) (by omega)
set_option maxRecDepth 100000 in
set_option maxHeartbeats 4000000 in
theorem c_X0_placesBrokenBy (l : Launch) (V : wj_V) {σ : wj_St} {k : Nat} {A : sp_L} {N : Nat} {w : Int32} (hk : 1 ≤ k ∧ k < 4) (hn : A.2.1 = nI N) (hN : N ≤ 8) : wj_M l V yX0_placesBrokenBy cX0_placesBrokenBy 4 (some .int) 3 66 [.ref (V.2.2.1 k), .int w] (sp_put σ k A) (wj_I V (sp_pb A w 16) (sp_put σ k A)) := by
  refine wj_ofI (own := RX0) [some (.ref (V.2.2.1 k)), some (.int w), none, none] (by decide) rfl rfl (Nat.le_of_ble_eq_true rfl) (fun X C hR => ?_)
  have lp : ∀ n i, i ≤ 16 → 16 - i < n → wj_J l V X 4 [some (.ref (V.2.2.1 k)), some (.int w), some (.int (sp_pb A w i)), some (.int (nI i))] [] (sp_put σ k A) := by
    intro n
    induction n with
    | zero => intro i _ h; omega
    | succ n ih =>
      intro i hi hm
      refine wj_iload_n C 3 dX0_placesBrokenBy_4 rfl rfl ?_
      refine wj_bipush (v := 16) C dX0_placesBrokenBy_5 (by decide) ?_
      refine wj_icmp_ge C 28 dX0_placesBrokenBy_7 (by decide) (fun h7 => ?_) (fun h7 => ?_)
      · have e9 := wj_ge (N := 16) (by decide) hi h7
        subst e9
        refine wj_iload_n C 2 dX0_placesBrokenBy_28 rfl rfl ?_
        exact hR _ _ _ _ _ dX0_placesBrokenBy_29 ⟨rfl, rfl⟩ wj_rfl
      · have hlt := wj_nge (N := 16) (by decide) hi h7
        refine wj_iload_n C 1 dX0_placesBrokenBy_10 rfl rfl ?_
        refine wj_aload_n C 0 dX0_placesBrokenBy_11 rfl rfl ?_
        refine wj_iload_n C 3 dX0_placesBrokenBy_12 rfl rfl ?_
        refine wj_cif C (wj_rV C dX0_placesBrokenBy_13 km_X0_strengthOf kl_X0_81 (is_X0 (by first | assumption | omega)) rfl rfl (c_X0_strengthOf l V hk hn hN) rfl rfl (Nat.le_of_ble_eq_true rfl) (by decide)) ?_
        refine wj_icmp_le C 22 dX0_placesBrokenBy_16 (by decide) (fun h16 => ?_) (fun h16 => ?_)
        · have e8 : sp_pb A w (i + 1) = sp_pb A w i := by rw [sp_pb, if_neg (Int32.not_lt.mpr h16)]
          refine wj_iinc C (v := nI (i + 1)) dX0_placesBrokenBy_22 rfl (wj_i1 i) (by decide) rfl ?_
          dsimp only [List.set]
          refine wj_goto C 4 dX0_placesBrokenBy_25 (by decide) ?_
          exact (by have hh := ih (i + 1) (by omega) (by omega); rw [e8] at hh; exact hh)
        · have e8 : sp_pb A w (i + 1) = sp_pb A w i + 1 := by rw [sp_pb, if_pos (Int32.not_le.mp h16)]
          refine wj_iinc C (v := sp_pb A w i + 1) dX0_placesBrokenBy_19 rfl (rfl) (by decide) rfl ?_
          dsimp only [List.set]
          refine wj_iinc C (v := nI (i + 1)) dX0_placesBrokenBy_22 rfl (wj_i1 i) (by decide) rfl ?_
          dsimp only [List.set]
          refine wj_goto C 4 dX0_placesBrokenBy_25 (by decide) ?_
          exact (by have hh := ih (i + 1) (by omega) (by omega); rw [e8] at hh; exact hh)
  refine wj_iconst (v := 0) C dX0_placesBrokenBy_0 (by decide) ?_
  refine wj_istore_n C 2 dX0_placesBrokenBy_1 rfl (by decide) rfl ?_
  dsimp only [List.set]
  refine wj_iconst (v := 0) C dX0_placesBrokenBy_2 (by decide) ?_
  refine wj_istore_n C 3 dX0_placesBrokenBy_3 rfl (by decide) rfl ?_
  dsimp only [List.set]
  exact lp 17 0 (by omega) (by omega)
set_option maxRecDepth 100000 in
set_option maxHeartbeats 4000000 in
theorem c_X0_layToGreater (l : Launch) (V : wj_V) {σ : wj_St} {k : Nat} {A : sp_L} {N : Nat} {p : Int32} (hk : 1 ≤ k ∧ k < 4) (hn : A.2.1 = nI N) (hN : N ≤ 8) : wj_M l V yX0_layToGreater cX0_layToGreater 3 none 0 0 [.ref (V.2.2.1 k), .int p] (sp_put σ k A) (wj_Vd V (sp_put σ k (sp_layN A p (sp_N A)))) := by
  refine wj_ofV (own := RX0) [some (.ref (V.2.2.1 k)), some (.int p), none] (by decide) rfl rfl (Nat.le_of_ble_eq_true rfl) (fun X C hR => ?_)
  have lp : ∀ n i, i ≤ N → N - i < n → wj_J l V X 2 [some (.ref (V.2.2.1 k)), some (.int p), some (.int (nI i))] [] (sp_put σ k (sp_layN A p i)) := by
    intro n
    induction n with
    | zero => intro i _ h; omega
    | succ n ih =>
      intro i hi hm
      refine wj_iload_n C 2 dX0_layToGreater_2 rfl rfl ?_
      refine wj_aload_n C 0 dX0_layToGreater_3 rfl rfl ?_
      refine wg_X0_21 C dX0_layToGreater_4 (by first | assumption | omega) ?_
      rw [sp_put_2]
      refine wj_icmp_ge C 39 dX0_layToGreater_7 (by decide) (fun h7 => ?_) (fun h7 => ?_)
      · rw [show (sp_layN A p i).2.1 = nI N from hn] at h7
        have e9 := wj_ge (N := N) (by omega) hi h7
        subst e9
        exact hR _ _ _ _ dX0_layToGreater_39 (by rw [sp_N_of hn hN]) wj_rfl
      · rw [show (sp_layN A p i).2.1 = nI N from hn] at h7
        have hlt := wj_nge (N := N) (by omega) hi h7
        refine wj_aload_n C 0 dX0_layToGreater_10 rfl rfl ?_
        refine wg_X0_11 C dX0_layToGreater_11 (by first | assumption | omega) ?_
        refine wj_iload_n C 2 dX0_layToGreater_14 rfl rfl ?_
        refine wj_aaldS C dX0_layToGreater_15 (by first | assumption | omega) (by first | assumption | omega) ?_
        refine wj_iload_n C 1 dX0_layToGreater_16 rfl rfl ?_
        refine wj_iload_n C 2 dX0_layToGreater_17 rfl rfl ?_
        refine wj_ishr C dX0_layToGreater_18 ?_
        refine wj_iconst (v := 1) C dX0_layToGreater_19 (by decide) ?_
        refine wj_iand C dX0_layToGreater_20 ?_
        refine wj_iconst (v := 1) C dX0_layToGreater_21 (by decide) ?_
        refine wj_icmp_ne C 29 dX0_layToGreater_22 (by decide) (fun h22 => ?_) (fun h22 => ?_)
        · have e8 : (if (p >>> (nI i &&& 31)) &&& 1 = 1 then (1 : Int32) else 0) = 0 := by rw [if_neg h22]
          refine wj_iconst (v := 0) C dX0_layToGreater_29 (by decide) ?_
          refine wp_X0_87 C dX0_layToGreater_30 (by first | assumption | omega) ?_
          rw [wj_u_r, sp_put_s hk (by omega), sp_put_rs hk (by omega), sp_lay_i]
          refine wj_iinc C (v := nI (i + 1)) dX0_layToGreater_33 rfl (wj_i1 i) (by decide) rfl ?_
          dsimp only [List.set]
          refine wj_goto C 2 dX0_layToGreater_36 (by decide) ?_
          exact (by have hh := ih (i + 1) (by omega) (by omega); rw [← sp_lay_s, e8] at hh; exact hh)
        · have e8 : (if (p >>> (nI i &&& 31)) &&& 1 = 1 then (1 : Int32) else 0) = 1 := by rw [if_pos h22]
          refine wj_iconst (v := 1) C dX0_layToGreater_25 (by decide) ?_
          refine wj_goto C 30 dX0_layToGreater_26 (by decide) ?_
          refine wp_X0_87 C dX0_layToGreater_30 (by first | assumption | omega) ?_
          rw [wj_u_r, sp_put_s hk (by omega), sp_put_rs hk (by omega), sp_lay_i]
          refine wj_iinc C (v := nI (i + 1)) dX0_layToGreater_33 rfl (wj_i1 i) (by decide) rfl ?_
          dsimp only [List.set]
          refine wj_goto C 2 dX0_layToGreater_36 (by decide) ?_
          exact (by have hh := ih (i + 1) (by omega) (by omega); rw [← sp_lay_s, e8] at hh; exact hh)
  refine wj_iconst (v := 0) C dX0_layToGreater_0 (by decide) ?_
  refine wj_istore_n C 2 dX0_layToGreater_1 rfl (by decide) rfl ?_
  dsimp only [List.set]
  exact (by have hh := lp (N + 1) 0 (by omega) (by omega); rw [sp_lay0] at hh; exact hh)
set_option maxRecDepth 100000 in
set_option maxHeartbeats 4000000 in
theorem c_X0_breakDown (l : Launch) (V : wj_V) {σ : wj_St} {k : Nat} {A : sp_L} {N : Nat} {p : Int32} (hk : 1 ≤ k ∧ k < 4) (hn : A.2.1 = nI N) (hN : N ≤ 8) : wj_M l V yX0_breakDown cX0_breakDown 3 none 2 42 [.ref (V.2.2.1 k), .int p] (sp_put σ k A) (wj_Vd V (sp_put σ k (sp_brk A p))) := by
  refine wj_ofV (own := RX0) [some (.ref (V.2.2.1 k)), some (.int p), none] (by decide) rfl rfl (Nat.le_of_ble_eq_true rfl) (fun X C hR => ?_)
  have lp : ∀ n i, i ≤ N → N - i < n → wj_J l V X 16 [some (.ref (V.2.2.1 k)), some (.int p), some (.int (nI i))] [] (sp_put σ k (sp_gvN (sp_wH A (A.2.2.1 &&& (((1 : Int32) <<< (p &&& 31)) ^^^ (-1)))) p i)) := by
    intro n
    induction n with
    | zero => intro i _ h; omega
    | succ n ih =>
      intro i hi hm
      refine wj_iload_n C 2 dX0_breakDown_16 rfl rfl ?_
      refine wj_aload_n C 0 dX0_breakDown_17 rfl rfl ?_
      refine wg_X0_21 C dX0_breakDown_18 (by first | assumption | omega) ?_
      rw [sp_put_2]
      refine wj_icmp_ge C 52 dX0_breakDown_21 (by decide) (fun h21 => ?_) (fun h21 => ?_)
      · rw [show (sp_gvN (sp_wH A (A.2.2.1 &&& (((1 : Int32) <<< (p &&& 31)) ^^^ (-1)))) p i).2.1 = nI N from hn] at h21
        have e9 := wj_ge (N := N) (by omega) hi h21
        subst e9
        refine wj_aload_n C 0 dX0_breakDown_52 rfl rfl ?_
        refine wj_sipush (v := 9999) C dX0_breakDown_53 (by decide) ?_
        refine wj_aload_n C 0 dX0_breakDown_56 rfl rfl ?_
        refine wg_X0_28 C dX0_breakDown_57 (by first | assumption | omega) ?_
        rw [sp_put_4]
        refine wj_iconst (v := 1) C dX0_breakDown_60 (by decide) ?_
        refine wj_iadd C dX0_breakDown_61 ?_
        refine wj_min C dX0_breakDown_62 kx_X0_104 (by decide) (Nat.le_of_ble_eq_true rfl) ?_
        refine wp_X0_28 C dX0_breakDown_65 (by first | assumption | omega) ?_
        rw [sp_put_u4]
        exact hR _ _ _ _ dX0_breakDown_68 (by rw [sp_brk, sp_N_of hn hN]) wj_rfl
      · rw [show (sp_gvN (sp_wH A (A.2.2.1 &&& (((1 : Int32) <<< (p &&& 31)) ^^^ (-1)))) p i).2.1 = nI N from hn] at h21
        have hlt := wj_nge (N := N) (by omega) hi h21
        refine wj_aload_n C 0 dX0_breakDown_24 rfl rfl ?_
        refine wg_X0_11 C dX0_breakDown_25 (by first | assumption | omega) ?_
        refine wj_iload_n C 2 dX0_breakDown_28 rfl rfl ?_
        refine wj_aaldS C dX0_breakDown_29 (by first | assumption | omega) (by first | assumption | omega) ?_
        refine wj_iload_n C 1 dX0_breakDown_30 rfl rfl ?_
        refine wj_cif C (wj_rV C dX0_breakDown_31 km_X2_isCovering kl_X0_62 (is_X2 (by first | assumption | omega)) rfl rfl (c_X2_isCovering l V (by omega)) rfl rfl (Nat.le_of_ble_eq_true rfl) (by decide)) ?_
        rw [sp_put_s hk (by omega), sp_gv_i]
        refine wj_if_eq C 46 dX0_breakDown_34 (by decide) (fun h34 => ?_) (fun h34 => ?_)
        · have hc := wj_b0 h34
          refine wj_iinc C (v := nI (i + 1)) dX0_breakDown_46 rfl (wj_i1 i) (by decide) rfl ?_
          dsimp only [List.set]
          refine wj_goto C 16 dX0_breakDown_49 (by decide) ?_
          exact (by have hh := ih (i + 1) (by omega) (by omega); first | (rw [← sp_gv_n _ _ _ hc] at hh; exact hh) | (rw [← sp_gv_s _ _ _ hc] at hh; exact hh))
        · have hc := wj_b1 h34
          refine wj_aload_n C 0 dX0_breakDown_37 rfl rfl ?_
          refine wg_X0_11 C dX0_breakDown_38 (by first | assumption | omega) ?_
          refine wj_iload_n C 2 dX0_breakDown_41 rfl rfl ?_
          refine wj_aaldS C dX0_breakDown_42 (by first | assumption | omega) (by first | assumption | omega) ?_
          refine wj_cvf C (wj_rV C dX0_breakDown_43 km_X2_giveWay kl_X0_107 (is_X2 (by first | assumption | omega)) rfl rfl (c_X2_giveWay l V (by omega)) rfl rfl (Nat.le_of_ble_eq_true rfl) (by decide)) ?_
          rw [sp_put_s hk (by omega), sp_gv_i, sp_put_rs hk (by omega)]
          refine wj_iinc C (v := nI (i + 1)) dX0_breakDown_46 rfl (wj_i1 i) (by decide) rfl ?_
          dsimp only [List.set]
          refine wj_goto C 16 dX0_breakDown_49 (by decide) ?_
          exact (by have hh := ih (i + 1) (by omega) (by omega); first | (rw [← sp_gv_n _ _ _ hc] at hh; exact hh) | (rw [← sp_gv_s _ _ _ hc] at hh; exact hh))
  refine wj_aload_n C 0 dX0_breakDown_0 rfl rfl ?_
  refine wj_dup C dX0_breakDown_1 rfl ?_
  refine wg_X0_25 C dX0_breakDown_2 (by first | assumption | omega) ?_
  rw [sp_put_3]
  refine wj_iconst (v := 1) C dX0_breakDown_5 (by decide) ?_
  refine wj_iload_n C 1 dX0_breakDown_6 rfl rfl ?_
  refine wj_ishl C dX0_breakDown_7 ?_
  refine wj_iconst (v := -1) C dX0_breakDown_8 (by decide) ?_
  refine wj_ixor C dX0_breakDown_9 ?_
  refine wj_iand C dX0_breakDown_10 ?_
  refine wp_X0_25 C dX0_breakDown_11 (by first | assumption | omega) ?_
  rw [sp_put_u3]
  refine wj_iconst (v := 0) C dX0_breakDown_14 (by decide) ?_
  refine wj_istore_n C 2 dX0_breakDown_15 rfl (by decide) rfl ?_
  dsimp only [List.set]
  exact (by have hh := lp (N + 1) 0 (by omega) (by omega); rw [sp_gv0] at hh; exact hh)
set_option maxRecDepth 100000 in
set_option maxHeartbeats 4000000 in
theorem c_X0_passYear (l : Launch) (V : wj_V) {σ : wj_St} {k : Nat} {A : sp_L} {N : Nat} {y : Nat} (hk : 1 ≤ k ∧ k < 4) (hn : A.2.1 = nI N) (hN : N ≤ 8) (hY : A.1 = nI y) (hy : y < 99999) : wj_M l V yX0_passYear cX0_passYear 4 none 3 66 [.ref (V.2.2.1 k)] (sp_put σ k A) (wj_Vd V (sp_put σ k (sp_yr A))) := by
  refine wj_ofV (own := RX0) [some (.ref (V.2.2.1 k)), none, none, none] (by decide) rfl rfl (Nat.le_of_ble_eq_true rfl) (fun X C hR => ?_)
  have lp : ∀ (a1 a2 : Int32) n i, i ≤ N → N - i < n → wj_J l V X 37 [some (.ref (V.2.2.1 k)), some (.int a1), some (.int a2), some (.int (nI i))] [] (sp_put σ k (sp_grN (sp_lean A) i)) := by
    intro a1 a2 n
    induction n with
    | zero => intro i _ h; omega
    | succ n ih =>
      intro i hi hm
      refine wj_iload_n C 3 dX0_passYear_37 rfl rfl ?_
      refine wj_aload_n C 0 dX0_passYear_38 rfl rfl ?_
      refine wg_X0_21 C dX0_passYear_39 (by first | assumption | omega) ?_
      rw [sp_put_2]
      refine wj_icmp_ge C 60 dX0_passYear_42 (by decide) (fun h42 => ?_) (fun h42 => ?_)
      · rw [show (sp_grN (sp_lean A) i).2.1 = nI N from (sp_lean_c A).trans hn] at h42
        have e9 := wj_ge (N := N) (by omega) hi h42
        subst e9
        refine wj_aload_n C 0 dX0_passYear_60 rfl rfl ?_
        refine wj_ldc C dX0_passYear_61 kc_X0_103 ?_
        refine wj_aload_n C 0 dX0_passYear_63 rfl rfl ?_
        refine wg_X0_31 C dX0_passYear_64 (by first | assumption | omega) ?_
        rw [sp_put_5]
        rw [show (sp_grN (sp_lean A) i).1 = nI y from (sp_lean_y A).trans hY]
        refine wj_iconst (v := 1) C dX0_passYear_67 (by decide) ?_
        refine wj_iadd C dX0_passYear_68 ?_
        refine wj_min C dX0_passYear_69 kx_X0_104 (by decide) (Nat.le_of_ble_eq_true rfl) ?_
        refine wp_X0_31 C dX0_passYear_72 (by first | assumption | omega) ?_
        rw [sp_put_u5]
        exact hR _ _ _ _ dX0_passYear_75 (by rw [sp_yr, sp_N_of hn hN, hY]) wj_rfl
      · rw [show (sp_grN (sp_lean A) i).2.1 = nI N from (sp_lean_c A).trans hn] at h42
        have hlt := wj_nge (N := N) (by omega) hi h42
        refine wj_aload_n C 0 dX0_passYear_45 rfl rfl ?_
        refine wg_X0_11 C dX0_passYear_46 (by first | assumption | omega) ?_
        refine wj_iload_n C 3 dX0_passYear_49 rfl rfl ?_
        refine wj_aaldS C dX0_passYear_50 (by first | assumption | omega) (by first | assumption | omega) ?_
        refine wj_cvf C (wj_rV C dX0_passYear_51 km_X2_grow kl_X0_100 (is_X2 (by first | assumption | omega)) rfl rfl (c_X2_grow l V (by omega)) rfl rfl (Nat.le_of_ble_eq_true rfl) (by decide)) ?_
        rw [sp_put_s hk (by omega), sp_gr_i, sp_put_rs hk (by omega), sp_gr_s]
        refine wj_iinc C (v := nI (i + 1)) dX0_passYear_54 rfl (wj_i1 i) (by decide) rfl ?_
        dsimp only [List.set]
        refine wj_goto C 37 dX0_passYear_57 (by decide) ?_
        exact ih (i + 1) (by omega) (by omega)
  refine wj_aload_n C 0 dX0_passYear_0 rfl rfl ?_
  refine wg_X0_17 C dX0_passYear_1 (by first | assumption | omega) ?_
  refine wj_aload_n C 0 dX0_passYear_4 rfl rfl ?_
  refine wg_X0_31 C dX0_passYear_5 (by first | assumption | omega) ?_
  rw [sp_put_5]
  rw [hY]
  refine wj_cif C (wj_rS C dX0_passYear_8 km_X0_listedFor kl_X0_93 (c_X0_listedFor l V (by omega)) rfl rfl (Nat.le_of_ble_eq_true rfl) (by decide)) ?_
  rw [show (6 : Int32) = nI 6 from rfl, pk_rem (by omega) (by decide) (by decide)]
  refine wj_ialdN C dX0_passYear_11 (ar_leanings (by first | assumption | omega)) ⟨Nat.mod_lt _ (by decide), by decide⟩ ?_
  rw [sp_put_l, show A.2.2.2.2.1 (y % 6) = sp_le A from (sp_le_of hY (by omega)).symm]
  refine wj_istore_n C 1 dX0_passYear_12 rfl (by decide) rfl ?_
  dsimp only [List.set]
  refine wj_iload_n C 1 dX0_passYear_13 rfl rfl ?_
  refine wj_bipush (v := 100) C dX0_passYear_14 (by decide) ?_
  refine wj_idiv C dX0_passYear_16 (by decide) ?_
  refine wj_istore_n C 2 dX0_passYear_17 rfl (by decide) rfl ?_
  dsimp only [List.set]
  refine wj_iload_n C 1 dX0_passYear_18 rfl rfl ?_
  refine wj_bipush (v := 100) C dX0_passYear_19 (by decide) ?_
  refine wj_irem C dX0_passYear_21 (by decide) ?_
  refine wj_aload_n C 0 dX0_passYear_22 rfl rfl ?_
  refine wj_iload_n C 2 dX0_passYear_23 rfl rfl ?_
  refine wj_cif C (wj_rV C dX0_passYear_24 km_X0_strengthOf kl_X0_81 (is_X0 (by first | assumption | omega)) rfl rfl (c_X0_strengthOf l V hk hn hN) rfl rfl (Nat.le_of_ble_eq_true rfl) (by decide)) ?_
  refine wj_icmp_le C 35 dX0_passYear_27 (by decide) (fun h27 => ?_) (fun h27 => ?_)
  · have e8 : sp_lean A = A := by rw [sp_lean, if_neg (Int32.not_lt.mpr h27)]
    refine wj_iconst (v := 0) C dX0_passYear_35 (by decide) ?_
    refine wj_istore_n C 3 dX0_passYear_36 rfl (by decide) rfl ?_
    dsimp only [List.set]
    exact (by have hh := lp (sp_le A) (sp_le A / 100) (N + 1) 0 (by omega) (by omega); rw [sp_gr0, e8] at hh; exact hh)
  · have e8 : sp_lean A = sp_brk A (sp_le A / 100) := by rw [sp_lean, if_pos (Int32.not_le.mp h27)]
    refine wj_aload_n C 0 dX0_passYear_30 rfl rfl ?_
    refine wj_iload_n C 2 dX0_passYear_31 rfl rfl ?_
    refine wj_cvf C (wj_rV C dX0_passYear_32 km_X0_breakDown kl_X0_96 (is_X0 (by first | assumption | omega)) rfl rfl (c_X0_breakDown l V hk hn hN) rfl rfl (Nat.le_of_ble_eq_true rfl) (by decide)) ?_
    refine wj_iconst (v := 0) C dX0_passYear_35 (by decide) ?_
    refine wj_istore_n C 3 dX0_passYear_36 rfl (by decide) rfl ?_
    dsimp only [List.set]
    exact (by have hh := lp (sp_le A) (sp_le A / 100) (N + 1) 0 (by omega) (by omega); rw [sp_gr0, e8] at hh; exact hh)
set_option maxRecDepth 100000 in
set_option maxHeartbeats 4000000 in
theorem c_X0_passYears (l : Launch) (V : wj_V) {σ : wj_St} {k : Nat} {A : sp_L} {N : Nat} {y M : Nat} (hk : 1 ≤ k ∧ k < 4) (hn : A.2.1 = nI N) (hN : N ≤ 8) (hY : A.1 = nI y) (hy : y + M ≤ 99999) : wj_M l V yX0_passYears cX0_passYears 3 none 4 89 [.ref (V.2.2.1 k), .int (nI M)] (sp_put σ k A) (wj_Vd V (sp_put σ k (sp_yrs A M))) := by
  refine wj_ofV (own := RX0) [some (.ref (V.2.2.1 k)), some (.int (nI M)), none] (by decide) rfl rfl (Nat.le_of_ble_eq_true rfl) (fun X C hR => ?_)
  have lp : ∀ n i, i ≤ M → M - i < n → wj_J l V X 2 [some (.ref (V.2.2.1 k)), some (.int (nI M)), some (.int (nI i))] [] (sp_put σ k (sp_yrs A i)) := by
    intro n
    induction n with
    | zero => intro i _ h; omega
    | succ n ih =>
      intro i hi hm
      refine wj_iload_n C 2 dX0_passYears_2 rfl rfl ?_
      refine wj_iload_n C 1 dX0_passYears_3 rfl rfl ?_
      refine wj_icmp_ge C 17 dX0_passYears_4 (by decide) (fun h4 => ?_) (fun h4 => ?_)
      · have e9 := wj_ge (N := M) (by omega) hi h4
        subst e9
        exact hR _ _ _ _ dX0_passYears_17 rfl wj_rfl
      · have hlt := wj_nge (N := M) (by omega) hi h4
        refine wj_aload_n C 0 dX0_passYears_7 rfl rfl ?_
        refine wj_cvf C (wj_rV C dX0_passYears_8 km_X0_passYear kl_X0_90 (is_X0 (by first | assumption | omega)) rfl rfl (c_X0_passYear l V hk ((sp_yrs_c A i).trans hn) hN (sp_yrs_y hY i) (by omega)) rfl rfl (Nat.le_of_ble_eq_true rfl) (by decide)) ?_
        refine wj_iinc C (v := nI (i + 1)) dX0_passYears_11 rfl (wj_i1 i) (by decide) rfl ?_
        dsimp only [List.set]
        refine wj_goto C 2 dX0_passYears_14 (by decide) ?_
        exact ih (i + 1) (by omega) (by omega)
  refine wj_iconst (v := 0) C dX0_passYears_0 (by decide) ?_
  refine wj_istore_n C 2 dX0_passYears_1 rfl (by decide) rfl ?_
  dsimp only [List.set]
  exact lp (M + 1) 0 (by omega) (by omega)

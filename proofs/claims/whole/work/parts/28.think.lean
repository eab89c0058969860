/-! an answer: a finding, or a number -/
def sp_v : Sum Nat Int32 → Int32
  | .inl w => -1000001 - nI w
  | .inr v => v
def sp_tw (σ : wj_St) : Sum Nat Int32 → wj_St
  | .inl w => sp_tl σ w
  | .inr _ => σ
def sp_fw (σ : wj_St) : Sum Nat Int32 → wj_St
  | .inl w => sp_fd σ w
  | .inr _ => σ
/-! the two lanes of the class, and other cells -/
theorem sp_put_u {σ : wj_St} {k q j : Nat} {A : sp_L} {x : Int32} (h : q ≠ k ∧ q ≠ k + 6 ∧ (q < 2 + 8 * k ∨ 10 + 8 * k ≤ q)) : wj_u (sp_put σ k A) q j x = sp_put (wj_u σ q j x) k A := by
  funext p i
  by_cases e : p = q
  · subst e
    rw [wj_u_same, sp_put_o h, sp_put_o h, wj_u_same]
  · have : wj_u (sp_put σ k A) q j x p = sp_put σ k A p := by simp [wj_u, e]
    rw [this]
    have e2 : wj_u σ q j x p = σ p := by simp [wj_u, e]
    have e3 : wj_u σ q j x k = σ k := by simp only [wj_u]; rw [if_neg (fun z => h.1 z.symm)]
    simp only [sp_put, e2, e3]
theorem sp_put_r {σ : wj_St} {k q : Nat} {A : sp_L} {g : Nat → Int32} (h : q ≠ k ∧ q ≠ k + 6 ∧ (q < 2 + 8 * k ∨ 10 + 8 * k ≤ q)) : wj_r (sp_put σ k A) q g = sp_put (wj_r σ q g) k A := by
  funext p i
  by_cases e : p = q
  · subst e
    rw [wj_r_same, sp_put_o h, wj_r_same]
  · have : wj_r (sp_put σ k A) q g p = sp_put σ k A p := by simp [wj_r, e]
    rw [this]
    have e2 : wj_r σ q g p = σ p := by simp [wj_r, e]
    have e3 : wj_r σ q g k = σ k := by simp only [wj_r]; rw [if_neg (fun z => h.1 z.symm)]
    simp only [sp_put, e2, e3]
theorem sp_sw {σ : wj_St} {A T : sp_L} : sp_put (sp_put σ 1 A) 2 T = sp_put (sp_put σ 2 T) 1 A := by
  funext q i
  by_cases a1 : q = 1
  · subst a1; simp [sp_put]
  · by_cases a2 : q = 2
    · subst a2; simp [sp_put]
    · by_cases a3 : q = 7
      · subst a3; simp [sp_put]
      · by_cases a4 : q = 8
        · subst a4; simp [sp_put]
        · by_cases a5 : 10 ≤ q ∧ q < 18
          · simp only [sp_put]
            rw [if_neg a2, if_neg a4, if_neg (by omega), if_neg a1, if_neg a3, if_pos (by omega), if_neg a1, if_neg a3, if_pos (by omega)]
          · by_cases a6 : 18 ≤ q ∧ q < 26
            · simp only [sp_put]
              rw [if_neg a2, if_neg a4, if_pos (by omega), if_neg a1, if_neg a3, if_neg (by omega), if_neg a2, if_neg a4, if_pos (by omega)]
            · simp only [sp_put]
              rw [if_neg a2, if_neg a4, if_neg (by omega), if_neg a1, if_neg a3, if_neg (by omega), if_neg a1, if_neg a3, if_neg (by omega), if_neg a2, if_neg a4, if_neg (by omega)]
theorem sp_tl_c {σ : wj_St} {A T : sp_L} {w : Nat} : sp_tl (sp_put (sp_put σ 1 A) 2 T) w = sp_put (sp_put (sp_tl σ w) 1 A) 2 T := by
  unfold sp_tl
  rw [sp_put_u (by decide), sp_put_u (by decide), sp_put_o (by decide), sp_put_o (by decide)]
theorem sp_bgt {σ : wj_St} {k : Nat} {A T : sp_L} {N : Nat} (hn : A.2.1 = nI N) (hN : N ≤ 8) (hk : 1 ≤ k ∧ k < 4 := by decide) : sp_bec T (sp_get (sp_put σ k A) k) = sp_bec T A := by
  have e : ∀ i, (if i < sp_N (sp_get (sp_put σ k A) k) then sp_sl (sp_get (sp_put σ k A) k) i else sp_sl T i) = (if i < sp_N A then sp_sl A i else sp_sl T i) := by
    intro i
    have e1 : sp_N (sp_get (sp_put σ k A) k) = sp_N A := by
      show (sp_put σ k A k 2).toNatClampNeg = A.2.1.toNatClampNeg
      rw [sp_put_2]
    rw [e1]
    by_cases h : i < sp_N A
    · rw [if_pos h, if_pos h]
      rw [sp_N_of hn hN] at h
      exact sp_put_s hk (by omega)
    · rw [if_neg h, if_neg h]
  unfold sp_bec
  rw [show (sp_get (sp_put σ k A) k).1 = A.1 from sp_put_5, show (sp_get (sp_put σ k A) k).2.1 = A.2.1 from sp_put_2, show (sp_get (sp_put σ k A) k).2.2.1 = A.2.2.1 from sp_put_3, show (sp_get (sp_put σ k A) k).2.2.2.1 = A.2.2.2.1 from sp_put_4, show (sp_get (sp_put σ k A) k).2.2.2.2.1 = A.2.2.2.2.1 from sp_put_l]
  rw [show (fun i => if i < sp_N (sp_get (sp_put σ k A) k) then sp_sl (sp_get (sp_put σ k A) k) i else sp_sl T i) = (fun i => if i < sp_N A then sp_sl A i else sp_sl T i) from funext e]
theorem sp_rv {σ : wj_St} {A T : sp_L} {a : Sum Nat Int32} {v : Int32} (h : a = .inr v) : v = sp_v a ∧ ∃ T2, sp_put (sp_put σ 1 A) 2 T = sp_put (sp_put (sp_tw σ a) 1 A) 2 T2 := by subst h; exact ⟨rfl, T, rfl⟩
theorem sp_rf {σ : wj_St} {A T : sp_L} {a : Sum Nat Int32} {w : Nat} {x : Int32} (h : a = .inl w) (hx : x = -1000001 - nI w) : x = sp_v a ∧ ∃ T2, sp_tl (sp_put (sp_put σ 1 A) 2 T) w = sp_put (sp_put (sp_tw σ a) 1 A) 2 T2 := by subst h; exact ⟨hx, T, sp_tl_c⟩
theorem wj_natC {x : Int32} {N : Nat} (h : 0 ≤ x ∧ x ≤ nI N) (hN : N < 2 ^ 30 := by decide) : ∃ i, i ≤ N ∧ x = nI i := (wj_rngC x hN).resolve_right (fun q => q h)
theorem wj_natB {x : Int32} {N : Nat} (h : 0 ≤ x ∧ x ≤ nI N - 1) (hN : N < 2 ^ 30) : ∃ i, i < N ∧ x = nI i := (wj_rngB x hN).resolve_right (fun q => q h)
/-! the slip that is asked for -/
def sp_sa (V : wj_V) (k N : Nat) (x : Int32) : Option Nat := if 0 ≤ x ∧ x ≤ nI N - 1 then some (V.2.2.1 (2 + 8 * k + x.toNatClampNeg)) else none
theorem sp_sa_s {V : wj_V} {k N a : Nat} {x : Int32} (hN : N ≤ 8) (h : sp_sa V k N x = some a) : ∃ i, i < N ∧ x = nI i ∧ a = V.2.2.1 (2 + 8 * k + i) := by
  unfold sp_sa at h
  split at h
  · rename_i q
    obtain ⟨i, hi, rfl⟩ := wj_natB q (by omega)
    rw [nI_clamp (by omega)] at h
    exact ⟨i, hi, rfl, (Option.some.inj h).symm⟩
  · exact absurd h (by simp)
theorem sp_sa_n {V : wj_V} {k N : Nat} {x : Int32} (h : sp_sa V k N x = none) : ¬ (0 ≤ x ∧ x ≤ nI N - 1) := by
  unfold sp_sa at h
  split at h
  · exact absurd h (by simp)
  · assumption
theorem c_X0_slipAt_g (l : Launch) (V : wj_V) {σ : wj_St} {k : Nat} {A : sp_L} {N : Nat} {x : Int32} (hk : 1 ≤ k ∧ k < 4) (hn : A.2.1 = nI N) (hN : N ≤ 8) : wj_M l V yX0_slipAt cX0_slipAt 2 (some (.object "WordHedge$Slip")) 1 22 [.ref (V.2.2.1 k), .int x] (sp_put σ k A) (wj_Rf V (sp_sa V k N x) (sp_put σ k A)) := by
  rcases wj_rng x hN with ⟨i, hi, rfl⟩ | hx
  · rw [sp_sa, if_pos (wj_rngI hi hN), nI_clamp (by omega)]
    exact c_X0_slipAt l V hk hn hN hi
  · rw [sp_sa, if_neg hx]
    exact c_X0_slipAt_no l V hk hn hN hx
theorem fa_first_is {p : Nat → Bool} {i n : Nat} (h1 : ∀ k, k < i → p k = false) (h2 : p i = true) (hi : i < n) : fa_first p n = i := by
  rcases Nat.lt_trichotomy (fa_first p n) i with q | q | q
  · have := fa_first_yes p n (by omega)
    rw [h1 _ q] at this
    exact absurd this (by decide)
  · exact q
  · have := fa_first_no p n i q
    rw [h2] at this
    exact absurd this (by decide)
theorem fa_first_none {p : Nat → Bool} {n : Nat} (h1 : ∀ k, k < n → p k = false) : fa_first p n = n := by
  have := fa_first_le p n
  rcases Nat.lt_or_ge (fa_first p n) n with q | q
  · have h := fa_first_yes p n q
    rw [h1 _ q] at h
    exact absurd h (by decide)
  · omega
/-! THE ANSWERS -/
def a_ahead (A : sp_L) (x w n : Int32) : Sum Nat Int32 := if (0 ≤ x ∧ x ≤ A.2.1 - 1) ∧ (w = 2 ∨ w = 3 ∨ w = 6 ∨ w = 7 ∨ w = 9) ∧ 0 ≤ n ∧ n ≤ 100 then .inr (sp_tra (sp_sl (sp_yrs A n.toNatClampNeg) x.toNatClampNeg) w (sp_yrs A n.toNatClampNeg).1) else .inl 0
def a_strong (A : sp_L) (p n : Int32) : Sum Nat Int32 := if (0 ≤ p ∧ p ≤ 15) ∧ 0 ≤ n ∧ n ≤ 100 then .inr (sp_stg (sp_yrs A n.toNatClampNeg) p) else .inl 0
def sp_wp (A : sp_L) (s : Int32) (n : Nat) : Bool := decide (sp_gap (sp_yrs A n) &&& s = 0)
def a_first (p : Nat → Bool) : Sum Nat Int32 := if fa_first p 201 < 201 then .inr (nI (fa_first p 201)) else .inl 3
theorem a_first_y {p : Nat → Bool} {i : Nat} (h1 : ∀ k, k < i → p k = false) (h2 : p i = true) (hi : i < 201) : a_first p = .inr (nI i) := by
  rw [a_first, fa_first_is h1 h2 hi, if_pos hi]
theorem a_first_n {p : Nat → Bool} (h1 : ∀ k, k < 201 → p k = false) : a_first p = .inl 3 := by
  rw [a_first, fa_first_none h1, if_neg (by omega)]
def a_closed (A : sp_L) (p : Int32) : Sum Nat Int32 := if 0 ≤ p ∧ p ≤ 15 then a_first (sp_wp A ((1 : Int32) <<< (p &&& 31))) else .inl 0
def a_whole (A : sp_L) : Sum Nat Int32 := a_first (sp_wp A 65535)
def sp_bp (A : sp_L) (i n : Nat) : Bool := decide (¬ sp_sl (sp_yrs A n) i 6 = sp_sl A i 6)
def a_breaks (A : sp_L) (x : Int32) : Sum Nat Int32 := if 0 ≤ x ∧ x ≤ A.2.1 - 1 then a_first (sp_bp A x.toNatClampNeg) else .inl 0
/-! broken counts only grow -/
theorem sp_yr_6 {A : sp_L} {N y : Nat} (h : sp_G A N y) {i : Nat} (hi : i < N) : (sp_sl A i 6).toInt ≤ (sp_sl (sp_yr A) i 6).toInt := by
  have hl : sp_sl (sp_yr A) i 6 = sp_sl (sp_lean A) i 6 := by
    show (if i < sp_N A then sp_grw (sp_sl (sp_lean A) i) else sp_sl (sp_lean A) i) 6 = _
    split
    · unfold sp_grw
      rw [pk_un (by decide), pk_un (by decide)]
    · rfl
  rw [hl]
  unfold sp_lean
  split
  · show _ ≤ ((if i < sp_N A ∧ _ then sp_giv (sp_sl A i) else sp_sl A i) 6).toInt
    split
    · unfold sp_giv
      rw [pk_us]
      have g := h.2.2.2.1 i hi
      obtain ⟨j, hj, ej, hz⟩ := wj_nat (x := sp_sl A i 6) g.2.2.2.2.2.2.1
      have := g.2.2.2.2.2.2.2
      rw [ej, nI_1]
      rw [ej, nI_toInt hj] at this
      split
      · rw [nI_toInt hj, nI_toInt (by omega)]; omega
      · rw [nI_toInt hj, show (9999 : Int32).toInt = 9999 by decide]; omega
    · exact Int.le_refl _
  · exact Int.le_refl _
theorem sp_set_f {s : Nat → Int32} {f : Nat} {v : Int32} (hf : f < 7) : sp_set s (nI f) v = upd s f v := by
  rw [sp_set, if_pos ⟨nI_pos' (by omega), nI_le (b := 6) (by omega) (by decide)⟩, nI_clamp (by omega)]
set_option maxRecDepth 100000 in
set_option maxHeartbeats 4000000 in
theorem c_X4_trySlip (l : Launch) (V : wj_V) {σ : wj_St} {A T : sp_L} {N y : Nat} {i f : Nat} {v : Int32} (hG : sp_G A N y) (hy : y < 90000) (hi : i < N) (hf : f < 7) : wj_M l V yX4_trySlip cX4_trySlip 5 (some (.object "WordHedge$Slip")) 2 48 [.ref (V.2.2.1 0), .int (nI i), .int (nI f), .int v] (sp_put (sp_put σ 1 A) 2 T) (wj_Rf V (some (V.2.2.1 (2 + 8 * 2 + i))) (sp_put (sp_put σ 1 A) 2 (sp_us (sp_bec T A) i f v))) := by
  refine wj_ofR (own := RX4) [some (.ref (V.2.2.1 0)), some (.int (nI i)), some (.int (nI f)), some (.int v), none] (by decide) rfl rfl (Nat.le_of_ble_eq_true rfl) (fun X C hR => ?_)
  refine wj_aload_n C 0 dX4_trySlip_0 rfl rfl ?_
  refine wg_X4_16 C dX4_trySlip_1 ?_
  refine wj_aload_n C 0 dX4_trySlip_4 rfl rfl ?_
  refine wg_X4_12 C dX4_trySlip_5 ?_
  refine wj_cvf C (wj_rV C dX4_trySlip_8 km_X0_become kl_X4_160 (is_X0 (by first | assumption | omega)) rfl rfl (c_X0_become l V (by decide) (by decide) (by decide) (sp_put_2.trans hG.1) hG.2.1) rfl rfl (Nat.le_of_ble_eq_true rfl) (by decide)) ?_
  rw [sp_bgt hG.1 hG.2.1]
  refine wj_aload_n C 0 dX4_trySlip_11 rfl rfl ?_
  refine wg_X4_16 C dX4_trySlip_12 ?_
  refine wj_iload_n C 1 dX4_trySlip_15 rfl rfl ?_
  refine wj_crn C (wj_rV C dX4_trySlip_16 km_X0_slipAt kl_X4_115 (is_X0 (by first | assumption | omega)) rfl rfl (c_X0_slipAt_g l V (by decide) (A := sp_bec T A) hG.1 hG.2.1) rfl rfl (Nat.le_of_ble_eq_true rfl) (by decide)) (fun hn16 => ?_) (fun a16 ha16 => ?_)
  · exact absurd (wj_rngI hi hG.2.1) (sp_sa_n hn16)
  · obtain ⟨i2, hi2, e1, rfl⟩ := sp_sa_s hG.2.1 ha16
    have hN8 := hG.2.1
    have e2 : i2 = i := by
      have := congrArg Int32.toInt e1
      rw [nI_toInt (by omega), nI_toInt (by omega)] at this
      omega
    subst e2
    refine wj_astore C dX4_trySlip_19 (by decide) rfl ?_
    dsimp only [List.set]
    refine wj_aload C dX4_trySlip_21 rfl ?_
    refine wj_ifnull C dX4_trySlip_23 ?_
    refine wj_aload C dX4_trySlip_26 rfl ?_
    refine wj_iload_n C 2 dX4_trySlip_28 rfl rfl ?_
    refine wj_iload_n C 3 dX4_trySlip_29 rfl rfl ?_
    refine wj_cvf C (wj_rV C dX4_trySlip_30 km_X2_put kl_X4_126 (is_X2 (by first | assumption | omega)) rfl rfl (c_X2_put l V (by omega)) rfl rfl (Nat.le_of_ble_eq_true rfl) (by decide)) ?_
    rw [sp_put_s (by decide) (by omega), sp_put_rs (by decide) (by omega), sp_set_f hf]
    refine wj_aload C dX4_trySlip_33 rfl ?_
    exact hR _ _ _ _ _ dX4_trySlip_35 ⟨rfl, rfl⟩ wj_rfl
theorem sp_nxt {p : Nat → Bool} {i : Nat} (h : ∀ k, k < i → p k = false) (h2 : p i = false) : ∀ k, k < i + 1 → p k = false := fun k hk => by
  rcases Nat.lt_or_eq_of_le (Nat.le_of_lt_succ hk) with q | q
  · exact h k q
  · subst q; exact h2
set_option maxRecDepth 100000 in
set_option maxHeartbeats 4000000 in
theorem c_X4_waitFor (l : Launch) (V : wj_V) {σ : wj_St} {A T : sp_L} {N y : Nat} {s : Int32} (hG : sp_G A N y) (hy : y < 90000) : wj_M l V yX4_waitFor cX4_waitFor 3 (some .int) 4 89 [.ref (V.2.2.1 0), .int s] (sp_put (sp_put σ 1 A) 2 T) (wj_QI V (fun r u => r = sp_v (a_first (sp_wp A s)) ∧ ∃ T2, u = sp_put (sp_put (sp_tw σ (a_first (sp_wp A s))) 1 A) 2 T2)) := by
  refine wj_ofI (own := RX4) [some (.ref (V.2.2.1 0)), some (.int s), none] (by decide) rfl rfl (Nat.le_of_ble_eq_true rfl) (fun X C hR => ?_)
  have lp : ∀ n i, i ≤ 201 → 201 - i < n → (∀ k, k < i → sp_wp A s k = false) → wj_J l V X 13 [some (.ref (V.2.2.1 0)), some (.int s), some (.int (nI i))] [] (sp_put (sp_put σ 1 A) 2 (sp_yrs (sp_bec T A) i)) := by
    intro n
    induction n with
    | zero => intro i _ h _; omega
    | succ n ih =>
      intro i hi hm hno
      refine wj_iload_n C 2 dX4_waitFor_13 rfl rfl ?_
      refine wj_sipush (v := 200) C dX4_waitFor_14 (by decide) ?_
      refine wj_icmp_gt C 47 dX4_waitFor_17 (by decide) (fun h17 => ?_) (fun h17 => ?_)
      · have e9 : i = 201 := by have := (nI_ltI (a := 200) (b := i) (by decide) (by omega)).mp h17; omega
        subst e9
        refine wj_aload_n C 0 dX4_waitFor_47 rfl rfl ?_
        refine wj_ldc C dX4_waitFor_48 kc_X4_173 ?_
        refine wj_cif C (wj_rV C dX4_waitFor_50 km_X4_tell kl_X4_69 is_X4 rfl rfl (c_X4_tell (w := 3) l V (by decide) (by decide)) rfl rfl (Nat.le_of_ble_eq_true rfl) (by decide)) ?_
        exact hR _ _ _ _ _ dX4_waitFor_53 (sp_rf (a_first_n hno) (by decide)) wj_rfl
      · have hlt : i < 201 := by
          rcases Nat.lt_or_ge i 201 with q | q
          · exact q
          · exact absurd (nI_lt (a := 200) (b := i) (by omega) (by omega)) h17
        refine wj_aload_n C 0 dX4_waitFor_20 rfl rfl ?_
        refine wg_X4_16 C dX4_waitFor_21 ?_
        refine wj_cif C (wj_rV C dX4_waitFor_24 km_X0_gapSet kl_X4_144 (is_X0 (by first | assumption | omega)) rfl rfl (c_X0_gapSet l V (by decide) ((sp_yrs_c (sp_bec T A) i).trans hG.1) hG.2.1) rfl rfl (Nat.le_of_ble_eq_true rfl) (by decide)) ?_
        rw [re_gap (re_yrs (re_bec T A) hG.2.2.1 i (by omega))]
        refine wj_iload_n C 1 dX4_waitFor_27 rfl rfl ?_
        refine wj_iand C dX4_waitFor_28 ?_
        refine wj_if_ne C 34 dX4_waitFor_29 (by decide) (fun h29 => ?_) (fun h29 => ?_)
        · have hp : sp_wp A s i = false := decide_eq_false h29
          refine wj_aload_n C 0 dX4_waitFor_34 rfl rfl ?_
          refine wg_X4_16 C dX4_waitFor_35 ?_
          refine wj_cvf C (wj_rV C dX4_waitFor_38 km_X0_passYear kl_X4_170 (is_X0 (by first | assumption | omega)) rfl rfl (c_X0_passYear l V (by decide) ((sp_yrs_c (sp_bec T A) i).trans hG.1) hG.2.1 (sp_yrs_y (A := (sp_bec T A)) hG.2.2.1 i) (by omega)) rfl rfl (Nat.le_of_ble_eq_true rfl) (by decide)) ?_
          refine wj_iinc C (v := nI (i + 1)) dX4_waitFor_41 rfl (wj_i1 i) (by decide) rfl ?_
          dsimp only [List.set]
          refine wj_goto C 13 dX4_waitFor_44 (by decide) ?_
          exact ih (i + 1) (by omega) (by omega) (sp_nxt hno hp)
        · have hp : sp_wp A s i = true := decide_eq_true h29
          refine wj_iload_n C 2 dX4_waitFor_32 rfl rfl ?_
          exact hR _ _ _ _ _ dX4_waitFor_33 (sp_rv (a_first_y hno hp hlt)) wj_rfl
  refine wj_aload_n C 0 dX4_waitFor_0 rfl rfl ?_
  refine wg_X4_16 C dX4_waitFor_1 ?_
  refine wj_aload_n C 0 dX4_waitFor_4 rfl rfl ?_
  refine wg_X4_12 C dX4_waitFor_5 ?_
  refine wj_cvf C (wj_rV C dX4_waitFor_8 km_X0_become kl_X4_160 (is_X0 (by first | assumption | omega)) rfl rfl (c_X0_become l V (by decide) (by decide) (by decide) (sp_put_2.trans hG.1) hG.2.1) rfl rfl (Nat.le_of_ble_eq_true rfl) (by decide)) ?_
  rw [sp_bgt hG.1 hG.2.1]
  refine wj_iconst (v := 0) C dX4_waitFor_11 (by decide) ?_
  refine wj_istore_n C 2 dX4_waitFor_12 rfl (by decide) rfl ?_
  dsimp only [List.set]
  exact lp 202 0 (by omega) (by omega) (fun k hk => absurd hk (by omega))
set_option maxRecDepth 100000 in
set_option maxHeartbeats 4000000 in
theorem c_X4_closed (l : Launch) (V : wj_V) {σ : wj_St} {A T : sp_L} {N y : Nat} {p : Int32} (hG : sp_G A N y) (hy : y < 90000) : wj_M l V yX4_closed cX4_closed 2 (some .int) 5 111 [.ref (V.2.2.1 0), .int p] (sp_put (sp_put σ 1 A) 2 T) (wj_QI V (fun r u => r = sp_v (a_closed A p) ∧ ∃ T2, u = sp_put (sp_put (sp_tw σ (a_closed A p)) 1 A) 2 T2)) := by
  refine wj_ofI (own := RX4) [some (.ref (V.2.2.1 0)), some (.int p)] (by decide) rfl rfl (Nat.le_of_ble_eq_true rfl) (fun X C hR => ?_)
  refine wj_iload_n C 1 dX4_closed_0 rfl rfl ?_
  refine wj_cif C (wj_rS C dX4_closed_1 km_X4_isPlace kl_X4_76 (c_X4_isPlace l V) rfl rfl (Nat.le_of_ble_eq_true rfl) (by decide)) ?_
  refine wj_if_ne C 14 dX4_closed_4 (by decide) (fun h4 => ?_) (fun h4 => ?_)
  · refine wj_aload_n C 0 dX4_closed_14 rfl rfl ?_
    refine wj_iconst (v := 1) C dX4_closed_15 (by decide) ?_
    refine wj_iload_n C 1 dX4_closed_16 rfl rfl ?_
    refine wj_ishl C dX4_closed_17 ?_
    refine wj_ci C (wj_rV C dX4_closed_18 km_X4_waitFor kl_X4_164 is_X4 rfl rfl (c_X4_waitFor l V hG hy) rfl rfl (Nat.le_of_ble_eq_true rfl) (by decide)) (fun r u hru => ?_)
    exact hR _ _ _ _ _ dX4_closed_21 (by rw [a_closed, if_pos (wj_c1 h4)]; exact hru) wj_rfl
  · refine wj_aload_n C 0 dX4_closed_7 rfl rfl ?_
    refine wj_ldc C dX4_closed_8 kc_X4_68 ?_
    refine wj_cif C (wj_rV C dX4_closed_10 km_X4_tell kl_X4_69 is_X4 rfl rfl (c_X4_tell (w := 0) l V (by decide) (by decide)) rfl rfl (Nat.le_of_ble_eq_true rfl) (by decide)) ?_
    exact hR _ _ _ _ _ dX4_closed_13 (sp_rf (by rw [a_closed, if_neg (wj_c0 h4)]) (by decide)) wj_rfl
set_option maxRecDepth 100000 in
set_option maxHeartbeats 4000000 in
theorem c_X4_whole (l : Launch) (V : wj_V) {σ : wj_St} {A T : sp_L} {N y : Nat} (hG : sp_G A N y) (hy : y < 90000) : wj_M l V yX4_whole cX4_whole 1 (some .int) 5 111 [.ref (V.2.2.1 0)] (sp_put (sp_put σ 1 A) 2 T) (wj_QI V (fun r u => r = sp_v (a_whole A) ∧ ∃ T2, u = sp_put (sp_put (sp_tw σ (a_whole A)) 1 A) 2 T2)) := by
  refine wj_ofI (own := RX4) [some (.ref (V.2.2.1 0))] (by decide) rfl rfl (Nat.le_of_ble_eq_true rfl) (fun X C hR => ?_)
  refine wj_aload_n C 0 dX4_whole_0 rfl rfl ?_
  refine wj_ldc C dX4_whole_1 kc_X4_63 ?_
  refine wj_ci C (wj_rV C dX4_whole_3 km_X4_waitFor kl_X4_164 is_X4 rfl rfl (c_X4_waitFor l V hG hy) rfl rfl (Nat.le_of_ble_eq_true rfl) (by decide)) (fun r u hru => ?_)
  exact hR _ _ _ _ _ dX4_whole_6 hru wj_rfl
set_option maxRecDepth 100000 in
set_option maxHeartbeats 4000000 in
theorem c_X4_strong (l : Launch) (V : wj_V) {σ : wj_St} {A T : sp_L} {N y : Nat} {p n : Int32} (hG : sp_G A N y) (hy : y < 90000) : wj_M l V yX4_strong cX4_strong 3 (some .int) 5 111 [.ref (V.2.2.1 0), .int p, .int n] (sp_put (sp_put σ 1 A) 2 T) (wj_QI V (fun r u => r = sp_v (a_strong A p n) ∧ ∃ T2, u = sp_put (sp_put (sp_tw σ (a_strong A p n)) 1 A) 2 T2)) := by
  refine wj_ofI (own := RX4) [some (.ref (V.2.2.1 0)), some (.int p), some (.int n)] (by decide) rfl rfl (Nat.le_of_ble_eq_true rfl) (fun X C hR => ?_)
  refine wj_iload_n C 1 dX4_strong_0 rfl rfl ?_
  refine wj_cif C (wj_rS C dX4_strong_1 km_X4_isPlace kl_X4_76 (c_X4_isPlace l V) rfl rfl (Nat.le_of_ble_eq_true rfl) (by decide)) ?_
  refine wj_if_eq C 17 dX4_strong_4 (by decide) (fun h4 => ?_) (fun h4 => ?_)
  · refine wj_aload_n C 0 dX4_strong_17 rfl rfl ?_
    refine wj_ldc C dX4_strong_18 kc_X4_68 ?_
    refine wj_cif C (wj_rV C dX4_strong_20 km_X4_tell kl_X4_69 is_X4 rfl rfl (c_X4_tell (w := 0) l V (by decide) (by decide)) rfl rfl (Nat.le_of_ble_eq_true rfl) (by decide)) ?_
    exact hR _ _ _ _ _ dX4_strong_23 (sp_rf (by rw [a_strong, if_neg (fun q => by first | exact wj_c0 h4 q.1 | exact wj_c0 h14 q.2)]) (by decide)) wj_rfl
  · refine wj_iload_n C 2 dX4_strong_7 rfl rfl ?_
    refine wj_iconst (v := 0) C dX4_strong_8 (by decide) ?_
    refine wj_bipush (v := 100) C dX4_strong_9 (by decide) ?_
    refine wj_cif C (wj_rS C dX4_strong_11 km_X4_isIn kl_X4_64 (c_X4_isIn l V) rfl rfl (Nat.le_of_ble_eq_true rfl) (by decide)) ?_
    refine wj_if_ne C 24 dX4_strong_14 (by decide) (fun h14 => ?_) (fun h14 => ?_)
    · obtain ⟨m, hm, rfl⟩ := wj_natC (N := 100) (wj_c1 h14)
      refine wj_aload_n C 0 dX4_strong_24 rfl rfl ?_
      refine wg_X4_16 C dX4_strong_25 ?_
      refine wj_aload_n C 0 dX4_strong_28 rfl rfl ?_
      refine wg_X4_12 C dX4_strong_29 ?_
      refine wj_cvf C (wj_rV C dX4_strong_32 km_X0_become kl_X4_160 (is_X0 (by first | assumption | omega)) rfl rfl (c_X0_become l V (by decide) (by decide) (by decide) (sp_put_2.trans hG.1) hG.2.1) rfl rfl (Nat.le_of_ble_eq_true rfl) (by decide)) ?_
      rw [sp_bgt hG.1 hG.2.1]
      refine wj_aload_n C 0 dX4_strong_35 rfl rfl ?_
      refine wg_X4_16 C dX4_strong_36 ?_
      refine wj_iload_n C 2 dX4_strong_39 rfl rfl ?_
      refine wj_cvf C (wj_rV C dX4_strong_40 km_X0_passYears kl_X4_140 (is_X0 (by first | assumption | omega)) rfl rfl (c_X0_passYears l V (by decide) (A := sp_bec T A) hG.1 hG.2.1 hG.2.2.1 (by omega)) rfl rfl (Nat.le_of_ble_eq_true rfl) (by decide)) ?_
      refine wj_aload_n C 0 dX4_strong_43 rfl rfl ?_
      refine wg_X4_16 C dX4_strong_44 ?_
      refine wj_iload_n C 1 dX4_strong_47 rfl rfl ?_
      refine wj_cif C (wj_rV C dX4_strong_48 km_X0_strengthOf kl_X4_80 (is_X0 (by first | assumption | omega)) rfl rfl (c_X0_strengthOf l V (by decide) ((sp_yrs_c (sp_bec T A) m).trans hG.1) hG.2.1) rfl rfl (Nat.le_of_ble_eq_true rfl) (by decide)) ?_
      rw [re_stg (re_yrs (re_bec T A) hG.2.2.1 m (by omega))]
      exact hR _ _ _ _ _ dX4_strong_51 (sp_rv (by rw [a_strong, if_pos ⟨wj_c1 h4, wj_c1 h14⟩, nI_clamp (by omega)])) wj_rfl
    · refine wj_aload_n C 0 dX4_strong_17 rfl rfl ?_
      refine wj_ldc C dX4_strong_18 kc_X4_68 ?_
      refine wj_cif C (wj_rV C dX4_strong_20 km_X4_tell kl_X4_69 is_X4 rfl rfl (c_X4_tell (w := 0) l V (by decide) (by decide)) rfl rfl (Nat.le_of_ble_eq_true rfl) (by decide)) ?_
      exact hR _ _ _ _ _ dX4_strong_23 (sp_rf (by rw [a_strong, if_neg (fun q => by first | exact wj_c0 h4 q.1 | exact wj_c0 h14 q.2)]) (by decide)) wj_rfl
set_option maxRecDepth 100000 in
set_option maxHeartbeats 4000000 in
theorem c_X4_ahead (l : Launch) (V : wj_V) {σ : wj_St} {A T : sp_L} {N y : Nat} {x w n : Int32} (hG : sp_G A N y) (hy : y < 90000) : wj_M l V yX4_ahead cX4_ahead 5 (some .int) 5 111 [.ref (V.2.2.1 0), .int x, .int w, .int n] (sp_put (sp_put σ 1 A) 2 T) (wj_QI V (fun r u => r = sp_v (a_ahead A x w n) ∧ ∃ T2, u = sp_put (sp_put (sp_tw σ (a_ahead A x w n)) 1 A) 2 T2)) := by
  refine wj_ofI (own := RX4) [some (.ref (V.2.2.1 0)), some (.int x), some (.int w), some (.int n), none] (by decide) rfl rfl (Nat.le_of_ble_eq_true rfl) (fun X C hR => ?_)
  refine wj_iload_n C 2 dX4_ahead_0 rfl rfl ?_
  refine wj_cif C (wj_rS C dX4_ahead_1 km_X4_isForetold kl_X4_157 (c_X4_isForetold l V) rfl rfl (Nat.le_of_ble_eq_true rfl) (by decide)) ?_
  refine wj_if_eq C 17 dX4_ahead_4 (by decide) (fun h4 => ?_) (fun h4 => ?_)
  · refine wj_aload_n C 0 dX4_ahead_17 rfl rfl ?_
    refine wj_ldc C dX4_ahead_18 kc_X4_68 ?_
    refine wj_cif C (wj_rV C dX4_ahead_20 km_X4_tell kl_X4_69 is_X4 rfl rfl (c_X4_tell (w := 0) l V (by decide) (by decide)) rfl rfl (Nat.le_of_ble_eq_true rfl) (by decide)) ?_
    exact hR _ _ _ _ _ dX4_ahead_23 (sp_rf (by rw [a_ahead, if_neg (fun q => by first | exact wj_c0 h4 q.2.1 | exact wj_c0 h14 q.2.2)]) (by decide)) wj_rfl
  · refine wj_iload_n C 3 dX4_ahead_7 rfl rfl ?_
    refine wj_iconst (v := 0) C dX4_ahead_8 (by decide) ?_
    refine wj_bipush (v := 100) C dX4_ahead_9 (by decide) ?_
    refine wj_cif C (wj_rS C dX4_ahead_11 km_X4_isIn kl_X4_64 (c_X4_isIn l V) rfl rfl (Nat.le_of_ble_eq_true rfl) (by decide)) ?_
    refine wj_if_ne C 24 dX4_ahead_14 (by decide) (fun h14 => ?_) (fun h14 => ?_)
    · obtain ⟨m, hm, rfl⟩ := wj_natC (N := 100) (wj_c1 h14)
      refine wj_aload_n C 0 dX4_ahead_24 rfl rfl ?_
      refine wg_X4_16 C dX4_ahead_25 ?_
      refine wj_aload_n C 0 dX4_ahead_28 rfl rfl ?_
      refine wg_X4_12 C dX4_ahead_29 ?_
      refine wj_cvf C (wj_rV C dX4_ahead_32 km_X0_become kl_X4_160 (is_X0 (by first | assumption | omega)) rfl rfl (c_X0_become l V (by decide) (by decide) (by decide) (sp_put_2.trans hG.1) hG.2.1) rfl rfl (Nat.le_of_ble_eq_true rfl) (by decide)) ?_
      rw [sp_bgt hG.1 hG.2.1]
      refine wj_aload_n C 0 dX4_ahead_35 rfl rfl ?_
      refine wg_X4_16 C dX4_ahead_36 ?_
      refine wj_iload_n C 1 dX4_ahead_39 rfl rfl ?_
      refine wj_crn C (wj_rV C dX4_ahead_40 km_X0_slipAt kl_X4_115 (is_X0 (by first | assumption | omega)) rfl rfl (c_X0_slipAt_g l V (by decide) (A := sp_bec T A) hG.1 hG.2.1) rfl rfl (Nat.le_of_ble_eq_true rfl) (by decide)) (fun hn40 => ?_) (fun a40 ha40 => ?_)
      · refine wj_astoreN C dX4_ahead_43 (by decide) rfl ?_
        dsimp only [List.set]
        refine wj_aloadN C dX4_ahead_45 rfl ?_
        refine wj_ifnonnullN C dX4_ahead_47 ?_
        refine wj_aload_n C 0 dX4_ahead_50 rfl rfl ?_
        refine wj_ldc C dX4_ahead_51 kc_X4_68 ?_
        refine wj_cif C (wj_rV C dX4_ahead_53 km_X4_tell kl_X4_69 is_X4 rfl rfl (c_X4_tell (w := 0) l V (by decide) (by decide)) rfl rfl (Nat.le_of_ble_eq_true rfl) (by decide)) ?_
        exact hR _ _ _ _ _ dX4_ahead_56 (sp_rf (by rw [a_ahead, hG.1, if_neg (fun q => sp_sa_n hn40 q.1)]) (by decide)) wj_rfl
      · obtain ⟨i, hi, rfl, rfl⟩ := sp_sa_s hG.2.1 ha40
        have hN8 := hG.2.1
        refine wj_astore C dX4_ahead_43 (by decide) rfl ?_
        dsimp only [List.set]
        refine wj_aload C dX4_ahead_45 rfl ?_
        refine wj_ifnonnull C 57 dX4_ahead_47 (by decide) ?_
        refine wj_aload_n C 0 dX4_ahead_57 rfl rfl ?_
        refine wg_X4_16 C dX4_ahead_58 ?_
        refine wj_iload_n C 3 dX4_ahead_61 rfl rfl ?_
        refine wj_cvf C (wj_rV C dX4_ahead_62 km_X0_passYears kl_X4_140 (is_X0 (by first | assumption | omega)) rfl rfl (c_X0_passYears l V (by decide) (A := sp_bec T A) hG.1 hG.2.1 hG.2.2.1 (by omega)) rfl rfl (Nat.le_of_ble_eq_true rfl) (by decide)) ?_
        refine wj_aload C dX4_ahead_65 rfl ?_
        refine wj_iload_n C 2 dX4_ahead_67 rfl rfl ?_
        refine wj_aload_n C 0 dX4_ahead_68 rfl rfl ?_
        refine wg_X4_16 C dX4_ahead_69 ?_
        refine wg_X4_119 C dX4_ahead_72 (by first | assumption | omega) ?_
        rw [sp_put_5]
        refine wj_cif C (wj_rV C dX4_ahead_75 km_X2_trait kl_X4_122 (is_X2 (by first | assumption | omega)) rfl rfl (c_X2_trait l V (by omega)) rfl rfl (Nat.le_of_ble_eq_true rfl) (by decide)) ?_
        rw [sp_put_s (by decide) (by omega), ag_tra (re_s (re_yrs (re_bec T A) hG.2.2.1 m (by omega)) (by rw [sp_N_of ((sp_yrs_c (sp_bec T A) m).trans hG.1) hG.2.1]; exact hi)), (re_yrs (re_bec T A) hG.2.2.1 m (by omega)).1]
        exact hR _ _ _ _ _ dX4_ahead_78 (sp_rv (by rw [a_ahead, hG.1, if_pos ⟨wj_rngI hi hG.2.1, wj_c1 h4, wj_c1 h14⟩, nI_clamp (by omega), nI_clamp (by omega)])) wj_rfl
    · refine wj_aload_n C 0 dX4_ahead_17 rfl rfl ?_
      refine wj_ldc C dX4_ahead_18 kc_X4_68 ?_
      refine wj_cif C (wj_rV C dX4_ahead_20 km_X4_tell kl_X4_69 is_X4 rfl rfl (c_X4_tell (w := 0) l V (by decide) (by decide)) rfl rfl (Nat.le_of_ble_eq_true rfl) (by decide)) ?_
      exact hR _ _ _ _ _ dX4_ahead_23 (sp_rf (by rw [a_ahead, if_neg (fun q => by first | exact wj_c0 h4 q.2.1 | exact wj_c0 h14 q.2.2)]) (by decide)) wj_rfl
theorem sp_bp_f {A : sp_L} {N y i j : Nat} (h : sp_G A N y) (hj : j < N) (hp : sp_bp A j i = false) (hl : sp_sl (sp_yrs A (i + 1)) j 6 ≤ sp_sl A j 6) : sp_bp A j (i + 1) = false := by
  have e := of_decide_eq_false hp
  have e2 : sp_sl (sp_yrs A i) j 6 = sp_sl A j 6 := Classical.byContradiction e
  have := sp_yr_6 (sp_G_yrs h i) hj
  rw [e2] at this
  refine decide_eq_false (fun q => q ?_)
  have l2 := Int32.le_iff_toInt_le.mp hl
  exact Int32.toInt_inj.mp (Int.le_antisymm l2 this)
theorem sp_bp_t {A : sp_L} {i j : Nat} (hl : ¬ sp_sl (sp_yrs A i) j 6 ≤ sp_sl A j 6) : sp_bp A j i = true := decide_eq_true (fun q => hl (q ▸ Int32.le_refl _))
set_option maxRecDepth 100000 in
set_option maxHeartbeats 4000000 in
theorem c_X4_breaks (l : Launch) (V : wj_V) {σ : wj_St} {A T : sp_L} {N y : Nat} {x : Int32} (hG : sp_G A N y) (hy : y < 90000) : wj_M l V yX4_breaks cX4_breaks 5 (some .int) 4 89 [.ref (V.2.2.1 0), .int x] (sp_put (sp_put σ 1 A) 2 T) (wj_QI V (fun r u => r = sp_v (a_breaks A x) ∧ ∃ T2, u = sp_put (sp_put (sp_tw σ (a_breaks A x)) 1 A) 2 T2)) := by
  refine wj_ofI (own := RX4) [some (.ref (V.2.2.1 0)), some (.int x), none, none, none] (by decide) rfl rfl (Nat.le_of_ble_eq_true rfl) (fun X C hR => ?_)
  have lp : ∀ j, j < N → a_breaks A x = a_first (sp_bp A j) → ∀ n i, i ≤ 200 → 200 - i < n → (∀ k, k < i + 1 → sp_bp A j k = false) → wj_J l V X 39 [some (.ref (V.2.2.1 0)), some (.int x), some (.ref (V.2.2.1 (2 + 8 * 2 + j))), some (.int (sp_sl A j 6)), some (.int (nI (i + 1)))] [] (sp_put (sp_put σ 1 A) 2 (sp_yrs (sp_bec T A) i)) := by
    intro j hj ha n
    have hN8 := hG.2.1
    induction n with
    | zero => intro i _ h _; omega
    | succ n ih =>
      intro i hi hm hno
      refine wj_iload C dX4_breaks_39 rfl ?_
      refine wj_sipush (v := 200) C dX4_breaks_41 (by decide) ?_
      refine wj_icmp_gt C 71 dX4_breaks_44 (by decide) (fun h44 => ?_) (fun h44 => ?_)
      · have e9 : i = 200 := by have := (nI_ltI (a := 200) (b := i + 1) (by decide) (by omega)).mp h44; omega
        subst e9
        refine wj_aload_n C 0 dX4_breaks_71 rfl rfl ?_
        refine wj_ldc C dX4_breaks_72 kc_X4_173 ?_
        refine wj_cif C (wj_rV C dX4_breaks_74 km_X4_tell kl_X4_69 is_X4 rfl rfl (c_X4_tell (w := 3) l V (by decide) (by decide)) rfl rfl (Nat.le_of_ble_eq_true rfl) (by decide)) ?_
        exact hR _ _ _ _ _ dX4_breaks_77 (sp_rf (by rw [ha]; exact a_first_n hno) (by decide)) wj_rfl
      · have hlt : i < 200 := by
          rcases Nat.lt_or_ge i 200 with q | q
          · exact q
          · exact absurd (nI_lt (a := 200) (b := i + 1) (by omega) (by omega)) h44
        refine wj_aload_n C 0 dX4_breaks_47 rfl rfl ?_
        refine wg_X4_16 C dX4_breaks_48 ?_
        refine wj_cvf C (wj_rV C dX4_breaks_51 km_X0_passYear kl_X4_170 (is_X0 (by first | assumption | omega)) rfl rfl (c_X0_passYear l V (by decide) ((sp_yrs_c (sp_bec T A) i).trans hG.1) hG.2.1 (sp_yrs_y (A := sp_bec T A) hG.2.2.1 i) (by omega)) rfl rfl (Nat.le_of_ble_eq_true rfl) (by decide)) ?_
        refine wj_aload_n C 2 dX4_breaks_54 rfl rfl ?_
        refine wg_X4_167 C dX4_breaks_55 (by first | assumption | omega) ?_
        rw [sp_put_s (by decide) (by omega), show sp_yr (sp_yrs (sp_bec T A) i) = sp_yrs (sp_bec T A) (i + 1) from rfl, re_s (re_yrs (re_bec T A) hG.2.2.1 (i + 1) (by omega)) (by rw [sp_N_of ((sp_yrs_c (sp_bec T A) (i + 1)).trans hG.1) hG.2.1]; exact hj) 6 (by decide)]
        refine wj_iload_n C 3 dX4_breaks_58 rfl rfl ?_
        refine wj_icmp_le C 65 dX4_breaks_59 (by decide) (fun h59 => ?_) (fun h59 => ?_)
        · have hp : sp_bp A j (i + 1) = false := sp_bp_f hG hj (hno i (by omega)) h59
          refine wj_iinc C (v := nI (i + 1 + 1)) dX4_breaks_65 rfl (wj_i1 (i + 1)) (by decide) rfl ?_
          dsimp only [List.set]
          refine wj_goto C 39 dX4_breaks_68 (by decide) ?_
          exact ih (i + 1) (by omega) (by omega) (sp_nxt hno hp)
        · have hp : sp_bp A j (i + 1) = true := sp_bp_t h59
          refine wj_iload C dX4_breaks_62 rfl ?_
          exact hR _ _ _ _ _ dX4_breaks_64 (sp_rv (by rw [ha]; exact a_first_y hno hp (by omega))) wj_rfl
  refine wj_aload_n C 0 dX4_breaks_0 rfl rfl ?_
  refine wg_X4_16 C dX4_breaks_1 ?_
  refine wj_aload_n C 0 dX4_breaks_4 rfl rfl ?_
  refine wg_X4_12 C dX4_breaks_5 ?_
  refine wj_cvf C (wj_rV C dX4_breaks_8 km_X0_become kl_X4_160 (is_X0 (by first | assumption | omega)) rfl rfl (c_X0_become l V (by decide) (by decide) (by decide) (sp_put_2.trans hG.1) hG.2.1) rfl rfl (Nat.le_of_ble_eq_true rfl) (by decide)) ?_
  rw [sp_bgt hG.1 hG.2.1]
  refine wj_aload_n C 0 dX4_breaks_11 rfl rfl ?_
  refine wg_X4_16 C dX4_breaks_12 ?_
  refine wj_iload_n C 1 dX4_breaks_15 rfl rfl ?_
  refine wj_crn C (wj_rV C dX4_breaks_16 km_X0_slipAt kl_X4_115 (is_X0 (by first | assumption | omega)) rfl rfl (c_X0_slipAt_g l V (by decide) (A := sp_bec T A) hG.1 hG.2.1) rfl rfl (Nat.le_of_ble_eq_true rfl) (by decide)) (fun hn16 => ?_) (fun a16 ha16 => ?_)
  · refine wj_astore_nN C 2 dX4_breaks_19 rfl (by decide) rfl ?_
    dsimp only [List.set]
    refine wj_aload_nN C 2 dX4_breaks_20 rfl rfl ?_
    refine wj_ifnonnullN C dX4_breaks_21 ?_
    refine wj_aload_n C 0 dX4_breaks_24 rfl rfl ?_
    refine wj_ldc C dX4_breaks_25 kc_X4_68 ?_
    refine wj_cif C (wj_rV C dX4_breaks_27 km_X4_tell kl_X4_69 is_X4 rfl rfl (c_X4_tell (w := 0) l V (by decide) (by decide)) rfl rfl (Nat.le_of_ble_eq_true rfl) (by decide)) ?_
    exact hR _ _ _ _ _ dX4_breaks_30 (sp_rf (by rw [a_breaks, hG.1, if_neg (sp_sa_n hn16)]) (by decide)) wj_rfl
  · obtain ⟨j, hj, hxj, rfl⟩ := sp_sa_s hG.2.1 ha16
    have hN8 := hG.2.1
    have ha : a_breaks A x = a_first (sp_bp A j) := by rw [hxj, a_breaks, hG.1, if_pos (wj_rngI hj hG.2.1), nI_clamp (by omega)]
    refine wj_astore_n C 2 dX4_breaks_19 rfl (by decide) rfl ?_
    dsimp only [List.set]
    refine wj_aload_n C 2 dX4_breaks_20 rfl rfl ?_
    refine wj_ifnonnull C 31 dX4_breaks_21 (by decide) ?_
    refine wj_aload_n C 2 dX4_breaks_31 rfl rfl ?_
    refine wg_X4_167 C dX4_breaks_32 (by first | assumption | omega) ?_
    rw [sp_put_s (by decide) (by omega), re_s (re_bec T A) (by rw [sp_N_of (A := sp_bec T A) hG.1 hG.2.1]; exact hj) 6 (by decide)]
    refine wj_istore_n C 3 dX4_breaks_35 rfl (by decide) rfl ?_
    dsimp only [List.set]
    refine wj_iconst (v := 1) C dX4_breaks_36 (by decide) ?_
    refine wj_istore C dX4_breaks_37 (by decide) rfl ?_
    dsimp only [List.set]
    exact lp j hj ha 201 0 (by omega) (by omega) (fun k hk => by rw [show k = 0 by omega]; simp [sp_bp, sp_yrs])

/-! bits of small sets -/
theorem sp_hur_bt (x : Int32) {n : Nat} (hn : n < 31) : sp_hur x (nI n) = bt x n := by
  have h1 : ∀ i, i < 32 → bt (((x >>> (nI n &&& 31)) &&& 1)) i = (decide (i = 0) && bt x n) := by
    intro i hi
    rw [b_and, b_sshr n (by omega) x hi]
    have k1 : ∀ i, i < 32 → bt 1 i = decide (i = 0) := by decide +kernel
    rw [k1 i hi]
    by_cases h0 : i = 0
    · subst h0
      rw [Nat.add_zero, if_pos (by omega)]
      simp
    · simp [h0]
  unfold sp_hur
  cases hb : bt x n with
  | false =>
    have : (x >>> (nI n &&& 31)) &&& 1 = 0 := b_ext (fun i hi => by rw [h1 i hi, hb, b_0]; simp)
    rw [this]; decide
  | true =>
    have : (x >>> (nI n &&& 31)) &&& 1 = 1 := b_ext (fun i hi => by
      rw [h1 i hi, hb]
      have k1 : ∀ i, i < 32 → bt 1 i = decide (i = 0) := by decide +kernel
      rw [k1 i hi]; simp)
    rw [this]; decide
theorem sp_one_bt : ∀ i, i < 32 → ∀ j, j < 32 → bt ((1 : Int32) <<< (nI i &&& 31)) j = decide (j = i) := by decide +kernel
theorem sp_co_bt (A : sp_L) (p : Int32) {j : Nat} (hj : j < 32) : ∀ m, m ≤ 32 → bt (sp_co A p m) j = (decide (j < m) && sp_isc (sp_sl A j) p)
  | 0, _ => by rw [sp_co, b_0]; simp
  | m + 1, hm => by
    have ih := sp_co_bt A p hj m (by omega)
    rw [sp_co]
    split
    · rename_i hc
      rw [b_or, ih, sp_one_bt m (by omega) j hj]
      by_cases h : j = m
      · subst h; simp [hc]
      · by_cases h2 : j < m
        · simp [h, h2, show j < m + 1 by omega]
        · simp [h, h2, show ¬ j < m + 1 by omega]
    · rename_i hc
      rw [ih]
      by_cases h : j = m
      · subst h; simp [hc]
      · by_cases h2 : j < m
        · simp [h2, show j < m + 1 by omega]
        · simp [h2, show ¬ j < m + 1 by omega]
theorem sp_co_hur (A : sp_L) (p : Int32) {i N : Nat} (hi : i < N) (hN : N ≤ 8) : sp_hur (sp_co A p N) (nI i) = sp_isc (sp_sl A i) p := by
  rw [sp_hur_bt _ (by omega), sp_co_bt A p (by omega) N (by omega)]
  simp [hi]
theorem wj_or0 (x : Int32) : x ||| 0 = x := b_ext (fun i _ => by rw [b_or, b_0]; simp)
theorem wj_add0 (x : Int32) : x + 0 = x := Int32.add_zero x
/-! a lane as the document has it -/
def sp_G (A : sp_L) (N y : Nat) : Prop := A.2.1 = nI N ∧ N ≤ 8 ∧ A.1 = nI y ∧ (∀ i, i < N → sp_gs (sp_sl A i)) ∧ (∀ i, i < 6 → 0 ≤ (sp_ls A i).toInt ∧ (sp_ls A i).toInt < 1600) ∧ (A.2.2.2.1.toInt ≤ 9999 ∧ 0 ≤ A.2.2.2.1.toInt)
theorem sp_gs_gro {s : Nat → Int32} (h : sp_gs s) : ∃ g, g ≤ 24 ∧ sp_gro s = nI g := by
  obtain ⟨w, hw, ew, hz⟩ := wj_nat (x := s 5) (by have := h.2.2.2.2.2.1.1; omega)
  have hw1 : 1 ≤ w ∧ w ≤ 12 := by have := h.2.2.2.2.2.1; omega
  have e12 : (12 : Int32) - nI w = nI (12 - w) := by rw [show (12 : Int32) = nI 12 from rfl, pk_sub hw1.2]
  have hp : ∃ q, q ≤ 12 ∧ sp_gpr s = nI q := by
    unfold sp_gpr
    split
    · exact ⟨12, by omega, rfl⟩
    · exact ⟨6, by omega, rfl⟩
  obtain ⟨q, hq, eq⟩ := hp
  unfold sp_gro
  rw [ew, e12, eq]
  split
  · exact ⟨12 - w, by omega, rfl⟩
  · split
    · exact ⟨12 - w + 4, by omega, by rw [show (4 : Int32) = nI 4 from rfl, nI_add]⟩
    · split
      · exact ⟨q, by omega, rfl⟩
      · split
        · exact ⟨q + w, by omega, by rw [nI_add]⟩
        · split
          · exact ⟨(q + w) / 2, by omega, by rw [nI_add, show (2 : Int32) = nI 2 from rfl, pk_div (by omega) (by decide) (by decide)]⟩
          · split
            · exact ⟨3, by omega, rfl⟩
            · exact ⟨12, by omega, rfl⟩
theorem sp_gs_fil {s : Nat → Int32} : ∃ g, g ≤ 4 ∧ sp_fil s = nI g := by
  have hp : ∃ q, q ≤ 3 ∧ sp_fpl s = nI q := by
    unfold sp_fpl
    split
    · exact ⟨1, by omega, rfl⟩
    · exact ⟨3, by omega, rfl⟩
  obtain ⟨q, hq, eq⟩ := hp
  unfold sp_fil
  rw [eq]
  split
  · exact ⟨q + 1, by omega, nI_1 q⟩
  · split
    · exact ⟨0, by omega, rfl⟩
    · exact ⟨q, by omega, rfl⟩
theorem sp_min {x M : Nat} {X : Int32} (hx : X = nI x) (hs : x < 2 ^ 30) (hM : M < 2 ^ 30) : (if X < nI M then X else nI M) = nI (min x M) := by
  subst hx
  by_cases h : x < M
  · rw [if_pos (nI_lt h (by omega)), show min x M = x by omega]
  · rw [if_neg (nI_nlt (by omega) (by omega)), show min x M = M by omega]
theorem sp_gs_h {s : Nat → Int32} (h : sp_gs s) : ∃ x, x ≤ 199 ∧ (if s 2 + sp_gro s < 199 then s 2 + sp_gro s else 199) = nI x := by
  obtain ⟨g, hg, eg⟩ := sp_gs_gro h
  obtain ⟨a, ha, ea, hz⟩ := wj_nat h.2.2.1.1
  have := h.2.2.1.2
  exact ⟨min (a + g) 199, by omega, sp_min (M := 199) (by rw [ea, eg, nI_add]) (by omega) (by decide)⟩
theorem sp_gs_t {s : Nat → Int32} (h : sp_gs s) : ∃ x, x ≤ 99 ∧ (if s 3 + sp_fil s < 99 then s 3 + sp_fil s else 99) = nI x := by
  obtain ⟨g, hg, eg⟩ := sp_gs_fil (s := s)
  obtain ⟨a, ha, ea, hz⟩ := wj_nat h.2.2.2.1.1
  have := h.2.2.2.1.2
  exact ⟨min (a + g) 99, by omega, sp_min (M := 99) (by rw [ea, eg, nI_add]) (by omega) (by decide)⟩
theorem sp_gs_u2 {s : Nat → Int32} (h : sp_gs s) {x : Nat} (hx : x ≤ 199) : sp_gs (upd s 2 (nI x)) := by
  obtain ⟨h0, h1, h2, h3, h4, h5, h6⟩ := h
  refine ⟨by simpa [upd] using h0, by simpa [upd] using h1, ?_, by simpa [upd] using h3, by simpa [upd] using h4, by simpa [upd] using h5, by simpa [upd] using h6⟩
  rw [show upd s 2 (nI x) 2 = nI x by simp [upd], nI_toInt (by omega)]
  omega
theorem sp_gs_grw {s : Nat → Int32} (h : sp_gs s) : sp_gs (sp_grw s) := by
  obtain ⟨x, hx, ex⟩ := sp_gs_h h
  obtain ⟨t, ht, et⟩ := sp_gs_t h
  unfold sp_grw
  rw [ex, et]
  obtain ⟨h0, h1, h2, h3, h4, h5, h6⟩ := h
  refine ⟨by simpa [upd] using h0, by simpa [upd] using h1, ?_, ?_, by simpa [upd] using h4, by simpa [upd] using h5, by simpa [upd] using h6⟩
  · rw [show upd (upd s 2 (nI x)) 3 (nI t) 2 = nI x by simp [upd], nI_toInt (by omega)]; omega
  · rw [show upd (upd s 2 (nI x)) 3 (nI t) 3 = nI t by simp [upd], nI_toInt (by omega)]; omega
theorem sp_gs_giv {s : Nat → Int32} (h : sp_gs s) : sp_gs (sp_giv s) := by
  obtain ⟨a, ha, ea, hza⟩ := wj_nat h.2.2.1.1
  obtain ⟨b, hb, eb, hzb⟩ := wj_nat h.2.2.2.1.1
  obtain ⟨c, hc, ec, hzc⟩ := wj_nat h.2.2.2.2.2.2.1
  have h2 := h.2.2.1.2
  have h3 := h.2.2.2.1.2
  have h6 := h.2.2.2.2.2.2.2
  have e2 : s 2 / 2 = nI (a / 2) := by rw [ea, show (2 : Int32) = nI 2 from rfl, pk_div ha (by decide) (by decide)]
  have e3 : (if 0 < s 3 - 5 then s 3 - 5 else 0) = nI (b - 5) := by
    rw [eb, show (5 : Int32) = nI 5 from rfl]
    by_cases q : 5 < b
    · rw [pk_sub (by omega), if_pos (by rw [show (0 : Int32) = nI 0 from rfl]; exact nI_lt (by omega) (by omega))]
    · rw [if_neg, show b - 5 = 0 by omega]
      · rfl
      · rw [Int32.lt_iff_toInt_lt, pk_sub_toInt (by omega) (by omega), Int32.toInt_zero]; omega
  have e6 : (if s 6 + 1 < 9999 then s 6 + 1 else 9999) = nI (min (c + 1) 9999) := sp_min (M := 9999) (by rw [ec, nI_1]) (by omega) (by decide)
  unfold sp_giv
  rw [e2, e3, e6]
  have hm : min (c + 1) 9999 ≤ 9999 := Nat.min_le_right _ _
  generalize min (c + 1) 9999 = m9 at hm
  obtain ⟨h0, h1, -, -, h4, h5, -⟩ := h
  refine ⟨by simpa [upd] using h0, by simpa [upd] using h1, ?_, ?_, by simpa [upd] using h4, by simpa [upd] using h5, ?_⟩
  · rw [show upd (upd (upd s 2 (nI (a / 2))) 3 (nI (b - 5))) 6 (nI m9) 2 = nI (a / 2) by simp [upd], nI_toInt (by omega)]; omega
  · rw [show upd (upd (upd s 2 (nI (a / 2))) 3 (nI (b - 5))) 6 (nI m9) 3 = nI (b - 5) by simp [upd], nI_toInt (by omega)]; omega
  · rw [show upd (upd (upd s 2 (nI (a / 2))) 3 (nI (b - 5))) 6 (nI m9) 6 = nI m9 by simp [upd], nI_toInt (by omega)]; omega
theorem sp_G_lean {A : sp_L} {N y : Nat} (h : sp_G A N y) : sp_G (sp_lean A) N y := by
  obtain ⟨h1, h2, h3, h4, h5, h6⟩ := h
  unfold sp_lean
  split
  · refine ⟨h1, h2, h3, fun i hi => ?_, h5, ?_⟩
    · show sp_gs (if _ then _ else _)
      split
      · exact sp_gs_giv (h4 i hi)
      · exact h4 i hi
    · show (if A.2.2.2.1 + 1 < 9999 then A.2.2.2.1 + 1 else 9999).toInt ≤ 9999 ∧ 0 ≤ (if A.2.2.2.1 + 1 < 9999 then A.2.2.2.1 + 1 else 9999).toInt
      obtain ⟨c, hc, ec, hz⟩ := wj_nat h6.2
      rw [show (if A.2.2.2.1 + 1 < 9999 then A.2.2.2.1 + 1 else 9999) = nI (min (c + 1) 9999) from sp_min (M := 9999) (by rw [ec, nI_1]) (by omega) (by decide), nI_toInt (by omega)]
      omega
  · exact ⟨h1, h2, h3, h4, h5, h6⟩
/-- a year, with or without leanings -/
def sp_yx (c : Bool) (A : sp_L) : sp_L := sp_wY (sp_grN (if c = true then A else sp_lean A) (sp_N A)) (A.1 + 1)
def sp_yxs (c : Bool) (A : sp_L) : Nat → sp_L
  | 0 => A
  | m + 1 => sp_yx c (sp_yxs c A m)
theorem sp_yx_f (A : sp_L) : sp_yx false A = sp_yr A := rfl
theorem sp_yxs_f (A : sp_L) : ∀ m, sp_yxs false A m = sp_yrs A m
  | 0 => rfl
  | m + 1 => by rw [sp_yxs, sp_yrs, sp_yxs_f A m]; rfl
theorem sp_G_yx {c : Bool} {A : sp_L} {N y : Nat} (h : sp_G A N y) : sp_G (sp_yx c A) N (y + 1) := by
  have hB : sp_G (if c = true then A else sp_lean A) N y := by
    split
    · exact h
    · exact sp_G_lean h
  obtain ⟨h1, h2, h3, h4, h5, h6⟩ := hB
  refine ⟨h1, h2, ?_, fun i hi => ?_, h5, h6⟩
  · show A.1 + 1 = nI (y + 1)
    rw [h.2.2.1, nI_1]
  · show sp_gs (if _ then _ else _)
    rw [sp_N_of h.1 h.2.1, if_pos hi]
    exact sp_gs_grw (h4 i hi)
theorem sp_G_yxs {c : Bool} {A : sp_L} {N y : Nat} (h : sp_G A N y) : ∀ m, sp_G (sp_yxs c A m) N (y + m)
  | 0 => h
  | m + 1 => sp_G_yx (sp_G_yxs h m)
theorem sp_G_yr {A : sp_L} {N y : Nat} (h : sp_G A N y) : sp_G (sp_yr A) N (y + 1) := sp_G_yx (c := false) h
theorem sp_G_yrs {A : sp_L} {N y : Nat} (h : sp_G A N y) (m : Nat) : sp_G (sp_yrs A m) N (y + m) := by rw [← sp_yxs_f]; exact sp_G_yxs h m
theorem sp_G_le {A : sp_L} {N y : Nat} (h : sp_G A N y) (hy : y < 2 ^ 31) : ∃ e, e < 1600 ∧ sp_le A = nI e := by
  rw [sp_le_of h.2.2.1 hy]
  have := h.2.2.2.2.1 (y % 6) (Nat.mod_lt _ (by decide))
  obtain ⟨j, hj, ej, hz⟩ := wj_nat this.1
  exact ⟨j, by omega, ej⟩
theorem sp_wk_n (A : sp_L) : ∀ i, i ≤ 15 → ∃ q, q ≤ i ∧ sp_wk A i = nI q
  | 0, _ => ⟨0, Nat.le_refl _, rfl⟩
  | i + 1, h => by
    obtain ⟨q, h1, h2⟩ := sp_wk_n A i (by omega)
    rw [sp_wk]
    split
    · exact ⟨i + 1, by omega, rfl⟩
    · exact ⟨q, by omega, h2⟩
/-- the sum of a field -/
def sp_smf (A : sp_L) (f : Nat) : Nat → Int32
  | 0 => 0
  | i + 1 => sp_smf A f i + sp_sl A i f
theorem sp_tra_f (s : Nat → Int32) (y : Int32) : ∀ f, f < 7 → sp_tra s (nI f) y = s f := by
  intro f hf
  rcases f with _ | _ | _ | _ | _ | _ | _ | f
  · rfl
  · rw [sp_tra, if_neg (by decide), if_pos (by decide)]
  · rw [sp_tra, if_neg (by decide), if_neg (by decide), if_pos (by decide)]
  · rw [sp_tra, if_neg (by decide), if_neg (by decide), if_neg (by decide), if_pos (by decide)]
  · rw [sp_tra, if_neg (by decide), if_neg (by decide), if_neg (by decide), if_neg (by decide), if_pos (by decide)]
  · rw [sp_tra, if_neg (by decide), if_neg (by decide), if_neg (by decide), if_neg (by decide), if_neg (by decide), if_pos (by decide)]
  · rw [sp_tra, if_neg (by decide), if_neg (by decide), if_neg (by decide), if_neg (by decide), if_neg (by decide), if_neg (by decide), if_pos (by decide)]
  · omega
theorem sp_sum_f (A : sp_L) {f : Nat} (hf : f < 7) : ∀ m, sp_sum A (nI f) m = sp_smf A f m
  | 0 => rfl
  | m + 1 => by rw [sp_sum, sp_smf, sp_sum_f A hf m, sp_tra_f _ _ f hf]
theorem ar_rows {V : wj_V} {b : Nat} (h : 49 ≤ b ∧ b < 52) : wj_ar V 0 b 77 := by
  rcases (show b = 49 ∨ b = 50 ∨ b = 51 by omega) with rfl | rfl | rfl
  · exact ar_now
  · exact ar_kept
  · exact ar_aside
theorem sl_rows {b : Nat} (h : 49 ≤ b ∧ b < 52) : wj_sl b = 77 := by
  rcases (show b = 49 ∨ b = 50 ∨ b = 51 by omega) with rfl | rfl | rfl <;> rfl
/-- the first m numbers of a row come over -/
def sp_cr (g f : Nat → Int32) (m : Nat) : Nat → Int32 := fun j => if j < m then f j else g j
theorem sp_cr_s (g f : Nat → Int32) (m : Nat) : upd (sp_cr g f m) m (f m) = sp_cr g f (m + 1) := by
  funext j
  simp only [upd, sp_cr]
  by_cases h : j = m
  · subst h; rw [if_pos rfl, if_pos (by omega)]
  · rw [if_neg h]
    by_cases h2 : j < m
    · rw [if_pos h2, if_pos (by omega)]
    · rw [if_neg h2, if_neg (by omega)]
/-- aside holds now -/
def sp_as (σ : wj_St) (A : sp_L) : wj_St := wj_r σ 51 (sp_mr (σ 49) A)
theorem sp_as_1 (σ : wj_St) (A : sp_L) : wj_r (sp_mq σ A) 51 (sp_mq σ A 49) = sp_mq (sp_as σ A) A := by
  rw [sp_mq_49, sp_mq, sp_mq, sp_as, wj_r_ne (by decide)]
  funext q
  by_cases h : q = 51
  · subst h; rw [wj_r_same, wj_r_ne (by decide), wj_r_same]
  · rw [wj_r_ne h]
    by_cases h2 : q = 49
    · subst h2; rw [wj_r_same, wj_r_same]
    · rw [wj_r_ne h2, wj_r_ne h2, wj_r_ne h]
theorem sp_as_2 (σ : wj_St) (A B : sp_L) : wj_r (sp_mq (sp_as σ A) B) 49 (sp_mq (sp_as σ A) B 51) = sp_mq (sp_as σ A) A := by
  rw [sp_mq_o (by decide), sp_mq, wj_rr2, sp_mq]
  congr 1
theorem sp_as_as (σ : wj_St) (A : sp_L) : sp_as (sp_as σ A) A = sp_as σ A := by
  unfold sp_as
  rw [wj_r_ne (by decide), wj_rr2]
set_option maxRecDepth 100000 in
set_option maxHeartbeats 4000000 in
theorem c_X5_covering (l : Launch) (V : wj_V) {σ : wj_St} {A : sp_L} {N y : Nat} {p : Nat} (hG : sp_G A N y) (hp : p < 16) : wj_M l V yX5_covering cX5_covering 4 (some .int) 4 92 [.ref (V.2.2.1 48), .int (nI p)] (sp_mq σ A) (wj_I V (sp_co A (nI p) (sp_N A)) (sp_mq σ A)) := by
  refine wj_ofI (own := RX5) [some (.ref (V.2.2.1 48)), some (.int (nI p)), none, none] (by decide) rfl rfl (Nat.le_of_ble_eq_true rfl) (fun X C hR => ?_)
  have hN := hG.2.1
  have lp : ∀ n i, i ≤ N → N - i < n → wj_J l V X 4 [some (.ref (V.2.2.1 48)), some (.int (nI p)), some (.int (sp_co A (nI p) i)), some (.int (nI i))] [] (sp_mq σ A) := by
    intro n
    induction n with
    | zero => intro i _ h; omega
    | succ n ih =>
      intro i hi hm
      refine wj_iload_n C 3 dX5_covering_4 rfl rfl ?_
      refine wj_aload_n C 0 dX5_covering_5 rfl rfl ?_
      refine wg_X5_9 C dX5_covering_6 ?_
      refine wj_iconst (v := 1) C dX5_covering_9 (by decide) ?_
      refine wj_ialdN C dX5_covering_10 ar_now ⟨by decide, by decide⟩ ?_
      rw [sp_mq_49, sp_mr_1]
      refine wj_icmp_ge C 42 dX5_covering_11 (by decide) (fun h11 => ?_) (fun h11 => ?_)
      · rw [hG.1] at h11
        have e9 := wj_ge (N := N) (by omega) hi h11
        subst e9
        refine wj_iload_n C 2 dX5_covering_42 rfl rfl ?_
        exact hR _ _ _ _ _ dX5_covering_43 ⟨by rw [sp_N_of hG.1 hG.2.1], rfl⟩ wj_rfl
      · rw [hG.1] at h11
        have hlt := wj_nge (N := N) (by omega) hi h11
        refine wj_iload_n C 2 dX5_covering_14 rfl rfl ?_
        refine wj_aload_n C 0 dX5_covering_15 rfl rfl ?_
        refine wj_iload_n C 3 dX5_covering_16 rfl rfl ?_
        refine wj_cif C (wj_rV C dX5_covering_17 km_X5_covers kl_X5_100 is_X5 rfl rfl (c_X5_covers l V (by omega) (hG.2.2.2.1 i hlt)) rfl rfl (Nat.le_of_ble_eq_true rfl) (by decide)) ?_
        refine wj_iload_n C 1 dX5_covering_20 rfl rfl ?_
        refine wj_cif C (wj_rS C dX5_covering_21 km_X5_hasBit kl_X5_103 (c_X5_hasBit l V) rfl rfl (Nat.le_of_ble_eq_true rfl) (by decide)) ?_
        rw [sp_isc_cov (hG.2.2.2.1 i hlt) hp]
        refine wj_if_eq C 33 dX5_covering_24 (by decide) (fun h24 => ?_) (fun h24 => ?_)
        · have e8 : sp_co A (nI p) (i + 1) = sp_co A (nI p) i ||| 0 := by rw [sp_co, wj_b0 h24, wj_or0]; rfl
          refine wj_iconst (v := 0) C dX5_covering_33 (by decide) ?_
          refine wj_ior C dX5_covering_34 ?_
          refine wj_istore_n C 2 dX5_covering_35 rfl (by decide) rfl ?_
          dsimp only [List.set]
          refine wj_iinc C (v := nI (i + 1)) dX5_covering_36 rfl (wj_i1 i) (by decide) rfl ?_
          dsimp only [List.set]
          refine wj_goto C 4 dX5_covering_39 (by decide) ?_
          exact (by have hh := ih (i + 1) (by omega) (by omega); rw [e8] at hh; exact hh)
        · have e8 : sp_co A (nI p) (i + 1) = sp_co A (nI p) i ||| ((1 : Int32) <<< (nI i &&& 31)) := by rw [sp_co, wj_b1 h24]; rfl
          refine wj_iconst (v := 1) C dX5_covering_27 (by decide) ?_
          refine wj_iload_n C 3 dX5_covering_28 rfl rfl ?_
          refine wj_ishl C dX5_covering_29 ?_
          refine wj_goto C 34 dX5_covering_30 (by decide) ?_
          refine wj_ior C dX5_covering_34 ?_
          refine wj_istore_n C 2 dX5_covering_35 rfl (by decide) rfl ?_
          dsimp only [List.set]
          refine wj_iinc C (v := nI (i + 1)) dX5_covering_36 rfl (wj_i1 i) (by decide) rfl ?_
          dsimp only [List.set]
          refine wj_goto C 4 dX5_covering_39 (by decide) ?_
          exact (by have hh := ih (i + 1) (by omega) (by omega); rw [e8] at hh; exact hh)
  refine wj_iconst (v := 0) C dX5_covering_0 (by decide) ?_
  refine wj_istore_n C 2 dX5_covering_1 rfl (by decide) rfl ?_
  dsimp only [List.set]
  refine wj_iconst (v := 0) C dX5_covering_2 (by decide) ?_
  refine wj_istore_n C 3 dX5_covering_3 rfl (by decide) rfl ?_
  dsimp only [List.set]
  exact lp (N + 1) 0 (by omega) (by omega)
set_option maxRecDepth 100000 in
set_option maxHeartbeats 4000000 in
theorem c_X5_slipsIn (l : Launch) (V : wj_V) {σ : wj_St} {A : sp_L} {N y : Nat} {p : Int32} (hG : sp_G A N y) : wj_M l V yX5_slipsIn cX5_slipsIn 4 (some .int) 2 43 [.ref (V.2.2.1 48), .int p] (sp_mq σ A) (wj_I V (sp_si A p (sp_N A)) (sp_mq σ A)) := by
  refine wj_ofI (own := RX5) [some (.ref (V.2.2.1 48)), some (.int p), none, none] (by decide) rfl rfl (Nat.le_of_ble_eq_true rfl) (fun X C hR => ?_)
  have hN := hG.2.1
  have lp : ∀ n i, i ≤ N → N - i < n → wj_J l V X 4 [some (.ref (V.2.2.1 48)), some (.int p), some (.int (sp_si A p i)), some (.int (nI i))] [] (sp_mq σ A) := by
    intro n
    induction n with
    | zero => intro i _ h; omega
    | succ n ih =>
      intro i hi hm
      refine wj_iload_n C 3 dX5_slipsIn_4 rfl rfl ?_
      refine wj_aload_n C 0 dX5_slipsIn_5 rfl rfl ?_
      refine wg_X5_9 C dX5_slipsIn_6 ?_
      refine wj_iconst (v := 1) C dX5_slipsIn_9 (by decide) ?_
      refine wj_ialdN C dX5_slipsIn_10 ar_now ⟨by decide, by decide⟩ ?_
      rw [sp_mq_49, sp_mr_1]
      refine wj_icmp_ge C 40 dX5_slipsIn_11 (by decide) (fun h11 => ?_) (fun h11 => ?_)
      · rw [hG.1] at h11
        have e9 := wj_ge (N := N) (by omega) hi h11
        subst e9
        refine wj_iload_n C 2 dX5_slipsIn_40 rfl rfl ?_
        exact hR _ _ _ _ _ dX5_slipsIn_41 ⟨by rw [sp_N_of hG.1 hG.2.1], rfl⟩ wj_rfl
      · rw [hG.1] at h11
        have hlt := wj_nge (N := N) (by omega) hi h11
        refine wj_iload_n C 2 dX5_slipsIn_14 rfl rfl ?_
        refine wj_aload_n C 0 dX5_slipsIn_15 rfl rfl ?_
        refine wj_iload_n C 3 dX5_slipsIn_16 rfl rfl ?_
        refine wj_iconst (v := 1) C dX5_slipsIn_17 (by decide) ?_
        refine wj_cif C (wj_rV C dX5_slipsIn_18 km_X5_slipIs kl_X5_82 is_X5 rfl rfl (c_X5_slipIs (f := 1) l V (by omega) (by decide)) rfl rfl (Nat.le_of_ble_eq_true rfl) (by decide)) ?_
        refine wj_iload_n C 1 dX5_slipsIn_21 rfl rfl ?_
        refine wj_icmp_ne C 31 dX5_slipsIn_22 (by decide) (fun h22 => ?_) (fun h22 => ?_)
        · have e8 : sp_si A p (i + 1) = sp_si A p i ||| 0 := by rw [sp_si, if_neg h22, wj_or0]
          refine wj_iconst (v := 0) C dX5_slipsIn_31 (by decide) ?_
          refine wj_ior C dX5_slipsIn_32 ?_
          refine wj_istore_n C 2 dX5_slipsIn_33 rfl (by decide) rfl ?_
          dsimp only [List.set]
          refine wj_iinc C (v := nI (i + 1)) dX5_slipsIn_34 rfl (wj_i1 i) (by decide) rfl ?_
          dsimp only [List.set]
          refine wj_goto C 4 dX5_slipsIn_37 (by decide) ?_
          exact (by have hh := ih (i + 1) (by omega) (by omega); rw [e8] at hh; exact hh)
        · have e8 : sp_si A p (i + 1) = sp_si A p i ||| ((1 : Int32) <<< (nI i &&& 31)) := by rw [sp_si, if_pos h22]
          refine wj_iconst (v := 1) C dX5_slipsIn_25 (by decide) ?_
          refine wj_iload_n C 3 dX5_slipsIn_26 rfl rfl ?_
          refine wj_ishl C dX5_slipsIn_27 ?_
          refine wj_goto C 32 dX5_slipsIn_28 (by decide) ?_
          refine wj_ior C dX5_slipsIn_32 ?_
          refine wj_istore_n C 2 dX5_slipsIn_33 rfl (by decide) rfl ?_
          dsimp only [List.set]
          refine wj_iinc C (v := nI (i + 1)) dX5_slipsIn_34 rfl (wj_i1 i) (by decide) rfl ?_
          dsimp only [List.set]
          refine wj_goto C 4 dX5_slipsIn_37 (by decide) ?_
          exact (by have hh := ih (i + 1) (by omega) (by omega); rw [e8] at hh; exact hh)
  refine wj_iconst (v := 0) C dX5_slipsIn_0 (by decide) ?_
  refine wj_istore_n C 2 dX5_slipsIn_1 rfl (by decide) rfl ?_
  dsimp only [List.set]
  refine wj_iconst (v := 0) C dX5_slipsIn_2 (by decide) ?_
  refine wj_istore_n C 3 dX5_slipsIn_3 rfl (by decide) rfl ?_
  dsimp only [List.set]
  exact lp (N + 1) 0 (by omega) (by omega)
set_option maxRecDepth 100000 in
set_option maxHeartbeats 4000000 in
theorem c_X5_strength (l : Launch) (V : wj_V) {σ : wj_St} {A : sp_L} {N y : Nat} {p : Nat} (hG : sp_G A N y) (hp : p < 16) : wj_M l V yX5_strength cX5_strength 4 (some .int) 4 92 [.ref (V.2.2.1 48), .int (nI p)] (sp_mq σ A) (wj_I V (sp_stg A (nI p)) (sp_mq σ A)) := by
  refine wj_ofI (own := RX5) [some (.ref (V.2.2.1 48)), some (.int (nI p)), none, none] (by decide) rfl rfl (Nat.le_of_ble_eq_true rfl) (fun X C hR => ?_)
  have hN := hG.2.1
  have lp : ∀ n i, i ≤ N → N - i < n → wj_J l V X 22 [some (.ref (V.2.2.1 48)), some (.int (nI p)), some (.int (sp_sg A (nI p) i)), some (.int (nI i))] [] (sp_mq σ A) := by
    intro n
    induction n with
    | zero => intro i _ h; omega
    | succ n ih =>
      intro i hi hm
      refine wj_iload_n C 3 dX5_strength_22 rfl rfl ?_
      refine wj_aload_n C 0 dX5_strength_23 rfl rfl ?_
      refine wg_X5_9 C dX5_strength_24 ?_
      refine wj_iconst (v := 1) C dX5_strength_27 (by decide) ?_
      refine wj_ialdN C dX5_strength_28 ar_now ⟨by decide, by decide⟩ ?_
      rw [sp_mq_49, sp_mr_1]
      refine wj_icmp_ge C 62 dX5_strength_29 (by decide) (fun h29 => ?_) (fun h29 => ?_)
      · rw [hG.1] at h29
        have e9 := wj_ge (N := N) (by omega) hi h29
        subst e9
        refine wj_iload_n C 2 dX5_strength_62 rfl rfl ?_
        exact hR _ _ _ _ _ dX5_strength_63 ⟨by rw [sp_stg, sp_N_of hG.1 hG.2.1], rfl⟩ wj_rfl
      · rw [hG.1] at h29
        have hlt := wj_nge (N := N) (by omega) hi h29
        refine wj_iload_n C 2 dX5_strength_32 rfl rfl ?_
        refine wj_aload_n C 0 dX5_strength_33 rfl rfl ?_
        refine wj_iload_n C 3 dX5_strength_34 rfl rfl ?_
        refine wj_cif C (wj_rV C dX5_strength_35 km_X5_covers kl_X5_100 is_X5 rfl rfl (c_X5_covers l V (by omega) (hG.2.2.2.1 i hlt)) rfl rfl (Nat.le_of_ble_eq_true rfl) (by decide)) ?_
        refine wj_iload_n C 1 dX5_strength_38 rfl rfl ?_
        refine wj_cif C (wj_rS C dX5_strength_39 km_X5_hasBit kl_X5_103 (c_X5_hasBit l V) rfl rfl (Nat.le_of_ble_eq_true rfl) (by decide)) ?_
        rw [sp_isc_cov (hG.2.2.2.1 i hlt) hp]
        refine wj_if_eq C 53 dX5_strength_42 (by decide) (fun h42 => ?_) (fun h42 => ?_)
        · have e8 : sp_sg A (nI p) (i + 1) = sp_sg A (nI p) i + 0 := by rw [sp_sg, wj_b0 h42, wj_add0]; rfl
          refine wj_iconst (v := 0) C dX5_strength_53 (by decide) ?_
          refine wj_iadd C dX5_strength_54 ?_
          refine wj_istore_n C 2 dX5_strength_55 rfl (by decide) rfl ?_
          dsimp only [List.set]
          refine wj_iinc C (v := nI (i + 1)) dX5_strength_56 rfl (wj_i1 i) (by decide) rfl ?_
          dsimp only [List.set]
          refine wj_goto C 22 dX5_strength_59 (by decide) ?_
          exact (by have hh := ih (i + 1) (by omega) (by omega); rw [e8] at hh; exact hh)
        · have e8 : sp_sg A (nI p) (i + 1) = sp_sg A (nI p) i + sp_str (sp_sl A i) A.1 := by rw [sp_sg, wj_b1 h42]; rfl
          refine wj_aload_n C 0 dX5_strength_45 rfl rfl ?_
          refine wj_iload_n C 3 dX5_strength_46 rfl rfl ?_
          refine wj_cif C (wj_rV C dX5_strength_47 km_X5_strongIs kl_X5_107 is_X5 rfl rfl (c_X5_strongIs l V (by omega) (hG.2.2.2.1 i hlt)) rfl rfl (Nat.le_of_ble_eq_true rfl) (by decide)) ?_
          refine wj_goto C 54 dX5_strength_50 (by decide) ?_
          refine wj_iadd C dX5_strength_54 ?_
          refine wj_istore_n C 2 dX5_strength_55 rfl (by decide) rfl ?_
          dsimp only [List.set]
          refine wj_iinc C (v := nI (i + 1)) dX5_strength_56 rfl (wj_i1 i) (by decide) rfl ?_
          dsimp only [List.set]
          refine wj_goto C 22 dX5_strength_59 (by decide) ?_
          exact (by have hh := ih (i + 1) (by omega) (by omega); rw [e8] at hh; exact hh)
  refine wj_aload_n C 0 dX5_strength_0 rfl rfl ?_
  refine wg_X5_9 C dX5_strength_1 ?_
  refine wj_iconst (v := 3) C dX5_strength_4 (by decide) ?_
  refine wj_ialdN C dX5_strength_5 ar_now ⟨by decide, by decide⟩ ?_
  rw [sp_mq_49, sp_mr_3]
  refine wj_iload_n C 1 dX5_strength_6 rfl rfl ?_
  refine wj_cif C (wj_rS C dX5_strength_7 km_X5_hasBit kl_X5_103 (c_X5_hasBit l V) rfl rfl (Nat.le_of_ble_eq_true rfl) (by decide)) ?_
  refine wj_if_eq C 18 dX5_strength_10 (by decide) (fun h10 => ?_) (fun h10 => ?_)
  · have e7 : sp_sg A (nI p) 0 = 0 := by rw [sp_sg, wj_b0 h10]; rfl
    refine wj_iconst (v := 0) C dX5_strength_18 (by decide) ?_
    refine wj_istore_n C 2 dX5_strength_19 rfl (by decide) rfl ?_
    dsimp only [List.set]
    refine wj_iconst (v := 0) C dX5_strength_20 (by decide) ?_
    refine wj_istore_n C 3 dX5_strength_21 rfl (by decide) rfl ?_
    dsimp only [List.set]
    exact (by have hh := lp (N + 1) 0 (by omega) (by omega); rw [e7] at hh; exact hh)
  · have e7 : sp_sg A (nI p) 0 = 40 := by rw [sp_sg, wj_b1 h10]; rfl
    refine wj_bipush (v := 40) C dX5_strength_13 (by decide) ?_
    refine wj_goto C 19 dX5_strength_15 (by decide) ?_
    refine wj_istore_n C 2 dX5_strength_19 rfl (by decide) rfl ?_
    dsimp only [List.set]
    refine wj_iconst (v := 0) C dX5_strength_20 (by decide) ?_
    refine wj_istore_n C 3 dX5_strength_21 rfl (by decide) rfl ?_
    dsimp only [List.set]
    exact (by have hh := lp (N + 1) 0 (by omega) (by omega); rw [e7] at hh; exact hh)
set_option maxRecDepth 100000 in
set_option maxHeartbeats 4000000 in
theorem c_X5_gaps (l : Launch) (V : wj_V) {σ : wj_St} {A : sp_L} {N y : Nat} (hG : sp_G A N y) : wj_M l V yX5_gaps cX5_gaps 3 (some .int) 4 92 [.ref (V.2.2.1 48)] (sp_mq σ A) (wj_I V (sp_gap A) (sp_mq σ A)) := by
  refine wj_ofI (own := RX5) [some (.ref (V.2.2.1 48)), none, none] (by decide) rfl rfl (Nat.le_of_ble_eq_true rfl) (fun X C hR => ?_)
  have hN := hG.2.1
  have lp : ∀ n i, i ≤ N → N - i < n → wj_J l V X 9 [some (.ref (V.2.2.1 48)), some (.int (sp_un A i)), some (.int (nI i))] [] (sp_mq σ A) := by
    intro n
    induction n with
    | zero => intro i _ h; omega
    | succ n ih =>
      intro i hi hm
      refine wj_iload_n C 2 dX5_gaps_9 rfl rfl ?_
      refine wj_aload_n C 0 dX5_gaps_10 rfl rfl ?_
      refine wg_X5_9 C dX5_gaps_11 ?_
      refine wj_iconst (v := 1) C dX5_gaps_14 (by decide) ?_
      refine wj_ialdN C dX5_gaps_15 ar_now ⟨by decide, by decide⟩ ?_
      rw [sp_mq_49, sp_mr_1]
      refine wj_icmp_ge C 33 dX5_gaps_16 (by decide) (fun h16 => ?_) (fun h16 => ?_)
      · rw [hG.1] at h16
        have e9 := wj_ge (N := N) (by omega) hi h16
        subst e9
        refine wj_ldc C dX5_gaps_33 kc_X5_74 ?_
        refine wj_iload_n C 1 dX5_gaps_35 rfl rfl ?_
        refine wj_iconst (v := -1) C dX5_gaps_36 (by decide) ?_
        refine wj_ixor C dX5_gaps_37 ?_
        refine wj_iand C dX5_gaps_38 ?_
        exact hR _ _ _ _ _ dX5_gaps_39 ⟨by rw [sp_gap, sp_N_of hG.1 hG.2.1], rfl⟩ wj_rfl
      · rw [hG.1] at h16
        have hlt := wj_nge (N := N) (by omega) hi h16
        refine wj_iload_n C 1 dX5_gaps_19 rfl rfl ?_
        refine wj_aload_n C 0 dX5_gaps_20 rfl rfl ?_
        refine wj_iload_n C 2 dX5_gaps_21 rfl rfl ?_
        refine wj_cif C (wj_rV C dX5_gaps_22 km_X5_covers kl_X5_100 is_X5 rfl rfl (c_X5_covers l V (by omega) (hG.2.2.2.1 i hlt)) rfl rfl (Nat.le_of_ble_eq_true rfl) (by decide)) ?_
        refine wj_ior C dX5_gaps_25 ?_
        refine wj_istore_n C 1 dX5_gaps_26 rfl (by decide) rfl ?_
        dsimp only [List.set]
        refine wj_iinc C (v := nI (i + 1)) dX5_gaps_27 rfl (wj_i1 i) (by decide) rfl ?_
        dsimp only [List.set]
        refine wj_goto C 9 dX5_gaps_30 (by decide) ?_
        exact ih (i + 1) (by omega) (by omega)
  refine wj_aload_n C 0 dX5_gaps_0 rfl rfl ?_
  refine wg_X5_9 C dX5_gaps_1 ?_
  refine wj_iconst (v := 3) C dX5_gaps_4 (by decide) ?_
  refine wj_ialdN C dX5_gaps_5 ar_now ⟨by decide, by decide⟩ ?_
  rw [sp_mq_49, sp_mr_3]
  refine wj_istore_n C 1 dX5_gaps_6 rfl (by decide) rfl ?_
  dsimp only [List.set]
  refine wj_iconst (v := 0) C dX5_gaps_7 (by decide) ?_
  refine wj_istore_n C 2 dX5_gaps_8 rfl (by decide) rfl ?_
  dsimp only [List.set]
  exact lp (N + 1) 0 (by omega) (by omega)
set_option maxRecDepth 100000 in
set_option maxHeartbeats 4000000 in
theorem c_X5_sumOf (l : Launch) (V : wj_V) {σ : wj_St} {A : sp_L} {N y : Nat} {f : Nat} (hG : sp_G A N y) (hf : f < 7) : wj_M l V yX5_sumOf cX5_sumOf 4 (some .int) 2 43 [.ref (V.2.2.1 48), .int (nI f)] (sp_mq σ A) (wj_I V (sp_sum A (nI f) (sp_N A)) (sp_mq σ A)) := by
  refine wj_ofI (own := RX5) [some (.ref (V.2.2.1 48)), some (.int (nI f)), none, none] (by decide) rfl rfl (Nat.le_of_ble_eq_true rfl) (fun X C hR => ?_)
  have hN := hG.2.1
  have lp : ∀ n i, i ≤ N → N - i < n → wj_J l V X 4 [some (.ref (V.2.2.1 48)), some (.int (nI f)), some (.int (sp_smf A f i)), some (.int (nI i))] [] (sp_mq σ A) := by
    intro n
    induction n with
    | zero => intro i _ h; omega
    | succ n ih =>
      intro i hi hm
      refine wj_iload_n C 3 dX5_sumOf_4 rfl rfl ?_
      refine wj_aload_n C 0 dX5_sumOf_5 rfl rfl ?_
      refine wg_X5_9 C dX5_sumOf_6 ?_
      refine wj_iconst (v := 1) C dX5_sumOf_9 (by decide) ?_
      refine wj_ialdN C dX5_sumOf_10 ar_now ⟨by decide, by decide⟩ ?_
      rw [sp_mq_49, sp_mr_1]
      refine wj_icmp_ge C 29 dX5_sumOf_11 (by decide) (fun h11 => ?_) (fun h11 => ?_)
      · rw [hG.1] at h11
        have e9 := wj_ge (N := N) (by omega) hi h11
        subst e9
        refine wj_iload_n C 2 dX5_sumOf_29 rfl rfl ?_
        exact hR _ _ _ _ _ dX5_sumOf_30 ⟨by rw [sp_sum_f A hf, sp_N_of hG.1 hG.2.1], rfl⟩ wj_rfl
      · rw [hG.1] at h11
        have hlt := wj_nge (N := N) (by omega) hi h11
        refine wj_iload_n C 2 dX5_sumOf_14 rfl rfl ?_
        refine wj_aload_n C 0 dX5_sumOf_15 rfl rfl ?_
        refine wj_iload_n C 3 dX5_sumOf_16 rfl rfl ?_
        refine wj_iload_n C 1 dX5_sumOf_17 rfl rfl ?_
        refine wj_cif C (wj_rV C dX5_sumOf_18 km_X5_slipIs kl_X5_82 is_X5 rfl rfl (c_X5_slipIs (f := f) l V (by omega) hf) rfl rfl (Nat.le_of_ble_eq_true rfl) (by decide)) ?_
        refine wj_iadd C dX5_sumOf_21 ?_
        refine wj_istore_n C 2 dX5_sumOf_22 rfl (by decide) rfl ?_
        dsimp only [List.set]
        refine wj_iinc C (v := nI (i + 1)) dX5_sumOf_23 rfl (wj_i1 i) (by decide) rfl ?_
        dsimp only [List.set]
        refine wj_goto C 4 dX5_sumOf_26 (by decide) ?_
        exact ih (i + 1) (by omega) (by omega)
  refine wj_iconst (v := 0) C dX5_sumOf_0 (by decide) ?_
  refine wj_istore_n C 2 dX5_sumOf_1 rfl (by decide) rfl ?_
  dsimp only [List.set]
  refine wj_iconst (v := 0) C dX5_sumOf_2 (by decide) ?_
  refine wj_istore_n C 3 dX5_sumOf_3 rfl (by decide) rfl ?_
  dsimp only [List.set]
  exact lp (N + 1) 0 (by omega) (by omega)
set_option maxRecDepth 100000 in
set_option maxHeartbeats 4000000 in
theorem c_X5_weakest (l : Launch) (V : wj_V) {σ : wj_St} {A : sp_L} {N y : Nat} (hG : sp_G A N y) : wj_M l V yX5_weakest cX5_weakest 5 (some .int) 5 115 [.ref (V.2.2.1 48)] (sp_mq σ A) (wj_I V (sp_wk A 15) (sp_mq σ A)) := by
  refine wj_ofI (own := RX5) [some (.ref (V.2.2.1 48)), none, none, none, none] (by decide) rfl rfl (Nat.le_of_ble_eq_true rfl) (fun X C hR => ?_)
  have hN := hG.2.1
  have lp : ∀ n (lx4 : Option Value) i, i ≤ 15 → 15 - i < n → wj_J l V X 10 [some (.ref (V.2.2.1 48)), some (.int (sp_wk A i)), some (.int (sp_stg A (sp_wk A i))), some (.int (nI (i + 1))), lx4] [] (sp_mq σ A) := by
    intro n
    induction n with
    | zero => intro _ i _ h; omega
    | succ n ih =>
      intro lx4 i hi hm
      refine wj_iload_n C 3 dX5_weakest_10 rfl rfl ?_
      refine wj_bipush (v := 16) C dX5_weakest_11 (by decide) ?_
      refine wj_icmp_ge C 40 dX5_weakest_13 (by decide) (fun h13 => ?_) (fun h13 => ?_)
      · have e9 : i = 15 := by have := (nI_leI (a := 16) (b := i + 1) (by decide) (by omega)).mp h13; omega
        subst e9
        refine wj_iload_n C 1 dX5_weakest_40 rfl rfl ?_
        exact hR _ _ _ _ _ dX5_weakest_41 ⟨rfl, rfl⟩ wj_rfl
      · have hlt : i < 15 := by
          rcases Nat.lt_or_ge i 15 with q | q
          · exact q
          · exact absurd (nI_le (a := 16) (b := i + 1) (by omega) (by omega)) h13
        refine wj_aload_n C 0 dX5_weakest_16 rfl rfl ?_
        refine wj_iload_n C 3 dX5_weakest_17 rfl rfl ?_
        refine wj_cif C (wj_rV C dX5_weakest_18 km_X5_strength kl_X5_113 is_X5 rfl rfl (c_X5_strength (p := i + 1) l V hG (by omega)) rfl rfl (Nat.le_of_ble_eq_true rfl) (by decide)) ?_
        refine wj_istore C dX5_weakest_21 (by decide) rfl ?_
        dsimp only [List.set]
        refine wj_iload C dX5_weakest_23 rfl ?_
        refine wj_iload_n C 2 dX5_weakest_25 rfl rfl ?_
        refine wj_icmp_ge C 34 dX5_weakest_26 (by decide) (fun h26 => ?_) (fun h26 => ?_)
        · have e8 : sp_wk A (i + 1) = sp_wk A i := by rw [sp_wk, if_neg (Int32.not_lt.mpr h26)]
          refine wj_iinc C (v := nI (i + 1 + 1)) dX5_weakest_34 rfl (wj_i1 (i + 1)) (by decide) rfl ?_
          dsimp only [List.set]
          refine wj_goto C 10 dX5_weakest_37 (by decide) ?_
          exact (by have hh := ih (some (.int (sp_stg A (nI (i + 1))))) (i + 1) (by omega) (by omega); rw [e8] at hh; exact hh)
        · have e8 : sp_wk A (i + 1) = nI (i + 1) := by rw [sp_wk, if_pos (Int32.not_le.mp h26)]
          refine wj_iload_n C 3 dX5_weakest_29 rfl rfl ?_
          refine wj_istore_n C 1 dX5_weakest_30 rfl (by decide) rfl ?_
          dsimp only [List.set]
          refine wj_iload C dX5_weakest_31 rfl ?_
          refine wj_istore_n C 2 dX5_weakest_33 rfl (by decide) rfl ?_
          dsimp only [List.set]
          refine wj_iinc C (v := nI (i + 1 + 1)) dX5_weakest_34 rfl (wj_i1 (i + 1)) (by decide) rfl ?_
          dsimp only [List.set]
          refine wj_goto C 10 dX5_weakest_37 (by decide) ?_
          exact (by have hh := ih (some (.int (sp_stg A (nI (i + 1))))) (i + 1) (by omega) (by omega); rw [e8] at hh; exact hh)
  refine wj_iconst (v := 0) C dX5_weakest_0 (by decide) ?_
  refine wj_istore_n C 1 dX5_weakest_1 rfl (by decide) rfl ?_
  dsimp only [List.set]
  refine wj_aload_n C 0 dX5_weakest_2 rfl rfl ?_
  refine wj_iconst (v := 0) C dX5_weakest_3 (by decide) ?_
  refine wj_cif C (wj_rV C dX5_weakest_4 km_X5_strength kl_X5_113 is_X5 rfl rfl (c_X5_strength (p := 0) l V hG (by decide)) rfl rfl (Nat.le_of_ble_eq_true rfl) (by decide)) ?_
  refine wj_istore_n C 2 dX5_weakest_7 rfl (by decide) rfl ?_
  dsimp only [List.set]
  refine wj_iconst (v := 1) C dX5_weakest_8 (by decide) ?_
  refine wj_istore_n C 3 dX5_weakest_9 rfl (by decide) rfl ?_
  dsimp only [List.set]
  exact lp 16 none 0 (by omega) (by omega)
set_option maxRecDepth 100000 in
set_option maxHeartbeats 4000000 in
theorem c_X5_told (l : Launch) (V : wj_V) {σ : wj_St} {A : sp_L} {N y : Nat} {i w : Nat} (hG : sp_G A N y) (hi : i < N) (hw : w < 12) : wj_M l V yX5_told cX5_told 3 (some .int) 4 92 [.ref (V.2.2.1 48), .int (nI i), .int (nI w)] (sp_mq σ A) (wj_I V (sp_tra (sp_sl A i) (nI w) A.1) (sp_mq σ A)) := by
  refine wj_ofI (own := RX5) [some (.ref (V.2.2.1 48)), some (.int (nI i)), some (.int (nI w))] (by decide) rfl rfl (Nat.le_of_ble_eq_true rfl) (fun X C hR => ?_)
  have hN := hG.2.1
  refine wj_iload_n C 2 dX5_told_0 rfl rfl ?_
  refine wj_swc C (7) (35) 36 dX5_told_1 (by decide) (by decide) (by decide) (by decide) (fun h1_7 => ?_) (fun h1_7 => ?_)
  · refine wj_aload_n C 0 dX5_told_36 rfl rfl ?_
    refine wj_iload_n C 1 dX5_told_37 rfl rfl ?_
    refine wj_cif C (wj_rV C dX5_told_38 km_X5_reaches kl_X5_94 is_X5 rfl rfl (c_X5_reaches l V (by omega) (hG.2.2.2.1 i hi)) rfl rfl (Nat.le_of_ble_eq_true rfl) (by decide)) ?_
    exact hR _ _ _ _ _ dX5_told_41 ⟨(by simp [sp_tra, *]), rfl⟩ wj_rfl
  refine wj_swc C (8) (41) 42 dX5_told_1 (by decide) (by decide) (by decide) (by decide) (fun h1_8 => ?_) (fun h1_8 => ?_)
  · refine wj_aload_n C 0 dX5_told_42 rfl rfl ?_
    refine wj_iload_n C 1 dX5_told_43 rfl rfl ?_
    refine wj_cif C (wj_rV C dX5_told_44 km_X5_covers kl_X5_100 is_X5 rfl rfl (c_X5_covers l V (by omega) (hG.2.2.2.1 i hi)) rfl rfl (Nat.le_of_ble_eq_true rfl) (by decide)) ?_
    exact hR _ _ _ _ _ dX5_told_47 ⟨(by simp [sp_tra, *]), rfl⟩ wj_rfl
  refine wj_swc C (9) (47) 48 dX5_told_1 (by decide) (by decide) (by decide) (by decide) (fun h1_9 => ?_) (fun h1_9 => ?_)
  · refine wj_aload_n C 0 dX5_told_48 rfl rfl ?_
    refine wj_iload_n C 1 dX5_told_49 rfl rfl ?_
    refine wj_cif C (wj_rV C dX5_told_50 km_X5_strongIs kl_X5_107 is_X5 rfl rfl (c_X5_strongIs l V (by omega) (hG.2.2.2.1 i hi)) rfl rfl (Nat.le_of_ble_eq_true rfl) (by decide)) ?_
    exact hR _ _ _ _ _ dX5_told_53 ⟨(by simp [sp_tra, *]), rfl⟩ wj_rfl
  refine wj_swc C (10) (53) 54 dX5_told_1 (by decide) (by decide) (by decide) (by decide) (fun h1_10 => ?_) (fun h1_10 => ?_)
  · refine wj_aload_n C 0 dX5_told_54 rfl rfl ?_
    refine wj_iload_n C 1 dX5_told_55 rfl rfl ?_
    refine wj_cif C (wj_rV C dX5_told_56 km_X5_grows kl_X5_140 is_X5 rfl rfl (c_X5_grows l V (by omega) (hG.2.2.2.1 i hi)) rfl rfl (Nat.le_of_ble_eq_true rfl) (by decide)) ?_
    exact hR _ _ _ _ _ dX5_told_59 ⟨(by simp [sp_tra, *]), rfl⟩ wj_rfl
  refine wj_swc C (11) (59) 60 dX5_told_1 (by decide) (by decide) (by decide) (by decide) (fun h1_11 => ?_) (fun h1_11 => ?_)
  · refine wj_aload_n C 0 dX5_told_60 rfl rfl ?_
    refine wj_iload_n C 1 dX5_told_61 rfl rfl ?_
    refine wj_cif C (wj_rV C dX5_told_62 km_X5_fills kl_X5_143 is_X5 rfl rfl (c_X5_fills l V (by omega) (hG.2.2.2.1 i hi)) rfl rfl (Nat.le_of_ble_eq_true rfl) (by decide)) ?_
    exact hR _ _ _ _ _ dX5_told_65 ⟨(by simp [sp_tra, *]), rfl⟩ wj_rfl
  refine wj_tabOut C 66 dX5_told_1 (by have q0 := lv_neT h1_7 (a := 7) (by decide); have q1 := lv_neT h1_8 (a := 8) (by decide); have q2 := lv_neT h1_9 (a := 9) (by decide); have q3 := lv_neT h1_10 (a := 10) (by decide); have q4 := lv_neT h1_11 (a := 11) (by decide); omega) (by decide) ?_
  refine wj_aload_n C 0 dX5_told_66 rfl rfl ?_
  refine wj_iload_n C 1 dX5_told_67 rfl rfl ?_
  refine wj_iload_n C 2 dX5_told_68 rfl rfl ?_
  refine wj_cif C (wj_rV C dX5_told_69 km_X5_slipIs kl_X5_82 is_X5 rfl rfl (c_X5_slipIs (f := w) l V (by omega) (by have g7 : w ≠ 7 := fun e => h1_7 (by rw [e]; rfl); have g8 : w ≠ 8 := fun e => h1_8 (by rw [e]; rfl); have g9 : w ≠ 9 := fun e => h1_9 (by rw [e]; rfl); have g10 : w ≠ 10 := fun e => h1_10 (by rw [e]; rfl); have g11 : w ≠ 11 := fun e => h1_11 (by rw [e]; rfl); omega)) rfl rfl (Nat.le_of_ble_eq_true rfl) (by decide)) ?_
  exact hR _ _ _ _ _ dX5_told_72 ⟨(sp_tra_f _ _ w (by have g7 : w ≠ 7 := fun e => h1_7 (by rw [e]; rfl); have g8 : w ≠ 8 := fun e => h1_8 (by rw [e]; rfl); have g9 : w ≠ 9 := fun e => h1_9 (by rw [e]; rfl); have g10 : w ≠ 10 := fun e => h1_10 (by rw [e]; rfl); have g11 : w ≠ 11 := fun e => h1_11 (by rw [e]; rfl); omega)).symm, rfl⟩ wj_rfl
set_option maxRecDepth 100000 in
set_option maxHeartbeats 4000000 in
theorem c_X5_copyRow (l : Launch) (V : wj_V) {σ : wj_St} {a b : Nat} (ha : 49 ≤ a ∧ a < 52) (hb : 49 ≤ b ∧ b < 52) (hne : a ≠ b) : wj_M l V yX5_copyRow cX5_copyRow 3 none 0 0 [.ref (V.2.2.1 a), .ref (V.2.2.1 b)] σ (wj_Vd V (wj_r σ b (σ a))) := by
  refine wj_ofV (own := RX5) [some (.ref (V.2.2.1 a)), some (.ref (V.2.2.1 b)), none] (by decide) rfl rfl (Nat.le_of_ble_eq_true rfl) (fun X C hR => ?_)
  have lp : ∀ n i, i ≤ 77 → 77 - i < n → wj_J l V X 2 [some (.ref (V.2.2.1 a)), some (.ref (V.2.2.1 b)), some (.int (nI i))] [] (wj_r σ b (sp_cr (σ b) (σ a) i)) := by
    intro n
    induction n with
    | zero => intro i _ h; omega
    | succ n ih =>
      intro i hi hm
      refine wj_iload_n C 2 dX5_copyRow_2 rfl rfl ?_
      refine wj_bipush (v := 77) C dX5_copyRow_3 (by decide) ?_
      refine wj_icmp_ge C 20 dX5_copyRow_5 (by decide) (fun h5 => ?_) (fun h5 => ?_)
      · have e9 := wj_ge (N := 77) (by omega) hi h5
        subst e9
        exact hR _ _ _ _ dX5_copyRow_20 rfl (wj_r_c (fun j hj => by rw [sl_rows hb] at hj; simp [sp_cr, hj]))
      · have hlt := wj_nge (N := 77) (by omega) hi h5
        refine wj_aload_n C 1 dX5_copyRow_8 rfl rfl ?_
        refine wj_iload_n C 2 dX5_copyRow_9 rfl rfl ?_
        refine wj_aload_n C 0 dX5_copyRow_10 rfl rfl ?_
        refine wj_iload_n C 2 dX5_copyRow_11 rfl rfl ?_
        refine wj_ialdN C dX5_copyRow_12 (ar_rows ha) ⟨hlt, by decide⟩ ?_
        rw [wj_r_ne hne]
        refine wj_iastN C dX5_copyRow_13 (ar_rows hb) ⟨hlt, by decide⟩ ?_
        rw [wj_uu, sp_cr_s]
        refine wj_iinc C (v := nI (i + 1)) dX5_copyRow_14 rfl (wj_i1 i) (by decide) rfl ?_
        dsimp only [List.set]
        refine wj_goto C 2 dX5_copyRow_17 (by decide) ?_
        exact ih (i + 1) (by omega) (by omega)
  refine wj_iconst (v := 0) C dX5_copyRow_0 (by decide) ?_
  refine wj_istore_n C 2 dX5_copyRow_1 rfl (by decide) rfl ?_
  dsimp only [List.set]
  exact (by have hh := lp 78 0 (by omega) (by omega); rw [show sp_cr (σ b) (σ a) 0 = σ b by funext j; simp [sp_cr], wj_r_id] at hh; exact hh)
set_option maxRecDepth 100000 in
set_option maxHeartbeats 4000000 in
theorem c_X5_putBack (l : Launch) (V : wj_V) {σ : wj_St} {A B : sp_L} {x : Int32} : wj_M l V yX5_putBack cX5_putBack 2 (some .int) 1 22 [.ref (V.2.2.1 48), .int x] (sp_mq (sp_as σ A) B) (wj_I V x (sp_mq (sp_as σ A) A)) := by
  refine wj_ofI (own := RX5) [some (.ref (V.2.2.1 48)), some (.int x)] (by decide) rfl rfl (Nat.le_of_ble_eq_true rfl) (fun X C hR => ?_)
  refine wj_aload_n C 0 dX5_putBack_0 rfl rfl ?_
  refine wg_X5_16 C dX5_putBack_1 ?_
  refine wj_aload_n C 0 dX5_putBack_4 rfl rfl ?_
  refine wg_X5_9 C dX5_putBack_5 ?_
  refine wj_cvf C (wj_rS C dX5_putBack_8 km_X5_copyRow kl_X5_61 (c_X5_copyRow l V (by decide) (by decide) (by decide)) rfl rfl (Nat.le_of_ble_eq_true rfl) (by decide)) ?_
  rw [sp_as_2]
  refine wj_iload_n C 1 dX5_putBack_11 rfl rfl ?_
  exact hR _ _ _ _ _ dX5_putBack_12 ⟨rfl, rfl⟩ wj_rfl

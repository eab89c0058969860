/-! how many gaps; the first value with the fewest; the first with the most -/
def sp_gn (A : sp_L) : Nat := sp_pc (sp_gap A).toNatClampNeg
theorem sp_gn_of {A : sp_L} {k : Nat} (h : sp_gap A = nI k) (hk : k < 65536) : sp_pc k = sp_gn A := by rw [sp_gn, h, nI_clamp (by omega)]
theorem sp_gn_le (A : sp_L) : sp_gn A ≤ 16 := sp_pc_le _
theorem re_gn {A B : sp_L} (h : sp_re A B) : sp_gn A = sp_gn B := by rw [sp_gn, sp_gn, re_gap h]
def sp_am (g : Nat → Nat) : Nat → Nat × Nat
  | 0 => (0, 17)
  | v + 1 => if g v < (sp_am g v).2 then (v, g v) else sp_am g v
theorem sp_am_le (g : Nat → Nat) : ∀ v, (sp_am g v).2 ≤ 17
  | 0 => Nat.le_refl _
  | v + 1 => by
    rw [sp_am]
    have := sp_am_le g v
    split
    · show g v ≤ 17; omega
    · exact this
theorem sp_am_lt (g : Nat → Nat) : ∀ v, (sp_am g v).1 ≤ v
  | 0 => Nat.le_refl _
  | v + 1 => by
    rw [sp_am]
    have := sp_am_lt g v
    split
    · show v ≤ v + 1; omega
    · omega
def sp_ax (g : Nat → Int32) : Nat → Nat × Int32
  | 0 => (0, -1)
  | v + 1 => if (sp_ax g v).2 < g v then (v, g v) else sp_ax g v
def sp_fg (A : sp_L) (i f n v : Nat) : Nat := sp_gn (sp_yrs (sp_us A i f (nI v)) n)
def a_few (A : sp_L) (x : Int32) (f M : Nat) (n : Int32) : Sum Nat Int32 := if (0 ≤ x ∧ x ≤ A.2.1 - 1) ∧ 0 ≤ n ∧ n ≤ 60 then .inr (nI (sp_am (sp_fg A x.toNatClampNeg f n.toNatClampNeg) (M + 1)).1) else .inl 0
def sp_kg (A : sp_L) (i n v : Nat) : Int32 := sp_stg (sp_yrs (sp_us A i 0 (nI v)) n) (sp_sl A i 1)
def a_kindFor (A : sp_L) (x n : Int32) : Sum Nat Int32 := if (0 ≤ x ∧ x ≤ A.2.1 - 1) ∧ 0 ≤ n ∧ n ≤ 60 then .inr (nI (sp_ax (sp_kg A x.toNatClampNeg n.toNatClampNeg) 7).1) else .inl 0
def sp_wb (A : sp_L) (i : Nat) (w : Int32) : sp_L := sp_wL A (upd A.2.2.2.2.1 i (sp_ls A i / 100 * 100 + w))
def sp_wq (A : sp_L) (i n t : Nat) : Bool := decide ((sp_yrs (sp_wb A i (nI (99 - t))) n).2.2.2.1 = A.2.2.2.1)
def a_wf (p : Nat → Bool) : Sum Nat Int32 := if fa_first p 100 < 100 then .inr (nI (99 - fa_first p 100)) else .inl 3
def a_weightFor (A : sp_L) (i n : Int32) : Sum Nat Int32 := if (0 ≤ i ∧ i ≤ 5) ∧ 0 ≤ n ∧ n ≤ 60 then a_wf (sp_wq A i.toNatClampNeg n.toNatClampNeg) else .inl 0
def sp_lo2 (A : sp_L) (n s : Nat) : Bool := decide (sp_gap (sp_yrs (sp_layN A (nI s) (sp_N A)) n) = 0)
def sp_lb (ok : Nat → Bool) : Nat → Option Nat × Nat
  | 0 => (none, 9)
  | s + 1 => if sp_pc s < (sp_lb ok s).2 ∧ ok s = true then (some s, sp_pc s) else sp_lb ok s
def sp_ob : Option Nat → Int32
  | none => -1
  | some b => nI b
def a_lb : Option Nat → Sum Nat Int32
  | none => .inl 3
  | some b => .inr (nI b)
def a_layAll (A : sp_L) (n : Int32) : Sum Nat Int32 := if 0 ≤ n ∧ n ≤ 40 then a_lb (sp_lb (sp_lo2 A n.toNatClampNeg) (2 ^ sp_N A)).1 else .inl 0
def a_hurdlesFor (A : sp_L) (n : Int32) : Sum Nat Int32 := if 0 ≤ n ∧ n ≤ 60 then .inr (nI (sp_gn (sp_yxs true (sp_wH A 0) n.toNatClampNeg))) else .inl 0
theorem sp_us_c (A : sp_L) (i f : Nat) (x : Int32) : (sp_us A i f x).2.1 = A.2.1 := rfl
/-! where a slip stands stays -/
theorem sp_yr_1 (A : sp_L) (i : Nat) : sp_sl (sp_yr A) i 1 = sp_sl A i 1 := by
  have hl : sp_sl (sp_yr A) i 1 = sp_sl (sp_lean A) i 1 := by
    show (if i < sp_N A then sp_grw (sp_sl (sp_lean A) i) else sp_sl (sp_lean A) i) 1 = _
    split
    · unfold sp_grw
      rw [pk_un (by decide), pk_un (by decide)]
    · rfl
  rw [hl]
  unfold sp_lean
  split
  · show (if i < sp_N A ∧ _ then sp_giv (sp_sl A i) else sp_sl A i) 1 = _
    split
    · unfold sp_giv
      rw [pk_un (by decide), pk_un (by decide), pk_un (by decide)]
    · rfl
  · rfl
theorem sp_yrs_1 (A : sp_L) (i : Nat) : ∀ m, sp_sl (sp_yrs A m) i 1 = sp_sl A i 1
  | 0 => rfl
  | m + 1 => by rw [sp_yrs, sp_yr_1, sp_yrs_1 A i m]
set_option maxRecDepth 100000 in
set_option maxHeartbeats 4000000 in
theorem c_X4_fewestGaps (l : Launch) (V : wj_V) {σ : wj_St} {A T : sp_L} {N y : Nat} {x nn : Int32} {f M : Nat} (hG : sp_G A N y) (hy : y < 90000) (hf : f < 7) (hM : sp_mst (nI f) = nI M) (hM2 : M < 20) : wj_M l V yX4_fewestGaps cX4_fewestGaps 8 (some .int) 5 111 [.ref (V.2.2.1 0), .int x, .int (nI f), .int nn] (sp_put (sp_put σ 1 A) 2 T) (wj_QI V (fun r u => r = sp_v (a_few A x f M nn) ∧ ∃ T2, u = sp_put (sp_put (sp_tw σ (a_few A x f M nn)) 1 A) 2 T2)) := by
  refine wj_ofI (own := RX4) [some (.ref (V.2.2.1 0)), some (.int x), some (.int (nI f)), some (.int nn), none, none, none, none] (by decide) rfl rfl (Nat.le_of_ble_eq_true rfl) (fun X C hR => ?_)
  have lp : ∀ i m, x = nI i → nn = nI m → i < N → m ≤ 60 → a_few A x f M nn = .inr (nI (sp_am (sp_fg A i f m) (M + 1)).1) → ∀ n v T2 j, v ≤ M + 1 → M + 1 - v < n → wj_J l V X 38 [some (.ref (V.2.2.1 0)), some (.int (nI i)), some (.int (nI f)), some (.int (nI m)), some (.int (nI (sp_am (sp_fg A i f m) v).1)), some (.int (nI (sp_am (sp_fg A i f m) v).2)), some (.int (nI v)), j] [] (sp_put (sp_put σ 1 A) 2 T2) := by
    intro i m hx hn2 hi hm ha n
    subst hx
    subst hn2
    have hN8 := hG.2.1
    induction n with
    | zero => intro v T2 j _ h; omega
    | succ n ih =>
      intro v T2 j hv hlt9
      refine wj_iload C dX4_fewestGaps_38 rfl ?_
      refine wj_iload_n C 2 dX4_fewestGaps_40 rfl rfl ?_
      refine wj_cif C (wj_rS C dX4_fewestGaps_41 km_X2_most kl_X4_273 (c_X2_most l V) rfl rfl (Nat.le_of_ble_eq_true rfl) (by decide)) ?_
      rw [hM]
      refine wj_icmp_gt C 97 dX4_fewestGaps_44 (by decide) (fun h44 => ?_) (fun h44 => ?_)
      · have e9 : v = M + 1 := by have := (nI_ltI (a := M) (b := v) (by omega) (by omega)).mp h44; omega
        subst e9
        refine wj_iload C dX4_fewestGaps_97 rfl ?_
        exact hR _ _ _ _ _ dX4_fewestGaps_99 (sp_rv ha) wj_rfl
      · have hlt : v < M + 1 := by
          rcases Nat.lt_or_ge v (M + 1) with q | q
          · exact q
          · exact absurd (nI_lt (a := M) (b := v) (by omega) (by omega)) h44
        refine wj_aload_n C 0 dX4_fewestGaps_47 rfl rfl ?_
        refine wj_iload_n C 1 dX4_fewestGaps_48 rfl rfl ?_
        refine wj_iload_n C 2 dX4_fewestGaps_49 rfl rfl ?_
        refine wj_iload C dX4_fewestGaps_50 rfl ?_
        refine wj_crf C (wj_rV C dX4_fewestGaps_52 km_X4_trySlip kl_X4_178 is_X4 rfl rfl (c_X4_trySlip (T := T2) l V hG hy hi hf) rfl rfl (Nat.le_of_ble_eq_true rfl) (by decide)) ?_
        refine wj_pop C dX4_fewestGaps_55 rfl ?_
        refine wj_aload_n C 0 dX4_fewestGaps_56 rfl rfl ?_
        refine wg_X4_16 C dX4_fewestGaps_57 ?_
        refine wj_iload_n C 3 dX4_fewestGaps_60 rfl rfl ?_
        refine wj_cvf C (wj_rV C dX4_fewestGaps_61 km_X0_passYears kl_X4_140 (is_X0 (by first | assumption | omega)) rfl rfl (c_X0_passYears l V (by decide) (A := (sp_us (sp_bec T2 A) i f (nI v))) hG.1 hG.2.1 hG.2.2.1 (by omega)) rfl rfl (Nat.le_of_ble_eq_true rfl) (by decide)) ?_
        refine wj_aload_n C 0 dX4_fewestGaps_64 rfl rfl ?_
        refine wg_X4_16 C dX4_fewestGaps_65 ?_
        refine wj_cif C (wj_rV C dX4_fewestGaps_68 km_X0_gapSet kl_X4_144 (is_X0 (by first | assumption | omega)) rfl rfl (c_X0_gapSet l V (by decide) ((sp_yrs_c (sp_us (sp_bec T2 A) i f (nI v)) m).trans hG.1) hG.2.1) rfl rfl (Nat.le_of_ble_eq_true rfl) (by decide)) ?_
        obtain ⟨k, hk, ek⟩ := sp_gap_n (sp_yrs (sp_us A i f (nI v)) m)
        rw [re_gap (re_yrs (re_us (re_bec T2 A) i f (nI v)) hG.2.2.1 m (by omega)), ek]
        refine wj_cif C (wj_rS C dX4_fewestGaps_71 km_J6_bitCount_0f7a4 kl_X4_187 (c_J6_bitCount_0f7a4 l V hk) rfl rfl (Nat.le_of_ble_eq_true rfl) (by decide)) ?_
        rw [show sp_pc k = sp_fg A i f m v from sp_gn_of ek hk]
        have hg16 : sp_fg A i f m v ≤ 16 := sp_gn_le _
        have hf17 := sp_am_le (sp_fg A i f m) v
        refine wj_istore C dX4_fewestGaps_74 (by decide) rfl ?_
        dsimp only [List.set]
        refine wj_iload C dX4_fewestGaps_76 rfl ?_
        refine wj_iload C dX4_fewestGaps_78 rfl ?_
        refine wj_icmp_ge C 91 dX4_fewestGaps_80 (by decide) (fun h80 => ?_) (fun h80 => ?_)
        · have e8 : sp_am (sp_fg A i f m) (v + 1) = sp_am (sp_fg A i f m) v := by rw [sp_am, if_neg (by have := (nI_leI (by omega) (by omega)).mp h80; omega)]
          refine wj_iinc C (v := nI (v + 1)) dX4_fewestGaps_91 rfl (wj_i1 v) (by decide) rfl ?_
          dsimp only [List.set]
          refine wj_goto C 38 dX4_fewestGaps_94 (by decide) ?_
          exact (by have hh := fun T3 j3 => ih (v + 1) T3 j3 (by omega) (by omega); rw [e8] at hh; exact hh _ _)
        · have e8 : sp_am (sp_fg A i f m) (v + 1) = (v, sp_fg A i f m v) := by
            rw [sp_am, if_pos]
            rcases Nat.lt_or_ge (sp_fg A i f m v) (sp_am (sp_fg A i f m) v).2 with q | q
            · exact q
            · exact absurd ((nI_leI (by omega) (by omega)).mpr q) h80
          refine wj_iload C dX4_fewestGaps_83 rfl ?_
          refine wj_istore C dX4_fewestGaps_85 (by decide) rfl ?_
          dsimp only [List.set]
          refine wj_iload C dX4_fewestGaps_87 rfl ?_
          refine wj_istore C dX4_fewestGaps_89 (by decide) rfl ?_
          dsimp only [List.set]
          refine wj_iinc C (v := nI (v + 1)) dX4_fewestGaps_91 rfl (wj_i1 v) (by decide) rfl ?_
          dsimp only [List.set]
          refine wj_goto C 38 dX4_fewestGaps_94 (by decide) ?_
          exact (by have hh := fun T3 j3 => ih (v + 1) T3 j3 (by omega) (by omega); rw [e8] at hh; exact hh _ _)
  refine wj_aload_n C 0 dX4_fewestGaps_0 rfl rfl ?_
  refine wg_X4_12 C dX4_fewestGaps_1 ?_
  refine wj_iload_n C 1 dX4_fewestGaps_4 rfl rfl ?_
  rw [sp_sw]
  refine wj_crn C (wj_rV C dX4_fewestGaps_5 km_X0_slipAt kl_X4_115 (is_X0 (by first | assumption | omega)) rfl rfl (c_X0_slipAt_g l V (by decide) hG.1 hG.2.1) rfl rfl (Nat.le_of_ble_eq_true rfl) (by decide)) (fun hn5 => ?_) (fun a5 ha5 => ?_)
  · rw [← sp_sw]
    refine wj_ifnullN C 21 dX4_fewestGaps_8 (by decide) ?_
    refine wj_aload_n C 0 dX4_fewestGaps_21 rfl rfl ?_
    refine wj_ldc C dX4_fewestGaps_22 kc_X4_68 ?_
    refine wj_cif C (wj_rV C dX4_fewestGaps_24 km_X4_tell kl_X4_69 is_X4 rfl rfl (c_X4_tell (w := 0) l V (by decide) (by decide)) rfl rfl (Nat.le_of_ble_eq_true rfl) (by decide)) ?_
    exact hR _ _ _ _ _ dX4_fewestGaps_27 (sp_rf (by rw [a_few, hG.1, if_neg (fun q => by first | exact sp_sa_n hn5 q.1 | exact wj_c0 h18 q.2)]) (by decide)) wj_rfl
  · rw [← sp_sw]
    obtain ⟨i, hi, hxi, rfl⟩ := sp_sa_s hG.2.1 ha5
    have hN8 := hG.2.1
    refine wj_ifnull C dX4_fewestGaps_8 ?_
    refine wj_iload_n C 3 dX4_fewestGaps_11 rfl rfl ?_
    refine wj_iconst (v := 0) C dX4_fewestGaps_12 (by decide) ?_
    refine wj_bipush (v := 60) C dX4_fewestGaps_13 (by decide) ?_
    refine wj_cif C (wj_rS C dX4_fewestGaps_15 km_X4_isIn kl_X4_64 (c_X4_isIn l V) rfl rfl (Nat.le_of_ble_eq_true rfl) (by decide)) ?_
    refine wj_if_ne C 28 dX4_fewestGaps_18 (by decide) (fun h18 => ?_) (fun h18 => ?_)
    · obtain ⟨m, hm, rfl⟩ := wj_natC (N := 60) (wj_c1 h18)
      have ha : a_few A x f M (nI m) = .inr (nI (sp_am (sp_fg A i f m) (M + 1)).1) := by rw [hxi, a_few, hG.1, if_pos ⟨wj_rngI hi hG.2.1, wj_c1 h18⟩, nI_clamp (by omega), nI_clamp (by omega)]
      subst hxi
      refine wj_iconst (v := 0) C dX4_fewestGaps_28 (by decide) ?_
      refine wj_istore C dX4_fewestGaps_29 (by decide) rfl ?_
      dsimp only [List.set]
      refine wj_bipush (v := 17) C dX4_fewestGaps_31 (by decide) ?_
      refine wj_istore C dX4_fewestGaps_33 (by decide) rfl ?_
      dsimp only [List.set]
      refine wj_iconst (v := 0) C dX4_fewestGaps_35 (by decide) ?_
      refine wj_istore C dX4_fewestGaps_36 (by decide) rfl ?_
      dsimp only [List.set]
      exact lp i m rfl rfl hi hm ha (M + 2) 0 _ _ (by omega) (by omega)
    · 
      refine wj_aload_n C 0 dX4_fewestGaps_21 rfl rfl ?_
      refine wj_ldc C dX4_fewestGaps_22 kc_X4_68 ?_
      refine wj_cif C (wj_rV C dX4_fewestGaps_24 km_X4_tell kl_X4_69 is_X4 rfl rfl (c_X4_tell (w := 0) l V (by decide) (by decide)) rfl rfl (Nat.le_of_ble_eq_true rfl) (by decide)) ?_
      exact hR _ _ _ _ _ dX4_fewestGaps_27 (sp_rf (by rw [a_few, hG.1, if_neg (fun q => by first | exact sp_sa_n hn5 q.1 | exact wj_c0 h18 q.2)]) (by decide)) wj_rfl
set_option maxRecDepth 100000 in
set_option maxHeartbeats 4000000 in
theorem c_X4_lay (l : Launch) (V : wj_V) {σ : wj_St} {A T : sp_L} {N y : Nat} {x n : Int32} (hG : sp_G A N y) (hy : y < 90000) : wj_M l V yX4_lay cX4_lay 3 (some .int) 6 138 [.ref (V.2.2.1 0), .int x, .int n] (sp_put (sp_put σ 1 A) 2 T) (wj_QI V (fun r u => r = sp_v (a_few A x 4 2 n) ∧ ∃ T2, u = sp_put (sp_put (sp_tw σ (a_few A x 4 2 n)) 1 A) 2 T2)) := by
  refine wj_ofI (own := RX4) [some (.ref (V.2.2.1 0)), some (.int x), some (.int n)] (by decide) rfl rfl (Nat.le_of_ble_eq_true rfl) (fun X C hR => ?_)
  refine wj_aload_n C 0 dX4_lay_0 rfl rfl ?_
  refine wj_iload_n C 1 dX4_lay_1 rfl rfl ?_
  refine wj_iconst (v := 4) C dX4_lay_2 (by decide) ?_
  refine wj_iload_n C 2 dX4_lay_3 rfl rfl ?_
  refine wj_ci C (wj_rV C dX4_lay_4 km_X4_fewestGaps kl_X4_174 is_X4 rfl rfl (c_X4_fewestGaps (f := 4) (M := 2) l V hG hy (by decide) (by decide) (by decide)) rfl rfl (Nat.le_of_ble_eq_true rfl) (by decide)) (fun r u hru => ?_)
  exact hR _ _ _ _ _ dX4_lay_7 hru wj_rfl
set_option maxRecDepth 100000 in
set_option maxHeartbeats 4000000 in
theorem c_X4_plant (l : Launch) (V : wj_V) {σ : wj_St} {A T : sp_L} {N y : Nat} {x n : Int32} (hG : sp_G A N y) (hy : y < 90000) : wj_M l V yX4_plant cX4_plant 3 (some .int) 6 138 [.ref (V.2.2.1 0), .int x, .int n] (sp_put (sp_put σ 1 A) 2 T) (wj_QI V (fun r u => r = sp_v (a_few A x 1 15 n) ∧ ∃ T2, u = sp_put (sp_put (sp_tw σ (a_few A x 1 15 n)) 1 A) 2 T2)) := by
  refine wj_ofI (own := RX4) [some (.ref (V.2.2.1 0)), some (.int x), some (.int n)] (by decide) rfl rfl (Nat.le_of_ble_eq_true rfl) (fun X C hR => ?_)
  refine wj_aload_n C 0 dX4_plant_0 rfl rfl ?_
  refine wj_iload_n C 1 dX4_plant_1 rfl rfl ?_
  refine wj_iconst (v := 1) C dX4_plant_2 (by decide) ?_
  refine wj_iload_n C 2 dX4_plant_3 rfl rfl ?_
  refine wj_ci C (wj_rV C dX4_plant_4 km_X4_fewestGaps kl_X4_174 is_X4 rfl rfl (c_X4_fewestGaps (f := 1) (M := 15) l V hG hy (by decide) (by decide) (by decide)) rfl rfl (Nat.le_of_ble_eq_true rfl) (by decide)) (fun r u hru => ?_)
  exact hR _ _ _ _ _ dX4_plant_7 hru wj_rfl
set_option maxRecDepth 100000 in
set_option maxHeartbeats 4000000 in
theorem c_X4_kindFor (l : Launch) (V : wj_V) {σ : wj_St} {A T : sp_L} {N y : Nat} {x nn : Int32} (hG : sp_G A N y) (hy : y < 90000) : wj_M l V yX4_kindFor cX4_kindFor 8 (some .int) 5 111 [.ref (V.2.2.1 0), .int x, .int nn] (sp_put (sp_put σ 1 A) 2 T) (wj_QI V (fun r u => r = sp_v (a_kindFor A x nn) ∧ ∃ T2, u = sp_put (sp_put (sp_tw σ (a_kindFor A x nn)) 1 A) 2 T2)) := by
  refine wj_ofI (own := RX4) [some (.ref (V.2.2.1 0)), some (.int x), some (.int nn), none, none, none, none, none] (by decide) rfl rfl (Nat.le_of_ble_eq_true rfl) (fun X C hR => ?_)
  have lp : ∀ i m, x = nI i → nn = nI m → i < N → m ≤ 60 → a_kindFor A x nn = .inr (nI (sp_ax (sp_kg A i m) 7).1) → ∀ n v T2 j j2, v ≤ 7 → 7 - v < n → wj_J l V X 36 [some (.ref (V.2.2.1 0)), some (.int (nI i)), some (.int (nI m)), some (.int (nI (sp_ax (sp_kg A i m) v).1)), some (.int (sp_ax (sp_kg A i m) v).2), some (.int (nI v)), j, j2] [] (sp_put (sp_put σ 1 A) 2 T2) := by
    intro i m hx hn2 hi hm ha n
    subst hx
    subst hn2
    have hN8 := hG.2.1
    induction n with
    | zero => intro v T2 j j2 _ h; omega
    | succ n ih =>
      intro v T2 j j2 hv hlt9
      refine wj_iload C dX4_kindFor_36 rfl ?_
      refine wj_bipush (v := 6) C dX4_kindFor_38 (by decide) ?_
      refine wj_icmp_gt C 103 dX4_kindFor_40 (by decide) (fun h40 => ?_) (fun h40 => ?_)
      · have e9 : v = 7 := by have := (nI_ltI (a := 6) (b := v) (by decide) (by omega)).mp h40; omega
        subst e9
        refine wj_iload_n C 3 dX4_kindFor_103 rfl rfl ?_
        exact hR _ _ _ _ _ dX4_kindFor_104 (sp_rv ha) wj_rfl
      · have hlt : v < 7 := by
          rcases Nat.lt_or_ge v 7 with q | q
          · exact q
          · exact absurd (nI_lt (a := 6) (b := v) (by omega) (by omega)) h40
        refine wj_aload_n C 0 dX4_kindFor_43 rfl rfl ?_
        refine wj_iload_n C 1 dX4_kindFor_44 rfl rfl ?_
        refine wj_iconst (v := 0) C dX4_kindFor_45 (by decide) ?_
        refine wj_iload C dX4_kindFor_46 rfl ?_
        refine wj_crf C (wj_rV C dX4_kindFor_48 km_X4_trySlip kl_X4_178 is_X4 rfl rfl (c_X4_trySlip (T := T2) (f := 0) l V hG hy hi (by decide)) rfl rfl (Nat.le_of_ble_eq_true rfl) (by decide)) ?_
        refine wj_astore C dX4_kindFor_51 (by decide) rfl ?_
        dsimp only [List.set]
        refine wj_aload C dX4_kindFor_53 rfl ?_
        refine wj_ifnonnull C 61 dX4_kindFor_55 (by decide) ?_
        refine wj_aload_n C 0 dX4_kindFor_61 rfl rfl ?_
        refine wg_X4_16 C dX4_kindFor_62 ?_
        refine wj_iload_n C 2 dX4_kindFor_65 rfl rfl ?_
        refine wj_cvf C (wj_rV C dX4_kindFor_66 km_X0_passYears kl_X4_140 (is_X0 (by first | assumption | omega)) rfl rfl (c_X0_passYears l V (by decide) (A := (sp_us (sp_bec T2 A) i 0 (nI v))) hG.1 hG.2.1 hG.2.2.1 (by omega)) rfl rfl (Nat.le_of_ble_eq_true rfl) (by decide)) ?_
        refine wj_aload_n C 0 dX4_kindFor_69 rfl rfl ?_
        refine wg_X4_16 C dX4_kindFor_70 ?_
        refine wj_aload C dX4_kindFor_73 rfl ?_
        refine wg_X4_181 C dX4_kindFor_75 (by first | assumption | omega) ?_
        rw [sp_put_s (by decide) (by omega), sp_yrs_1, sp_us_same, pk_un (by decide), re_s (re_bec T2 A) (by rw [sp_N_of (A := sp_bec T2 A) hG.1 hG.2.1]; exact hi) 1 (by decide)]
        refine wj_cif C (wj_rV C dX4_kindFor_78 km_X0_strengthOf kl_X4_80 (is_X0 (by first | assumption | omega)) rfl rfl (c_X0_strengthOf l V (by decide) ((sp_yrs_c (sp_us (sp_bec T2 A) i 0 (nI v)) m).trans hG.1) hG.2.1) rfl rfl (Nat.le_of_ble_eq_true rfl) (by decide)) ?_
        rw [re_stg (re_yrs (re_us (re_bec T2 A) i 0 (nI v)) hG.2.2.1 m (by omega)), show sp_stg (sp_yrs (sp_us A i 0 (nI v)) m) (sp_sl A i 1) = sp_kg A i m v from rfl]
        refine wj_istore C dX4_kindFor_81 (by decide) rfl ?_
        dsimp only [List.set]
        refine wj_iload C dX4_kindFor_83 rfl ?_
        refine wj_iload C dX4_kindFor_85 rfl ?_
        refine wj_icmp_le C 97 dX4_kindFor_87 (by decide) (fun h87 => ?_) (fun h87 => ?_)
        · have e8 : sp_ax (sp_kg A i m) (v + 1) = sp_ax (sp_kg A i m) v := by rw [sp_ax, if_neg (Int32.not_lt.mpr h87)]
          refine wj_iinc C (v := nI (v + 1)) dX4_kindFor_97 rfl (wj_i1 v) (by decide) rfl ?_
          dsimp only [List.set]
          refine wj_goto C 36 dX4_kindFor_100 (by decide) ?_
          exact (by have hh := fun T3 j3 j4 => ih (v + 1) T3 j3 j4 (by omega) (by omega); rw [e8] at hh; exact hh _ _ _)
        · have e8 : sp_ax (sp_kg A i m) (v + 1) = (v, sp_kg A i m v) := by rw [sp_ax, if_pos (Int32.not_le.mp h87)]
          refine wj_iload C dX4_kindFor_90 rfl ?_
          refine wj_istore C dX4_kindFor_92 (by decide) rfl ?_
          dsimp only [List.set]
          refine wj_iload C dX4_kindFor_94 rfl ?_
          refine wj_istore_n C 3 dX4_kindFor_96 rfl (by decide) rfl ?_
          dsimp only [List.set]
          refine wj_iinc C (v := nI (v + 1)) dX4_kindFor_97 rfl (wj_i1 v) (by decide) rfl ?_
          dsimp only [List.set]
          refine wj_goto C 36 dX4_kindFor_100 (by decide) ?_
          exact (by have hh := fun T3 j3 j4 => ih (v + 1) T3 j3 j4 (by omega) (by omega); rw [e8] at hh; exact hh _ _ _)
  refine wj_aload_n C 0 dX4_kindFor_0 rfl rfl ?_
  refine wg_X4_12 C dX4_kindFor_1 ?_
  refine wj_iload_n C 1 dX4_kindFor_4 rfl rfl ?_
  rw [sp_sw]
  refine wj_crn C (wj_rV C dX4_kindFor_5 km_X0_slipAt kl_X4_115 (is_X0 (by first | assumption | omega)) rfl rfl (c_X0_slipAt_g l V (by decide) hG.1 hG.2.1) rfl rfl (Nat.le_of_ble_eq_true rfl) (by decide)) (fun hn5 => ?_) (fun a5 ha5 => ?_)
  · rw [← sp_sw]
    refine wj_ifnullN C 21 dX4_kindFor_8 (by decide) ?_
    refine wj_aload_n C 0 dX4_kindFor_21 rfl rfl ?_
    refine wj_ldc C dX4_kindFor_22 kc_X4_68 ?_
    refine wj_cif C (wj_rV C dX4_kindFor_24 km_X4_tell kl_X4_69 is_X4 rfl rfl (c_X4_tell (w := 0) l V (by decide) (by decide)) rfl rfl (Nat.le_of_ble_eq_true rfl) (by decide)) ?_
    exact hR _ _ _ _ _ dX4_kindFor_27 (sp_rf (by rw [a_kindFor, hG.1, if_neg (fun q => by first | exact sp_sa_n hn5 q.1 | exact wj_c0 h18 q.2)]) (by decide)) wj_rfl
  · rw [← sp_sw]
    obtain ⟨i, hi, hxi, rfl⟩ := sp_sa_s hG.2.1 ha5
    have hN8 := hG.2.1
    refine wj_ifnull C dX4_kindFor_8 ?_
    refine wj_iload_n C 2 dX4_kindFor_11 rfl rfl ?_
    refine wj_iconst (v := 0) C dX4_kindFor_12 (by decide) ?_
    refine wj_bipush (v := 60) C dX4_kindFor_13 (by decide) ?_
    refine wj_cif C (wj_rS C dX4_kindFor_15 km_X4_isIn kl_X4_64 (c_X4_isIn l V) rfl rfl (Nat.le_of_ble_eq_true rfl) (by decide)) ?_
    refine wj_if_ne C 28 dX4_kindFor_18 (by decide) (fun h18 => ?_) (fun h18 => ?_)
    · obtain ⟨m, hm, rfl⟩ := wj_natC (N := 60) (wj_c1 h18)
      have ha : a_kindFor A x (nI m) = .inr (nI (sp_ax (sp_kg A i m) 7).1) := by rw [hxi, a_kindFor, hG.1, if_pos ⟨wj_rngI hi hG.2.1, wj_c1 h18⟩, nI_clamp (by omega), nI_clamp (by omega)]
      subst hxi
      refine wj_iconst (v := 0) C dX4_kindFor_28 (by decide) ?_
      refine wj_istore_n C 3 dX4_kindFor_29 rfl (by decide) rfl ?_
      dsimp only [List.set]
      refine wj_iconst (v := -1) C dX4_kindFor_30 (by decide) ?_
      refine wj_istore C dX4_kindFor_31 (by decide) rfl ?_
      dsimp only [List.set]
      refine wj_iconst (v := 0) C dX4_kindFor_33 (by decide) ?_
      refine wj_istore C dX4_kindFor_34 (by decide) rfl ?_
      dsimp only [List.set]
      exact lp i m rfl rfl hi hm ha 8 0 _ _ _ (by omega) (by omega)
    · refine wj_aload_n C 0 dX4_kindFor_21 rfl rfl ?_
      refine wj_ldc C dX4_kindFor_22 kc_X4_68 ?_
      refine wj_cif C (wj_rV C dX4_kindFor_24 km_X4_tell kl_X4_69 is_X4 rfl rfl (c_X4_tell (w := 0) l V (by decide) (by decide)) rfl rfl (Nat.le_of_ble_eq_true rfl) (by decide)) ?_
      exact hR _ _ _ _ _ dX4_kindFor_27 (sp_rf (by rw [a_kindFor, hG.1, if_neg (fun q => by first | exact sp_sa_n hn5 q.1 | exact wj_c0 h18 q.2)]) (by decide)) wj_rfl

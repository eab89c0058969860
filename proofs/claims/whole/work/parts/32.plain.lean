theorem sp_rv1 {σ : wj_St} {A A2 : sp_L} {a : Sum Nat Int32} {v : Int32} (h : a = .inr v) (h2 : A2 = A) : v = sp_v a ∧ sp_put σ 1 A = sp_put (sp_tw σ a) 1 A2 := by subst h; subst h2; exact ⟨rfl, rfl⟩
theorem sp_rf1 {σ : wj_St} {A A2 : sp_L} {a : Sum Nat Int32} {w : Nat} {x : Int32} (h : a = .inl w) (h2 : A2 = A) (hx : x = -1000001 - nI w) : x = sp_v a ∧ sp_tl (sp_put σ 1 A) w = sp_put (sp_tw σ a) 1 A2 := by
  subst h
  subst h2
  refine ⟨hx, ?_⟩
  show sp_tl _ w = sp_put (sp_tl σ w) 1 _
  unfold sp_tl
  rw [sp_put_u (by decide), sp_put_o (by decide)]
abbrev sp_rg (A : sp_L) (x : Int32) : Prop := 0 ≤ x ∧ x ≤ A.2.1 - 1
theorem sp_rgN {A : sp_L} {N i : Nat} (hn : A.2.1 = nI N) (hN : N ≤ 8) (hi : i < N) : sp_rg A (nI i) := by rw [sp_rg, hn]; exact wj_rngI hi hN
theorem sp_rgX {A : sp_L} {N : Nat} {V : wj_V} {k : Nat} {x : Int32} (hn : A.2.1 = nI N) (h : sp_sa V k N x = none) : ¬ sp_rg A x := by rw [sp_rg, hn]; exact sp_sa_n h
def a_hurdles (A : sp_L) (x : Int32) : Sum Nat Int32 := if 0 ≤ x ∧ x ≤ 65535 then .inr A.2.2.1 else .inl 0
def n_hurdles (A : sp_L) (x : Int32) : sp_L := if 0 ≤ x ∧ x ≤ 65535 then sp_wH A x else A
def sp_pl (A : sp_L) (p w : Int32) : Int32 := if w = 0 then sp_stg A p else if w = 1 then sp_si A p (sp_N A) else if w = 2 then sp_co A p (sp_N A) else if sp_hur (sp_gap A) p = true then 1 else 0
def a_place (A : sp_L) (p w : Int32) : Sum Nat Int32 := if (0 ≤ p ∧ p ≤ 15) ∧ 0 ≤ w ∧ w ≤ 3 then .inr (sp_pl A p w) else .inl 0
theorem sp_03 {w : Int32} (h0 : ¬ w = 0) (h1 : ¬ w = 1) (h2 : ¬ w = 2) (h3 : ¬ w = 3) : ¬ (0 ≤ w ∧ w ≤ 3) := by
  intro q
  obtain ⟨i, hi, rfl⟩ := wj_natC (N := 3) q
  rcases i with _ | _ | _ | _ | i
  · exact h0 rfl
  · exact h1 rfl
  · exact h2 rfl
  · exact h3 rfl
  · omega
def a_lean (A : sp_L) (i p w : Int32) : Sum Nat Int32 := if (0 ≤ i ∧ i ≤ 5) ∧ (0 ≤ p ∧ p ≤ 15) ∧ 0 ≤ w ∧ w ≤ 99 then .inr (sp_ls A i.toNatClampNeg) else .inl 0
def n_lean (A : sp_L) (i p w : Int32) : sp_L := if (0 ≤ i ∧ i ≤ 5) ∧ (0 ≤ p ∧ p ≤ 15) ∧ 0 ≤ w ∧ w ≤ 99 then sp_wL A (upd A.2.2.2.2.1 i.toNatClampNeg (100 * p + w)) else A
def a_leaning (A : sp_L) (i : Int32) : Sum Nat Int32 := if 0 ≤ i ∧ i ≤ 5 then .inr (sp_ls A i.toNatClampNeg) else .inl 0
abbrev sp_oks (k p w : Int32) : Prop := (0 ≤ k ∧ k ≤ 6) ∧ (0 ≤ p ∧ p ≤ 15) ∧ 1 ≤ w ∧ w ≤ 12
def a_slip (A : sp_L) (k p w : Int32) : Sum Nat Int32 := if sp_oks k p w then (if sp_N A < 8 then .inr A.2.1 else .inl 1) else .inl 0
def n_slip (A : sp_L) (k p w : Int32) : sp_L := if sp_oks k p w ∧ sp_N A < 8 then sp_add A (sp_N A) k p w else A
def a_of (A : sp_L) (x w : Int32) : Sum Nat Int32 := if sp_rg A x ∧ 0 ≤ w ∧ w ≤ 11 then .inr (sp_tra (sp_sl A x.toNatClampNeg) w A.1) else .inl 0
def a_change (A : sp_L) (x w v : Int32) : Sum Nat Int32 := if sp_rg A x ∧ sp_lst w ≤ v ∧ v ≤ sp_mst w then .inr (sp_tra (sp_sl A x.toNatClampNeg) w A.1) else .inl 0
def n_change (A : sp_L) (x w v : Int32) : sp_L := if sp_rg A x ∧ sp_lst w ≤ v ∧ v ≤ sp_mst w then sp_us A x.toNatClampNeg w.toNatClampNeg v else A
def a_cut (A : sp_L) (x v : Int32) : Sum Nat Int32 := if sp_rg A x ∧ 0 ≤ v ∧ v ≤ 199 then .inr (nI ((sp_sl A x.toNatClampNeg 2).toNatClampNeg - v.toNatClampNeg)) else .inl 0
def n_cut (A : sp_L) (x v : Int32) : sp_L := if sp_rg A x ∧ 0 ≤ v ∧ v ≤ 199 then sp_us A x.toNatClampNeg 2 (nI (min v.toNatClampNeg (sp_sl A x.toNatClampNeg 2).toNatClampNeg)) else A
def a_go (A : sp_L) (n : Int32) : Sum Nat Int32 := if 1 ≤ n ∧ n ≤ 60 then .inr (sp_gap (sp_yrs A n.toNatClampNeg)) else .inl 0
def n_go (A : sp_L) (n : Int32) : sp_L := if 1 ≤ n ∧ n ≤ 60 then sp_yrs A n.toNatClampNeg else A
def a_now (A : sp_L) (w : Int32) : Sum Nat Int32 := if w = 0 then .inr A.1 else if w = 1 then .inr (sp_gap A) else if w = 2 then .inr A.2.2.2.1 else if w = 3 then .inr A.2.2.1 else if w = 4 then .inr (sp_wk A 15) else if w = 5 then .inr (sp_sum A 3 (sp_N A)) else if w = 6 then .inr (sp_sum A 6 (sp_N A)) else if w = 7 then .inr (sp_sum A 2 (sp_N A)) else .inl 0
/-- a field that may be changed -/
theorem sp_lm {w v : Int32} (h : sp_lst w ≤ v ∧ v ≤ sp_mst w) : ∃ f, f < 7 ∧ w = nI f := by
  by_cases h0 : w = 0
  · exact ⟨0, by decide, h0⟩
  by_cases h1 : w = 1
  · exact ⟨1, by decide, h1⟩
  by_cases h2 : w = 2
  · exact ⟨2, by decide, h2⟩
  by_cases h3 : w = 3
  · exact ⟨3, by decide, h3⟩
  by_cases h4 : w = 4
  · exact ⟨4, by decide, h4⟩
  by_cases h5 : w = 5
  · exact ⟨5, by decide, h5⟩
  by_cases h6 : w = 6
  · exact ⟨6, by decide, h6⟩
  · exfalso
    rw [sp_lst, if_neg h5, sp_mst, if_neg h0, if_neg h1, if_neg h2, if_neg h3, if_neg h4, if_neg h5, if_neg h6] at h
    have := Int32.le_trans h.1 h.2
    exact absurd this (by decide)
theorem sp_nat1 {n : Int32} {M : Nat} (h : 1 ≤ n ∧ n ≤ nI M) (hM : M < 2 ^ 30 := by decide) : ∃ m, 1 ≤ m ∧ m ≤ M ∧ n = nI m := by
  have h0 : (0 : Int32) ≤ n := Int32.le_trans (by decide) h.1
  obtain ⟨m, hm, rfl⟩ := wj_natC ⟨h0, h.2⟩ hM
  exact ⟨m, (nI_leI (a := 1) (b := m) (by decide) (by omega)).mp h.1, hm, rfl⟩
set_option maxRecDepth 100000 in
set_option maxHeartbeats 4000000 in
theorem c_X4_hurdles (l : Launch) (V : wj_V) {σ : wj_St} {A : sp_L} {N y : Nat} {x : Int32} (hG : sp_G A N y) (hy : y < 90000) : wj_M l V yX4_hurdles cX4_hurdles 3 (some .int) 2 44 [.ref (V.2.2.1 0), .int x] (sp_put σ 1 A) (wj_QI V (fun r u => r = sp_v (a_hurdles A x) ∧ u = sp_put (sp_tw σ (a_hurdles A x)) 1 (n_hurdles A x))) := by
  refine wj_ofI (own := RX4) [some (.ref (V.2.2.1 0)), some (.int x), none] (by decide) rfl rfl (Nat.le_of_ble_eq_true rfl) (fun X C hR => ?_)
  refine wj_iload_n C 1 dX4_hurdles_0 rfl rfl ?_
  refine wj_iconst (v := 0) C dX4_hurdles_1 (by decide) ?_
  refine wj_ldc C dX4_hurdles_2 kc_X4_63 ?_
  refine wj_cif C (wj_rS C dX4_hurdles_4 km_X4_isIn kl_X4_64 (c_X4_isIn l V) rfl rfl (Nat.le_of_ble_eq_true rfl) (by decide)) ?_
  refine wj_if_ne C 17 dX4_hurdles_7 (by decide) (fun h7 => ?_) (fun h7 => ?_)
  · refine wj_aload_n C 0 dX4_hurdles_17 rfl rfl ?_
    refine wg_X4_12 C dX4_hurdles_18 ?_
    refine wg_X4_73 C dX4_hurdles_21 (by first | assumption | omega) ?_
    rw [sp_put_3]
    refine wj_istore_n C 2 dX4_hurdles_24 rfl (by decide) rfl ?_
    dsimp only [List.set]
    refine wj_aload_n C 0 dX4_hurdles_25 rfl rfl ?_
    refine wg_X4_12 C dX4_hurdles_26 ?_
    refine wj_iload_n C 1 dX4_hurdles_29 rfl rfl ?_
    refine wp_X4_73 C dX4_hurdles_30 (by first | assumption | omega) ?_
    rw [sp_put_u3]
    refine wj_iload_n C 2 dX4_hurdles_33 rfl rfl ?_
    exact hR _ _ _ _ _ dX4_hurdles_34 (sp_rv1 (by rw [a_hurdles, if_pos (wj_c1 h7)]) (by rw [n_hurdles, if_pos (wj_c1 h7)])) wj_rfl
  · refine wj_aload_n C 0 dX4_hurdles_10 rfl rfl ?_
    refine wj_ldc C dX4_hurdles_11 kc_X4_68 ?_
    refine wj_cif C (wj_rV C dX4_hurdles_13 km_X4_tell kl_X4_69 is_X4 rfl rfl (c_X4_tell (w := 0) l V (by decide) (by decide)) rfl rfl (Nat.le_of_ble_eq_true rfl) (by decide)) ?_
    exact hR _ _ _ _ _ dX4_hurdles_16 (sp_rf1 (by rw [a_hurdles, if_neg (wj_c0 h7)]) (by rw [n_hurdles, if_neg (wj_c0 h7)]) (by decide)) wj_rfl
set_option maxRecDepth 100000 in
set_option maxHeartbeats 4000000 in
theorem c_X4_place (l : Launch) (V : wj_V) {σ : wj_St} {A : sp_L} {N y : Nat} {p w : Int32} (hG : sp_G A N y) (hy : y < 90000) : wj_M l V yX4_place cX4_place 3 (some .int) 4 86 [.ref (V.2.2.1 0), .int p, .int w] (sp_put σ 1 A) (wj_QI V (fun r u => r = sp_v (a_place A p w) ∧ u = sp_put (sp_tw σ (a_place A p w)) 1 A)) := by
  refine wj_ofI (own := RX4) [some (.ref (V.2.2.1 0)), some (.int p), some (.int w)] (by decide) rfl rfl (Nat.le_of_ble_eq_true rfl) (fun X C hR => ?_)
  refine wj_iload_n C 1 dX4_place_0 rfl rfl ?_
  refine wj_cif C (wj_rS C dX4_place_1 km_X4_isPlace kl_X4_76 (c_X4_isPlace l V) rfl rfl (Nat.le_of_ble_eq_true rfl) (by decide)) ?_
  refine wj_if_ne C 14 dX4_place_4 (by decide) (fun h4 => ?_) (fun h4 => ?_)
  · refine wj_iload_n C 2 dX4_place_14 rfl rfl ?_
    refine wj_swc C (0) (29) 44 dX4_place_15 (by decide) (by decide) (by decide) (by decide) (fun h15_0 => ?_) (fun h15_0 => ?_)
    · subst h15_0
      refine wj_aload_n C 0 dX4_place_44 rfl rfl ?_
      refine wg_X4_12 C dX4_place_45 ?_
      refine wj_iload_n C 1 dX4_place_48 rfl rfl ?_
      refine wj_cif C (wj_rV C dX4_place_49 km_X0_strengthOf kl_X4_80 (is_X0 (by first | assumption | omega)) rfl rfl (c_X0_strengthOf l V (by decide) hG.1 hG.2.1) rfl rfl (Nat.le_of_ble_eq_true rfl) (by decide)) ?_
      exact hR _ _ _ _ _ dX4_place_52 (sp_rv1 (by rw [a_place, if_pos ⟨wj_c1 h4, by decide⟩]; rfl) rfl) wj_rfl
    refine wj_swc C (1) (38) 53 dX4_place_15 (by decide) (by decide) (by decide) (by decide) (fun h15_1 => ?_) (fun h15_1 => ?_)
    · subst h15_1
      refine wj_aload_n C 0 dX4_place_53 rfl rfl ?_
      refine wg_X4_12 C dX4_place_54 ?_
      refine wj_iload_n C 1 dX4_place_57 rfl rfl ?_
      refine wj_cif C (wj_rV C dX4_place_58 km_X0_slipsIn kl_X4_83 (is_X0 (by first | assumption | omega)) rfl rfl (c_X0_slipsIn l V (by decide) hG.1 hG.2.1) rfl rfl (Nat.le_of_ble_eq_true rfl) (by decide)) ?_
      exact hR _ _ _ _ _ dX4_place_61 (sp_rv1 (by rw [a_place, if_pos ⟨wj_c1 h4, by decide⟩]; rfl) rfl) wj_rfl
    refine wj_swc C (2) (47) 62 dX4_place_15 (by decide) (by decide) (by decide) (by decide) (fun h15_2 => ?_) (fun h15_2 => ?_)
    · subst h15_2
      refine wj_aload_n C 0 dX4_place_62 rfl rfl ?_
      refine wg_X4_12 C dX4_place_63 ?_
      refine wj_iload_n C 1 dX4_place_66 rfl rfl ?_
      refine wj_cif C (wj_rV C dX4_place_67 km_X0_coverersOf kl_X4_86 (is_X0 (by first | assumption | omega)) rfl rfl (c_X0_coverersOf l V (by decide) hG.1 hG.2.1) rfl rfl (Nat.le_of_ble_eq_true rfl) (by decide)) ?_
      exact hR _ _ _ _ _ dX4_place_70 (sp_rv1 (by rw [a_place, if_pos ⟨wj_c1 h4, by decide⟩]; rfl) rfl) wj_rfl
    refine wj_swc C (3) (56) 71 dX4_place_15 (by decide) (by decide) (by decide) (by decide) (fun h15_3 => ?_) (fun h15_3 => ?_)
    · subst h15_3
      refine wj_aload_n C 0 dX4_place_71 rfl rfl ?_
      refine wg_X4_12 C dX4_place_72 ?_
      refine wj_iload_n C 1 dX4_place_75 rfl rfl ?_
      refine wj_cif C (wj_rV C dX4_place_76 km_X0_isGap kl_X4_89 (is_X0 (by first | assumption | omega)) rfl rfl (c_X0_isGap l V (by decide) hG.1 hG.2.1) rfl rfl (Nat.le_of_ble_eq_true rfl) (by decide)) ?_
      refine wj_if_eq C 86 dX4_place_79 (by decide) (fun h79 => ?_) (fun h79 => ?_)
      · refine wj_iconst (v := 0) C dX4_place_86 (by decide) ?_
        exact hR _ _ _ _ _ dX4_place_87 (sp_rv1 (by rw [a_place, if_pos ⟨wj_c1 h4, by decide⟩, sp_pl, if_neg (by decide), if_neg (by decide), if_neg (by decide)]; first | rw [if_pos (wj_c1 h79)] | rw [if_neg (wj_c0 h79)]) rfl) wj_rfl
      · refine wj_iconst (v := 1) C dX4_place_82 (by decide) ?_
        refine wj_goto C 87 dX4_place_83 (by decide) ?_
        exact hR _ _ _ _ _ dX4_place_87 (sp_rv1 (by rw [a_place, if_pos ⟨wj_c1 h4, by decide⟩, sp_pl, if_neg (by decide), if_neg (by decide), if_neg (by decide)]; first | rw [if_pos (wj_c1 h79)] | rw [if_neg (wj_c0 h79)]) rfl) wj_rfl
    refine wj_tabOut C 88 dX4_place_15 (by have q0 := lv_neT h15_0 (a := 0) (by decide); have q1 := lv_neT h15_1 (a := 1) (by decide); have q2 := lv_neT h15_2 (a := 2) (by decide); have q3 := lv_neT h15_3 (a := 3) (by decide); omega) (by decide) ?_
    refine wj_aload_n C 0 dX4_place_88 rfl rfl ?_
    refine wj_ldc C dX4_place_89 kc_X4_68 ?_
    refine wj_cif C (wj_rV C dX4_place_91 km_X4_tell kl_X4_69 is_X4 rfl rfl (c_X4_tell (w := 0) l V (by decide) (by decide)) rfl rfl (Nat.le_of_ble_eq_true rfl) (by decide)) ?_
    exact hR _ _ _ _ _ dX4_place_94 (sp_rf1 (by rw [a_place, if_neg (fun q => sp_03 h15_0 h15_1 h15_2 h15_3 q.2)]) (by rfl) (by decide)) wj_rfl
  · refine wj_aload_n C 0 dX4_place_7 rfl rfl ?_
    refine wj_ldc C dX4_place_8 kc_X4_68 ?_
    refine wj_cif C (wj_rV C dX4_place_10 km_X4_tell kl_X4_69 is_X4 rfl rfl (c_X4_tell (w := 0) l V (by decide) (by decide)) rfl rfl (Nat.le_of_ble_eq_true rfl) (by decide)) ?_
    exact hR _ _ _ _ _ dX4_place_13 (sp_rf1 (by rw [a_place, if_neg (fun q => wj_c0 h4 q.1)]) (by rfl) (by decide)) wj_rfl
set_option maxRecDepth 100000 in
set_option maxHeartbeats 4000000 in
theorem c_X4_lean (l : Launch) (V : wj_V) {σ : wj_St} {A : sp_L} {N y : Nat} {x p w : Int32} (hG : sp_G A N y) (hy : y < 90000) : wj_M l V yX4_lean cX4_lean 5 (some .int) 2 44 [.ref (V.2.2.1 0), .int x, .int p, .int w] (sp_put σ 1 A) (wj_QI V (fun r u => r = sp_v (a_lean A x p w) ∧ u = sp_put (sp_tw σ (a_lean A x p w)) 1 (n_lean A x p w))) := by
  refine wj_ofI (own := RX4) [some (.ref (V.2.2.1 0)), some (.int x), some (.int p), some (.int w), none] (by decide) rfl rfl (Nat.le_of_ble_eq_true rfl) (fun X C hR => ?_)
  refine wj_iload_n C 1 dX4_lean_0 rfl rfl ?_
  refine wj_cif C (wj_rS C dX4_lean_1 km_X4_isListed kl_X4_92 (c_X4_isListed l V) rfl rfl (Nat.le_of_ble_eq_true rfl) (by decide)) ?_
  refine wj_if_eq C 21 dX4_lean_4 (by decide) (fun h4 => ?_) (fun h4 => ?_)
  · refine wj_aload_n C 0 dX4_lean_21 rfl rfl ?_
    refine wj_ldc C dX4_lean_22 kc_X4_68 ?_
    refine wj_cif C (wj_rV C dX4_lean_24 km_X4_tell kl_X4_69 is_X4 rfl rfl (c_X4_tell (w := 0) l V (by decide) (by decide)) rfl rfl (Nat.le_of_ble_eq_true rfl) (by decide)) ?_
    exact hR _ _ _ _ _ dX4_lean_27 (sp_rf1 (by rw [a_lean, if_neg (fun q => by first | exact wj_c0 h4 q.1 | exact wj_c0 h11 q.2.1 | exact wj_c0 h18 q.2.2)]) (by rw [n_lean, if_neg (fun q => by first | exact wj_c0 h4 q.1 | exact wj_c0 h11 q.2.1 | exact wj_c0 h18 q.2.2)]) (by decide)) wj_rfl
  · refine wj_iload_n C 2 dX4_lean_7 rfl rfl ?_
    refine wj_cif C (wj_rS C dX4_lean_8 km_X4_isPlace kl_X4_76 (c_X4_isPlace l V) rfl rfl (Nat.le_of_ble_eq_true rfl) (by decide)) ?_
    refine wj_if_eq C 21 dX4_lean_11 (by decide) (fun h11 => ?_) (fun h11 => ?_)
    · refine wj_aload_n C 0 dX4_lean_21 rfl rfl ?_
      refine wj_ldc C dX4_lean_22 kc_X4_68 ?_
      refine wj_cif C (wj_rV C dX4_lean_24 km_X4_tell kl_X4_69 is_X4 rfl rfl (c_X4_tell (w := 0) l V (by decide) (by decide)) rfl rfl (Nat.le_of_ble_eq_true rfl) (by decide)) ?_
      exact hR _ _ _ _ _ dX4_lean_27 (sp_rf1 (by rw [a_lean, if_neg (fun q => by first | exact wj_c0 h4 q.1 | exact wj_c0 h11 q.2.1 | exact wj_c0 h18 q.2.2)]) (by rw [n_lean, if_neg (fun q => by first | exact wj_c0 h4 q.1 | exact wj_c0 h11 q.2.1 | exact wj_c0 h18 q.2.2)]) (by decide)) wj_rfl
    · refine wj_iload_n C 3 dX4_lean_14 rfl rfl ?_
      refine wj_cif C (wj_rS C dX4_lean_15 km_X4_isWeight kl_X4_95 (c_X4_isWeight l V) rfl rfl (Nat.le_of_ble_eq_true rfl) (by decide)) ?_
      refine wj_if_ne C 28 dX4_lean_18 (by decide) (fun h18 => ?_) (fun h18 => ?_)
      · obtain ⟨i, hi, rfl⟩ := wj_natC (N := 5) (wj_c1 h4)
        refine wj_aload_n C 0 dX4_lean_28 rfl rfl ?_
        refine wg_X4_12 C dX4_lean_29 ?_
        refine wg_X4_98 C dX4_lean_32 (by first | assumption | omega) ?_
        refine wj_iload_n C 1 dX4_lean_35 rfl rfl ?_
        refine wj_ialdN C dX4_lean_36 (ar_leanings (by first | assumption | omega)) ⟨by omega, by decide⟩ ?_
        rw [sp_put_l]
        refine wj_istore C dX4_lean_37 (by decide) rfl ?_
        dsimp only [List.set]
        refine wj_aload_n C 0 dX4_lean_39 rfl rfl ?_
        refine wg_X4_12 C dX4_lean_40 ?_
        refine wg_X4_98 C dX4_lean_43 (by first | assumption | omega) ?_
        refine wj_iload_n C 1 dX4_lean_46 rfl rfl ?_
        refine wj_bipush (v := 100) C dX4_lean_47 (by decide) ?_
        refine wj_iload_n C 2 dX4_lean_49 rfl rfl ?_
        refine wj_imul C dX4_lean_50 ?_
        refine wj_iload_n C 3 dX4_lean_51 rfl rfl ?_
        refine wj_iadd C dX4_lean_52 ?_
        refine wj_iastN C dX4_lean_53 (ar_leanings (by first | assumption | omega)) ⟨by omega, by decide⟩ ?_
        rw [wj_u_r, sp_put_l, sp_put_rl]
        refine wj_iload C dX4_lean_54 rfl ?_
        exact hR _ _ _ _ _ dX4_lean_56 (sp_rv1 (by rw [a_lean, if_pos ⟨wj_c1 h4, wj_c1 h11, wj_c1 h18⟩, nI_clamp (by omega)]) (by rw [n_lean, if_pos ⟨wj_c1 h4, wj_c1 h11, wj_c1 h18⟩, nI_clamp (by omega)])) wj_rfl
      · refine wj_aload_n C 0 dX4_lean_21 rfl rfl ?_
        refine wj_ldc C dX4_lean_22 kc_X4_68 ?_
        refine wj_cif C (wj_rV C dX4_lean_24 km_X4_tell kl_X4_69 is_X4 rfl rfl (c_X4_tell (w := 0) l V (by decide) (by decide)) rfl rfl (Nat.le_of_ble_eq_true rfl) (by decide)) ?_
        exact hR _ _ _ _ _ dX4_lean_27 (sp_rf1 (by rw [a_lean, if_neg (fun q => by first | exact wj_c0 h4 q.1 | exact wj_c0 h11 q.2.1 | exact wj_c0 h18 q.2.2)]) (by rw [n_lean, if_neg (fun q => by first | exact wj_c0 h4 q.1 | exact wj_c0 h11 q.2.1 | exact wj_c0 h18 q.2.2)]) (by decide)) wj_rfl
set_option maxRecDepth 100000 in
set_option maxHeartbeats 4000000 in
theorem c_X4_leaning (l : Launch) (V : wj_V) {σ : wj_St} {A : sp_L} {N y : Nat} {x : Int32} (hG : sp_G A N y) (hy : y < 90000) : wj_M l V yX4_leaning cX4_leaning 2 (some .int) 2 44 [.ref (V.2.2.1 0), .int x] (sp_put σ 1 A) (wj_QI V (fun r u => r = sp_v (a_leaning A x) ∧ u = sp_put (sp_tw σ (a_leaning A x)) 1 A)) := by
  refine wj_ofI (own := RX4) [some (.ref (V.2.2.1 0)), some (.int x)] (by decide) rfl rfl (Nat.le_of_ble_eq_true rfl) (fun X C hR => ?_)
  refine wj_iload_n C 1 dX4_leaning_0 rfl rfl ?_
  refine wj_cif C (wj_rS C dX4_leaning_1 km_X4_isListed kl_X4_92 (c_X4_isListed l V) rfl rfl (Nat.le_of_ble_eq_true rfl) (by decide)) ?_
  refine wj_if_ne C 14 dX4_leaning_4 (by decide) (fun h4 => ?_) (fun h4 => ?_)
  · obtain ⟨i, hi, rfl⟩ := wj_natC (N := 5) (wj_c1 h4)
    refine wj_aload_n C 0 dX4_leaning_14 rfl rfl ?_
    refine wg_X4_12 C dX4_leaning_15 ?_
    refine wg_X4_98 C dX4_leaning_18 (by first | assumption | omega) ?_
    refine wj_iload_n C 1 dX4_leaning_21 rfl rfl ?_
    refine wj_ialdN C dX4_leaning_22 (ar_leanings (by first | assumption | omega)) ⟨by omega, by decide⟩ ?_
    rw [sp_put_l]
    exact hR _ _ _ _ _ dX4_leaning_23 (sp_rv1 (by rw [a_leaning, if_pos (wj_c1 h4), nI_clamp (by omega)]) rfl) wj_rfl
  · refine wj_aload_n C 0 dX4_leaning_7 rfl rfl ?_
    refine wj_ldc C dX4_leaning_8 kc_X4_68 ?_
    refine wj_cif C (wj_rV C dX4_leaning_10 km_X4_tell kl_X4_69 is_X4 rfl rfl (c_X4_tell (w := 0) l V (by decide) (by decide)) rfl rfl (Nat.le_of_ble_eq_true rfl) (by decide)) ?_
    exact hR _ _ _ _ _ dX4_leaning_13 (sp_rf1 (by rw [a_leaning, if_neg (wj_c0 h4)]) (by rfl) (by decide)) wj_rfl
theorem c_X0_add_g (l : Launch) (V : wj_V) {σ : wj_St} {k : Nat} {A : sp_L} {N : Nat} {a b c : Int32} (hk : 1 ≤ k ∧ k < 4) (hn : A.2.1 = nI N) (hN : N ≤ 8) : wj_M l V yX0_add cX0_add 5 (some (.object "WordHedge$Slip")) 1 23 [.ref (V.2.2.1 k), .int a, .int b, .int c] (sp_put σ k A) (wj_Rf V (if N < 8 then some (V.2.2.1 (2 + 8 * k + N)) else none) (sp_put σ k (if N < 8 then sp_add A N a b c else A))) := by
  by_cases h : N < 8
  · rw [if_pos h, if_pos h]; exact c_X0_add l V hk hn hN h
  · rw [if_neg h, if_neg h]; exact c_X0_add_no l V hk hn hN (by omega)
theorem sp_k6 {k : Int32} : (sp_lst 0 ≤ k ∧ k ≤ sp_mst 0) ↔ (0 ≤ k ∧ k ≤ 6) := Iff.rfl
theorem sp_w12 {k : Int32} : (sp_lst 5 ≤ k ∧ k ≤ sp_mst 5) ↔ (1 ≤ k ∧ k ≤ 12) := by
  rw [show sp_lst 5 = 1 by decide, show sp_mst 5 = 12 by decide]
theorem sp_h199 {k : Int32} : (sp_lst 2 ≤ k ∧ k ≤ sp_mst 2) ↔ (0 ≤ k ∧ k ≤ 199) := by
  rw [show sp_lst 2 = 0 by decide, show sp_mst 2 = 199 by decide]
set_option maxRecDepth 100000 in
set_option maxHeartbeats 4000000 in
theorem c_X4_slip (l : Launch) (V : wj_V) {σ : wj_St} {A : sp_L} {N y : Nat} {k p w : Int32} (hG : sp_G A N y) (hy : y < 90000) : wj_M l V yX4_slip cX4_slip 5 (some .int) 2 47 [.ref (V.2.2.1 0), .int k, .int p, .int w] (sp_put σ 1 A) (wj_QI V (fun r u => r = sp_v (a_slip A k p w) ∧ u = sp_put (sp_tw σ (a_slip A k p w)) 1 (n_slip A k p w))) := by
  refine wj_ofI (own := RX4) [some (.ref (V.2.2.1 0)), some (.int k), some (.int p), some (.int w), none] (by decide) rfl rfl (Nat.le_of_ble_eq_true rfl) (fun X C hR => ?_)
  refine wj_iconst (v := 0) C dX4_slip_0 (by decide) ?_
  refine wj_iload_n C 1 dX4_slip_1 rfl rfl ?_
  refine wj_cif C (wj_rS C dX4_slip_2 km_X2_allows kl_X4_101 (c_X2_allows l V) rfl rfl (Nat.le_of_ble_eq_true rfl) (by decide)) ?_
  refine wj_if_eq C 23 dX4_slip_5 (by decide) (fun h5 => ?_) (fun h5 => ?_)
  · refine wj_aload_n C 0 dX4_slip_23 rfl rfl ?_
    refine wj_ldc C dX4_slip_24 kc_X4_68 ?_
    refine wj_cif C (wj_rV C dX4_slip_26 km_X4_tell kl_X4_69 is_X4 rfl rfl (c_X4_tell (w := 0) l V (by decide) (by decide)) rfl rfl (Nat.le_of_ble_eq_true rfl) (by decide)) ?_
    exact hR _ _ _ _ _ dX4_slip_29 (sp_rf1 (by rw [a_slip, if_neg (fun q => by first | exact wj_c0 h5 (sp_k6.mpr q.1) | exact wj_c0 h12 q.2.1 | exact wj_c0 h20 (sp_w12.mpr q.2.2))]) (by rw [n_slip, if_neg (fun q9 => (fun q => by first | exact wj_c0 h5 (sp_k6.mpr q.1) | exact wj_c0 h12 q.2.1 | exact wj_c0 h20 (sp_w12.mpr q.2.2)) q9.1)]) (by decide)) wj_rfl
  · refine wj_iload_n C 2 dX4_slip_8 rfl rfl ?_
    refine wj_cif C (wj_rS C dX4_slip_9 km_X4_isPlace kl_X4_76 (c_X4_isPlace l V) rfl rfl (Nat.le_of_ble_eq_true rfl) (by decide)) ?_
    refine wj_if_eq C 23 dX4_slip_12 (by decide) (fun h12 => ?_) (fun h12 => ?_)
    · refine wj_aload_n C 0 dX4_slip_23 rfl rfl ?_
      refine wj_ldc C dX4_slip_24 kc_X4_68 ?_
      refine wj_cif C (wj_rV C dX4_slip_26 km_X4_tell kl_X4_69 is_X4 rfl rfl (c_X4_tell (w := 0) l V (by decide) (by decide)) rfl rfl (Nat.le_of_ble_eq_true rfl) (by decide)) ?_
      exact hR _ _ _ _ _ dX4_slip_29 (sp_rf1 (by rw [a_slip, if_neg (fun q => by first | exact wj_c0 h5 (sp_k6.mpr q.1) | exact wj_c0 h12 q.2.1 | exact wj_c0 h20 (sp_w12.mpr q.2.2))]) (by rw [n_slip, if_neg (fun q9 => (fun q => by first | exact wj_c0 h5 (sp_k6.mpr q.1) | exact wj_c0 h12 q.2.1 | exact wj_c0 h20 (sp_w12.mpr q.2.2)) q9.1)]) (by decide)) wj_rfl
    · refine wj_iconst (v := 5) C dX4_slip_15 (by decide) ?_
      refine wj_iload_n C 3 dX4_slip_16 rfl rfl ?_
      refine wj_cif C (wj_rS C dX4_slip_17 km_X2_allows kl_X4_101 (c_X2_allows l V) rfl rfl (Nat.le_of_ble_eq_true rfl) (by decide)) ?_
      refine wj_if_ne C 30 dX4_slip_20 (by decide) (fun h20 => ?_) (fun h20 => ?_)
      · have hok : sp_oks k p w := ⟨sp_k6.mp (wj_c1 h5), wj_c1 h12, sp_w12.mp (wj_c1 h20)⟩
        have hNN := sp_N_of hG.1 hG.2.1
        refine wj_aload_n C 0 dX4_slip_30 rfl rfl ?_
        refine wg_X4_12 C dX4_slip_31 ?_
        refine wj_iload_n C 1 dX4_slip_34 rfl rfl ?_
        refine wj_iload_n C 2 dX4_slip_35 rfl rfl ?_
        refine wj_iload_n C 3 dX4_slip_36 rfl rfl ?_
        refine wj_crn C (wj_rV C dX4_slip_37 km_X0_add kl_X4_107 (is_X0 (by first | assumption | omega)) rfl rfl (c_X0_add_g l V (by decide) hG.1 hG.2.1) rfl rfl (Nat.le_of_ble_eq_true rfl) (by decide)) (fun hn37 => ?_) (fun a37 ha37 => ?_)
        · have h8 : ¬ N < 8 := by
            intro q
            rw [if_pos q] at hn37
            exact absurd hn37 (by simp)
          rw [if_neg h8]
          refine wj_astoreN C dX4_slip_40 (by decide) rfl ?_
          dsimp only [List.set]
          refine wj_aloadN C dX4_slip_42 rfl ?_
          refine wj_ifnonnullN C dX4_slip_44 ?_
          refine wj_aload_n C 0 dX4_slip_47 rfl rfl ?_
          refine wj_ldc C dX4_slip_48 kc_X4_111 ?_
          refine wj_cif C (wj_rV C dX4_slip_50 km_X4_tell kl_X4_69 is_X4 rfl rfl (c_X4_tell (w := 1) l V (by decide) (by decide)) rfl rfl (Nat.le_of_ble_eq_true rfl) (by decide)) ?_
          exact hR _ _ _ _ _ dX4_slip_53 (sp_rf1 (by rw [a_slip, if_pos hok, hNN, if_neg h8]) (by rw [n_slip, if_neg (fun q => h8 (hNN ▸ q.2))]) (by decide)) wj_rfl
        · have h8 : N < 8 := Classical.byContradiction (fun q => by
            rw [if_neg q] at ha37
            exact absurd ha37 (by simp))
          rw [if_pos h8]
          rw [if_pos h8] at ha37
          obtain rfl := (Option.some.inj ha37)
          refine wj_astore C dX4_slip_40 (by decide) rfl ?_
          dsimp only [List.set]
          refine wj_aload C dX4_slip_42 rfl ?_
          refine wj_ifnonnull C 54 dX4_slip_44 (by decide) ?_
          refine wj_aload_n C 0 dX4_slip_54 rfl rfl ?_
          refine wg_X4_12 C dX4_slip_55 ?_
          refine wg_X4_112 C dX4_slip_58 (by first | assumption | omega) ?_
          rw [sp_put_2, show (sp_add A N k p w).2.1 = nI (N + 1) from rfl]
          refine wj_iconst (v := 1) C dX4_slip_61 (by decide) ?_
          refine wj_isub C dX4_slip_62 ?_
          refine wj_top (y := nI N) (by rw [show (1 : Int32) = nI 1 from rfl, pk_sub (by omega)]; rfl) ?_
          exact hR _ _ _ _ _ dX4_slip_63 (sp_rv1 (by rw [a_slip, if_pos hok, hNN, if_pos h8, hG.1]) (by rw [n_slip, hNN, if_pos ⟨hok, h8⟩])) wj_rfl
      · refine wj_aload_n C 0 dX4_slip_23 rfl rfl ?_
        refine wj_ldc C dX4_slip_24 kc_X4_68 ?_
        refine wj_cif C (wj_rV C dX4_slip_26 km_X4_tell kl_X4_69 is_X4 rfl rfl (c_X4_tell (w := 0) l V (by decide) (by decide)) rfl rfl (Nat.le_of_ble_eq_true rfl) (by decide)) ?_
        exact hR _ _ _ _ _ dX4_slip_29 (sp_rf1 (by rw [a_slip, if_neg (fun q => by first | exact wj_c0 h5 (sp_k6.mpr q.1) | exact wj_c0 h12 q.2.1 | exact wj_c0 h20 (sp_w12.mpr q.2.2))]) (by rw [n_slip, if_neg (fun q9 => (fun q => by first | exact wj_c0 h5 (sp_k6.mpr q.1) | exact wj_c0 h12 q.2.1 | exact wj_c0 h20 (sp_w12.mpr q.2.2)) q9.1)]) (by decide)) wj_rfl
set_option maxRecDepth 100000 in
set_option maxHeartbeats 4000000 in
theorem c_X4_of (l : Launch) (V : wj_V) {σ : wj_St} {A : sp_L} {N y : Nat} {x w : Int32} (hG : sp_G A N y) (hy : y < 90000) : wj_M l V yX4_of cX4_of 4 (some .int) 3 65 [.ref (V.2.2.1 0), .int x, .int w] (sp_put σ 1 A) (wj_QI V (fun r u => r = sp_v (a_of A x w) ∧ u = sp_put (sp_tw σ (a_of A x w)) 1 A)) := by
  refine wj_ofI (own := RX4) [some (.ref (V.2.2.1 0)), some (.int x), some (.int w), none] (by decide) rfl rfl (Nat.le_of_ble_eq_true rfl) (fun X C hR => ?_)
  refine wj_aload_n C 0 dX4_of_0 rfl rfl ?_
  refine wg_X4_12 C dX4_of_1 ?_
  refine wj_iload_n C 1 dX4_of_4 rfl rfl ?_
  refine wj_crn C (wj_rV C dX4_of_5 km_X0_slipAt kl_X4_115 (is_X0 (by first | assumption | omega)) rfl rfl (c_X0_slipAt_g l V (by decide) hG.1 hG.2.1) rfl rfl (Nat.le_of_ble_eq_true rfl) (by decide)) (fun hn5 => ?_) (fun a5 ha5 => ?_)
  · refine wj_astore_nN C 3 dX4_of_8 rfl (by decide) rfl ?_
    dsimp only [List.set]
    refine wj_aload_nN C 3 dX4_of_9 rfl rfl ?_
    refine wj_ifnullN C 23 dX4_of_10 (by decide) ?_
    refine wj_aload_n C 0 dX4_of_23 rfl rfl ?_
    refine wj_ldc C dX4_of_24 kc_X4_68 ?_
    refine wj_cif C (wj_rV C dX4_of_26 km_X4_tell kl_X4_69 is_X4 rfl rfl (c_X4_tell (w := 0) l V (by decide) (by decide)) rfl rfl (Nat.le_of_ble_eq_true rfl) (by decide)) ?_
    exact hR _ _ _ _ _ dX4_of_29 (sp_rf1 (by rw [a_of, if_neg (fun q => by first | exact sp_rgX hG.1 hn5 q.1 | exact wj_c0 h20 q.2)]) (by rfl) (by decide)) wj_rfl
  · obtain ⟨i, hi, hxi, rfl⟩ := sp_sa_s hG.2.1 ha5
    have hN8 := hG.2.1
    subst hxi
    refine wj_astore_n C 3 dX4_of_8 rfl (by decide) rfl ?_
    dsimp only [List.set]
    refine wj_aload_n C 3 dX4_of_9 rfl rfl ?_
    refine wj_ifnull C dX4_of_10 ?_
    refine wj_iload_n C 2 dX4_of_13 rfl rfl ?_
    refine wj_iconst (v := 0) C dX4_of_14 (by decide) ?_
    refine wj_bipush (v := 11) C dX4_of_15 (by decide) ?_
    refine wj_cif C (wj_rS C dX4_of_17 km_X4_isIn kl_X4_64 (c_X4_isIn l V) rfl rfl (Nat.le_of_ble_eq_true rfl) (by decide)) ?_
    refine wj_if_ne C 30 dX4_of_20 (by decide) (fun h20 => ?_) (fun h20 => ?_)
    · refine wj_aload_n C 3 dX4_of_30 rfl rfl ?_
      refine wj_iload_n C 2 dX4_of_31 rfl rfl ?_
      refine wj_aload_n C 0 dX4_of_32 rfl rfl ?_
      refine wg_X4_12 C dX4_of_33 ?_
      refine wg_X4_119 C dX4_of_36 (by first | assumption | omega) ?_
      rw [sp_put_5]
      refine wj_cif C (wj_rV C dX4_of_39 km_X2_trait kl_X4_122 (is_X2 (by first | assumption | omega)) rfl rfl (c_X2_trait l V (by omega)) rfl rfl (Nat.le_of_ble_eq_true rfl) (by decide)) ?_
      rw [sp_put_s (by decide) (by omega)]
      exact hR _ _ _ _ _ dX4_of_42 (sp_rv1 (by rw [a_of, if_pos ⟨sp_rgN hG.1 hG.2.1 hi, wj_c1 h20⟩, nI_clamp (by omega)]) rfl) wj_rfl
    · refine wj_aload_n C 0 dX4_of_23 rfl rfl ?_
      refine wj_ldc C dX4_of_24 kc_X4_68 ?_
      refine wj_cif C (wj_rV C dX4_of_26 km_X4_tell kl_X4_69 is_X4 rfl rfl (c_X4_tell (w := 0) l V (by decide) (by decide)) rfl rfl (Nat.le_of_ble_eq_true rfl) (by decide)) ?_
      exact hR _ _ _ _ _ dX4_of_29 (sp_rf1 (by rw [a_of, if_neg (fun q => by first | exact sp_rgX hG.1 hn5 q.1 | exact wj_c0 h20 q.2)]) (by rfl) (by decide)) wj_rfl
set_option maxRecDepth 100000 in
set_option maxHeartbeats 4000000 in
theorem c_X4_change (l : Launch) (V : wj_V) {σ : wj_St} {A : sp_L} {N y : Nat} {x w v : Int32} (hG : sp_G A N y) (hy : y < 90000) : wj_M l V yX4_change cX4_change 6 (some .int) 3 65 [.ref (V.2.2.1 0), .int x, .int w, .int v] (sp_put σ 1 A) (wj_QI V (fun r u => r = sp_v (a_change A x w v) ∧ u = sp_put (sp_tw σ (a_change A x w v)) 1 (n_change A x w v))) := by
  refine wj_ofI (own := RX4) [some (.ref (V.2.2.1 0)), some (.int x), some (.int w), some (.int v), none, none] (by decide) rfl rfl (Nat.le_of_ble_eq_true rfl) (fun X C hR => ?_)
  refine wj_aload_n C 0 dX4_change_0 rfl rfl ?_
  refine wg_X4_12 C dX4_change_1 ?_
  refine wj_iload_n C 1 dX4_change_4 rfl rfl ?_
  refine wj_crn C (wj_rV C dX4_change_5 km_X0_slipAt kl_X4_115 (is_X0 (by first | assumption | omega)) rfl rfl (c_X0_slipAt_g l V (by decide) hG.1 hG.2.1) rfl rfl (Nat.le_of_ble_eq_true rfl) (by decide)) (fun hn5 => ?_) (fun a5 ha5 => ?_)
  · refine wj_astoreN C dX4_change_8 (by decide) rfl ?_
    dsimp only [List.set]
    refine wj_aloadN C dX4_change_10 rfl ?_
    refine wj_ifnullN C 23 dX4_change_12 (by decide) ?_
    refine wj_aload_n C 0 dX4_change_23 rfl rfl ?_
    refine wj_ldc C dX4_change_24 kc_X4_68 ?_
    refine wj_cif C (wj_rV C dX4_change_26 km_X4_tell kl_X4_69 is_X4 rfl rfl (c_X4_tell (w := 0) l V (by decide) (by decide)) rfl rfl (Nat.le_of_ble_eq_true rfl) (by decide)) ?_
    exact hR _ _ _ _ _ dX4_change_29 (sp_rf1 (by rw [a_change, if_neg (fun q => by first | exact sp_rgX hG.1 hn5 q.1 | exact wj_c0 h20 q.2)]) (by rw [n_change, if_neg (fun q => by first | exact sp_rgX hG.1 hn5 q.1 | exact wj_c0 h20 q.2)]) (by decide)) wj_rfl
  · obtain ⟨i, hi, hxi, rfl⟩ := sp_sa_s hG.2.1 ha5
    have hN8 := hG.2.1
    subst hxi
    refine wj_astore C dX4_change_8 (by decide) rfl ?_
    dsimp only [List.set]
    refine wj_aload C dX4_change_10 rfl ?_
    refine wj_ifnull C dX4_change_12 ?_
    refine wj_iload_n C 2 dX4_change_15 rfl rfl ?_
    refine wj_iload_n C 3 dX4_change_16 rfl rfl ?_
    refine wj_cif C (wj_rS C dX4_change_17 km_X2_allows kl_X4_101 (c_X2_allows l V) rfl rfl (Nat.le_of_ble_eq_true rfl) (by decide)) ?_
    refine wj_if_ne C 30 dX4_change_20 (by decide) (fun h20 => ?_) (fun h20 => ?_)
    · obtain ⟨f, hf, hwf⟩ := sp_lm (wj_c1 h20)
      refine wj_aload C dX4_change_30 rfl ?_
      refine wj_iload_n C 2 dX4_change_32 rfl rfl ?_
      refine wj_aload_n C 0 dX4_change_33 rfl rfl ?_
      refine wg_X4_12 C dX4_change_34 ?_
      refine wg_X4_119 C dX4_change_37 (by first | assumption | omega) ?_
      rw [sp_put_5]
      refine wj_cif C (wj_rV C dX4_change_40 km_X2_trait kl_X4_122 (is_X2 (by first | assumption | omega)) rfl rfl (c_X2_trait l V (by omega)) rfl rfl (Nat.le_of_ble_eq_true rfl) (by decide)) ?_
      rw [sp_put_s (by decide) (by omega)]
      refine wj_istore C dX4_change_43 (by decide) rfl ?_
      dsimp only [List.set]
      refine wj_aload C dX4_change_45 rfl ?_
      refine wj_iload_n C 2 dX4_change_47 rfl rfl ?_
      refine wj_iload_n C 3 dX4_change_48 rfl rfl ?_
      refine wj_cvf C (wj_rV C dX4_change_49 km_X2_put kl_X4_126 (is_X2 (by first | assumption | omega)) rfl rfl (c_X2_put l V (by omega)) rfl rfl (Nat.le_of_ble_eq_true rfl) (by decide)) ?_
      rw [sp_put_s (by decide) (by omega), sp_put_rs (by decide) (by omega), hwf, sp_set_f hf]
      refine wj_iload C dX4_change_52 rfl ?_
      exact hR _ _ _ _ _ dX4_change_54 (sp_rv1 (by rw [a_change, if_pos ⟨sp_rgN hG.1 hG.2.1 hi, wj_c1 h20⟩, nI_clamp (by omega), hwf]) (by rw [n_change, if_pos ⟨sp_rgN hG.1 hG.2.1 hi, wj_c1 h20⟩, nI_clamp (by omega), hwf, nI_clamp (by omega)]; rfl)) wj_rfl
    · refine wj_aload_n C 0 dX4_change_23 rfl rfl ?_
      refine wj_ldc C dX4_change_24 kc_X4_68 ?_
      refine wj_cif C (wj_rV C dX4_change_26 km_X4_tell kl_X4_69 is_X4 rfl rfl (c_X4_tell (w := 0) l V (by decide) (by decide)) rfl rfl (Nat.le_of_ble_eq_true rfl) (by decide)) ?_
      exact hR _ _ _ _ _ dX4_change_29 (sp_rf1 (by rw [a_change, if_neg (fun q => by first | exact sp_rgX hG.1 hn5 q.1 | exact wj_c0 h20 q.2)]) (by rw [n_change, if_neg (fun q => by first | exact sp_rgX hG.1 hn5 q.1 | exact wj_c0 h20 q.2)]) (by decide)) wj_rfl
theorem sp_mx0 {h q : Nat} (hh : h < 2 ^ 30) (hq : q < 2 ^ 30) : (if (0 : Int32) < nI h - nI q then nI h - nI q else 0) = nI (h - q) ∧ (if (0 : Int32) < nI h - nI q then nI h - nI q else 0) = nI (h - q) := by
  have : (if (0 : Int32) < nI h - nI q then nI h - nI q else 0) = nI (h - q) := by
    by_cases c : q ≤ h
    · rw [pk_sub c]
      by_cases c2 : h - q = 0
      · rw [c2]; rfl
      · rw [if_pos (show (0 : Int32) < nI (h - q) from nI_lt (a := 0) (b := h - q) (by omega) (by omega))]
    · rw [if_neg, show h - q = 0 by omega]; 
      · rfl
      · intro z
        have := Int32.lt_iff_toInt_lt.mp z
        rw [pk_sub_toInt hh hq, Int32.toInt_zero] at this
        omega
  exact ⟨this, this⟩
set_option maxRecDepth 100000 in
set_option maxHeartbeats 4000000 in
theorem c_X4_cut (l : Launch) (V : wj_V) {σ : wj_St} {A : sp_L} {N y : Nat} {x v : Int32} (hG : sp_G A N y) (hy : y < 90000) : wj_M l V yX4_cut cX4_cut 5 (some .int) 2 44 [.ref (V.2.2.1 0), .int x, .int v] (sp_put σ 1 A) (wj_QI V (fun r u => r = sp_v (a_cut A x v) ∧ u = sp_put (sp_tw σ (a_cut A x v)) 1 (n_cut A x v))) := by
  refine wj_ofI (own := RX4) [some (.ref (V.2.2.1 0)), some (.int x), some (.int v), none, none] (by decide) rfl rfl (Nat.le_of_ble_eq_true rfl) (fun X C hR => ?_)
  refine wj_aload_n C 0 dX4_cut_0 rfl rfl ?_
  refine wg_X4_12 C dX4_cut_1 ?_
  refine wj_iload_n C 1 dX4_cut_4 rfl rfl ?_
  refine wj_crn C (wj_rV C dX4_cut_5 km_X0_slipAt kl_X4_115 (is_X0 (by first | assumption | omega)) rfl rfl (c_X0_slipAt_g l V (by decide) hG.1 hG.2.1) rfl rfl (Nat.le_of_ble_eq_true rfl) (by decide)) (fun hn5 => ?_) (fun a5 ha5 => ?_)
  · refine wj_astore_nN C 3 dX4_cut_8 rfl (by decide) rfl ?_
    dsimp only [List.set]
    refine wj_aload_nN C 3 dX4_cut_9 rfl rfl ?_
    refine wj_ifnullN C 21 dX4_cut_10 (by decide) ?_
    refine wj_aload_n C 0 dX4_cut_21 rfl rfl ?_
    refine wj_ldc C dX4_cut_22 kc_X4_68 ?_
    refine wj_cif C (wj_rV C dX4_cut_24 km_X4_tell kl_X4_69 is_X4 rfl rfl (c_X4_tell (w := 0) l V (by decide) (by decide)) rfl rfl (Nat.le_of_ble_eq_true rfl) (by decide)) ?_
    exact hR _ _ _ _ _ dX4_cut_27 (sp_rf1 (by rw [a_cut, if_neg (fun q => by first | exact sp_rgX hG.1 hn5 q.1 | exact wj_c0 h18 (sp_h199.mpr q.2))]) (by rw [n_cut, if_neg (fun q => by first | exact sp_rgX hG.1 hn5 q.1 | exact wj_c0 h18 (sp_h199.mpr q.2))]) (by decide)) wj_rfl
  · obtain ⟨i, hi, hxi, rfl⟩ := sp_sa_s hG.2.1 ha5
    have hN8 := hG.2.1
    subst hxi
    obtain ⟨e, _, ee, he⟩ := wj_nat (hG.2.2.2.1 i hi).2.2.1.1
    have he2 := (hG.2.2.2.1 i hi).2.2.1.2
    refine wj_astore_n C 3 dX4_cut_8 rfl (by decide) rfl ?_
    dsimp only [List.set]
    refine wj_aload_n C 3 dX4_cut_9 rfl rfl ?_
    refine wj_ifnull C dX4_cut_10 ?_
    refine wj_iconst (v := 2) C dX4_cut_13 (by decide) ?_
    refine wj_iload_n C 2 dX4_cut_14 rfl rfl ?_
    refine wj_cif C (wj_rS C dX4_cut_15 km_X2_allows kl_X4_101 (c_X2_allows l V) rfl rfl (Nat.le_of_ble_eq_true rfl) (by decide)) ?_
    refine wj_if_ne C 28 dX4_cut_18 (by decide) (fun h18 => ?_) (fun h18 => ?_)
    · obtain ⟨c, hc, rfl⟩ := wj_natC (N := 199) (sp_h199.mp (wj_c1 h18))
      refine wj_iconst (v := 0) C dX4_cut_28 (by decide) ?_
      refine wj_aload_n C 3 dX4_cut_29 rfl rfl ?_
      refine wg_X4_130 C dX4_cut_30 (by first | assumption | omega) ?_
      rw [sp_put_s (by decide) (by omega), ee]
      refine wj_iload_n C 2 dX4_cut_33 rfl rfl ?_
      refine wj_isub C dX4_cut_34 ?_
      refine wj_max C dX4_cut_35 kx_X4_133 (by decide) (Nat.le_of_ble_eq_true rfl) ?_
      refine wj_top (y := nI (e - c)) (sp_mx0 (by omega) (by omega)).1 ?_
      refine wj_istore C dX4_cut_38 (by decide) rfl ?_
      dsimp only [List.set]
      refine wj_aload_n C 3 dX4_cut_40 rfl rfl ?_
      refine wj_dup C dX4_cut_41 rfl ?_
      refine wg_X4_130 C dX4_cut_42 (by first | assumption | omega) ?_
      rw [sp_put_s (by decide) (by omega), ee]
      refine wj_iload C dX4_cut_45 rfl ?_
      refine wj_isub C dX4_cut_47 ?_
      rw [pk_sub (by omega)]
      refine wp_X4_130 C dX4_cut_48 (by first | assumption | omega) ?_
      rw [wj_u_r, sp_put_s (by decide) (by omega), sp_put_rs (by decide) (by omega)]
      refine wj_iload C dX4_cut_51 rfl ?_
      exact hR _ _ _ _ _ dX4_cut_53 (sp_rv1 (by rw [a_cut, if_pos ⟨sp_rgN hG.1 hG.2.1 hi, sp_h199.mp (wj_c1 h18)⟩, nI_clamp (by omega), nI_clamp (by omega), ee, nI_clamp (by omega)]) (by rw [n_cut, if_pos ⟨sp_rgN hG.1 hG.2.1 hi, sp_h199.mp (wj_c1 h18)⟩, nI_clamp (by omega), nI_clamp (by omega), ee, nI_clamp (by omega), show min c e = e - (e - c) by omega]; rfl)) wj_rfl
    · refine wj_aload_n C 0 dX4_cut_21 rfl rfl ?_
      refine wj_ldc C dX4_cut_22 kc_X4_68 ?_
      refine wj_cif C (wj_rV C dX4_cut_24 km_X4_tell kl_X4_69 is_X4 rfl rfl (c_X4_tell (w := 0) l V (by decide) (by decide)) rfl rfl (Nat.le_of_ble_eq_true rfl) (by decide)) ?_
      exact hR _ _ _ _ _ dX4_cut_27 (sp_rf1 (by rw [a_cut, if_neg (fun q => by first | exact sp_rgX hG.1 hn5 q.1 | exact wj_c0 h18 (sp_h199.mpr q.2))]) (by rw [n_cut, if_neg (fun q => by first | exact sp_rgX hG.1 hn5 q.1 | exact wj_c0 h18 (sp_h199.mpr q.2))]) (by decide)) wj_rfl
set_option maxRecDepth 100000 in
set_option maxHeartbeats 4000000 in
theorem c_X4_go (l : Launch) (V : wj_V) {σ : wj_St} {A : sp_L} {N y : Nat} {n : Int32} (hG : sp_G A N y) (hy : y < 90000) : wj_M l V yX4_go cX4_go 2 (some .int) 5 111 [.ref (V.2.2.1 0), .int n] (sp_put σ 1 A) (wj_QI V (fun r u => r = sp_v (a_go A n) ∧ u = sp_put (sp_tw σ (a_go A n)) 1 (n_go A n))) := by
  refine wj_ofI (own := RX4) [some (.ref (V.2.2.1 0)), some (.int n)] (by decide) rfl rfl (Nat.le_of_ble_eq_true rfl) (fun X C hR => ?_)
  refine wj_iload_n C 1 dX4_go_0 rfl rfl ?_
  refine wj_iconst (v := 1) C dX4_go_1 (by decide) ?_
  refine wj_bipush (v := 60) C dX4_go_2 (by decide) ?_
  refine wj_cif C (wj_rS C dX4_go_4 km_X4_isIn kl_X4_64 (c_X4_isIn l V) rfl rfl (Nat.le_of_ble_eq_true rfl) (by decide)) ?_
  refine wj_if_ne C 17 dX4_go_7 (by decide) (fun h7 => ?_) (fun h7 => ?_)
  · obtain ⟨m, h1m, hm, rfl⟩ := sp_nat1 (M := 60) (wj_c1 h7)
    refine wj_aload_n C 0 dX4_go_17 rfl rfl ?_
    refine wg_X4_12 C dX4_go_18 ?_
    refine wg_X4_119 C dX4_go_21 (by first | assumption | omega) ?_
    rw [sp_put_5, hG.2.2.1]
    refine wj_ldc C dX4_go_24 kc_X4_138 ?_
    refine wj_iload_n C 1 dX4_go_26 rfl rfl ?_
    refine wj_isub C dX4_go_27 ?_
    refine wj_top (y := nI (99999 - m)) (by rw [show (99999 : Int32) = nI 99999 from rfl, pk_sub (by omega)]) ?_
    refine wj_icmp_le C 38 dX4_go_28 (by decide) (fun h28 => ?_) (fun h28 => absurd (nI_le (a := y) (b := 99999 - m) (by omega) (by omega)) h28)
    refine wj_aload_n C 0 dX4_go_38 rfl rfl ?_
    refine wg_X4_12 C dX4_go_39 ?_
    refine wj_iload_n C 1 dX4_go_42 rfl rfl ?_
    refine wj_cvf C (wj_rV C dX4_go_43 km_X0_passYears kl_X4_140 (is_X0 (by first | assumption | omega)) rfl rfl (c_X0_passYears l V (by decide) hG.1 hG.2.1 hG.2.2.1 (by omega)) rfl rfl (Nat.le_of_ble_eq_true rfl) (by decide)) ?_
    refine wj_aload_n C 0 dX4_go_46 rfl rfl ?_
    refine wg_X4_12 C dX4_go_47 ?_
    refine wj_cif C (wj_rV C dX4_go_50 km_X0_gapSet kl_X4_144 (is_X0 (by first | assumption | omega)) rfl rfl (c_X0_gapSet l V (by decide) ((sp_yrs_c A m).trans hG.1) hG.2.1) rfl rfl (Nat.le_of_ble_eq_true rfl) (by decide)) ?_
    exact hR _ _ _ _ _ dX4_go_53 (sp_rv1 (by rw [a_go, if_pos (wj_c1 h7), nI_clamp (by omega)]) (by rw [n_go, if_pos (wj_c1 h7), nI_clamp (by omega)])) wj_rfl
  · refine wj_aload_n C 0 dX4_go_10 rfl rfl ?_
    refine wj_ldc C dX4_go_11 kc_X4_68 ?_
    refine wj_cif C (wj_rV C dX4_go_13 km_X4_tell kl_X4_69 is_X4 rfl rfl (c_X4_tell (w := 0) l V (by decide) (by decide)) rfl rfl (Nat.le_of_ble_eq_true rfl) (by decide)) ?_
    exact hR _ _ _ _ _ dX4_go_16 (sp_rf1 (by rw [a_go, if_neg (wj_c0 h7)]) (by rw [n_go, if_neg (wj_c0 h7)]) (by decide)) wj_rfl
set_option maxRecDepth 100000 in
set_option maxHeartbeats 4000000 in
theorem c_X4_now (l : Launch) (V : wj_V) {σ : wj_St} {A : sp_L} {N y : Nat} {w : Int32} (hG : sp_G A N y) (hy : y < 90000) : wj_M l V yX4_now cX4_now 2 (some .int) 4 88 [.ref (V.2.2.1 0), .int w] (sp_put σ 1 A) (wj_QI V (fun r u => r = sp_v (a_now A w) ∧ u = sp_put (sp_tw σ (a_now A w)) 1 A)) := by
  refine wj_ofI (own := RX4) [some (.ref (V.2.2.1 0)), some (.int w)] (by decide) rfl rfl (Nat.le_of_ble_eq_true rfl) (fun X C hR => ?_)
  refine wj_iload_n C 1 dX4_now_0 rfl rfl ?_
  refine wj_swc C (0) (47) 48 dX4_now_1 (by decide) (by decide) (by decide) (by decide) (fun h1_0 => ?_) (fun h1_0 => ?_)
  · subst h1_0
    refine wj_aload_n C 0 dX4_now_48 rfl rfl ?_
    refine wg_X4_12 C dX4_now_49 ?_
    refine wg_X4_119 C dX4_now_52 (by first | assumption | omega) ?_
    rw [sp_put_5]
    exact hR _ _ _ _ _ dX4_now_55 (sp_rv1 rfl rfl) wj_rfl
  refine wj_swc C (1) (55) 56 dX4_now_1 (by decide) (by decide) (by decide) (by decide) (fun h1_1 => ?_) (fun h1_1 => ?_)
  · subst h1_1
    refine wj_aload_n C 0 dX4_now_56 rfl rfl ?_
    refine wg_X4_12 C dX4_now_57 ?_
    refine wj_cif C (wj_rV C dX4_now_60 km_X0_gapSet kl_X4_144 (is_X0 (by first | assumption | omega)) rfl rfl (c_X0_gapSet l V (by decide) hG.1 hG.2.1) rfl rfl (Nat.le_of_ble_eq_true rfl) (by decide)) ?_
    exact hR _ _ _ _ _ dX4_now_63 (sp_rv1 rfl rfl) wj_rfl
  refine wj_swc C (2) (63) 64 dX4_now_1 (by decide) (by decide) (by decide) (by decide) (fun h1_2 => ?_) (fun h1_2 => ?_)
  · subst h1_2
    refine wj_aload_n C 0 dX4_now_64 rfl rfl ?_
    refine wg_X4_12 C dX4_now_65 ?_
    refine wg_X4_148 C dX4_now_68 (by first | assumption | omega) ?_
    rw [sp_put_4]
    exact hR _ _ _ _ _ dX4_now_71 (sp_rv1 rfl rfl) wj_rfl
  refine wj_swc C (3) (71) 72 dX4_now_1 (by decide) (by decide) (by decide) (by decide) (fun h1_3 => ?_) (fun h1_3 => ?_)
  · subst h1_3
    refine wj_aload_n C 0 dX4_now_72 rfl rfl ?_
    refine wg_X4_12 C dX4_now_73 ?_
    refine wg_X4_73 C dX4_now_76 (by first | assumption | omega) ?_
    rw [sp_put_3]
    exact hR _ _ _ _ _ dX4_now_79 (sp_rv1 rfl rfl) wj_rfl
  refine wj_swc C (4) (79) 80 dX4_now_1 (by decide) (by decide) (by decide) (by decide) (fun h1_4 => ?_) (fun h1_4 => ?_)
  · subst h1_4
    refine wj_aload_n C 0 dX4_now_80 rfl rfl ?_
    refine wg_X4_12 C dX4_now_81 ?_
    refine wj_cif C (wj_rV C dX4_now_84 km_X0_weakestPlace kl_X4_151 (is_X0 (by first | assumption | omega)) rfl rfl (c_X0_weakestPlace l V (by decide) hG.1 hG.2.1) rfl rfl (Nat.le_of_ble_eq_true rfl) (by decide)) ?_
    exact hR _ _ _ _ _ dX4_now_87 (sp_rv1 rfl rfl) wj_rfl
  refine wj_swc C (5) (87) 88 dX4_now_1 (by decide) (by decide) (by decide) (by decide) (fun h1_5 => ?_) (fun h1_5 => ?_)
  · subst h1_5
    refine wj_aload_n C 0 dX4_now_88 rfl rfl ?_
    refine wg_X4_12 C dX4_now_89 ?_
    refine wj_iconst (v := 3) C dX4_now_92 (by decide) ?_
    refine wj_cif C (wj_rV C dX4_now_93 km_X0_sumOf kl_X4_154 (is_X0 (by first | assumption | omega)) rfl rfl (c_X0_sumOf l V (by decide) hG.1 hG.2.1) rfl rfl (Nat.le_of_ble_eq_true rfl) (by decide)) ?_
    exact hR _ _ _ _ _ dX4_now_96 (sp_rv1 rfl rfl) wj_rfl
  refine wj_swc C (6) (96) 97 dX4_now_1 (by decide) (by decide) (by decide) (by decide) (fun h1_6 => ?_) (fun h1_6 => ?_)
  · subst h1_6
    refine wj_aload_n C 0 dX4_now_97 rfl rfl ?_
    refine wg_X4_12 C dX4_now_98 ?_
    refine wj_bipush (v := 6) C dX4_now_101 (by decide) ?_
    refine wj_cif C (wj_rV C dX4_now_103 km_X0_sumOf kl_X4_154 (is_X0 (by first | assumption | omega)) rfl rfl (c_X0_sumOf l V (by decide) hG.1 hG.2.1) rfl rfl (Nat.le_of_ble_eq_true rfl) (by decide)) ?_
    exact hR _ _ _ _ _ dX4_now_106 (sp_rv1 rfl rfl) wj_rfl
  refine wj_swc C (7) (106) 107 dX4_now_1 (by decide) (by decide) (by decide) (by decide) (fun h1_7 => ?_) (fun h1_7 => ?_)
  · subst h1_7
    refine wj_aload_n C 0 dX4_now_107 rfl rfl ?_
    refine wg_X4_12 C dX4_now_108 ?_
    refine wj_iconst (v := 2) C dX4_now_111 (by decide) ?_
    refine wj_cif C (wj_rV C dX4_now_112 km_X0_sumOf kl_X4_154 (is_X0 (by first | assumption | omega)) rfl rfl (c_X0_sumOf l V (by decide) hG.1 hG.2.1) rfl rfl (Nat.le_of_ble_eq_true rfl) (by decide)) ?_
    exact hR _ _ _ _ _ dX4_now_115 (sp_rv1 rfl rfl) wj_rfl
  refine wj_tabOut C 116 dX4_now_1 (by have q0 := lv_neT h1_0 (a := 0) (by decide); have q1 := lv_neT h1_1 (a := 1) (by decide); have q2 := lv_neT h1_2 (a := 2) (by decide); have q3 := lv_neT h1_3 (a := 3) (by decide); have q4 := lv_neT h1_4 (a := 4) (by decide); have q5 := lv_neT h1_5 (a := 5) (by decide); have q6 := lv_neT h1_6 (a := 6) (by decide); have q7 := lv_neT h1_7 (a := 7) (by decide); omega) (by decide) ?_
  refine wj_aload_n C 0 dX4_now_116 rfl rfl ?_
  refine wj_ldc C dX4_now_117 kc_X4_68 ?_
  refine wj_cif C (wj_rV C dX4_now_119 km_X4_tell kl_X4_69 is_X4 rfl rfl (c_X4_tell (w := 0) l V (by decide) (by decide)) rfl rfl (Nat.le_of_ble_eq_true rfl) (by decide)) ?_
  exact hR _ _ _ _ _ dX4_now_122 (sp_rf1 (by rw [a_now, if_neg h1_0, if_neg h1_1, if_neg h1_2, if_neg h1_3, if_neg h1_4, if_neg h1_5, if_neg h1_6, if_neg h1_7]) rfl (by decide)) wj_rfl

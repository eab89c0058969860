theorem sp_ssub (a b : Int32) : a - (a - b) = b := by
  apply Int32.toBitVec_inj.mp
  simp only [Int32.toBitVec_sub]
  apply BitVec.eq_of_toNat_eq
  simp only [BitVec.toNat_sub]
  have h1 := a.toBitVec.isLt
  have h2 := b.toBitVec.isLt
  omega
theorem sp_wv (t : Nat) (h : t ≤ 99) : nI 99 - nI t = nI (99 - t) := pk_sub h
theorem sp_wvs (t : Nat) : (nI 99 - nI t) + Int32.ofInt (-1) = nI 99 - nI (t + 1) := by
  rw [← nI_1 t]
  apply Int32.toBitVec_inj.mp
  simp only [Int32.toBitVec_sub, Int32.toBitVec_add]
  show _ + (-1#32) = _ - (_ + 1#32)
  rw [BitVec.sub_eq_add_neg, BitVec.sub_eq_add_neg, BitVec.neg_add, BitVec.add_assoc, BitVec.sub_eq_add_neg]
theorem sp_pw2 : ∀ N, N ≤ 8 → ((1 : Int32) <<< (nI N &&& 31)) = nI (2 ^ N) := by
  intro N hN
  have : ∀ n, n < 9 → ((1 : Int32) <<< (nI n &&& 31)) = nI (2 ^ n) := by decide +kernel
  exact this N (by omega)
theorem sp_pw2_le : ∀ N, N ≤ 8 → 2 ^ N ≤ 256 := fun N hN => (Nat.pow_le_pow_right (by decide) hN : 2 ^ N ≤ 2 ^ 8)
theorem a_wf_y {p : Nat → Bool} {t : Nat} (h1 : ∀ k, k < t → p k = false) (h2 : p t = true) (ht : t < 100) : a_wf p = .inr (nI (99 - t)) := by
  rw [a_wf, fa_first_is h1 h2 ht, if_pos ht]
theorem a_wf_n {p : Nat → Bool} (h1 : ∀ k, k < 100 → p k = false) : a_wf p = .inl 3 := by
  rw [a_wf, fa_first_none h1, if_neg (by omega)]
theorem sp_lb_2 (ok : Nat → Bool) : ∀ s, (sp_lb ok s).2 ≤ 16
  | 0 => by show 9 ≤ 16; decide
  | s + 1 => by
    rw [sp_lb]
    split
    · exact sp_pc_le s
    · exact sp_lb_2 ok s
theorem sp_lb_1 (ok : Nat → Bool) : ∀ s b, (sp_lb ok s).1 = some b → b < s
  | 0, b, h => by simp [sp_lb] at h
  | s + 1, b, h => by
    rw [sp_lb] at h
    split at h
    · have : s = b := Option.some.inj h
      omega
    · have := sp_lb_1 ok s b h
      omega
theorem sp_un_wL (A : sp_L) (z : Nat → Int32) : ∀ m, sp_un (sp_wL A z) m = sp_un A m
  | 0 => rfl
  | m + 1 => by rw [sp_un, sp_un, sp_un_wL A z m]; rfl
theorem sp_gap_wL (A : sp_L) (z : Nat → Int32) : sp_gap (sp_wL A z) = sp_gap A := by
  rw [sp_gap, sp_gap, show sp_N (sp_wL A z) = sp_N A from rfl, sp_un_wL]
theorem sp_str_b {s : Nat → Int32} (h : sp_gs s) (y : Int32) : ∃ q, q ≤ 200 ∧ sp_str s y = nI q := by
  obtain ⟨t, _, et, ht⟩ := wj_nat (x := s 3) h.2.2.2.1.1
  obtain ⟨w, _, ew, hw⟩ := wj_nat (x := s 5) (by have := h.2.2.2.2.2.1.1; omega)
  obtain ⟨g, _, eg, hg⟩ := wj_nat (x := s 2) h.2.2.1.1
  have h3 := h.2.2.2.1.2
  have h5 := h.2.2.2.2.2.1.2
  have h2 := h.2.2.1.2
  have e12 : s 3 + 12 - s 5 = nI (t + 12 - w) := by
    rw [et, ew, show (12 : Int32) = nI 12 from rfl, nI_add, pk_sub (by omega)]
  have ep : ∃ p, p ≤ t + 10 ∧ sp_pro s = nI p := by
    unfold sp_pro
    split
    · exact ⟨t + 10, Nat.le_refl _, by rw [et, show (10 : Int32) = nI 10 from rfl, nI_add]⟩
    · exact ⟨t, by omega, et⟩
  obtain ⟨p, hp, ep⟩ := ep
  unfold sp_str
  rw [e12, ep]
  split
  · exact ⟨_, by omega, rfl⟩
  split
  · split
    · exact ⟨t + 12 - w + 5, by omega, by rw [show (5 : Int32) = nI 5 from rfl, nI_add]⟩
    · exact ⟨_, by omega, rfl⟩
  split
  · exact ⟨p, by omega, rfl⟩
  split
  · exact ⟨p + g / 5, by omega, by rw [eg, show (5 : Int32) = nI 5 from rfl, pk_div (by omega) (by decide) (by decide), nI_add]⟩
  split
  · exact ⟨t / 2, by omega, by rw [et, show (2 : Int32) = nI 2 from rfl, pk_div (by omega) (by decide) (by decide)]⟩
  · exact ⟨t, by omega, et⟩
theorem sp_sg_b {A : sp_L} {N y : Nat} (h : sp_G A N y) (p : Int32) : ∀ m, m ≤ N → ∃ q, q ≤ 40 + 200 * m ∧ sp_sg A p m = nI q
  | 0, _ => by
    rw [sp_sg]
    split
    · exact ⟨40, by omega, rfl⟩
    · exact ⟨0, by omega, rfl⟩
  | m + 1, hm => by
    obtain ⟨q, hq, eq⟩ := sp_sg_b h p m (by omega)
    obtain ⟨r, hr, er⟩ := sp_str_b (h.2.2.2.1 m (by omega)) A.1
    rw [sp_sg]
    split
    · exact ⟨q + r, by omega, by rw [eq, er, nI_add]⟩
    · exact ⟨q, by omega, eq⟩
theorem sp_stg_b {A : sp_L} {N y : Nat} (h : sp_G A N y) (p : Int32) : ∃ q, q ≤ 1640 ∧ sp_stg A p = nI q := by
  obtain ⟨q, hq, eq⟩ := sp_sg_b h p N (Nat.le_refl _)
  have := h.2.1
  exact ⟨q, by omega, by rw [sp_stg, sp_N_of h.1 h.2.1, eq]⟩
/-- with nothing on the list no year breaks a place -/
theorem sp_calm {A : sp_L} {N y : Nat} (h : sp_G A N y) : ∀ m, sp_yrs (sp_wL A (fun _ => 0)) m = sp_wL (sp_yxs true A m) (fun _ => 0)
  | 0 => rfl
  | m + 1 => by
    rw [sp_yrs, sp_calm h m, sp_yxs]
    have hG := sp_G_yxs (c := true) h m
    have hG2 : sp_G (sp_wL (sp_yxs true A m) (fun _ => 0)) N (y + m) := ⟨hG.1, hG.2.1, hG.2.2.1, hG.2.2.2.1, fun i _ => by show 0 ≤ (0 : Int32).toInt ∧ (0 : Int32).toInt < 1600; decide, hG.2.2.2.2.2⟩
    generalize sp_yxs true A m = B at hG hG2
    obtain ⟨q, hq, eq⟩ := sp_stg_b hG2 (sp_le (sp_wL B fun _ => 0) / 100)
    have hl : sp_lean (sp_wL B fun _ => 0) = sp_wL B fun _ => 0 := by
      unfold sp_lean
      rw [eq, show sp_le (sp_wL B fun _ => 0) = 0 from rfl, show (0 : Int32) - 0 / 100 * 100 = 0 by decide]
      rw [if_neg (show ¬ nI q < 0 from nI_nlt (a := q) (b := 0) (by omega) (by omega))]
    unfold sp_yr
    rw [hl]
    rfl
set_option maxRecDepth 100000 in
set_option maxHeartbeats 4000000 in
theorem c_X4_weightFor (l : Launch) (V : wj_V) {σ : wj_St} {A T : sp_L} {N y : Nat} {x nn : Int32} (hG : sp_G A N y) (hy : y < 90000) : wj_M l V yX4_weightFor cX4_weightFor 5 (some .int) 5 112 [.ref (V.2.2.1 0), .int x, .int nn] (sp_put (sp_put σ 1 A) 2 T) (wj_QI V (fun r u => r = sp_v (a_weightFor A x nn) ∧ ∃ T2, u = sp_put (sp_put (sp_tw σ (a_weightFor A x nn)) 1 A) 2 T2)) := by
  refine wj_ofI (own := RX4) [some (.ref (V.2.2.1 0)), some (.int x), some (.int nn), none, none] (by decide) rfl rfl (Nat.le_of_ble_eq_true rfl) (fun X C hR => ?_)
  have lp : ∀ i m, x = nI i → nn = nI m → i ≤ 5 → m ≤ 60 → a_weightFor A x nn = a_wf (sp_wq A i m) → ∀ n t T2, t ≤ 100 → 100 - t < n → (∀ k, k < t → sp_wq A i m k = false) → wj_J l V X 51 [some (.ref (V.2.2.1 0)), some (.int (nI i)), some (.int (nI m)), some (.int (sp_ls A i / 100 * 100)), some (.int (nI 99 - nI t))] [] (sp_put (sp_put σ 1 A) 2 T2) := by
    intro i m hx hn2 hi hm ha n
    subst hx
    subst hn2
    have hN8 := hG.2.1
    induction n with
    | zero => intro t T2 _ h _; omega
    | succ n ih =>
      intro t T2 ht hlt9 hno
      refine wj_iload C dX4_weightFor_51 rfl ?_
      refine wj_if_lt C 100 dX4_weightFor_53 (by decide) (fun h53 => ?_) (fun h53 => ?_)
      · have e9 : t = 100 := by
          rcases Nat.lt_or_ge t 100 with q | q
          · rw [sp_wv t (by omega)] at h53; exact absurd h53 (Int32.not_lt.mpr (nI_pos' (by omega)))
          · omega
        subst e9
        refine wj_aload_n C 0 dX4_weightFor_100 rfl rfl ?_
        refine wj_ldc C dX4_weightFor_101 kc_X4_173 ?_
        refine wj_cif C (wj_rV C dX4_weightFor_103 km_X4_tell kl_X4_69 is_X4 rfl rfl (c_X4_tell (w := 3) l V (by decide) (by decide)) rfl rfl (Nat.le_of_ble_eq_true rfl) (by decide)) ?_
        exact hR _ _ _ _ _ dX4_weightFor_106 (sp_rf (by rw [ha]; exact a_wf_n hno) (by decide)) wj_rfl
      · have hlt : t < 100 := by
          rcases Nat.lt_or_ge t 100 with q | q
          · exact q
          · exact absurd (show nI 99 - nI t < 0 by rw [show t = 100 by omega]; decide) h53
        rw [sp_wv t (by omega)]
        refine wj_aload_n C 0 dX4_weightFor_56 rfl rfl ?_
        refine wg_X4_16 C dX4_weightFor_57 ?_
        refine wj_aload_n C 0 dX4_weightFor_60 rfl rfl ?_
        refine wg_X4_12 C dX4_weightFor_61 ?_
        refine wj_cvf C (wj_rV C dX4_weightFor_64 km_X0_become kl_X4_160 (is_X0 (by first | assumption | omega)) rfl rfl (c_X0_become l V (by decide) (by decide) (by decide) (sp_put_2.trans hG.1) hG.2.1) rfl rfl (Nat.le_of_ble_eq_true rfl) (by decide)) ?_
        rw [sp_bgt hG.1 hG.2.1]
        refine wj_aload_n C 0 dX4_weightFor_67 rfl rfl ?_
        refine wg_X4_16 C dX4_weightFor_68 ?_
        refine wg_X4_98 C dX4_weightFor_71 (by first | assumption | omega) ?_
        refine wj_iload_n C 1 dX4_weightFor_74 rfl rfl ?_
        refine wj_iload_n C 3 dX4_weightFor_75 rfl rfl ?_
        refine wj_iload C dX4_weightFor_76 rfl ?_
        refine wj_iadd C dX4_weightFor_78 ?_
        refine wj_iastN C dX4_weightFor_79 (ar_leanings (by first | assumption | omega)) ⟨by omega, by decide⟩ ?_
        rw [wj_u_r, sp_put_l, sp_put_rl]
        refine wj_aload_n C 0 dX4_weightFor_80 rfl rfl ?_
        refine wg_X4_16 C dX4_weightFor_81 ?_
        refine wj_iload_n C 2 dX4_weightFor_84 rfl rfl ?_
        refine wj_ci C (wj_rV C dX4_weightFor_85 km_X0_madeNoGapIn kl_X4_184 (is_X0 (by first | assumption | omega)) rfl rfl (c_X0_madeNoGapIn l V (by decide) (A := (sp_wL (sp_bec T2 A) (upd A.2.2.2.2.1 i (sp_ls A i / 100 * 100 + nI (99 - t))))) hG.1 hG.2.1 hG.2.2.1 (by omega) hG.2.2.2.2.2) rfl rfl (Nat.le_of_ble_eq_true rfl) (by decide)) (fun r u hru => ?_)
        obtain ⟨hr9, T3, rfl⟩ := hru
        refine wj_if_eq C 94 dX4_weightFor_88 (by decide) (fun h88 => ?_) (fun h88 => ?_)
        · have hp : sp_wq A i m t = false := by
            rw [hr9, (re_yrs (re_wL (re_bec T2 A) (g' := upd A.2.2.2.2.1 i (sp_ls A i / 100 * 100 + nI (99 - t))) (fun _ _ => rfl)) hG.2.2.1 m (by omega)).2.2.2.1] at h88
            exact decide_eq_false (wj_c0 h88)
          rw [← sp_wv t (by omega)]
          refine wj_iinc C (v := nI 99 - nI (t + 1)) dX4_weightFor_94 rfl (sp_wvs t) (by decide) rfl ?_
          dsimp only [List.set]
          refine wj_goto C 51 dX4_weightFor_97 (by decide) ?_
          exact ih (t + 1) T3 (by omega) (by omega) (sp_nxt hno hp)
        · have hp : sp_wq A i m t = true := by
            rw [hr9, (re_yrs (re_wL (re_bec T2 A) (g' := upd A.2.2.2.2.1 i (sp_ls A i / 100 * 100 + nI (99 - t))) (fun _ _ => rfl)) hG.2.2.1 m (by omega)).2.2.2.1] at h88
            exact decide_eq_true (wj_c1 h88)
          refine wj_iload C dX4_weightFor_91 rfl ?_
          exact hR _ _ _ _ _ dX4_weightFor_93 (sp_rv (by rw [ha]; exact a_wf_y hno hp hlt)) wj_rfl
  refine wj_iload_n C 1 dX4_weightFor_0 rfl rfl ?_
  refine wj_cif C (wj_rS C dX4_weightFor_1 km_X4_isListed kl_X4_92 (c_X4_isListed l V) rfl rfl (Nat.le_of_ble_eq_true rfl) (by decide)) ?_
  refine wj_if_eq C 17 dX4_weightFor_4 (by decide) (fun h4 => ?_) (fun h4 => ?_)
  · refine wj_aload_n C 0 dX4_weightFor_17 rfl rfl ?_
    refine wj_ldc C dX4_weightFor_18 kc_X4_68 ?_
    refine wj_cif C (wj_rV C dX4_weightFor_20 km_X4_tell kl_X4_69 is_X4 rfl rfl (c_X4_tell (w := 0) l V (by decide) (by decide)) rfl rfl (Nat.le_of_ble_eq_true rfl) (by decide)) ?_
    exact hR _ _ _ _ _ dX4_weightFor_23 (sp_rf (by rw [a_weightFor, if_neg (fun q => by first | exact wj_c0 h4 q.1 | exact wj_c0 h14 q.2)]) (by decide)) wj_rfl
  · refine wj_iload_n C 2 dX4_weightFor_7 rfl rfl ?_
    refine wj_iconst (v := 0) C dX4_weightFor_8 (by decide) ?_
    refine wj_bipush (v := 60) C dX4_weightFor_9 (by decide) ?_
    refine wj_cif C (wj_rS C dX4_weightFor_11 km_X4_isIn kl_X4_64 (c_X4_isIn l V) rfl rfl (Nat.le_of_ble_eq_true rfl) (by decide)) ?_
    refine wj_if_ne C 24 dX4_weightFor_14 (by decide) (fun h14 => ?_) (fun h14 => ?_)
    · obtain ⟨m, hm, rfl⟩ := wj_natC (N := 60) (wj_c1 h14)
      obtain ⟨i, hi, rfl⟩ := wj_natC (N := 5) (wj_c1 h4)
      have ha : a_weightFor A (nI i) (nI m) = a_wf (sp_wq A i m) := by rw [a_weightFor, if_pos ⟨wj_c1 h4, wj_c1 h14⟩, nI_clamp (by omega), nI_clamp (by omega)]
      refine wj_aload_n C 0 dX4_weightFor_24 rfl rfl ?_
      refine wg_X4_12 C dX4_weightFor_25 ?_
      refine wg_X4_98 C dX4_weightFor_28 (by first | assumption | omega) ?_
      refine wj_iload_n C 1 dX4_weightFor_31 rfl rfl ?_
      refine wj_ialdN C dX4_weightFor_32 (ar_leanings (by first | assumption | omega)) ⟨by omega, by decide⟩ ?_
      rw [sp_put_o (by decide), sp_put_l]
      refine wj_aload_n C 0 dX4_weightFor_33 rfl rfl ?_
      refine wg_X4_12 C dX4_weightFor_34 ?_
      refine wg_X4_98 C dX4_weightFor_37 (by first | assumption | omega) ?_
      refine wj_iload_n C 1 dX4_weightFor_40 rfl rfl ?_
      refine wj_ialdN C dX4_weightFor_41 (ar_leanings (by first | assumption | omega)) ⟨by omega, by decide⟩ ?_
      rw [sp_put_o (by decide), sp_put_l]
      refine wj_bipush (v := 100) C dX4_weightFor_42 (by decide) ?_
      refine wj_irem C dX4_weightFor_44 (by decide) ?_
      refine wj_isub C dX4_weightFor_45 ?_
      rw [sp_ssub]
      refine wj_istore_n C 3 dX4_weightFor_46 rfl (by decide) rfl ?_
      dsimp only [List.set]
      refine wj_bipush (v := 99) C dX4_weightFor_47 (by decide) ?_
      refine wj_istore C dX4_weightFor_49 (by decide) rfl ?_
      dsimp only [List.set]
      exact lp i m rfl rfl hi hm ha 101 0 _ (by omega) (by omega) (fun k hk => absurd hk (by omega))
    · refine wj_aload_n C 0 dX4_weightFor_17 rfl rfl ?_
      refine wj_ldc C dX4_weightFor_18 kc_X4_68 ?_
      refine wj_cif C (wj_rV C dX4_weightFor_20 km_X4_tell kl_X4_69 is_X4 rfl rfl (c_X4_tell (w := 0) l V (by decide) (by decide)) rfl rfl (Nat.le_of_ble_eq_true rfl) (by decide)) ?_
      exact hR _ _ _ _ _ dX4_weightFor_23 (sp_rf (by rw [a_weightFor, if_neg (fun q => by first | exact wj_c0 h4 q.1 | exact wj_c0 h14 q.2)]) (by decide)) wj_rfl
set_option maxRecDepth 100000 in
set_option maxHeartbeats 4000000 in
theorem c_X4_layAll (l : Launch) (V : wj_V) {σ : wj_St} {A T : sp_L} {N y : Nat} {nn : Int32} (hG : sp_G A N y) (hy : y < 90000) : wj_M l V yX4_layAll cX4_layAll 5 (some .int) 5 111 [.ref (V.2.2.1 0), .int nn] (sp_put (sp_put σ 1 A) 2 T) (wj_QI V (fun r u => r = sp_v (a_layAll A nn) ∧ ∃ T2, u = sp_put (sp_put (sp_tw σ (a_layAll A nn)) 1 A) 2 T2)) := by
  refine wj_ofI (own := RX4) [some (.ref (V.2.2.1 0)), some (.int nn), none, none, none] (by decide) rfl rfl (Nat.le_of_ble_eq_true rfl) (fun X C hR => ?_)
  have h256 := sp_pw2_le N hG.2.1
  have lp : ∀ m, nn = nI m → m ≤ 40 → a_layAll A nn = a_lb (sp_lb (sp_lo2 A m) (2 ^ sp_N A)).1 → ∀ n s T2, s ≤ 2 ^ N → 2 ^ N - s < n → wj_J l V X 25 [some (.ref (V.2.2.1 0)), some (.int (nI m)), some (.int (sp_ob (sp_lb (sp_lo2 A m) s).1)), some (.int (nI (sp_lb (sp_lo2 A m) s).2)), some (.int (nI s))] [] (sp_put (sp_put σ 1 A) 2 T2) := by
    intro m hn2 hm ha n
    subst hn2
    have hN8 := hG.2.1
    induction n with
    | zero => intro s T2 _ h; omega
    | succ n ih =>
      intro s T2 hs hlt9
      have h16 := sp_lb_2 (sp_lo2 A m) s
      have hps := sp_pc_le s
      refine wj_iload C dX4_layAll_25 rfl ?_
      refine wj_iconst (v := 1) C dX4_layAll_27 (by decide) ?_
      refine wj_aload_n C 0 dX4_layAll_28 rfl rfl ?_
      refine wg_X4_12 C dX4_layAll_29 ?_
      refine wg_X4_112 C dX4_layAll_32 (by first | assumption | omega) ?_
      rw [sp_put_o (by decide), sp_put_2, hG.1]
      refine wj_ishl C dX4_layAll_35 ?_
      refine wj_top (y := nI (2 ^ N)) (sp_pw2 N hG.2.1) ?_
      refine wj_icmp_ge C 104 dX4_layAll_36 (by decide) (fun h36 => ?_) (fun h36 => ?_)
      · have e9 := wj_ge (N := 2 ^ N) (by omega) hs h36
        subst e9
        refine wj_iload_n C 2 dX4_layAll_104 rfl rfl ?_
        refine wj_if_ge C 117 dX4_layAll_105 (by decide) (fun h105 => ?_) (fun h105 => ?_)
        · obtain ⟨b, hb⟩ : ∃ b, (sp_lb (sp_lo2 A m) (2 ^ N)).1 = some b := by
            cases hc : (sp_lb (sp_lo2 A m) (2 ^ N)).1 with
            | none => rw [hc] at h105; exact absurd h105 (by decide)
            | some b => exact ⟨b, rfl⟩
          refine wj_iload_n C 2 dX4_layAll_117 rfl rfl ?_
          exact hR _ _ _ _ _ dX4_layAll_118 (by first | exact sp_rf (by rw [ha, sp_N_of hG.1 hG.2.1, hb]; rfl) (by decide) | exact sp_rv (by rw [ha, sp_N_of hG.1 hG.2.1, hb]; rfl)) wj_rfl
        · have hb : (sp_lb (sp_lo2 A m) (2 ^ N)).1 = none := by
            cases hc : (sp_lb (sp_lo2 A m) (2 ^ N)).1 with
            | none => rfl
            | some b =>
              have := sp_lb_1 _ _ _ hc
              rw [hc] at h105
              exact absurd (nI_pos' (by omega)) h105
          refine wj_aload_n C 0 dX4_layAll_108 rfl rfl ?_
          refine wj_ldc C dX4_layAll_109 kc_X4_173 ?_
          refine wj_cif C (wj_rV C dX4_layAll_111 km_X4_tell kl_X4_69 is_X4 rfl rfl (c_X4_tell (w := 3) l V (by decide) (by decide)) rfl rfl (Nat.le_of_ble_eq_true rfl) (by decide)) ?_
          refine wj_goto C 118 dX4_layAll_114 (by decide) ?_
          exact hR _ _ _ _ _ dX4_layAll_118 (by first | exact sp_rf (by rw [ha, sp_N_of hG.1 hG.2.1, hb]; rfl) (by decide) | exact sp_rv (by rw [ha, sp_N_of hG.1 hG.2.1, hb]; rfl)) wj_rfl
      · have hlt := wj_nge (N := 2 ^ N) (by omega) hs h36
        refine wj_iload C dX4_layAll_39 rfl ?_
        refine wj_cif C (wj_rS C dX4_layAll_41 km_J6_bitCount_0f7a4 kl_X4_187 (c_J6_bitCount_0f7a4 l V (show s < 65536 by omega)) rfl rfl (Nat.le_of_ble_eq_true rfl) (by decide)) ?_
        refine wj_iload_n C 3 dX4_layAll_44 rfl rfl ?_
        refine wj_icmp_lt C 51 dX4_layAll_45 (by decide) (fun h45 => ?_) (fun h45 => ?_)
        · have hq := (nI_ltI (by omega) (by omega)).mp h45
          refine wj_aload_n C 0 dX4_layAll_51 rfl rfl ?_
          refine wg_X4_16 C dX4_layAll_52 ?_
          refine wj_aload_n C 0 dX4_layAll_55 rfl rfl ?_
          refine wg_X4_12 C dX4_layAll_56 ?_
          refine wj_cvf C (wj_rV C dX4_layAll_59 km_X0_become kl_X4_160 (is_X0 (by first | assumption | omega)) rfl rfl (c_X0_become l V (by decide) (by decide) (by decide) (sp_put_2.trans hG.1) hG.2.1) rfl rfl (Nat.le_of_ble_eq_true rfl) (by decide)) ?_
          rw [sp_bgt hG.1 hG.2.1]
          refine wj_aload_n C 0 dX4_layAll_62 rfl rfl ?_
          refine wg_X4_16 C dX4_layAll_63 ?_
          refine wj_iload C dX4_layAll_66 rfl ?_
          refine wj_cvf C (wj_rV C dX4_layAll_68 km_X0_layToGreater kl_X4_192 (is_X0 (by first | assumption | omega)) rfl rfl (c_X0_layToGreater (A := sp_bec T2 A) l V (by decide) hG.1 hG.2.1) rfl rfl (Nat.le_of_ble_eq_true rfl) (by decide)) ?_
          refine wj_aload_n C 0 dX4_layAll_71 rfl rfl ?_
          refine wg_X4_16 C dX4_layAll_72 ?_
          refine wj_iload_n C 1 dX4_layAll_75 rfl rfl ?_
          refine wj_cvf C (wj_rV C dX4_layAll_76 km_X0_passYears kl_X4_140 (is_X0 (by first | assumption | omega)) rfl rfl (c_X0_passYears l V (by decide) (A := (sp_layN (sp_bec T2 A) (nI s) (sp_N (sp_bec T2 A)))) hG.1 hG.2.1 hG.2.2.1 (by omega)) rfl rfl (Nat.le_of_ble_eq_true rfl) (by decide)) ?_
          refine wj_aload_n C 0 dX4_layAll_79 rfl rfl ?_
          refine wg_X4_16 C dX4_layAll_80 ?_
          refine wj_cif C (wj_rV C dX4_layAll_83 km_X0_gapSet kl_X4_144 (is_X0 (by first | assumption | omega)) rfl rfl (c_X0_gapSet l V (by decide) ((sp_yrs_c (sp_layN (sp_bec T2 A) (nI s) (sp_N (sp_bec T2 A))) m).trans hG.1) hG.2.1) rfl rfl (Nat.le_of_ble_eq_true rfl) (by decide)) ?_
          rw [re_gap (re_yrs (re_layN (re_bec T2 A) (nI s) (sp_N (sp_bec T2 A))) hG.2.2.1 m (by omega))]
          refine wj_if_ne C 98 dX4_layAll_86 (by decide) (fun h86 => ?_) (fun h86 => ?_)
          · have e8 : sp_lb (sp_lo2 A m) (s + 1) = sp_lb (sp_lo2 A m) s := by
              rw [sp_lb, if_neg]
              intro q
              exact h86 (of_decide_eq_true q.2)
            refine wj_iinc C (v := nI (s + 1)) dX4_layAll_98 rfl (wj_i1 s) (by decide) rfl ?_
            dsimp only [List.set]
            refine wj_goto C 25 dX4_layAll_101 (by decide) ?_
            exact (by have hh := fun T3 => ih (s + 1) T3 (by omega) (by omega); rw [e8] at hh; exact hh _)
          · have e8 : sp_lb (sp_lo2 A m) (s + 1) = (some s, sp_pc s) := by
              rw [sp_lb, if_pos ⟨hq, decide_eq_true h86⟩]
            refine wj_iload C dX4_layAll_89 rfl ?_
            refine wj_istore_n C 2 dX4_layAll_91 rfl (by decide) rfl ?_
            dsimp only [List.set]
            refine wj_iload C dX4_layAll_92 rfl ?_
            refine wj_cif C (wj_rS C dX4_layAll_94 km_J6_bitCount_0f7a4 kl_X4_187 (c_J6_bitCount_0f7a4 l V (show s < 65536 by omega)) rfl rfl (Nat.le_of_ble_eq_true rfl) (by decide)) ?_
            refine wj_istore_n C 3 dX4_layAll_97 rfl (by decide) rfl ?_
            dsimp only [List.set]
            refine wj_iinc C (v := nI (s + 1)) dX4_layAll_98 rfl (wj_i1 s) (by decide) rfl ?_
            dsimp only [List.set]
            refine wj_goto C 25 dX4_layAll_101 (by decide) ?_
            exact (by have hh := fun T3 => ih (s + 1) T3 (by omega) (by omega); rw [e8] at hh; exact hh _)
        · have e8 : sp_lb (sp_lo2 A m) (s + 1) = sp_lb (sp_lo2 A m) s := by
            rw [sp_lb, if_neg]
            intro q
            exact h45 ((nI_ltI (by omega) (by omega)).mpr q.1)
          refine wj_goto C 98 dX4_layAll_48 (by decide) ?_
          refine wj_iinc C (v := nI (s + 1)) dX4_layAll_98 rfl (wj_i1 s) (by decide) rfl ?_
          dsimp only [List.set]
          refine wj_goto C 25 dX4_layAll_101 (by decide) ?_
          exact (by have hh := fun T3 => ih (s + 1) T3 (by omega) (by omega); rw [e8] at hh; exact hh _)
  refine wj_iload_n C 1 dX4_layAll_0 rfl rfl ?_
  refine wj_iconst (v := 0) C dX4_layAll_1 (by decide) ?_
  refine wj_bipush (v := 40) C dX4_layAll_2 (by decide) ?_
  refine wj_cif C (wj_rS C dX4_layAll_4 km_X4_isIn kl_X4_64 (c_X4_isIn l V) rfl rfl (Nat.le_of_ble_eq_true rfl) (by decide)) ?_
  refine wj_if_ne C 17 dX4_layAll_7 (by decide) (fun h7 => ?_) (fun h7 => ?_)
  · obtain ⟨m, hm, rfl⟩ := wj_natC (N := 40) (wj_c1 h7)
    have ha : a_layAll A (nI m) = a_lb (sp_lb (sp_lo2 A m) (2 ^ sp_N A)).1 := by rw [a_layAll, if_pos (wj_c1 h7), nI_clamp (by omega)]
    refine wj_iconst (v := -1) C dX4_layAll_17 (by decide) ?_
    refine wj_istore_n C 2 dX4_layAll_18 rfl (by decide) rfl ?_
    dsimp only [List.set]
    refine wj_bipush (v := 9) C dX4_layAll_19 (by decide) ?_
    refine wj_istore_n C 3 dX4_layAll_21 rfl (by decide) rfl ?_
    dsimp only [List.set]
    refine wj_iconst (v := 0) C dX4_layAll_22 (by decide) ?_
    refine wj_istore C dX4_layAll_23 (by decide) rfl ?_
    dsimp only [List.set]
    exact lp m rfl hm ha (2 ^ N + 1) 0 _ (Nat.zero_le _) (by rw [Nat.sub_zero]; exact Nat.lt_succ_self _)
  · refine wj_aload_n C 0 dX4_layAll_10 rfl rfl ?_
    refine wj_ldc C dX4_layAll_11 kc_X4_68 ?_
    refine wj_cif C (wj_rV C dX4_layAll_13 km_X4_tell kl_X4_69 is_X4 rfl rfl (c_X4_tell (w := 0) l V (by decide) (by decide)) rfl rfl (Nat.le_of_ble_eq_true rfl) (by decide)) ?_
    exact hR _ _ _ _ _ dX4_layAll_16 (sp_rf (by rw [a_layAll, if_neg (wj_c0 h7)]) (by decide)) wj_rfl
set_option maxRecDepth 100000 in
set_option maxHeartbeats 4000000 in
theorem c_X4_hurdlesFor (l : Launch) (V : wj_V) {σ : wj_St} {A T : sp_L} {N y : Nat} {nn : Int32} (hG : sp_G A N y) (hy : y < 90000) : wj_M l V yX4_hurdlesFor cX4_hurdlesFor 2 (some .int) 5 111 [.ref (V.2.2.1 0), .int nn] (sp_put (sp_put σ 1 A) 2 T) (wj_QI V (fun r u => r = sp_v (a_hurdlesFor A nn) ∧ ∃ T2, u = sp_put (sp_put (sp_tw σ (a_hurdlesFor A nn)) 1 A) 2 T2)) := by
  refine wj_ofI (own := RX4) [some (.ref (V.2.2.1 0)), some (.int nn)] (by decide) rfl rfl (Nat.le_of_ble_eq_true rfl) (fun X C hR => ?_)
  refine wj_iload_n C 1 dX4_hurdlesFor_0 rfl rfl ?_
  refine wj_iconst (v := 0) C dX4_hurdlesFor_1 (by decide) ?_
  refine wj_bipush (v := 60) C dX4_hurdlesFor_2 (by decide) ?_
  refine wj_cif C (wj_rS C dX4_hurdlesFor_4 km_X4_isIn kl_X4_64 (c_X4_isIn l V) rfl rfl (Nat.le_of_ble_eq_true rfl) (by decide)) ?_
  refine wj_if_ne C 17 dX4_hurdlesFor_7 (by decide) (fun h7 => ?_) (fun h7 => ?_)
  · obtain ⟨m, hm, rfl⟩ := wj_natC (N := 60) (wj_c1 h7)
    have hG9 : sp_G (sp_wH A 0) N y := ⟨hG.1, hG.2.1, hG.2.2.1, hG.2.2.2.1, hG.2.2.2.2.1, hG.2.2.2.2.2⟩
    refine wj_aload_n C 0 dX4_hurdlesFor_17 rfl rfl ?_
    refine wg_X4_16 C dX4_hurdlesFor_18 ?_
    refine wj_aload_n C 0 dX4_hurdlesFor_21 rfl rfl ?_
    refine wg_X4_12 C dX4_hurdlesFor_22 ?_
    refine wj_cvf C (wj_rV C dX4_hurdlesFor_25 km_X0_become kl_X4_160 (is_X0 (by first | assumption | omega)) rfl rfl (c_X0_become l V (by decide) (by decide) (by decide) (sp_put_2.trans hG.1) hG.2.1) rfl rfl (Nat.le_of_ble_eq_true rfl) (by decide)) ?_
    rw [sp_bgt hG.1 hG.2.1]
    refine wj_aload_n C 0 dX4_hurdlesFor_28 rfl rfl ?_
    refine wg_X4_16 C dX4_hurdlesFor_29 ?_
    refine wj_iconst (v := 0) C dX4_hurdlesFor_32 (by decide) ?_
    refine wp_X4_73 C dX4_hurdlesFor_33 (by first | assumption | omega) ?_
    rw [sp_put_u3]
    refine wj_aload_n C 0 dX4_hurdlesFor_36 rfl rfl ?_
    refine wg_X4_16 C dX4_hurdlesFor_37 ?_
    refine wg_X4_98 C dX4_hurdlesFor_40 (by first | assumption | omega) ?_
    refine wj_iconst (v := 0) C dX4_hurdlesFor_43 (by decide) ?_
    refine wj_cvf C (wj_rS C dX4_hurdlesFor_44 km_J7_fill_53178 kl_X4_56 (c_J7_fill_53178 l V (ar_leanings (k := 2) (by decide)) (by decide)) rfl rfl (Nat.le_of_ble_eq_true rfl) (by decide)) ?_
    rw [sp_put_l, sp_put_rl]
    refine wj_aload_n C 0 dX4_hurdlesFor_47 rfl rfl ?_
    refine wg_X4_16 C dX4_hurdlesFor_48 ?_
    refine wj_iload_n C 1 dX4_hurdlesFor_51 rfl rfl ?_
    refine wj_cvf C (wj_rV C dX4_hurdlesFor_52 km_X0_passYears kl_X4_140 (is_X0 (by first | assumption | omega)) rfl rfl (c_X0_passYears l V (by decide) (A := (sp_wL (sp_wH (sp_bec T A) 0) (sp_fi A.2.2.2.2.1 0 6))) hG.1 hG.2.1 hG.2.2.1 (by omega)) rfl rfl (Nat.le_of_ble_eq_true rfl) (by decide)) ?_
    refine wj_aload_n C 0 dX4_hurdlesFor_55 rfl rfl ?_
    refine wg_X4_16 C dX4_hurdlesFor_56 ?_
    refine wj_cif C (wj_rV C dX4_hurdlesFor_59 km_X0_gapSet kl_X4_144 (is_X0 (by first | assumption | omega)) rfl rfl (c_X0_gapSet l V (by decide) ((sp_yrs_c (sp_wL (sp_wH (sp_bec T A) 0) (sp_fi A.2.2.2.2.1 0 6)) m).trans hG.1) hG.2.1) rfl rfl (Nat.le_of_ble_eq_true rfl) (by decide)) ?_
    obtain ⟨k, hk, ek⟩ := sp_gap_n (sp_yxs true (sp_wH A 0) m)
    rw [re_gap (re_yrs (re_wL (re_wH (re_bec T A) 0) (g := sp_fi A.2.2.2.2.1 0 6) (g' := fun _ => 0) (fun i hi => if_pos hi)) hG.2.2.1 m (by omega)), sp_calm hG9 m, sp_gap_wL, ek]
    refine wj_cif C (wj_rS C dX4_hurdlesFor_62 km_J6_bitCount_0f7a4 kl_X4_187 (c_J6_bitCount_0f7a4 l V hk) rfl rfl (Nat.le_of_ble_eq_true rfl) (by decide)) ?_
    exact hR _ _ _ _ _ dX4_hurdlesFor_65 (sp_rv (by rw [a_hurdlesFor, if_pos (wj_c1 h7), nI_clamp (by omega), sp_gn_of ek hk])) wj_rfl
  · refine wj_aload_n C 0 dX4_hurdlesFor_10 rfl rfl ?_
    refine wj_ldc C dX4_hurdlesFor_11 kc_X4_68 ?_
    refine wj_cif C (wj_rV C dX4_hurdlesFor_13 km_X4_tell kl_X4_69 is_X4 rfl rfl (c_X4_tell (w := 0) l V (by decide) (by decide)) rfl rfl (Nat.le_of_ble_eq_true rfl) (by decide)) ?_
    exact hR _ _ _ _ _ dX4_hurdlesFor_16 (sp_rf (by rw [a_hurdlesFor, if_neg (wj_c0 h7)]) (by decide)) wj_rfl

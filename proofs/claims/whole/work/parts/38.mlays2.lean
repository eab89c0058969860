theorem sp_wb_ov {A : sp_L} {i : Nat} {x y : Int32} : sp_wL (sp_wb A i x) (upd (sp_wb A i x).2.2.2.2.1 i y) = sp_wL A (upd A.2.2.2.2.1 i y) := by
  have e : upd (sp_wb A i x).2.2.2.2.1 i y = upd A.2.2.2.2.1 i y := by
    funext j
    show upd (upd A.2.2.2.2.1 i _) i y j = _
    simp only [upd]
    split <;> rfl
  rw [e]
  rfl
theorem sp_wb_id {A : sp_L} {i : Nat} : sp_wL A (upd A.2.2.2.2.1 i (sp_ls A i)) = A := by
  have e : upd A.2.2.2.2.1 i (sp_ls A i) = A.2.2.2.2.1 := by
    funext j
    simp only [upd]
    split
    · subst_vars; rfl
    · rfl
  rw [e]
  rfl
theorem sp_G_wb {A : sp_L} {N y i w : Nat} (h : sp_G A N y) (hi : i < 6) (hw : w ≤ 99) : sp_G (sp_wb A i (nI w)) N y := by
  obtain ⟨e, _, ee, he⟩ := wj_nat (h.2.2.2.2.1 i hi).1
  have h9 := (h.2.2.2.2.1 i hi).2
  have e2 : sp_ls A i / 100 * 100 + nI w = nI (e / 100 * 100 + w) := by
    rw [ee, show (100 : Int32) = nI 100 from rfl, pk_div (by omega) (by decide) (by decide), pk_mul, nI_add]
  rw [sp_wb, e2]
  exact sp_G_ent h (by omega)
def sp_wv2 (p : Nat → Bool) : Int32 := if fa_first p 100 < 100 then nI (99 - fa_first p 100) else -1
theorem sp_wv2_y {p : Nat → Bool} {t : Nat} (h1 : ∀ k, k < t → p k = false) (h2 : p t = true) (ht : t < 100) : nI (99 - t) = sp_wv2 p := by rw [sp_wv2, fa_first_is h1 h2 ht, if_pos ht]
theorem sp_wv2_n {p : Nat → Bool} (h1 : ∀ k, k < 100 → p k = false) : -1 = sp_wv2 p := by rw [sp_wv2, fa_first_none h1, if_neg (by omega)]
theorem c_X5_orNone_w (l : Launch) (V : wj_V) {σ : wj_St} {p : Nat → Bool} : wj_M l V yX5_orNone cX5_orNone 2 (some .int) 1 21 [.ref (V.2.2.1 48), .int (sp_wv2 p)] σ (wj_I V (sp_v (a_wf p)) (sp_fw σ (a_wf p))) := by
  unfold sp_wv2 a_wf
  by_cases h : fa_first p 100 < 100
  · rw [if_pos h, if_pos h]; exact c_X5_orNone l V (by omega)
  · rw [if_neg h, if_neg h]; exact c_X5_orNone_no l V
theorem c_X5_orNone_o (l : Launch) (V : wj_V) {σ : wj_St} {q : Option Nat} (hq : ∀ b, q = some b → b < 65536) : wj_M l V yX5_orNone cX5_orNone 2 (some .int) 1 21 [.ref (V.2.2.1 48), .int (sp_ob q)] σ (wj_I V (sp_v (a_lb q)) (sp_fw σ (a_lb q))) := by
  cases q with
  | none => exact c_X5_orNone_no l V
  | some b => exact c_X5_orNone l V (by have := hq b rfl; omega)
/-! the least set of the fewest, from above -/
def sp_dn (ok : Nat → Bool) (W : Nat) : Nat → Option Nat
  | 0 => none
  | t + 1 => if ok (W - 1 - t) = true ∧ (∀ b, sp_dn ok W t = some b → sp_pc (W - 1 - t) ≤ sp_pc b) then some (W - 1 - t) else sp_dn ok W t
def sp_is (ok : Nat → Bool) (lo hi : Nat) : Option Nat → Prop
  | none => ∀ s, lo ≤ s → s < hi → ok s = false
  | some b => (lo ≤ b ∧ b < hi ∧ ok b = true) ∧ ∀ s, lo ≤ s → s < hi → ok s = true → sp_pc b < sp_pc s ∨ (sp_pc b = sp_pc s ∧ b ≤ s)
theorem sp_is_u {ok : Nat → Bool} {lo hi : Nat} : ∀ {p q : Option Nat}, sp_is ok lo hi p → sp_is ok lo hi q → p = q
  | none, none, _, _ => rfl
  | none, some b, h, g => by have := h b g.1.1 g.1.2.1; rw [g.1.2.2] at this; exact absurd this (by decide)
  | some a, none, h, g => by have := g a h.1.1 h.1.2.1; rw [h.1.2.2] at this; exact absurd this (by decide)
  | some a, some b, h, g => by
    have h1 := h.2 b g.1.1 g.1.2.1 g.1.2.2
    have h2 := g.2 a h.1.1 h.1.2.1 h.1.2.2
    have : a = b := by omega
    rw [this]
theorem sp_pc8 {s : Nat} (h : s < 256) : sp_pc s ≤ 8 := by
  have := sp_pcF_add 8 8 s
  rw [show s / 2 ^ 8 = 0 by omega, sp_pcF_0] at this
  have h2 := sp_pcF_le 8 (s % 2 ^ 8)
  show sp_pcF (8 + 8) s ≤ 8
  omega
theorem sp_lb_is (ok : Nat → Bool) : ∀ k, k ≤ 256 → sp_is ok 0 k (sp_lb ok k).1 ∧ (sp_lb ok k).2 = (match (sp_lb ok k).1 with | none => 9 | some b => sp_pc b)
  | 0, _ => ⟨fun s _ h => absurd h (Nat.not_lt_zero _), rfl⟩
  | k + 1, hk => by
    obtain ⟨h1, h2⟩ := sp_lb_is ok k (by omega)
    have h8 := sp_pc8 (s := k) (by omega)
    rw [sp_lb]
    cases hc : (sp_lb ok k).1 with
    | none =>
      rw [hc] at h1 h2
      have h2' : (sp_lb ok k).2 = 9 := h2
      by_cases c : sp_pc k < (sp_lb ok k).2 ∧ ok k = true
      · rw [if_pos c]
        refine ⟨⟨⟨Nat.zero_le _, Nat.lt_succ_self _, c.2⟩, fun s _ hs ho => ?_⟩, rfl⟩
        rcases Nat.lt_or_eq_of_le (Nat.le_of_lt_succ hs) with q | q
        · have := h1 s (Nat.zero_le _) q
          rw [ho] at this
          exact absurd this (by decide)
        · subst q; exact Or.inr ⟨rfl, Nat.le_refl _⟩
      · rw [if_neg c, hc]
        refine ⟨fun s _ hs => ?_, h2'⟩
        rcases Nat.lt_or_eq_of_le (Nat.le_of_lt_succ hs) with q | q
        · exact h1 s (Nat.zero_le _) q
        · subst q
          cases ho : ok s with
          | false => rfl
          | true => exact absurd ⟨by omega, ho⟩ c
    | some b =>
      rw [hc] at h1 h2
      have h2' : (sp_lb ok k).2 = sp_pc b := h2
      by_cases c : sp_pc k < (sp_lb ok k).2 ∧ ok k = true
      · rw [if_pos c]
        refine ⟨⟨⟨Nat.zero_le _, Nat.lt_succ_self _, c.2⟩, fun s _ hs ho => ?_⟩, rfl⟩
        rcases Nat.lt_or_eq_of_le (Nat.le_of_lt_succ hs) with q | q
        · have := h1.2 s (Nat.zero_le _) q ho
          have c1 := c.1
          left
          omega
        · subst q; exact Or.inr ⟨rfl, Nat.le_refl _⟩
      · rw [if_neg c, hc]
        refine ⟨⟨⟨Nat.zero_le _, Nat.lt_succ_of_lt h1.1.2.1, h1.1.2.2⟩, fun s _ hs ho => ?_⟩, h2'⟩
        rcases Nat.lt_or_eq_of_le (Nat.le_of_lt_succ hs) with q | q
        · exact h1.2 s (Nat.zero_le _) q ho
        · subst q
          have hb := h1.1.2.1
          have : ¬ sp_pc s < (sp_lb ok s).2 := fun z => c ⟨z, ho⟩
          omega
theorem sp_dn_is (ok : Nat → Bool) (W : Nat) : ∀ t, t ≤ W → sp_is ok (W - t) W (sp_dn ok W t)
  | 0, _ => fun s h1 h2 => absurd h1 (by omega)
  | t + 1, ht => by
    have ih := sp_dn_is ok W t (by omega)
    have es : W - (t + 1) = W - 1 - t := by omega
    rw [sp_dn, es]
    cases hc : sp_dn ok W t with
    | none =>
      rw [hc] at ih
      by_cases c : ok (W - 1 - t) = true
      · rw [if_pos ⟨c, fun b hb => by simp at hb⟩]
        refine ⟨⟨Nat.le_refl _, by omega, c⟩, fun s h1 h2 ho => ?_⟩
        by_cases q : s = W - 1 - t
        · subst q; exact Or.inr ⟨rfl, Nat.le_refl _⟩
        · have := ih s (by omega) h2
          rw [ho] at this
          exact absurd this (by decide)
      · rw [if_neg (fun z => c z.1)]
        intro s h1 h2
        by_cases q : s = W - 1 - t
        · subst q
          cases ho : ok (W - 1 - t) with
          | false => rfl
          | true => exact absurd ho c
        · exact ih s (by omega) h2
    | some b =>
      rw [hc] at ih
      by_cases c : ok (W - 1 - t) = true ∧ sp_pc (W - 1 - t) ≤ sp_pc b
      · rw [if_pos ⟨c.1, fun b2 hb => by rw [← Option.some.inj hb]; exact c.2⟩]
        refine ⟨⟨Nat.le_refl _, by omega, c.1⟩, fun s h1 h2 ho => ?_⟩
        by_cases q : s = W - 1 - t
        · subst q; exact Or.inr ⟨rfl, Nat.le_refl _⟩
        · have := ih.2 s (by omega) h2 ho
          have c2 := c.2
          have := ih.1.1
          omega
      · rw [if_neg (fun z => c ⟨z.1, z.2 b rfl⟩)]
        refine ⟨⟨by have := ih.1.1; omega, ih.1.2.1, ih.1.2.2⟩, fun s h1 h2 ho => ?_⟩
        by_cases q : s = W - 1 - t
        · subst q
          have : ¬ sp_pc (W - 1 - t) ≤ sp_pc b := fun z => c ⟨ho, z⟩
          omega
        · exact ih.2 s (by omega) h2 ho
theorem sp_dn_lb (ok : Nat → Bool) {W : Nat} (h : W ≤ 256) : sp_dn ok W W = (sp_lb ok W).1 := by
  have a := sp_dn_is ok W W (Nat.le_refl _)
  rw [Nat.sub_self] at a
  exact sp_is_u a (sp_lb_is ok W h).1
theorem sp_G_lay {A : sp_L} {N y : Nat} (h : sp_G A N y) (s : Int32) (k : Nat) : sp_G (sp_layN A s k) N y := by
  refine ⟨h.1, h.2.1, h.2.2.1, fun j hj => ?_, h.2.2.2.2.1, h.2.2.2.2.2⟩
  show sp_gs (if j < k then upd (sp_sl A j) 4 _ else sp_sl A j)
  split
  · split
    · exact sp_gs_u (f := 4) (v := 1) (h.2.2.2.1 j hj) (Or.inr (Or.inr (Or.inl ⟨rfl, by decide⟩)))
    · exact sp_gs_u (f := 4) (v := 0) (h.2.2.2.1 j hj) (Or.inr (Or.inr (Or.inl ⟨rfl, by decide⟩)))
  · exact h.2.2.2.1 j hj
theorem sp_lay_us {A : sp_L} {s : Int32} {i : Nat} : sp_us (sp_layN A s i) i 4 (if sp_hur s (nI i) = true then 1 else 0) = sp_layN A s (i + 1) := by
  rw [← sp_lay_s, sp_us, sp_lay_i]
  simp only [sp_hur, decide_eq_true_eq]
theorem sp_mxw {t : Nat} (h : t ≤ 99) : (if (0 : Int32) < nI 99 - nI (t + 1) then nI 99 - nI (t + 1) else 0) = nI (99 - (t + 1)) := (sp_mx0 (h := 99) (q := t + 1) (by decide) (by omega)).1
set_option maxRecDepth 100000 in
set_option maxHeartbeats 4000000 in
theorem c_X5_weightFor (l : Launch) (V : wj_V) {σ : wj_St} {A : sp_L} {N y : Nat} {x nn : Int32} (hG : sp_G A N y) (hy : y < 90000) (hc : σ 48 5 = 0) : wj_M l V yX5_weightFor cX5_weightFor 5 (some .int) 9 203 [.ref (V.2.2.1 48), .int x, .int nn] (sp_mq σ A) (wj_QI V (fun r u => r = sp_v (a_weightFor A x nn) ∧ ∃ g, u = sp_mq (wj_r (sp_fw σ (a_weightFor A x nn)) 51 g) A)) := by
  refine wj_ofI (own := RX5) [some (.ref (V.2.2.1 48)), some (.int x), some (.int nn), none, none] (by decide) rfl rfl (Nat.le_of_ble_eq_true rfl) (fun X C hR => ?_)
  have lp : ∀ i m, x = nI i → nn = nI m → i ≤ 5 → m ≤ 60 → a_weightFor A x nn = a_wf (sp_wq A i m) → ∀ n t g, t ≤ 100 → 100 - t < n → (∀ k, k < t → sp_wq A i m k = false) → wj_J l V X 52 [some (.ref (V.2.2.1 48)), some (.int (nI i)), some (.int (nI m)), some (.int (sp_ls A i)), some (.int (nI 99 - nI t))] [] (sp_mq (wj_r σ 51 g) (sp_wb A i (nI (99 - t)))) := by
    intro i m hx hn2 hi hm ha n
    subst hx
    subst hn2
    induction n with
    | zero => intro t g _ h _; omega
    | succ n ih =>
      intro t g ht hlt9 hno
      refine wj_iload C dX5_weightFor_52 rfl ?_
      refine wj_if_lt C 99 dX5_weightFor_54 (by decide) (fun h54 => ?_) (fun h54 => ?_)
      · have e9 : t = 100 := by
          rcases Nat.lt_or_ge t 100 with q | q
          · rw [sp_wv t (by omega)] at h54; exact absurd h54 (Int32.not_lt.mpr (nI_pos' (by omega)))
          · omega
        have hv : nI 99 - nI t = sp_wv2 (sp_wq A i m) := by
          subst e9
          rw [← sp_wv2_n hno]
          decide
        refine wj_aload_n C 0 dX5_weightFor_99 rfl rfl ?_
        refine wg_X5_9 C dX5_weightFor_100 ?_
        refine wj_iconst (v := 5) C dX5_weightFor_103 (by decide) ?_
        refine wj_iload_n C 1 dX5_weightFor_104 rfl rfl ?_
        refine wj_iadd C dX5_weightFor_105 ?_
        refine wj_top (y := nI (5 + i)) (nI_add 5 i) ?_
        refine wj_iload_n C 3 dX5_weightFor_106 rfl rfl ?_
        refine wj_iastN C dX5_weightFor_107 ar_now ⟨by omega, by decide⟩ ?_
        rw [sp_mq_ul (by omega), sp_wb_ov, sp_wb_id]
        refine wj_aload_n C 0 dX5_weightFor_108 rfl rfl ?_
        refine wj_iload C dX5_weightFor_109 rfl ?_
        refine wj_top (y := sp_wv2 (sp_wq A i m)) hv ?_
        refine wj_cif C (wj_rV C dX5_weightFor_111 km_X5_orNone kl_X5_186 is_X5 rfl rfl (c_X5_orNone_w l V) rfl rfl (Nat.le_of_ble_eq_true rfl) (by decide)) ?_
        exact hR _ _ _ _ _ dX5_weightFor_114 (by rw [ha]; exact ⟨rfl, sp_rwH⟩) wj_rfl
      · have hlt : t < 100 := by
          rcases Nat.lt_or_ge t 100 with q | q
          · exact q
          · exact absurd (show nI 99 - nI t < 0 by rw [show t = 100 by omega]; decide) h54
        refine wj_aload_n C 0 dX5_weightFor_57 rfl rfl ?_
        refine wj_iload_n C 2 dX5_weightFor_58 rfl rfl ?_
        refine wj_cif C (wj_rV C dX5_weightFor_59 km_X5_madeBehind kl_X5_201 is_X5 rfl rfl (c_X5_madeBehind l V (sp_G_wb hG (by omega) (by omega)) hy (by rw [sp_r51]; exact hc) (by omega)) rfl rfl (Nat.le_of_ble_eq_true rfl) (by decide)) ?_
        rw [sp_as_rr]
        refine wj_aload_n C 0 dX5_weightFor_62 rfl rfl ?_
        refine wg_X5_9 C dX5_weightFor_63 ?_
        refine wj_iconst (v := 4) C dX5_weightFor_66 (by decide) ?_
        refine wj_ialdN C dX5_weightFor_67 ar_now ⟨by decide, by decide⟩ ?_
        rw [sp_mq_49, sp_mr_4, show (sp_wb A i (nI (99 - t))).2.2.2.1 = A.2.2.2.1 from rfl]
        refine wj_icmp_eq C 99 dX5_weightFor_68 (by decide) (fun h68 => ?_) (fun h68 => ?_)
        · have hp : sp_wq A i m t = true := decide_eq_true h68
          have hv : nI 99 - nI t = sp_wv2 (sp_wq A i m) := by rw [sp_wv t (by omega)]; exact sp_wv2_y hno hp hlt
          refine wj_aload_n C 0 dX5_weightFor_99 rfl rfl ?_
          refine wg_X5_9 C dX5_weightFor_100 ?_
          refine wj_iconst (v := 5) C dX5_weightFor_103 (by decide) ?_
          refine wj_iload_n C 1 dX5_weightFor_104 rfl rfl ?_
          refine wj_iadd C dX5_weightFor_105 ?_
          refine wj_top (y := nI (5 + i)) (nI_add 5 i) ?_
          refine wj_iload_n C 3 dX5_weightFor_106 rfl rfl ?_
          refine wj_iastN C dX5_weightFor_107 ar_now ⟨by omega, by decide⟩ ?_
          rw [sp_mq_ul (by omega), sp_wb_ov, sp_wb_id]
          refine wj_aload_n C 0 dX5_weightFor_108 rfl rfl ?_
          refine wj_iload C dX5_weightFor_109 rfl ?_
          refine wj_top (y := sp_wv2 (sp_wq A i m)) hv ?_
          refine wj_cif C (wj_rV C dX5_weightFor_111 km_X5_orNone kl_X5_186 is_X5 rfl rfl (c_X5_orNone_w l V) rfl rfl (Nat.le_of_ble_eq_true rfl) (by decide)) ?_
          exact hR _ _ _ _ _ dX5_weightFor_114 (by rw [ha]; exact ⟨rfl, sp_rwH⟩) wj_rfl
        · have hp : sp_wq A i m t = false := decide_eq_false h68
          refine wj_iinc C (v := nI 99 - nI (t + 1)) dX5_weightFor_71 rfl (sp_wvs t) (by decide) rfl ?_
          dsimp only [List.set]
          refine wj_aload_n C 0 dX5_weightFor_74 rfl rfl ?_
          refine wg_X5_9 C dX5_weightFor_75 ?_
          refine wj_iconst (v := 5) C dX5_weightFor_78 (by decide) ?_
          refine wj_iload_n C 1 dX5_weightFor_79 rfl rfl ?_
          refine wj_iadd C dX5_weightFor_80 ?_
          refine wj_top (y := nI (5 + i)) (nI_add 5 i) ?_
          refine wj_iload_n C 3 dX5_weightFor_81 rfl rfl ?_
          refine wj_bipush (v := 100) C dX5_weightFor_82 (by decide) ?_
          refine wj_idiv C dX5_weightFor_84 (by decide) ?_
          refine wj_bipush (v := 100) C dX5_weightFor_85 (by decide) ?_
          refine wj_imul C dX5_weightFor_87 ?_
          refine wj_iconst (v := 0) C dX5_weightFor_88 (by decide) ?_
          refine wj_iload C dX5_weightFor_89 rfl ?_
          refine wj_max C dX5_weightFor_91 kx_X5_85 (by decide) (Nat.le_of_ble_eq_true rfl) ?_
          rw [sp_mxw (by omega)]
          refine wj_iadd C dX5_weightFor_94 ?_
          refine wj_iastN C dX5_weightFor_95 ar_now ⟨by omega, by decide⟩ ?_
          rw [sp_mq_ul (by omega), sp_wb_ov]
          refine wj_goto C 52 dX5_weightFor_96 (by decide) ?_
          exact ih (t + 1) _ (by omega) (by omega) (sp_nxt hno hp)
  refine wj_iload_n C 1 dX5_weightFor_0 rfl rfl ?_
  refine wj_cif C (wj_rS C dX5_weightFor_1 km_X5_isLeaning kl_X5_126 (c_X5_isLeaning l V) rfl rfl (Nat.le_of_ble_eq_true rfl) (by decide)) ?_
  refine wj_if_eq C 14 dX5_weightFor_4 (by decide) (fun h4 => ?_) (fun h4 => ?_)
  · refine wj_aload_n C 0 dX5_weightFor_14 rfl rfl ?_
    refine wj_ldc C dX5_weightFor_15 kc_X5_60 ?_
    refine wj_cif C (wj_rV C dX5_weightFor_17 km_X5_finding kl_X5_66 is_X5 rfl rfl (c_X5_finding (w := 0) l V (by decide) (by decide)) rfl rfl (Nat.le_of_ble_eq_true rfl) (by decide)) ?_
    exact hR _ _ _ _ _ dX5_weightFor_20 (sp_rfM (by rw [a_weightFor]; exact if_neg (fun q => by first | exact wj_c0 h4 q.1 | exact wj_c0 h11 q.2)) rfl rfl (by decide)) wj_rfl
  · refine wj_iload_n C 2 dX5_weightFor_7 rfl rfl ?_
    refine wj_cif C (wj_rS C dX5_weightFor_8 km_X5_isThought kl_X5_195 (c_X5_isThought l V) rfl rfl (Nat.le_of_ble_eq_true rfl) (by decide)) ?_
    refine wj_if_ne C 21 dX5_weightFor_11 (by decide) (fun h11 => ?_) (fun h11 => ?_)
    · have h4a := wj_c1 h4
      have h11a := wj_c1 h11
      obtain ⟨i, hi, rfl⟩ := wj_natC (N := 5) h4a
      obtain ⟨m, hm, rfl⟩ := wj_natC (N := 60) h11a
      have ha : a_weightFor A (nI i) (nI m) = a_wf (sp_wq A i m) := by rw [a_weightFor]; refine (if_pos ⟨h4a, h11a⟩).trans ?_; rw [nI_clamp (by omega), nI_clamp (by omega)]
      refine wj_aload_n C 0 dX5_weightFor_21 rfl rfl ?_
      refine wg_X5_9 C dX5_weightFor_22 ?_
      refine wj_iconst (v := 5) C dX5_weightFor_25 (by decide) ?_
      refine wj_iload_n C 1 dX5_weightFor_26 rfl rfl ?_
      refine wj_iadd C dX5_weightFor_27 ?_
      refine wj_top (y := nI (5 + i)) (nI_add 5 i) ?_
      refine wj_ialdN C dX5_weightFor_28 ar_now ⟨by omega, by decide⟩ ?_
      rw [sp_mq_49, sp_mr_l _ _ (by omega)]
      refine wj_istore_n C 3 dX5_weightFor_29 rfl (by decide) rfl ?_
      dsimp only [List.set]
      refine wj_bipush (v := 99) C dX5_weightFor_30 (by decide) ?_
      refine wj_istore C dX5_weightFor_32 (by decide) rfl ?_
      dsimp only [List.set]
      refine wj_aload_n C 0 dX5_weightFor_34 rfl rfl ?_
      refine wg_X5_9 C dX5_weightFor_35 ?_
      refine wj_iconst (v := 5) C dX5_weightFor_38 (by decide) ?_
      refine wj_iload_n C 1 dX5_weightFor_39 rfl rfl ?_
      refine wj_iadd C dX5_weightFor_40 ?_
      refine wj_top (y := nI (5 + i)) (nI_add 5 i) ?_
      refine wj_iload_n C 3 dX5_weightFor_41 rfl rfl ?_
      refine wj_bipush (v := 100) C dX5_weightFor_42 (by decide) ?_
      refine wj_idiv C dX5_weightFor_44 (by decide) ?_
      refine wj_bipush (v := 100) C dX5_weightFor_45 (by decide) ?_
      refine wj_imul C dX5_weightFor_47 ?_
      refine wj_iload C dX5_weightFor_48 rfl ?_
      refine wj_iadd C dX5_weightFor_50 ?_
      refine wj_iastN C dX5_weightFor_51 ar_now ⟨by omega, by decide⟩ ?_
      rw [sp_mq_ul (by omega), sp_mqr]
      exact lp i m rfl rfl hi hm ha 101 0 _ (by omega) (by omega) (fun k hk => absurd hk (by omega))
    · refine wj_aload_n C 0 dX5_weightFor_14 rfl rfl ?_
      refine wj_ldc C dX5_weightFor_15 kc_X5_60 ?_
      refine wj_cif C (wj_rV C dX5_weightFor_17 km_X5_finding kl_X5_66 is_X5 rfl rfl (c_X5_finding (w := 0) l V (by decide) (by decide)) rfl rfl (Nat.le_of_ble_eq_true rfl) (by decide)) ?_
      exact hR _ _ _ _ _ dX5_weightFor_20 (sp_rfM (by rw [a_weightFor]; exact if_neg (fun q => by first | exact wj_c0 h4 q.1 | exact wj_c0 h11 q.2)) rfl rfl (by decide)) wj_rfl
set_option maxRecDepth 100000 in
set_option maxHeartbeats 4000000 in
theorem c_X5_isWholeBy (l : Launch) (V : wj_V) {σ : wj_St} {A : sp_L} {N y : Nat} {s m : Nat} (hG : sp_G A N y) (hy : y < 90000) (hc : σ 48 5 = 0) (hm : m ≤ 200) : wj_M l V yX5_isWholeBy cX5_isWholeBy 4 (some .boolean) 8 182 [.ref (V.2.2.1 48), .int (nI s), .int (nI m)] (sp_mq σ A) (wj_I V (if sp_lo2 A m s = true then 1 else 0) (sp_mq (sp_as σ A) A)) := by
  refine wj_ofZ (own := RX5) [some (.ref (V.2.2.1 48)), some (.int (nI s)), some (.int (nI m)), none] (by decide) rfl rfl (Nat.le_of_ble_eq_true rfl) (fun X C hR => ?_)
  have hN8 := hG.2.1
  have lp : ∀ n i, i ≤ N → N - i < n → wj_J l V X 13 [some (.ref (V.2.2.1 48)), some (.int (nI s)), some (.int (nI m)), some (.int (nI i))] [] (sp_mq (sp_as σ A) (sp_layN A (nI s) i)) := by
    intro n
    induction n with
    | zero => intro i _ h; omega
    | succ n ih =>
      intro i hi hm9
      refine wj_iload_n C 3 dX5_isWholeBy_13 rfl rfl ?_
      refine wj_aload_n C 0 dX5_isWholeBy_14 rfl rfl ?_
      refine wg_X5_9 C dX5_isWholeBy_15 ?_
      refine wj_iconst (v := 1) C dX5_isWholeBy_18 (by decide) ?_
      refine wj_ialdN C dX5_isWholeBy_19 ar_now ⟨by decide, by decide⟩ ?_
      rw [sp_mq_49, sp_mr_1, show (sp_layN A (nI s) i).2.1 = nI N from hG.1]
      refine wj_icmp_ge C 52 dX5_isWholeBy_20 (by decide) (fun h20 => ?_) (fun h20 => ?_)
      · have e9 := wj_ge (N := N) (by omega) hi h20
        subst e9
        refine wj_aload_n C 0 dX5_isWholeBy_52 rfl rfl ?_
        refine wj_iload_n C 2 dX5_isWholeBy_53 rfl rfl ?_
        refine wj_cvf C (wj_rV C dX5_isWholeBy_54 km_X5_yearsGo kl_X5_167 is_X5 rfl rfl (c_X5_yearsGo (c := false) l V (sp_G_lay hG (nI s) _) (by rw [sp_as_48]; exact hc) (by omega)) rfl rfl (Nat.le_of_ble_eq_true rfl) (by decide)) ?_
        rw [sp_yxs_f]
        refine wj_aload_n C 0 dX5_isWholeBy_57 rfl rfl ?_
        refine wj_cif C (wj_rV C dX5_isWholeBy_58 km_X5_gaps kl_X5_122 is_X5 rfl rfl (c_X5_gaps l V (sp_G_yrs (sp_G_lay hG (nI s) _) m)) rfl rfl (Nat.le_of_ble_eq_true rfl) (by decide)) ?_
        refine wj_if_ne C 68 dX5_isWholeBy_61 (by decide) (fun h61 => ?_) (fun h61 => ?_)
        · have hr9 : (0 : Int32) = if sp_lo2 A m s = true then 1 else 0 := by rw [sp_lo2, sp_N_of hG.1 hG.2.1, decide_eq_false h61]; rfl
          refine wj_iconst (v := 0) C dX5_isWholeBy_68 (by decide) ?_
          refine wj_istore_n C 3 dX5_isWholeBy_69 rfl (by decide) rfl ?_
          dsimp only [List.set]
          refine wj_aload_n C 0 dX5_isWholeBy_70 rfl rfl ?_
          refine wg_X5_16 C dX5_isWholeBy_71 ?_
          refine wj_aload_n C 0 dX5_isWholeBy_74 rfl rfl ?_
          refine wg_X5_9 C dX5_isWholeBy_75 ?_
          refine wj_cvf C (wj_rS C dX5_isWholeBy_78 km_X5_copyRow kl_X5_61 (c_X5_copyRow (a := 51) (b := 49) l V (by decide) (by decide) (by decide)) rfl rfl (Nat.le_of_ble_eq_true rfl) (by decide)) ?_
          rw [sp_as_2]
          refine wj_iload_n C 3 dX5_isWholeBy_81 rfl rfl ?_
          exact hR _ _ _ _ _ dX5_isWholeBy_82 ⟨by decide +kernel, hr9, rfl⟩ wj_rfl
        · have hr9 : (1 : Int32) = if sp_lo2 A m s = true then 1 else 0 := by rw [sp_lo2, sp_N_of hG.1 hG.2.1, decide_eq_true h61]; rfl
          refine wj_iconst (v := 1) C dX5_isWholeBy_64 (by decide) ?_
          refine wj_goto C 69 dX5_isWholeBy_65 (by decide) ?_
          refine wj_istore_n C 3 dX5_isWholeBy_69 rfl (by decide) rfl ?_
          dsimp only [List.set]
          refine wj_aload_n C 0 dX5_isWholeBy_70 rfl rfl ?_
          refine wg_X5_16 C dX5_isWholeBy_71 ?_
          refine wj_aload_n C 0 dX5_isWholeBy_74 rfl rfl ?_
          refine wg_X5_9 C dX5_isWholeBy_75 ?_
          refine wj_cvf C (wj_rS C dX5_isWholeBy_78 km_X5_copyRow kl_X5_61 (c_X5_copyRow (a := 51) (b := 49) l V (by decide) (by decide) (by decide)) rfl rfl (Nat.le_of_ble_eq_true rfl) (by decide)) ?_
          rw [sp_as_2]
          refine wj_iload_n C 3 dX5_isWholeBy_81 rfl rfl ?_
          exact hR _ _ _ _ _ dX5_isWholeBy_82 ⟨by decide +kernel, hr9, rfl⟩ wj_rfl
      · have hlt := wj_nge (N := N) (by omega) hi h20
        refine wj_aload_n C 0 dX5_isWholeBy_23 rfl rfl ?_
        refine wg_X5_9 C dX5_isWholeBy_24 ?_
        refine wj_iload_n C 3 dX5_isWholeBy_27 rfl rfl ?_
        refine wj_iconst (v := 4) C dX5_isWholeBy_28 (by decide) ?_
        refine wj_cif C (wj_rS C dX5_isWholeBy_29 km_X5_slipAt kl_X5_79 (c_X5_slipAt (f := 4) l V) rfl rfl (Nat.le_of_ble_eq_true rfl) (by decide)) ?_
        refine wj_iload_n C 1 dX5_isWholeBy_32 rfl rfl ?_
        refine wj_iload_n C 3 dX5_isWholeBy_33 rfl rfl ?_
        refine wj_cif C (wj_rS C dX5_isWholeBy_34 km_X5_hasBit kl_X5_103 (c_X5_hasBit l V) rfl rfl (Nat.le_of_ble_eq_true rfl) (by decide)) ?_
        refine wj_if_eq C 44 dX5_isWholeBy_37 (by decide) (fun h37 => ?_) (fun h37 => ?_)
        · have hb9 : (0 : Int32) = if sp_hur (nI s) (nI i) = true then 1 else 0 := (if_neg (wj_c0 h37)).symm
          refine wj_iconst (v := 0) C dX5_isWholeBy_44 (by decide) ?_
          refine wj_top (y := if sp_hur (nI s) (nI i) = true then 1 else 0) hb9 ?_
          refine wj_iastN C dX5_isWholeBy_45 ar_now ⟨by omega, by decide⟩ ?_
          rw [sp_mq_us (by omega) (by decide), sp_lay_us]
          refine wj_iinc C (v := nI (i + 1)) dX5_isWholeBy_46 rfl (wj_i1 i) (by decide) rfl ?_
          dsimp only [List.set]
          refine wj_goto C 13 dX5_isWholeBy_49 (by decide) ?_
          exact ih (i + 1) (by omega) (by omega)
        · have hb9 : (1 : Int32) = if sp_hur (nI s) (nI i) = true then 1 else 0 := (if_pos (wj_c1 h37)).symm
          refine wj_iconst (v := 1) C dX5_isWholeBy_40 (by decide) ?_
          refine wj_goto C 45 dX5_isWholeBy_41 (by decide) ?_
          refine wj_top (y := if sp_hur (nI s) (nI i) = true then 1 else 0) hb9 ?_
          refine wj_iastN C dX5_isWholeBy_45 ar_now ⟨by omega, by decide⟩ ?_
          rw [sp_mq_us (by omega) (by decide), sp_lay_us]
          refine wj_iinc C (v := nI (i + 1)) dX5_isWholeBy_46 rfl (wj_i1 i) (by decide) rfl ?_
          dsimp only [List.set]
          refine wj_goto C 13 dX5_isWholeBy_49 (by decide) ?_
          exact ih (i + 1) (by omega) (by omega)
  refine wj_aload_n C 0 dX5_isWholeBy_0 rfl rfl ?_
  refine wg_X5_9 C dX5_isWholeBy_1 ?_
  refine wj_aload_n C 0 dX5_isWholeBy_4 rfl rfl ?_
  refine wg_X5_16 C dX5_isWholeBy_5 ?_
  refine wj_cvf C (wj_rS C dX5_isWholeBy_8 km_X5_copyRow kl_X5_61 (c_X5_copyRow (a := 49) (b := 51) l V (by decide) (by decide) (by decide)) rfl rfl (Nat.le_of_ble_eq_true rfl) (by decide)) ?_
  rw [sp_as_1]
  refine wj_iconst (v := 0) C dX5_isWholeBy_11 (by decide) ?_
  refine wj_istore_n C 3 dX5_isWholeBy_12 rfl (by decide) rfl ?_
  dsimp only [List.set]
  exact (by have hh := lp (N + 1) 0 (by omega) (by omega); rw [sp_lay0] at hh; exact hh)
theorem sp_dn_b {ok : Nat → Bool} {W t b : Nat} (h : sp_dn ok W t = some b) (ht : t ≤ W) : b < W := by
  have := sp_dn_is ok W t ht
  rw [h] at this
  exact this.1.2.1
set_option maxRecDepth 100000 in
set_option maxHeartbeats 4000000 in
theorem c_X5_layAll (l : Launch) (V : wj_V) {σ : wj_St} {A : sp_L} {N y : Nat} {nn : Int32} (hG : sp_G A N y) (hy : y < 90000) (hc : σ 48 5 = 0) : wj_M l V yX5_layAll cX5_layAll 4 (some .int) 9 205 [.ref (V.2.2.1 48), .int nn] (sp_mq σ A) (wj_QI V (fun r u => r = sp_v (a_layAll A nn) ∧ ∃ g, u = sp_mq (wj_r (sp_fw σ (a_layAll A nn)) 51 g) A)) := by
  refine wj_ofI (own := RX5) [some (.ref (V.2.2.1 48)), some (.int nn), none, none] (by decide) rfl rfl (Nat.le_of_ble_eq_true rfl) (fun X C hR => ?_)
  have h256 := sp_pw2_le N hG.2.1
  have hW1 : 1 ≤ 2 ^ N := Nat.two_pow_pos N
  have lp : ∀ m, nn = nI m → m ≤ 40 → a_layAll A nn = a_lb (sp_dn (sp_lo2 A m) (2 ^ N) (2 ^ N)) → ∀ n t g, t ≤ 2 ^ N → 2 ^ N - t < n → wj_J l V X 30 [some (.ref (V.2.2.1 48)), some (.int (nI m)), some (.int (sp_ob (sp_dn (sp_lo2 A m) (2 ^ N) t))), some (.int (nI (2 ^ N - 1) - nI t))] [] (sp_mq (wj_r σ 51 g) A) := by
    intro m hn2 hm ha n
    subst hn2
    induction n with
    | zero => intro t g _ h; omega
    | succ n ih =>
      intro t g ht hlt9
      refine wj_iload_n C 3 dX5_layAll_30 rfl rfl ?_
      refine wj_if_lt C 70 dX5_layAll_31 (by decide) (fun h31 => ?_) (fun h31 => ?_)
      · have e9 : t = 2 ^ N := by
          rcases Nat.lt_or_ge t (2 ^ N) with q | q
          · rw [pk_sub (by omega)] at h31; exact absurd h31 (Int32.not_lt.mpr (nI_pos' (by omega)))
          · omega
        subst e9
        refine wj_aload_n C 0 dX5_layAll_70 rfl rfl ?_
        refine wj_iload_n C 2 dX5_layAll_71 rfl rfl ?_
        refine wj_cif C (wj_rV C dX5_layAll_72 km_X5_orNone kl_X5_186 is_X5 rfl rfl (c_X5_orNone_o l V (fun b hb => by have := sp_dn_b hb (Nat.le_refl _); omega)) rfl rfl (Nat.le_of_ble_eq_true rfl) (by decide)) ?_
        exact hR _ _ _ _ _ dX5_layAll_75 (by rw [ha]; exact ⟨rfl, sp_rwH⟩) wj_rfl
      · have hlt : t < 2 ^ N := by
          rcases Nat.lt_or_ge t (2 ^ N) with z | z
          · exact z
          · exact absurd (show nI (2 ^ N - 1) - nI t < 0 by
              rw [show t = 2 ^ N by omega, Int32.lt_iff_toInt_lt, pk_sub_toInt (by omega) (by omega), Int32.toInt_zero]
              omega) h31
        have hsv : nI (2 ^ N - 1) - nI t = nI (2 ^ N - 1 - t) := pk_sub (by omega)
        rw [hsv]
        refine wj_aload_n C 0 dX5_layAll_34 rfl rfl ?_
        refine wj_iload_n C 3 dX5_layAll_35 rfl rfl ?_
        refine wj_iload_n C 1 dX5_layAll_36 rfl rfl ?_
        refine wj_cif C (wj_rV C dX5_layAll_37 km_X5_isWholeBy kl_X5_204 is_X5 rfl rfl (c_X5_isWholeBy l V hG hy (by rw [sp_r51]; exact hc) (by omega)) rfl rfl (Nat.le_of_ble_eq_true rfl) (by decide)) ?_
        rw [sp_as_rr]
        refine wj_if_eq C 62 dX5_layAll_40 (by decide) (fun h40 => ?_) (fun h40 => ?_)
        · have e8 : sp_dn (sp_lo2 A m) (2 ^ N) (t + 1) = sp_dn (sp_lo2 A m) (2 ^ N) t := by rw [sp_dn, if_neg (fun q => wj_c0 h40 q.1)]
          refine wj_iload_n C 2 dX5_layAll_62 rfl rfl ?_
          refine wj_istore_n C 2 dX5_layAll_63 rfl (by decide) rfl ?_
          dsimp only [List.set]
          rw [← hsv]
          refine wj_iinc C (v := nI (2 ^ N - 1) - nI (t + 1)) dX5_layAll_64 rfl (sp_wva (2 ^ N - 1) t) (by decide) rfl ?_
          dsimp only [List.set]
          refine wj_goto C 30 dX5_layAll_67 (by decide) ?_
          exact (by have hh := fun g3 => ih (t + 1) g3 (by omega) (by omega); rw [e8] at hh; first | exact hh _ | (rw [hb] at hh; exact hh _) | (rw [show sp_ob (some (2 ^ N - 1 - t)) = nI (2 ^ N - 1) - nI t from hsv.symm] at hh; exact hh _))
        · have hok9 := wj_c1 h40
          refine wj_iload_n C 2 dX5_layAll_43 rfl rfl ?_
          refine wj_if_lt C 58 dX5_layAll_44 (by decide) (fun h44 => ?_) (fun h44 => ?_)
          · have e8 : sp_dn (sp_lo2 A m) (2 ^ N) (t + 1) = some (2 ^ N - 1 - t) := by
              have hq : ∀ b, sp_dn (sp_lo2 A m) (2 ^ N) t = some b → sp_pc (2 ^ N - 1 - t) ≤ sp_pc b := fun b hb => by
                rw [hb] at h44
                have := (sp_dn_b hb (by omega))
                exact absurd h44 (Int32.not_lt.mpr (nI_pos' (by omega)))
              rw [sp_dn, if_pos ⟨hok9, hq⟩]
            refine wj_iload_n C 3 dX5_layAll_58 rfl rfl ?_
            refine wj_goto C 63 dX5_layAll_59 (by decide) ?_
            refine wj_istore_n C 2 dX5_layAll_63 rfl (by decide) rfl ?_
            dsimp only [List.set]
            rw [← hsv]
            refine wj_iinc C (v := nI (2 ^ N - 1) - nI (t + 1)) dX5_layAll_64 rfl (sp_wva (2 ^ N - 1) t) (by decide) rfl ?_
            dsimp only [List.set]
            refine wj_goto C 30 dX5_layAll_67 (by decide) ?_
            exact (by have hh := fun g3 => ih (t + 1) g3 (by omega) (by omega); rw [e8] at hh; first | exact hh _ | (rw [hb] at hh; exact hh _) | (rw [show sp_ob (some (2 ^ N - 1 - t)) = nI (2 ^ N - 1) - nI t from hsv.symm] at hh; exact hh _))
          · obtain ⟨b, hb⟩ : ∃ b, sp_dn (sp_lo2 A m) (2 ^ N) t = some b := by
              cases hc9 : sp_dn (sp_lo2 A m) (2 ^ N) t with
              | none => rw [hc9] at h44; exact absurd (by decide) h44
              | some b => exact ⟨b, rfl⟩
            have hb9 := sp_dn_b hb (by omega)
            refine wj_iload_n C 3 dX5_layAll_47 rfl rfl ?_
            refine wj_cif C (wj_rS C dX5_layAll_48 km_X5_bits kl_X5_189 (c_X5_bits l V (by omega)) rfl rfl (Nat.le_of_ble_eq_true rfl) (by decide)) ?_
            refine wj_iload_n C 2 dX5_layAll_51 rfl rfl ?_
            rw [hb]
            refine wj_cif C (wj_rS C dX5_layAll_52 km_X5_bits kl_X5_189 (c_X5_bits (m := b) l V (by omega)) rfl rfl (Nat.le_of_ble_eq_true rfl) (by decide)) ?_
            have hpA := sp_pc_le (2 ^ N - 1 - t)
            have hpB := sp_pc_le b
            refine wj_icmp_gt C 62 dX5_layAll_55 (by decide) (fun h55 => ?_) (fun h55 => ?_)
            · have e8 : sp_dn (sp_lo2 A m) (2 ^ N) (t + 1) = sp_dn (sp_lo2 A m) (2 ^ N) t := by
                rw [sp_dn, if_neg (fun q => ?_)]
                have := (nI_ltI (by omega) (by omega)).mp h55
                have := q.2 b hb
                omega
              refine wj_iload_n C 2 dX5_layAll_62 rfl rfl ?_
              refine wj_istore_n C 2 dX5_layAll_63 rfl (by decide) rfl ?_
              dsimp only [List.set]
              rw [← hsv]
              refine wj_iinc C (v := nI (2 ^ N - 1) - nI (t + 1)) dX5_layAll_64 rfl (sp_wva (2 ^ N - 1) t) (by decide) rfl ?_
              dsimp only [List.set]
              refine wj_goto C 30 dX5_layAll_67 (by decide) ?_
              exact (by have hh := fun g3 => ih (t + 1) g3 (by omega) (by omega); rw [e8] at hh; first | exact hh _ | (rw [hb] at hh; exact hh _) | (rw [show sp_ob (some (2 ^ N - 1 - t)) = nI (2 ^ N - 1) - nI t from hsv.symm] at hh; exact hh _))
            · have e8 : sp_dn (sp_lo2 A m) (2 ^ N) (t + 1) = some (2 ^ N - 1 - t) := by
                have hq : ∀ b2, sp_dn (sp_lo2 A m) (2 ^ N) t = some b2 → sp_pc (2 ^ N - 1 - t) ≤ sp_pc b2 := fun b2 hb2 => by
                  rw [hb] at hb2
                  obtain rfl := Option.some.inj hb2
                  rcases Nat.lt_or_ge (sp_pc b) (sp_pc (2 ^ N - 1 - t)) with q | q
                  · exact absurd (nI_lt q (by omega)) h55
                  · exact q
                rw [sp_dn, if_pos ⟨hok9, hq⟩]
              refine wj_iload_n C 3 dX5_layAll_58 rfl rfl ?_
              refine wj_goto C 63 dX5_layAll_59 (by decide) ?_
              refine wj_istore_n C 2 dX5_layAll_63 rfl (by decide) rfl ?_
              dsimp only [List.set]
              rw [← hsv]
              refine wj_iinc C (v := nI (2 ^ N - 1) - nI (t + 1)) dX5_layAll_64 rfl (sp_wva (2 ^ N - 1) t) (by decide) rfl ?_
              dsimp only [List.set]
              refine wj_goto C 30 dX5_layAll_67 (by decide) ?_
              exact (by have hh := fun g3 => ih (t + 1) g3 (by omega) (by omega); rw [e8] at hh; first | exact hh _ | (rw [hb] at hh; exact hh _) | (rw [show sp_ob (some (2 ^ N - 1 - t)) = nI (2 ^ N - 1) - nI t from hsv.symm] at hh; exact hh _))
  refine wj_iload_n C 1 dX5_layAll_0 rfl rfl ?_
  refine wj_iconst (v := 0) C dX5_layAll_1 (by decide) ?_
  refine wj_bipush (v := 40) C dX5_layAll_2 (by decide) ?_
  refine wj_cif C (wj_rS C dX5_layAll_4 km_X5_within kl_X5_70 (c_X5_within l V) rfl rfl (Nat.le_of_ble_eq_true rfl) (by decide)) ?_
  refine wj_if_ne C 17 dX5_layAll_7 (by decide) (fun h7 => ?_) (fun h7 => ?_)
  · have h7a := wj_c1 h7
    obtain ⟨m, hm, rfl⟩ := wj_natC (N := 40) h7a
    have ha : a_layAll A (nI m) = a_lb (sp_dn (sp_lo2 A m) (2 ^ N) (2 ^ N)) := by rw [a_layAll]; refine (if_pos h7a).trans ?_; rw [nI_clamp (by omega), sp_N_of hG.1 hG.2.1, sp_dn_lb _ h256]
    refine wj_iconst (v := -1) C dX5_layAll_17 (by decide) ?_
    refine wj_istore_n C 2 dX5_layAll_18 rfl (by decide) rfl ?_
    dsimp only [List.set]
    refine wj_iconst (v := 1) C dX5_layAll_19 (by decide) ?_
    refine wj_aload_n C 0 dX5_layAll_20 rfl rfl ?_
    refine wg_X5_9 C dX5_layAll_21 ?_
    refine wj_iconst (v := 1) C dX5_layAll_24 (by decide) ?_
    refine wj_ialdN C dX5_layAll_25 ar_now ⟨by decide, by decide⟩ ?_
    rw [sp_mq_49, sp_mr_1, hG.1]
    refine wj_ishl C dX5_layAll_26 ?_
    refine wj_top (y := nI (2 ^ N)) (sp_pw2 N hG.2.1) ?_
    refine wj_iconst (v := 1) C dX5_layAll_27 (by decide) ?_
    refine wj_isub C dX5_layAll_28 ?_
    rw [show (1 : Int32) = nI 1 from rfl, pk_sub hW1, sp_mqr]
    refine wj_istore_n C 3 dX5_layAll_29 rfl (by decide) rfl ?_
    dsimp only [List.set]
    exact (by have hh := lp m rfl hm ha (2 ^ N + 1) 0 (σ 51) (Nat.zero_le _) (by rw [Nat.sub_zero]; exact Nat.lt_succ_self _); rw [show nI (2 ^ N - 1) - nI 0 = nI (2 ^ N - 1) from pk_sub (Nat.zero_le _)] at hh; exact hh)
  · refine wj_aload_n C 0 dX5_layAll_10 rfl rfl ?_
    refine wj_ldc C dX5_layAll_11 kc_X5_60 ?_
    refine wj_cif C (wj_rV C dX5_layAll_13 km_X5_finding kl_X5_66 is_X5 rfl rfl (c_X5_finding (w := 0) l V (by decide) (by decide)) rfl rfl (Nat.le_of_ble_eq_true rfl) (by decide)) ?_
    exact hR _ _ _ _ _ dX5_layAll_16 (sp_rfM (by rw [a_layAll]; exact if_neg (wj_c0 h7)) rfl rfl (by decide)) wj_rfl

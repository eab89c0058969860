/-! told sheets -/
def sp_hs (g : Nat → Int32) (A : sp_L) (i : Nat) : Nat → Bool
  | 0 => true
  | q + 1 => sp_hs g A i q && decide (g q = -1 ∨ g q = sp_sl (sp_yrs A q) i 2)
def sp_ss (g : Nat → Int32) (A : sp_L) : Nat → Bool
  | 0 => true
  | q + 1 => sp_ss g A q && decide (g q = -1 ∨ g q = sp_stg A (nI q))
def sp_ors (p : Nat → Bool) : Nat → Int32
  | 0 => 0
  | v + 1 => if p v = true then sp_ors p v ||| ((1 : Int32) <<< (nI v &&& 31)) else sp_ors p v
theorem sp_hs_no {g : Nat → Int32} {A : sp_L} {i q : Nat} (h : ¬ (g q = -1 ∨ g q = sp_sl (sp_yrs A q) i 2)) : ∀ m, q < m → sp_hs g A i m = false
  | 0, h0 => absurd h0 (Nat.not_lt_zero _)
  | m + 1, hq => by
    rw [sp_hs]
    rcases Nat.lt_or_eq_of_le (Nat.le_of_lt_succ hq) with r | r
    · rw [sp_hs_no h m r]; rfl
    · subst r; rw [decide_eq_false h, Bool.and_false]
theorem sp_ss_no {g : Nat → Int32} {A : sp_L} {q : Nat} (h : ¬ (g q = -1 ∨ g q = sp_stg A (nI q))) : ∀ m, q < m → sp_ss g A m = false
  | 0, h0 => absurd h0 (Nat.not_lt_zero _)
  | m + 1, hq => by
    rw [sp_ss]
    rcases Nat.lt_or_eq_of_le (Nat.le_of_lt_succ hq) with r | r
    · rw [sp_ss_no h m r]; rfl
    · subst r; rw [decide_eq_false h, Bool.and_false]
theorem re_hs {g : Nat → Int32} {A B : sp_L} (h : sp_re A B) {i y : Nat} (hi : i < sp_N A) (hY : A.1 = nI y) : ∀ m, y + m < 2 ^ 31 → sp_hs g A i m = sp_hs g B i m
  | 0, _ => rfl
  | m + 1, hm => by
    have hN : sp_N (sp_yrs A m) = sp_N A := by rw [sp_N, sp_N, sp_yrs_c]
    rw [sp_hs, sp_hs, re_hs h hi hY m (by omega), re_s (re_yrs h hY m (by omega)) (by rw [hN]; exact hi) 2 (by decide)]
theorem re_ss {g : Nat → Int32} {A B : sp_L} (h : sp_re A B) : ∀ m, sp_ss g A m = sp_ss g B m
  | 0 => rfl
  | m + 1 => by rw [sp_ss, sp_ss, re_ss h m, re_stg h]
theorem sp_ors_0 {p : Nat → Bool} : ∀ v, (∀ k, k < v → p k = false) → sp_ors p v = 0
  | 0, _ => rfl
  | v + 1, h => by rw [sp_ors, if_neg (by rw [h v (by omega)]; decide), sp_ors_0 v (fun k hk => h k (by omega))]
/-- the sheet that is asked for -/
def sp_ha (V : wj_V) (x : Int32) : Option Nat := if 0 ≤ x ∧ x ≤ 3 then some (V.2.2.1 (38 + x.toNatClampNeg)) else none
theorem sp_ha_s {V : wj_V} {a : Nat} {x : Int32} (h : sp_ha V x = some a) : ∃ i, i < 4 ∧ x = nI i ∧ a = V.2.2.1 (38 + i) := by
  unfold sp_ha at h
  split at h
  · rename_i q
    obtain ⟨i, hi, rfl⟩ := wj_natC (N := 3) q
    rw [nI_clamp (by omega)] at h
    exact ⟨i, by omega, rfl, (Option.some.inj h).symm⟩
  · exact absurd h (by simp)
theorem sp_ha_n {V : wj_V} {x : Int32} (h : sp_ha V x = none) : ¬ (0 ≤ x ∧ x ≤ 3) := by
  unfold sp_ha at h
  split at h
  · exact absurd h (by simp)
  · assumption
theorem sp_r3 {t : Nat} (h : t < 4) : 0 ≤ nI t ∧ nI t ≤ (3 : Int32) := wj_rngCI (N := 3) (by omega) (by decide)
theorem c_X4_sheetAt_g (l : Launch) (V : wj_V) {σ : wj_St} {x : Int32} : wj_M l V yX4_sheetAt cX4_sheetAt 2 (some (.object "WordHedge$Sheet")) 1 22 [.ref (V.2.2.1 0), .int x] σ (wj_Rf V (sp_ha V x) σ) := by
  rcases wj_rngC x (N := 3) (by decide) with ⟨i, hi, rfl⟩ | hx
  · rw [sp_ha, if_pos (sp_r3 (by omega)), nI_clamp (by omega)]
    exact c_X4_sheetAt l V (by omega)
  · rw [sp_ha, if_neg (show ¬ (0 ≤ x ∧ x ≤ (3 : Int32)) from hx)]
    exact c_X4_sheetAt_no l V hx
/-- sheets: bits, size, numbers -/
abbrev sp_Sh : Type := (Nat → Int32) × (Nat → Int32) × (Nat → Nat → Int32)
def sp_shC (σ : wj_St) : sp_Sh := (fun s => σ (38 + s) 1, fun s => σ (38 + s) 2, fun s => σ (42 + s))
def sp_shok (H : sp_Sh) : Prop := ∀ s, s < 4 → ∃ m, m ≤ 40 ∧ H.2.1 s = nI m
def a_cb (H : sp_Sh) (A : sp_L) (s x : Int32) (f lo hi : Nat) : Sum Nat Int32 := if 0 ≤ s ∧ s ≤ 3 then (if H.1 s.toNatClampNeg = 0 then .inl 5 else if 0 ≤ x ∧ x ≤ A.2.1 - 1 then .inr (sp_ors (fun v => decide (lo ≤ v) && sp_hs (H.2.2 s.toNatClampNeg) (sp_us A x.toNatClampNeg f (nI v)) x.toNatClampNeg (H.2.1 s.toNatClampNeg).toNatClampNeg) (hi + 1)) else .inl 0) else .inl 0
def a_fits (H : sp_Sh) (A : sp_L) (s x : Int32) : Sum Nat Int32 := if 0 ≤ s ∧ s ≤ 3 then (if H.1 s.toNatClampNeg = 0 then .inl 5 else if 0 ≤ x ∧ x ≤ A.2.1 - 1 then .inr (sp_ors (fun v => sp_ss (H.2.2 s.toNatClampNeg) (sp_us A x.toNatClampNeg 1 (nI v)) (min (H.2.1 s.toNatClampNeg).toNatClampNeg 16)) 16) else .inl 0) else .inl 0
set_option maxRecDepth 100000 in
set_option maxHeartbeats 4000000 in
theorem c_X4_highIsAs (l : Launch) (V : wj_V) {σ : wj_St} {A D : sp_L} {N y k i m : Nat} (hn : D.2.1 = nI N) (hN : N ≤ 8) (hY : D.1 = nI y) (hy : y < 90000) (hk : 38 ≤ k ∧ k < 42) (hi : i < N) (hm : σ k 2 = nI m) (h40 : m ≤ 40) : wj_M l V yX4_highIsAs cX4_highIsAs 4 (some .boolean) 4 89 [.ref (V.2.2.1 0), .ref (V.2.2.1 k), .ref (V.2.2.1 (2 + 8 * 2 + i))] (sp_put (sp_put σ 1 A) 2 D) (wj_QI V (fun r u => r = (if sp_hs (σ (k + 4)) D i m = true then 1 else 0) ∧ ∃ T2, u = (sp_put (sp_put σ 1 A) 2 T2))) := by
  refine wj_ofZ (own := RX4) [some (.ref (V.2.2.1 0)), some (.ref (V.2.2.1 k)), some (.ref (V.2.2.1 (2 + 8 * 2 + i))), none] (by decide) rfl rfl (Nat.le_of_ble_eq_true rfl) (fun X C hR => ?_)
  have lp : ∀ n q, q ≤ m → m - q < n → sp_hs (σ (k + 4)) D i q = true → wj_J l V X 2 [some (.ref (V.2.2.1 0)), some (.ref (V.2.2.1 k)), some (.ref (V.2.2.1 (2 + 8 * 2 + i))), some (.int (nI q))] [] (sp_put (sp_put σ 1 A) 2 (sp_yrs D q)) := by
    intro n
    induction n with
    | zero => intro q _ h _; omega
    | succ n ih =>
      intro q hq hlt9 hb
      refine wj_iload_n C 3 dX4_highIsAs_2 rfl rfl ?_
      refine wj_aload_n C 1 dX4_highIsAs_3 rfl rfl ?_
      refine wg_X4_243 C dX4_highIsAs_4 (by first | assumption | omega) ?_
      rw [sp_put_o (by omega), sp_put_o (by omega), hm]
      refine wj_icmp_ge C 37 dX4_highIsAs_7 (by decide) (fun h7 => ?_) (fun h7 => ?_)
      · have e9 := wj_ge (N := m) (by omega) hq h7
        subst e9
        refine wj_iconst (v := 1) C dX4_highIsAs_37 (by decide) ?_
        exact hR _ _ _ _ _ dX4_highIsAs_38 ⟨by decide +kernel, (by rw [hb, if_pos rfl]), _, rfl⟩ wj_rfl
      · have hlt := wj_nge (N := m) (by omega) hq h7
        refine wj_aload_n C 1 dX4_highIsAs_10 rfl rfl ?_
        refine wj_iload_n C 3 dX4_highIsAs_11 rfl rfl ?_
        refine wj_aload_n C 2 dX4_highIsAs_12 rfl rfl ?_
        refine wg_X4_130 C dX4_highIsAs_13 (by first | assumption | omega) ?_
        rw [sp_put_s (by decide) (by omega)]
        refine wj_cif C (wj_rV C dX4_highIsAs_16 km_X1_agrees kl_X4_283 (is_X1 (by first | assumption | omega)) rfl rfl (c_X1_agrees (m := m) l V (by omega) (by rw [sp_put_o (by omega), sp_put_o (by omega)]; exact hm) hlt h40) rfl rfl (Nat.le_of_ble_eq_true rfl) (by decide)) ?_
        rw [sp_put_o (by omega), sp_put_o (by omega)]
        refine wj_if_ne C 24 dX4_highIsAs_19 (by decide) (fun h19 => ?_) (fun h19 => ?_)
        · have hp := wj_c1 h19
          refine wj_aload_n C 0 dX4_highIsAs_24 rfl rfl ?_
          refine wg_X4_16 C dX4_highIsAs_25 ?_
          refine wj_cvf C (wj_rV C dX4_highIsAs_28 km_X0_passYear kl_X4_170 (is_X0 (by first | assumption | omega)) rfl rfl (c_X0_passYear l V (by decide) ((sp_yrs_c D q).trans hn) hN (sp_yrs_y hY q) (by omega)) rfl rfl (Nat.le_of_ble_eq_true rfl) (by decide)) ?_
          refine wj_iinc C (v := nI (q + 1)) dX4_highIsAs_31 rfl (wj_i1 q) (by decide) rfl ?_
          dsimp only [List.set]
          refine wj_goto C 2 dX4_highIsAs_34 (by decide) ?_
          exact ih (q + 1) (by omega) (by omega) (by rw [sp_hs, hb, decide_eq_true hp]; rfl)
        · have hp := wj_c0 h19
          refine wj_iconst (v := 0) C dX4_highIsAs_22 (by decide) ?_
          exact hR _ _ _ _ _ dX4_highIsAs_23 ⟨by decide +kernel, (by rw [sp_hs_no hp m hlt, if_neg (by decide)]), _, rfl⟩ wj_rfl
  refine wj_iconst (v := 0) C dX4_highIsAs_0 (by decide) ?_
  refine wj_istore_n C 3 dX4_highIsAs_1 rfl (by decide) rfl ?_
  dsimp only [List.set]
  exact lp (m + 1) 0 (by omega) (by omega) rfl
set_option maxRecDepth 100000 in
set_option maxHeartbeats 4000000 in
theorem c_X4_strengthIsAs (l : Launch) (V : wj_V) {σ : wj_St} {A D : sp_L} {N k m : Nat} (hn : D.2.1 = nI N) (hN : N ≤ 8) (hk : 38 ≤ k ∧ k < 42) (hm : σ k 2 = nI m) (h40 : m ≤ 40) : wj_M l V yX4_strengthIsAs cX4_strengthIsAs 3 (some .boolean) 3 66 [.ref (V.2.2.1 0), .ref (V.2.2.1 k)] (sp_put (sp_put σ 1 A) 2 D) (wj_I V (if sp_ss (σ (k + 4)) D (min m 16) = true then 1 else 0) (sp_put (sp_put σ 1 A) 2 D)) := by
  refine wj_ofZ (own := RX4) [some (.ref (V.2.2.1 0)), some (.ref (V.2.2.1 k)), none] (by decide) rfl rfl (Nat.le_of_ble_eq_true rfl) (fun X C hR => ?_)
  have lp : ∀ n q, q ≤ min m 16 → m - q < n → sp_ss (σ (k + 4)) D q = true → wj_J l V X 2 [some (.ref (V.2.2.1 0)), some (.ref (V.2.2.1 k)), some (.int (nI q))] [] (sp_put (sp_put σ 1 A) 2 D) := by
    intro n
    induction n with
    | zero => intro q _ h _; omega
    | succ n ih =>
      intro q hq hlt9 hb
      refine wj_iload_n C 2 dX4_strengthIsAs_2 rfl rfl ?_
      refine wj_aload_n C 1 dX4_strengthIsAs_3 rfl rfl ?_
      refine wg_X4_243 C dX4_strengthIsAs_4 (by first | assumption | omega) ?_
      rw [sp_put_o (by omega), sp_put_o (by omega), hm]
      refine wj_icmp_ge C 40 dX4_strengthIsAs_7 (by decide) (fun h7 => ?_) (fun h7 => ?_)
      · have e9 : q = min m 16 := by have := wj_ge (N := m) (by omega) (by omega) h7; omega
        subst e9
        refine wj_iconst (v := 1) C dX4_strengthIsAs_40 (by decide) ?_
        exact hR _ _ _ _ _ dX4_strengthIsAs_41 ⟨by decide +kernel, (by rw [hb, if_pos rfl]), rfl⟩ wj_rfl
      · have hlt := wj_nge (N := m) (by omega) (by omega) h7
        refine wj_iload_n C 2 dX4_strengthIsAs_10 rfl rfl ?_
        refine wj_bipush (v := 16) C dX4_strengthIsAs_11 (by decide) ?_
        refine wj_icmp_ge C 40 dX4_strengthIsAs_13 (by decide) (fun h13 => ?_) (fun h13 => ?_)
        · have e9 : q = min m 16 := by have := wj_ge (N := 16) (by omega) (by omega) h13; omega
          subst e9
          refine wj_iconst (v := 1) C dX4_strengthIsAs_40 (by decide) ?_
          exact hR _ _ _ _ _ dX4_strengthIsAs_41 ⟨by decide +kernel, (by rw [hb, if_pos rfl]), rfl⟩ wj_rfl
        · have hlt2 := wj_nge (N := 16) (by omega) (by omega) h13
          refine wj_aload_n C 1 dX4_strengthIsAs_16 rfl rfl ?_
          refine wj_iload_n C 2 dX4_strengthIsAs_17 rfl rfl ?_
          refine wj_aload_n C 0 dX4_strengthIsAs_18 rfl rfl ?_
          refine wg_X4_16 C dX4_strengthIsAs_19 ?_
          refine wj_iload_n C 2 dX4_strengthIsAs_22 rfl rfl ?_
          refine wj_cif C (wj_rV C dX4_strengthIsAs_23 km_X0_strengthOf kl_X4_80 (is_X0 (by first | assumption | omega)) rfl rfl (c_X0_strengthOf l V (by decide) hn hN) rfl rfl (Nat.le_of_ble_eq_true rfl) (by decide)) ?_
          refine wj_cif C (wj_rV C dX4_strengthIsAs_26 km_X1_agrees kl_X4_283 (is_X1 (by first | assumption | omega)) rfl rfl (c_X1_agrees (m := m) l V (by omega) (by rw [sp_put_o (by omega), sp_put_o (by omega)]; exact hm) hlt h40) rfl rfl (Nat.le_of_ble_eq_true rfl) (by decide)) ?_
          rw [sp_put_o (by omega), sp_put_o (by omega)]
          refine wj_if_ne C 34 dX4_strengthIsAs_29 (by decide) (fun h29 => ?_) (fun h29 => ?_)
          · have hp := wj_c1 h29
            refine wj_iinc C (v := nI (q + 1)) dX4_strengthIsAs_34 rfl (wj_i1 q) (by decide) rfl ?_
            dsimp only [List.set]
            refine wj_goto C 2 dX4_strengthIsAs_37 (by decide) ?_
            exact ih (q + 1) (by omega) (by omega) (by rw [sp_ss, hb, decide_eq_true hp]; rfl)
          · have hp := wj_c0 h29
            refine wj_iconst (v := 0) C dX4_strengthIsAs_32 (by decide) ?_
            exact hR _ _ _ _ _ dX4_strengthIsAs_33 ⟨by decide +kernel, (by rw [sp_ss_no hp (min m 16) (by omega), if_neg (by decide)]), rfl⟩ wj_rfl
  refine wj_iconst (v := 0) C dX4_strengthIsAs_0 (by decide) ?_
  refine wj_istore_n C 2 dX4_strengthIsAs_1 rfl (by decide) rfl ?_
  dsimp only [List.set]
  exact lp (m + 1) 0 (by omega) (by omega) rfl
theorem sp_or1 {P : Nat → Bool} {v : Nat} {c : Bool} {r : Int32} {lo : Nat} (hP : P v = (decide (lo ≤ v) && c)) (hlv : lo ≤ v) (hr : r = if c = true then 1 else 0) : sp_ors P (v + 1) = if r = 0 then sp_ors P v else sp_ors P v ||| ((1 : Int32) <<< (nI v &&& 31)) := by
  rw [sp_ors, hP, decide_eq_true hlv, Bool.true_and, hr]
  cases c <;> rfl
set_option maxRecDepth 100000 in
set_option maxHeartbeats 4000000 in
theorem c_X4_couldBe (l : Launch) (V : wj_V) {σ : wj_St} {A T : sp_L} {N y : Nat} {s x : Int32} {f lo hi : Nat} (hG : sp_G A N y) (hy : y < 90000) (hH : sp_shok (sp_shC σ)) (hf : f < 7) (hlo : sp_lst (nI f) = nI lo) (hhi : sp_mst (nI f) = nI hi) (hl9 : lo ≤ hi ∧ hi < 20) : wj_M l V yX4_couldBe cX4_couldBe 8 (some .int) 5 112 [.ref (V.2.2.1 0), .int s, .int x, .int (nI f)] (sp_put (sp_put σ 1 A) 2 T) (wj_QI V (fun r u => r = sp_v (a_cb (sp_shC σ) A s x f lo hi) ∧ ∃ T2, u = sp_put (sp_put (sp_tw σ (a_cb (sp_shC σ) A s x f lo hi)) 1 A) 2 T2)) := by
  refine wj_ofI (own := RX4) [some (.ref (V.2.2.1 0)), some (.int s), some (.int x), some (.int (nI f)), none, none, none, none] (by decide) rfl rfl (Nat.le_of_ble_eq_true rfl) (fun X C hR => ?_)
  have lp : ∀ t i m P, s = nI t → x = nI i → t < 4 → i < N → σ (38 + t) 2 = nI m → m ≤ 40 → P = (fun v => decide (lo ≤ v) && sp_hs (σ (42 + t)) (sp_us A i f (nI v)) i m) → a_cb (sp_shC σ) A s x f lo hi = .inr (sp_ors P (hi + 1)) → ∀ n v T2 j, v ≤ hi + 1 → hi + 1 - v < n → lo ≤ v → wj_J l V X 61 [some (.ref (V.2.2.1 0)), some (.int s), some (.int x), some (.int (nI f)), some (.ref (V.2.2.1 (38 + t))), some (.int (sp_ors P v)), some (.int (nI v)), j] [] (sp_put (sp_put σ 1 A) 2 T2) := by
    intro t i m P hst hxi ht hi0 hm h40 hPd ha n
    subst hxi
    have hN8 := hG.2.1
    induction n with
    | zero => intro v T2 j _ h; omega
    | succ n ih =>
      intro v T2 j hv hlt9 hlv
      have hP : P v = (decide (lo ≤ v) && sp_hs (σ (42 + t)) (sp_us A i f (nI v)) i m) := by rw [hPd]
      refine wj_iload C dX4_couldBe_61 rfl ?_
      refine wj_iload_n C 3 dX4_couldBe_63 rfl rfl ?_
      refine wj_cif C (wj_rS C dX4_couldBe_64 km_X2_most kl_X4_273 (c_X2_most l V) rfl rfl (Nat.le_of_ble_eq_true rfl) (by decide)) ?_
      rw [hhi]
      refine wj_icmp_gt C 111 dX4_couldBe_67 (by decide) (fun h67 => ?_) (fun h67 => ?_)
      · have e9 : v = hi + 1 := by have := (nI_ltI (a := hi) (b := v) (by omega) (by omega)).mp h67; omega
        subst e9
        refine wj_iload C dX4_couldBe_111 rfl ?_
        exact hR _ _ _ _ _ dX4_couldBe_113 (sp_rv ha) wj_rfl
      · have hlt : v < hi + 1 := by
          rcases Nat.lt_or_ge v (hi + 1) with q | q
          · exact q
          · exact absurd (nI_lt (a := hi) (b := v) (by omega) (by omega)) h67
        refine wj_aload_n C 0 dX4_couldBe_70 rfl rfl ?_
        refine wj_iload_n C 2 dX4_couldBe_71 rfl rfl ?_
        refine wj_iload_n C 3 dX4_couldBe_72 rfl rfl ?_
        refine wj_iload C dX4_couldBe_73 rfl ?_
        refine wj_crf C (wj_rV C dX4_couldBe_75 km_X4_trySlip kl_X4_178 is_X4 rfl rfl (c_X4_trySlip (T := T2) l V hG hy hi0 hf) rfl rfl (Nat.le_of_ble_eq_true rfl) (by decide)) ?_
        refine wj_astore C dX4_couldBe_78 (by decide) rfl ?_
        dsimp only [List.set]
        refine wj_aload C dX4_couldBe_80 rfl ?_
        refine wj_ifnull C dX4_couldBe_82 ?_
        refine wj_aload_n C 0 dX4_couldBe_85 rfl rfl ?_
        refine wj_aload C dX4_couldBe_86 rfl ?_
        refine wj_aload C dX4_couldBe_88 rfl ?_
        refine wj_ci C (wj_rV C dX4_couldBe_90 km_X4_highIsAs kl_X4_279 is_X4 rfl rfl (c_X4_highIsAs (m := m) l V (D := sp_us (sp_bec T2 A) i f (nI v)) (k := 38 + t) hG.1 hG.2.1 hG.2.2.1 (by omega) (by omega) hi0 hm h40) rfl rfl (Nat.le_of_ble_eq_true rfl) (by decide)) (fun r u hru => ?_)
        obtain ⟨hr9, T3, rfl⟩ := hru
        rw [show 38 + t + 4 = 42 + t by omega, re_hs (re_us (re_bec T2 A) i f (nI v)) (by rw [sp_N_of (A := sp_us (sp_bec T2 A) i f (nI v)) hG.1 hG.2.1]; exact hi0) hG.2.2.1 m (by omega)] at hr9
        have e8 : sp_ors P (v + 1) = if r = 0 then sp_ors P v else sp_ors P v ||| ((1 : Int32) <<< (nI v &&& 31)) := sp_or1 hP hlv hr9
        refine wj_if_eq C 105 dX4_couldBe_93 (by decide) (fun h93 => ?_) (fun h93 => ?_)
        · rw [if_pos h93] at e8
          refine wj_iinc C (v := nI (v + 1)) dX4_couldBe_105 rfl (wj_i1 v) (by decide) rfl ?_
          dsimp only [List.set]
          refine wj_goto C 61 dX4_couldBe_108 (by decide) ?_
          exact (by have hh := fun T3 j3 => ih (v + 1) T3 j3 (by omega) (by omega) (by omega); rw [e8] at hh; exact hh _ _)
        · rw [if_neg h93] at e8
          refine wj_iload C dX4_couldBe_96 rfl ?_
          refine wj_iconst (v := 1) C dX4_couldBe_98 (by decide) ?_
          refine wj_iload C dX4_couldBe_99 rfl ?_
          refine wj_ishl C dX4_couldBe_101 ?_
          refine wj_ior C dX4_couldBe_102 ?_
          refine wj_istore C dX4_couldBe_103 (by decide) rfl ?_
          dsimp only [List.set]
          refine wj_iinc C (v := nI (v + 1)) dX4_couldBe_105 rfl (wj_i1 v) (by decide) rfl ?_
          dsimp only [List.set]
          refine wj_goto C 61 dX4_couldBe_108 (by decide) ?_
          exact (by have hh := fun T3 j3 => ih (v + 1) T3 j3 (by omega) (by omega) (by omega); rw [e8] at hh; exact hh _ _)
  refine wj_aload_n C 0 dX4_couldBe_0 rfl rfl ?_
  refine wj_iload_n C 1 dX4_couldBe_1 rfl rfl ?_
  refine wj_crn C (wj_rV C dX4_couldBe_2 km_X4_sheetAt kl_X4_198 is_X4 rfl rfl (c_X4_sheetAt_g l V) rfl rfl (Nat.le_of_ble_eq_true rfl) (by decide)) (fun hn2 => ?_) (fun a2 ha2 => ?_)
  · refine wj_astoreN C dX4_couldBe_5 (by decide) rfl ?_
    dsimp only [List.set]
    refine wj_aloadN C dX4_couldBe_7 rfl ?_
    refine wj_ifnonnullN C dX4_couldBe_9 ?_
    refine wj_aload_n C 0 dX4_couldBe_12 rfl rfl ?_
    refine wj_ldc C dX4_couldBe_13 kc_X4_68 ?_
    refine wj_cif C (wj_rV C dX4_couldBe_15 km_X4_tell kl_X4_69 is_X4 rfl rfl (c_X4_tell (w := 0) l V (by decide) (by decide)) rfl rfl (Nat.le_of_ble_eq_true rfl) (by decide)) ?_
    exact hR _ _ _ _ _ dX4_couldBe_18 (sp_rf (by rw [a_cb, if_neg (sp_ha_n hn2)]) (by decide)) wj_rfl
  · obtain ⟨t, ht, hst, rfl⟩ := sp_ha_s ha2
    obtain ⟨m, h40, hm⟩ := hH t ht
    refine wj_astore C dX4_couldBe_5 (by decide) rfl ?_
    dsimp only [List.set]
    refine wj_aload C dX4_couldBe_7 rfl ?_
    refine wj_ifnonnull C 19 dX4_couldBe_9 (by decide) ?_
    refine wj_aload C dX4_couldBe_19 rfl ?_
    refine wj_cif C (wj_rV C dX4_couldBe_21 km_X1_isMissing kl_X4_202 (is_X1 (by first | assumption | omega)) rfl rfl (c_X1_isMissing l V (by omega)) rfl rfl (Nat.le_of_ble_eq_true rfl) (by decide)) ?_
    rw [sp_put_o (by omega), sp_put_o (by omega)]
    refine wj_if_eq C 34 dX4_couldBe_24 (by decide) (fun h24 => ?_) (fun h24 => ?_)
    · have hb0 : ¬ (sp_shC σ).1 t = 0 := wj_c0 h24
      refine wj_aload_n C 0 dX4_couldBe_34 rfl rfl ?_
      refine wg_X4_12 C dX4_couldBe_35 ?_
      refine wj_iload_n C 2 dX4_couldBe_38 rfl rfl ?_
      rw [sp_sw]
      refine wj_crn C (wj_rV C dX4_couldBe_39 km_X0_slipAt kl_X4_115 (is_X0 (by first | assumption | omega)) rfl rfl (c_X0_slipAt_g l V (by decide) hG.1 hG.2.1) rfl rfl (Nat.le_of_ble_eq_true rfl) (by decide)) (fun hn39 => ?_) (fun a39 ha39 => ?_)
      · rw [← sp_sw]
        refine wj_ifnonnullN C dX4_couldBe_42 ?_
        refine wj_aload_n C 0 dX4_couldBe_45 rfl rfl ?_
        refine wj_ldc C dX4_couldBe_46 kc_X4_68 ?_
        refine wj_cif C (wj_rV C dX4_couldBe_48 km_X4_tell kl_X4_69 is_X4 rfl rfl (c_X4_tell (w := 0) l V (by decide) (by decide)) rfl rfl (Nat.le_of_ble_eq_true rfl) (by decide)) ?_
        exact hR _ _ _ _ _ dX4_couldBe_51 (sp_rf (by rw [hst, a_cb, hG.1, if_pos (sp_r3 ht), nI_clamp (by omega), if_neg hb0, if_neg (sp_sa_n hn39)]) (by decide)) wj_rfl
      · rw [← sp_sw]
        obtain ⟨i, hi0, hxi, rfl⟩ := sp_sa_s hG.2.1 ha39
        have hN8 := hG.2.1
        have ha : a_cb (sp_shC σ) A s x f lo hi = .inr (sp_ors (fun v => decide (lo ≤ v) && sp_hs (σ (42 + t)) (sp_us A i f (nI v)) i m) (hi + 1)) := by
          rw [hst, hxi, a_cb, hG.1, if_pos (sp_r3 ht), nI_clamp (by omega), nI_clamp (by omega), if_neg hb0, if_pos (wj_rngI hi0 hG.2.1), show (sp_shC σ).2.1 t = nI m from hm, nI_clamp (by omega)]; rfl
        refine wj_ifnonnull C 52 dX4_couldBe_42 (by decide) ?_
        refine wj_iconst (v := 0) C dX4_couldBe_52 (by decide) ?_
        refine wj_istore C dX4_couldBe_53 (by decide) rfl ?_
        dsimp only [List.set]
        refine wj_iload_n C 3 dX4_couldBe_55 rfl rfl ?_
        refine wj_cif C (wj_rS C dX4_couldBe_56 km_X2_least kl_X4_276 (c_X2_least l V) rfl rfl (Nat.le_of_ble_eq_true rfl) (by decide)) ?_
        rw [hlo]
        refine wj_istore C dX4_couldBe_59 (by decide) rfl ?_
        dsimp only [List.set]
        exact (by have hh := lp t i m _ hst hxi ht hi0 hm h40 rfl ha (hi + 2) lo T none (by omega) (by omega) (Nat.le_refl _); rw [sp_ors_0 lo (fun k hk => by rw [decide_eq_false (by omega)]; rfl)] at hh; exact hh)
    · have hb0 : (sp_shC σ).1 t = 0 := wj_c1 h24
      refine wj_aload_n C 0 dX4_couldBe_27 rfl rfl ?_
      refine wj_ldc C dX4_couldBe_28 kc_X4_206 ?_
      refine wj_cif C (wj_rV C dX4_couldBe_30 km_X4_tell kl_X4_69 is_X4 rfl rfl (c_X4_tell (w := 5) l V (by decide) (by decide)) rfl rfl (Nat.le_of_ble_eq_true rfl) (by decide)) ?_
      exact hR _ _ _ _ _ dX4_couldBe_33 (sp_rf (by rw [hst, a_cb, if_pos (sp_r3 ht), nI_clamp (by omega), if_pos hb0]) (by decide)) wj_rfl
set_option maxRecDepth 100000 in
set_option maxHeartbeats 4000000 in
theorem c_X4_words (l : Launch) (V : wj_V) {σ : wj_St} {A T : sp_L} {N y : Nat} {s x : Int32} (hG : sp_G A N y) (hy : y < 90000) (hH : sp_shok (sp_shC σ)) : wj_M l V yX4_words cX4_words 3 (some .int) 6 139 [.ref (V.2.2.1 0), .int s, .int x] (sp_put (sp_put σ 1 A) 2 T) (wj_QI V (fun r u => r = sp_v (a_cb (sp_shC σ) A s x 5 1 12) ∧ ∃ T2, u = sp_put (sp_put (sp_tw σ (a_cb (sp_shC σ) A s x 5 1 12)) 1 A) 2 T2)) := by
  refine wj_ofI (own := RX4) [some (.ref (V.2.2.1 0)), some (.int s), some (.int x)] (by decide) rfl rfl (Nat.le_of_ble_eq_true rfl) (fun X C hR => ?_)
  refine wj_aload_n C 0 dX4_words_0 rfl rfl ?_
  refine wj_iload_n C 1 dX4_words_1 rfl rfl ?_
  refine wj_iload_n C 2 dX4_words_2 rfl rfl ?_
  refine wj_iconst (v := 5) C dX4_words_3 (by decide) ?_
  refine wj_ci C (wj_rV C dX4_words_4 km_X4_couldBe kl_X4_195 is_X4 rfl rfl (c_X4_couldBe (f := 5) (lo := 1) (hi := 12) l V hG hy hH (by decide) (by decide) (by decide) (by decide)) rfl rfl (Nat.le_of_ble_eq_true rfl) (by decide)) (fun r u hru => ?_)
  exact hR _ _ _ _ _ dX4_words_7 hru wj_rfl
set_option maxRecDepth 100000 in
set_option maxHeartbeats 4000000 in
theorem c_X4_kinds (l : Launch) (V : wj_V) {σ : wj_St} {A T : sp_L} {N y : Nat} {s x : Int32} (hG : sp_G A N y) (hy : y < 90000) (hH : sp_shok (sp_shC σ)) : wj_M l V yX4_kinds cX4_kinds 3 (some .int) 6 139 [.ref (V.2.2.1 0), .int s, .int x] (sp_put (sp_put σ 1 A) 2 T) (wj_QI V (fun r u => r = sp_v (a_cb (sp_shC σ) A s x 0 0 6) ∧ ∃ T2, u = sp_put (sp_put (sp_tw σ (a_cb (sp_shC σ) A s x 0 0 6)) 1 A) 2 T2)) := by
  refine wj_ofI (own := RX4) [some (.ref (V.2.2.1 0)), some (.int s), some (.int x)] (by decide) rfl rfl (Nat.le_of_ble_eq_true rfl) (fun X C hR => ?_)
  refine wj_aload_n C 0 dX4_kinds_0 rfl rfl ?_
  refine wj_iload_n C 1 dX4_kinds_1 rfl rfl ?_
  refine wj_iload_n C 2 dX4_kinds_2 rfl rfl ?_
  refine wj_iconst (v := 0) C dX4_kinds_3 (by decide) ?_
  refine wj_ci C (wj_rV C dX4_kinds_4 km_X4_couldBe kl_X4_195 is_X4 rfl rfl (c_X4_couldBe (f := 0) (lo := 0) (hi := 6) l V hG hy hH (by decide) (by decide) (by decide) (by decide)) rfl rfl (Nat.le_of_ble_eq_true rfl) (by decide)) (fun r u hru => ?_)
  exact hR _ _ _ _ _ dX4_kinds_7 hru wj_rfl
set_option maxRecDepth 100000 in
set_option maxHeartbeats 4000000 in
theorem c_X4_fits (l : Launch) (V : wj_V) {σ : wj_St} {A T : sp_L} {N y : Nat} {s x : Int32} (hG : sp_G A N y) (hy : y < 90000) (hH : sp_shok (sp_shC σ)) : wj_M l V yX4_fits cX4_fits 6 (some .int) 4 88 [.ref (V.2.2.1 0), .int s, .int x] (sp_put (sp_put σ 1 A) 2 T) (wj_QI V (fun r u => r = sp_v (a_fits (sp_shC σ) A s x) ∧ ∃ T2, u = sp_put (sp_put (sp_tw σ (a_fits (sp_shC σ) A s x)) 1 A) 2 T2)) := by
  refine wj_ofI (own := RX4) [some (.ref (V.2.2.1 0)), some (.int s), some (.int x), none, none, none] (by decide) rfl rfl (Nat.le_of_ble_eq_true rfl) (fun X C hR => ?_)
  have lp : ∀ t i m P, s = nI t → x = nI i → t < 4 → i < N → σ (38 + t) 2 = nI m → m ≤ 40 → P = (fun v => sp_ss (σ (42 + t)) (sp_us A i 1 (nI v)) (min m 16)) → a_fits (sp_shC σ) A s x = .inr (sp_ors P 16) → ∀ n v T2, v ≤ 16 → 16 - v < n → wj_J l V X 55 [some (.ref (V.2.2.1 0)), some (.int s), some (.int x), some (.ref (V.2.2.1 (38 + t))), some (.int (sp_ors P v)), some (.int (nI v))] [] (sp_put (sp_put σ 1 A) 2 T2) := by
    intro t i m P hst hxi ht hi0 hm h40 hPd ha n
    subst hxi
    have hN8 := hG.2.1
    induction n with
    | zero => intro v T2 _ h; omega
    | succ n ih =>
      intro v T2 hv hlt9
      have hP : P v = sp_ss (σ (42 + t)) (sp_us A i 1 (nI v)) (min m 16) := by rw [hPd]
      refine wj_iload C dX4_fits_55 rfl ?_
      refine wj_bipush (v := 16) C dX4_fits_57 (by decide) ?_
      refine wj_icmp_ge C 99 dX4_fits_59 (by decide) (fun h59 => ?_) (fun h59 => ?_)
      · have e9 : v = 16 := wj_ge (N := 16) (by decide) hv h59
        subst e9
        refine wj_iload C dX4_fits_99 rfl ?_
        exact hR _ _ _ _ _ dX4_fits_101 (sp_rv ha) wj_rfl
      · have hlt : v < 16 := wj_nge (N := 16) (by decide) hv h59
        refine wj_aload_n C 0 dX4_fits_62 rfl rfl ?_
        refine wj_iload_n C 2 dX4_fits_63 rfl rfl ?_
        refine wj_iconst (v := 1) C dX4_fits_64 (by decide) ?_
        refine wj_iload C dX4_fits_65 rfl ?_
        refine wj_crf C (wj_rV C dX4_fits_67 km_X4_trySlip kl_X4_178 is_X4 rfl rfl (c_X4_trySlip (T := T2) (f := 1) l V hG hy hi0 (by decide)) rfl rfl (Nat.le_of_ble_eq_true rfl) (by decide)) ?_
        refine wj_ifnonnull C 76 dX4_fits_70 (by decide) ?_
        refine wj_aload_n C 0 dX4_fits_76 rfl rfl ?_
        refine wj_aload_n C 3 dX4_fits_77 rfl rfl ?_
        refine wj_cif C (wj_rV C dX4_fits_78 km_X4_strengthIsAs kl_X4_207 is_X4 rfl rfl (c_X4_strengthIsAs (m := m) l V (D := sp_us (sp_bec T2 A) i 1 (nI v)) (k := 38 + t) hG.1 hG.2.1 (by omega) hm h40) rfl rfl (Nat.le_of_ble_eq_true rfl) (by decide)) ?_
        rw [show 38 + t + 4 = 42 + t by omega, re_ss (re_us (re_bec T2 A) i 1 (nI v))]
        refine wj_if_eq C 93 dX4_fits_81 (by decide) (fun h81 => ?_) (fun h81 => ?_)
        · have e8 : sp_ors P (v + 1) = sp_ors P v := by rw [sp_ors, hP, if_neg (wj_c0 h81)]
          refine wj_iinc C (v := nI (v + 1)) dX4_fits_93 rfl (wj_i1 v) (by decide) rfl ?_
          dsimp only [List.set]
          refine wj_goto C 55 dX4_fits_96 (by decide) ?_
          exact (by have hh := fun T3 => ih (v + 1) T3 (by omega) (by omega); rw [e8] at hh; exact hh _)
        · have e8 : sp_ors P (v + 1) = sp_ors P v ||| ((1 : Int32) <<< (nI v &&& 31)) := by rw [sp_ors, hP, if_pos (wj_c1 h81)]
          refine wj_iload C dX4_fits_84 rfl ?_
          refine wj_iconst (v := 1) C dX4_fits_86 (by decide) ?_
          refine wj_iload C dX4_fits_87 rfl ?_
          refine wj_ishl C dX4_fits_89 ?_
          refine wj_ior C dX4_fits_90 ?_
          refine wj_istore C dX4_fits_91 (by decide) rfl ?_
          dsimp only [List.set]
          refine wj_iinc C (v := nI (v + 1)) dX4_fits_93 rfl (wj_i1 v) (by decide) rfl ?_
          dsimp only [List.set]
          refine wj_goto C 55 dX4_fits_96 (by decide) ?_
          exact (by have hh := fun T3 => ih (v + 1) T3 (by omega) (by omega); rw [e8] at hh; exact hh _)
  refine wj_aload_n C 0 dX4_fits_0 rfl rfl ?_
  refine wj_iload_n C 1 dX4_fits_1 rfl rfl ?_
  refine wj_crn C (wj_rV C dX4_fits_2 km_X4_sheetAt kl_X4_198 is_X4 rfl rfl (c_X4_sheetAt_g l V) rfl rfl (Nat.le_of_ble_eq_true rfl) (by decide)) (fun hn2 => ?_) (fun a2 ha2 => ?_)
  · refine wj_astore_nN C 3 dX4_fits_5 rfl (by decide) rfl ?_
    dsimp only [List.set]
    refine wj_aload_nN C 3 dX4_fits_6 rfl rfl ?_
    refine wj_ifnonnullN C dX4_fits_7 ?_
    refine wj_aload_n C 0 dX4_fits_10 rfl rfl ?_
    refine wj_ldc C dX4_fits_11 kc_X4_68 ?_
    refine wj_cif C (wj_rV C dX4_fits_13 km_X4_tell kl_X4_69 is_X4 rfl rfl (c_X4_tell (w := 0) l V (by decide) (by decide)) rfl rfl (Nat.le_of_ble_eq_true rfl) (by decide)) ?_
    exact hR _ _ _ _ _ dX4_fits_16 (sp_rf (by rw [a_fits, if_neg (sp_ha_n hn2)]) (by decide)) wj_rfl
  · obtain ⟨t, ht, hst, rfl⟩ := sp_ha_s ha2
    obtain ⟨m, h40, hm⟩ := hH t ht
    refine wj_astore_n C 3 dX4_fits_5 rfl (by decide) rfl ?_
    dsimp only [List.set]
    refine wj_aload_n C 3 dX4_fits_6 rfl rfl ?_
    refine wj_ifnonnull C 17 dX4_fits_7 (by decide) ?_
    refine wj_aload_n C 3 dX4_fits_17 rfl rfl ?_
    refine wj_cif C (wj_rV C dX4_fits_18 km_X1_isMissing kl_X4_202 (is_X1 (by first | assumption | omega)) rfl rfl (c_X1_isMissing l V (by omega)) rfl rfl (Nat.le_of_ble_eq_true rfl) (by decide)) ?_
    rw [sp_put_o (by omega), sp_put_o (by omega)]
    refine wj_if_eq C 31 dX4_fits_21 (by decide) (fun h21 => ?_) (fun h21 => ?_)
    · have hb0 : ¬ (sp_shC σ).1 t = 0 := wj_c0 h21
      refine wj_aload_n C 0 dX4_fits_31 rfl rfl ?_
      refine wg_X4_12 C dX4_fits_32 ?_
      refine wj_iload_n C 2 dX4_fits_35 rfl rfl ?_
      rw [sp_sw]
      refine wj_crn C (wj_rV C dX4_fits_36 km_X0_slipAt kl_X4_115 (is_X0 (by first | assumption | omega)) rfl rfl (c_X0_slipAt_g l V (by decide) hG.1 hG.2.1) rfl rfl (Nat.le_of_ble_eq_true rfl) (by decide)) (fun hn36 => ?_) (fun a36 ha36 => ?_)
      · rw [← sp_sw]
        refine wj_ifnonnullN C dX4_fits_39 ?_
        refine wj_aload_n C 0 dX4_fits_42 rfl rfl ?_
        refine wj_ldc C dX4_fits_43 kc_X4_68 ?_
        refine wj_cif C (wj_rV C dX4_fits_45 km_X4_tell kl_X4_69 is_X4 rfl rfl (c_X4_tell (w := 0) l V (by decide) (by decide)) rfl rfl (Nat.le_of_ble_eq_true rfl) (by decide)) ?_
        exact hR _ _ _ _ _ dX4_fits_48 (sp_rf (by rw [hst, a_fits, hG.1, if_pos (sp_r3 ht), nI_clamp (by omega), if_neg hb0, if_neg (sp_sa_n hn36)]) (by decide)) wj_rfl
      · rw [← sp_sw]
        obtain ⟨i, hi0, hxi, rfl⟩ := sp_sa_s hG.2.1 ha36
        have hN8 := hG.2.1
        have ha : a_fits (sp_shC σ) A s x = .inr (sp_ors (fun v => sp_ss (σ (42 + t)) (sp_us A i 1 (nI v)) (min m 16)) 16) := by
          rw [hst, hxi, a_fits, hG.1, if_pos (sp_r3 ht), nI_clamp (by omega), nI_clamp (by omega), if_neg hb0, if_pos (wj_rngI hi0 hG.2.1), show (sp_shC σ).2.1 t = nI m from hm, nI_clamp (by omega)]; rfl
        refine wj_ifnonnull C 49 dX4_fits_39 (by decide) ?_
        refine wj_iconst (v := 0) C dX4_fits_49 (by decide) ?_
        refine wj_istore C dX4_fits_50 (by decide) rfl ?_
        dsimp only [List.set]
        refine wj_iconst (v := 0) C dX4_fits_52 (by decide) ?_
        refine wj_istore C dX4_fits_53 (by decide) rfl ?_
        dsimp only [List.set]
        exact lp t i m _ hst hxi ht hi0 hm h40 rfl ha 17 0 T (by omega) (by omega)
    · have hb0 : (sp_shC σ).1 t = 0 := wj_c1 h21
      refine wj_aload_n C 0 dX4_fits_24 rfl rfl ?_
      refine wj_ldc C dX4_fits_25 kc_X4_206 ?_
      refine wj_cif C (wj_rV C dX4_fits_27 km_X4_tell kl_X4_69 is_X4 rfl rfl (c_X4_tell (w := 5) l V (by decide) (by decide)) rfl rfl (Nat.le_of_ble_eq_true rfl) (by decide)) ?_
      exact hR _ _ _ _ _ dX4_fits_30 (sp_rf (by rw [hst, a_fits, if_pos (sp_r3 ht), nI_clamp (by omega), if_pos hb0]) (by decide)) wj_rfl

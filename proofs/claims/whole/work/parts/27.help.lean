/-! what is told is counted -/
def sp_tl (σ : wj_St) (w : Nat) : wj_St := wj_u σ 36 w (σ 36 w + 1)
theorem sp_tl_ix : ∀ w, w < 7 → ((-1000001 : Int32) - (-1000001 - nI w)) = nI w := by decide +kernel
theorem wj_rngB (x : Int32) {N : Nat} (hN : N < 2 ^ 30) : (∃ i, i < N ∧ x = nI i) ∨ ¬ (0 ≤ x ∧ x ≤ nI N - 1) := by
  by_cases h : 0 ≤ x ∧ x ≤ nI N - 1
  · left
    have h1 := Int32.le_iff_toInt_le.mp h.1
    have h2 := Int32.le_iff_toInt_le.mp h.2
    rw [Int32.toInt_zero] at h1
    rw [show (1 : Int32) = nI 1 from rfl, pk_sub_toInt (by omega) (by omega)] at h2
    obtain ⟨j, hj, rfl, hz⟩ := wj_nat h1
    exact ⟨j, by omega, rfl⟩
  · exact Or.inr h
theorem wj_rngBI {i N : Nat} (hi : i < N) (hN : N < 2 ^ 30) : 0 ≤ nI i ∧ nI i ≤ nI N - 1 := by
  refine ⟨nI_pos' (by omega), ?_⟩
  rw [Int32.le_iff_toInt_le, show (1 : Int32) = nI 1 from rfl, pk_sub_toInt (by omega) (by omega), nI_toInt (by omega)]
  omega
theorem wj_rngC (x : Int32) {N : Nat} (hN : N < 2 ^ 30) : (∃ i, i ≤ N ∧ x = nI i) ∨ ¬ (0 ≤ x ∧ x ≤ nI N) := by
  by_cases h : 0 ≤ x ∧ x ≤ nI N
  · left
    have h1 := Int32.le_iff_toInt_le.mp h.1
    have h2 := Int32.le_iff_toInt_le.mp h.2
    rw [Int32.toInt_zero] at h1
    rw [nI_toInt (by omega)] at h2
    obtain ⟨j, hj, rfl, hz⟩ := wj_nat h1
    exact ⟨j, by omega, rfl⟩
  · exact Or.inr h
theorem wj_rngCI {i N : Nat} (hi : i ≤ N) (hN : N < 2 ^ 30) : 0 ≤ nI i ∧ nI i ≤ nI N := ⟨nI_pos' (by omega), nI_le hi (by omega)⟩
/-- the sum of the first n numbers of a row -/
def sp_tot (f : Nat → Int32) : Nat → Int32
  | 0 => 0
  | n + 1 => sp_tot f n + f n
/-- how many of the first n spots hold -/
def sp_use (f : Nat → Int32) : Nat → Nat
  | 0 => 0
  | n + 1 => if f n = -1 then sp_use f n else sp_use f n + 1
def sp_ok (c m : Int32) : Prop := 0 ≤ c ∧ c ≤ m
set_option maxRecDepth 100000 in
set_option maxHeartbeats 4000000 in
theorem c_X4_isPlace (l : Launch) (V : wj_V) {σ : wj_St} {a : Int32} : wj_M l V yX4_isPlace cX4_isPlace 1 (some .boolean) 1 22 [.int a] σ (wj_I V (if 0 ≤ a ∧ a ≤ 15 then 1 else 0) σ) := by
  refine wj_ofZ (own := RX4) [some (.int a)] (by decide) rfl rfl (Nat.le_of_ble_eq_true rfl) (fun X C hR => ?_)
  refine wj_iload_n C 0 dX4_isPlace_0 rfl rfl ?_
  refine wj_iconst (v := 0) C dX4_isPlace_1 (by decide) ?_
  refine wj_bipush (v := 15) C dX4_isPlace_2 (by decide) ?_
  refine wj_cif C (wj_rS C dX4_isPlace_4 km_X4_isIn kl_X4_64 (c_X4_isIn l V) rfl rfl (Nat.le_of_ble_eq_true rfl) (by decide)) ?_
  exact hR _ _ _ _ _ dX4_isPlace_7 ⟨wj_nzi, rfl, rfl⟩ wj_rfl
set_option maxRecDepth 100000 in
set_option maxHeartbeats 4000000 in
theorem c_X4_isListed (l : Launch) (V : wj_V) {σ : wj_St} {a : Int32} : wj_M l V yX4_isListed cX4_isListed 1 (some .boolean) 1 22 [.int a] σ (wj_I V (if 0 ≤ a ∧ a ≤ 5 then 1 else 0) σ) := by
  refine wj_ofZ (own := RX4) [some (.int a)] (by decide) rfl rfl (Nat.le_of_ble_eq_true rfl) (fun X C hR => ?_)
  refine wj_iload_n C 0 dX4_isListed_0 rfl rfl ?_
  refine wj_iconst (v := 0) C dX4_isListed_1 (by decide) ?_
  refine wj_iconst (v := 5) C dX4_isListed_2 (by decide) ?_
  refine wj_cif C (wj_rS C dX4_isListed_3 km_X4_isIn kl_X4_64 (c_X4_isIn l V) rfl rfl (Nat.le_of_ble_eq_true rfl) (by decide)) ?_
  exact hR _ _ _ _ _ dX4_isListed_6 ⟨wj_nzi, rfl, rfl⟩ wj_rfl
set_option maxRecDepth 100000 in
set_option maxHeartbeats 4000000 in
theorem c_X4_isWeight (l : Launch) (V : wj_V) {σ : wj_St} {a : Int32} : wj_M l V yX4_isWeight cX4_isWeight 1 (some .boolean) 1 22 [.int a] σ (wj_I V (if 0 ≤ a ∧ a ≤ 99 then 1 else 0) σ) := by
  refine wj_ofZ (own := RX4) [some (.int a)] (by decide) rfl rfl (Nat.le_of_ble_eq_true rfl) (fun X C hR => ?_)
  refine wj_iload_n C 0 dX4_isWeight_0 rfl rfl ?_
  refine wj_iconst (v := 0) C dX4_isWeight_1 (by decide) ?_
  refine wj_bipush (v := 99) C dX4_isWeight_2 (by decide) ?_
  refine wj_cif C (wj_rS C dX4_isWeight_4 km_X4_isIn kl_X4_64 (c_X4_isIn l V) rfl rfl (Nat.le_of_ble_eq_true rfl) (by decide)) ?_
  exact hR _ _ _ _ _ dX4_isWeight_7 ⟨wj_nzi, rfl, rfl⟩ wj_rfl
set_option maxRecDepth 100000 in
set_option maxHeartbeats 4000000 in
theorem c_X4_isLeaning (l : Launch) (V : wj_V) {σ : wj_St} {a : Int32} : wj_M l V yX4_isLeaning cX4_isLeaning 1 (some .boolean) 1 22 [.int a] σ (wj_I V (if 0 ≤ a ∧ a ≤ 1599 then 1 else 0) σ) := by
  refine wj_ofZ (own := RX4) [some (.int a)] (by decide) rfl rfl (Nat.le_of_ble_eq_true rfl) (fun X C hR => ?_)
  refine wj_iload_n C 0 dX4_isLeaning_0 rfl rfl ?_
  refine wj_iconst (v := 0) C dX4_isLeaning_1 (by decide) ?_
  refine wj_sipush (v := 1599) C dX4_isLeaning_2 (by decide) ?_
  refine wj_cif C (wj_rS C dX4_isLeaning_5 km_X4_isIn kl_X4_64 (c_X4_isIn l V) rfl rfl (Nat.le_of_ble_eq_true rfl) (by decide)) ?_
  exact hR _ _ _ _ _ dX4_isLeaning_8 ⟨wj_nzi, rfl, rfl⟩ wj_rfl
set_option maxRecDepth 100000 in
set_option maxHeartbeats 4000000 in
theorem c_X4_isForetold (l : Launch) (V : wj_V) {σ : wj_St} {a : Int32} : wj_M l V yX4_isForetold cX4_isForetold 1 (some .boolean) 0 0 [.int a] σ (wj_I V (if a = 2 ∨ a = 3 ∨ a = 6 ∨ a = 7 ∨ a = 9 then 1 else 0) σ) := by
  refine wj_ofZ (own := RX4) [some (.int a)] (by decide) rfl rfl (Nat.le_of_ble_eq_true rfl) (fun X C hR => ?_)
  refine wj_iload_n C 0 dX4_isForetold_0 rfl rfl ?_
  refine wj_iconst (v := 2) C dX4_isForetold_1 (by decide) ?_
  refine wj_icmp_eq C 28 dX4_isForetold_2 (by decide) (fun h2 => ?_) (fun h2 => ?_)
  · refine wj_iconst (v := 1) C dX4_isForetold_28 (by decide) ?_
    refine wj_goto C 33 dX4_isForetold_29 (by decide) ?_
    exact hR _ _ _ _ _ dX4_isForetold_33 ⟨by decide +kernel, (by simp [*]), rfl⟩ wj_rfl
  · refine wj_iload_n C 0 dX4_isForetold_5 rfl rfl ?_
    refine wj_iconst (v := 3) C dX4_isForetold_6 (by decide) ?_
    refine wj_icmp_eq C 28 dX4_isForetold_7 (by decide) (fun h7 => ?_) (fun h7 => ?_)
    · refine wj_iconst (v := 1) C dX4_isForetold_28 (by decide) ?_
      refine wj_goto C 33 dX4_isForetold_29 (by decide) ?_
      exact hR _ _ _ _ _ dX4_isForetold_33 ⟨by decide +kernel, (by simp [*]), rfl⟩ wj_rfl
    · refine wj_iload_n C 0 dX4_isForetold_10 rfl rfl ?_
      refine wj_bipush (v := 6) C dX4_isForetold_11 (by decide) ?_
      refine wj_icmp_eq C 28 dX4_isForetold_13 (by decide) (fun h13 => ?_) (fun h13 => ?_)
      · refine wj_iconst (v := 1) C dX4_isForetold_28 (by decide) ?_
        refine wj_goto C 33 dX4_isForetold_29 (by decide) ?_
        exact hR _ _ _ _ _ dX4_isForetold_33 ⟨by decide +kernel, (by simp [*]), rfl⟩ wj_rfl
      · refine wj_iload_n C 0 dX4_isForetold_16 rfl rfl ?_
        refine wj_bipush (v := 7) C dX4_isForetold_17 (by decide) ?_
        refine wj_icmp_eq C 28 dX4_isForetold_19 (by decide) (fun h19 => ?_) (fun h19 => ?_)
        · refine wj_iconst (v := 1) C dX4_isForetold_28 (by decide) ?_
          refine wj_goto C 33 dX4_isForetold_29 (by decide) ?_
          exact hR _ _ _ _ _ dX4_isForetold_33 ⟨by decide +kernel, (by simp [*]), rfl⟩ wj_rfl
        · refine wj_iload_n C 0 dX4_isForetold_22 rfl rfl ?_
          refine wj_bipush (v := 9) C dX4_isForetold_23 (by decide) ?_
          refine wj_icmp_ne C 32 dX4_isForetold_25 (by decide) (fun h25 => ?_) (fun h25 => ?_)
          · refine wj_iconst (v := 0) C dX4_isForetold_32 (by decide) ?_
            exact hR _ _ _ _ _ dX4_isForetold_33 ⟨by decide +kernel, (by simp [*]), rfl⟩ wj_rfl
          · refine wj_iconst (v := 1) C dX4_isForetold_28 (by decide) ?_
            refine wj_goto C 33 dX4_isForetold_29 (by decide) ?_
            exact hR _ _ _ _ _ dX4_isForetold_33 ⟨by decide +kernel, (by simp [*]), rfl⟩ wj_rfl
set_option maxRecDepth 100000 in
set_option maxHeartbeats 4000000 in
theorem c_X4_tell (l : Launch) (V : wj_V) {σ : wj_St} {w : Nat} {x : Int32} (hw : w < 7) (hx : x = -1000001 - nI w) : wj_M l V yX4_tell cX4_tell 3 (some .int) 1 22 [.ref (V.2.2.1 0), .int x] σ (wj_I V x (sp_tl σ w)) := by
  refine wj_ofI (own := RX4) [some (.ref (V.2.2.1 0)), some (.int x), none] (by decide) rfl rfl (Nat.le_of_ble_eq_true rfl) (fun X C hR => ?_)
  refine wj_ldc C dX4_tell_0 kc_X4_68 ?_
  refine wj_iload_n C 1 dX4_tell_2 rfl rfl ?_
  refine wj_isub C dX4_tell_3 ?_
  refine wj_top (y := nI w) (by rw [hx]; exact sp_tl_ix w hw) ?_
  refine wj_istore_n C 2 dX4_tell_4 rfl (by decide) rfl ?_
  dsimp only [List.set]
  refine wj_iload_n C 2 dX4_tell_5 rfl rfl ?_
  refine wj_iconst (v := 0) C dX4_tell_6 (by decide) ?_
  refine wj_bipush (v := 6) C dX4_tell_7 (by decide) ?_
  refine wj_cif C (wj_rS C dX4_tell_9 km_X4_isIn kl_X4_64 (c_X4_isIn l V) rfl rfl (Nat.le_of_ble_eq_true rfl) (by decide)) ?_
  refine wj_if_eq C 25 dX4_tell_12 (by decide) (fun h12 => absurd h12 (by rw [if_pos (show 0 ≤ nI w ∧ nI w ≤ (6 : Int32) from wj_rngCI (i := w) (N := 6) (by omega) (by decide))]; decide)) (fun h12 => ?_)
  refine wj_aload_n C 0 dX4_tell_15 rfl rfl ?_
  refine wg_X4_53 C dX4_tell_16 ?_
  refine wj_iload_n C 2 dX4_tell_19 rfl rfl ?_
  refine wj_dup2 C dX4_tell_20 rfl rfl ?_
  refine wj_ialdN C dX4_tell_21 ar_told ⟨by omega, by decide⟩ ?_
  refine wj_iconst (v := 1) C dX4_tell_22 (by decide) ?_
  refine wj_iadd C dX4_tell_23 ?_
  refine wj_iastN C dX4_tell_24 ar_told ⟨by omega, by decide⟩ ?_
  refine wj_iload_n C 1 dX4_tell_25 rfl rfl ?_
  exact hR _ _ _ _ _ dX4_tell_26 ⟨rfl, rfl⟩ wj_rfl
set_option maxRecDepth 100000 in
set_option maxHeartbeats 4000000 in
theorem c_X4_toldInAll (l : Launch) (V : wj_V) {σ : wj_St} : wj_M l V yX4_toldInAll cX4_toldInAll 6 (some .int) 0 0 [.ref (V.2.2.1 0)] σ (wj_I V (sp_tot (σ 36) 7) σ) := by
  refine wj_ofI (own := RX4) [some (.ref (V.2.2.1 0)), none, none, none, none, none] (by decide) rfl rfl (Nat.le_of_ble_eq_true rfl) (fun X C hR => ?_)
  have lp : ∀ n i j, i ≤ 7 → 7 - i < n → wj_J l V X 13 [some (.ref (V.2.2.1 0)), some (.int (sp_tot (σ 36) i)), some (.ref (V.2.2.1 36)), some (.int 7), some (.int (nI i)), j] [] (σ) := by
    intro n
    induction n with
    | zero => intro i j _ h; omega
    | succ n ih =>
      intro i j hi hm
      refine wj_iload C dX4_toldInAll_13 rfl ?_
      refine wj_iload_n C 3 dX4_toldInAll_15 rfl rfl ?_
      refine wj_icmp_ge C 36 dX4_toldInAll_16 (by decide) (fun h16 => ?_) (fun h16 => ?_)
      · have e9 := wj_ge (N := 7) (by decide) hi h16
        subst e9
        refine wj_iload_n C 1 dX4_toldInAll_36 rfl rfl ?_
        exact hR _ _ _ _ _ dX4_toldInAll_37 ⟨rfl, rfl⟩ wj_rfl
      · have hlt := wj_nge (N := 7) (by decide) hi h16
        refine wj_aload_n C 2 dX4_toldInAll_19 rfl rfl ?_
        refine wj_iload C dX4_toldInAll_20 rfl ?_
        refine wj_ialdN C dX4_toldInAll_22 ar_told ⟨hlt, by decide⟩ ?_
        refine wj_istore C dX4_toldInAll_23 (by decide) rfl ?_
        dsimp only [List.set]
        refine wj_iload_n C 1 dX4_toldInAll_25 rfl rfl ?_
        refine wj_iload C dX4_toldInAll_26 rfl ?_
        refine wj_iadd C dX4_toldInAll_28 ?_
        refine wj_istore_n C 1 dX4_toldInAll_29 rfl (by decide) rfl ?_
        dsimp only [List.set]
        refine wj_iinc C (v := nI (i + 1)) dX4_toldInAll_30 rfl (wj_i1 i) (by decide) rfl ?_
        dsimp only [List.set]
        refine wj_goto C 13 dX4_toldInAll_33 (by decide) ?_
        exact ih (i + 1) _ (by omega) (by omega)
  refine wj_iconst (v := 0) C dX4_toldInAll_0 (by decide) ?_
  refine wj_istore_n C 1 dX4_toldInAll_1 rfl (by decide) rfl ?_
  dsimp only [List.set]
  refine wj_aload_n C 0 dX4_toldInAll_2 rfl rfl ?_
  refine wg_X4_53 C dX4_toldInAll_3 ?_
  refine wj_astore_n C 2 dX4_toldInAll_6 rfl (by decide) rfl ?_
  dsimp only [List.set]
  refine wj_aload_n C 2 dX4_toldInAll_7 rfl rfl ?_
  refine wj_alen C dX4_toldInAll_8 ar_told rfl rfl ?_
  refine wj_istore_n C 3 dX4_toldInAll_9 rfl (by decide) rfl ?_
  dsimp only [List.set]
  refine wj_iconst (v := 0) C dX4_toldInAll_10 (by decide) ?_
  refine wj_istore C dX4_toldInAll_11 (by decide) rfl ?_
  dsimp only [List.set]
  exact lp 8 0 _ (by omega) (by omega)
set_option maxRecDepth 100000 in
set_option maxHeartbeats 4000000 in
theorem c_X4_spotsInUse (l : Launch) (V : wj_V) {σ : wj_St} : wj_M l V yX4_spotsInUse cX4_spotsInUse 6 (some .int) 0 0 [.ref (V.2.2.1 0)] σ (wj_I V (nI (sp_use (σ 34) 10)) σ) := by
  refine wj_ofI (own := RX4) [some (.ref (V.2.2.1 0)), none, none, none, none, none] (by decide) rfl rfl (Nat.le_of_ble_eq_true rfl) (fun X C hR => ?_)
  have lp : ∀ n i j, i ≤ 10 → 10 - i < n → wj_J l V X 13 [some (.ref (V.2.2.1 0)), some (.int (nI (sp_use (σ 34) i))), some (.ref (V.2.2.1 34)), some (.int 10), some (.int (nI i)), j] [] (σ) := by
    intro n
    induction n with
    | zero => intro i j _ h; omega
    | succ n ih =>
      intro i j hi hm
      refine wj_iload C dX4_spotsInUse_13 rfl ?_
      refine wj_iload_n C 3 dX4_spotsInUse_15 rfl rfl ?_
      refine wj_icmp_ge C 40 dX4_spotsInUse_16 (by decide) (fun h16 => ?_) (fun h16 => ?_)
      · have e9 := wj_ge (N := 10) (by decide) hi h16
        subst e9
        refine wj_iload_n C 1 dX4_spotsInUse_40 rfl rfl ?_
        exact hR _ _ _ _ _ dX4_spotsInUse_41 ⟨rfl, rfl⟩ wj_rfl
      · have hlt := wj_nge (N := 10) (by decide) hi h16
        refine wj_aload_n C 2 dX4_spotsInUse_19 rfl rfl ?_
        refine wj_iload C dX4_spotsInUse_20 rfl ?_
        refine wj_ialdN C dX4_spotsInUse_22 ar_spots ⟨hlt, by decide⟩ ?_
        refine wj_istore C dX4_spotsInUse_23 (by decide) rfl ?_
        dsimp only [List.set]
        refine wj_iload C dX4_spotsInUse_25 rfl ?_
        refine wj_iconst (v := -1) C dX4_spotsInUse_27 (by decide) ?_
        refine wj_icmp_eq C 34 dX4_spotsInUse_28 (by decide) (fun h28 => ?_) (fun h28 => ?_)
        · have e8 : sp_use (σ 34) (i + 1) = sp_use (σ 34) i := by rw [sp_use, if_pos h28]
          refine wj_iinc C (v := nI (i + 1)) dX4_spotsInUse_34 rfl (wj_i1 i) (by decide) rfl ?_
          dsimp only [List.set]
          refine wj_goto C 13 dX4_spotsInUse_37 (by decide) ?_
          exact (by have hh := ih (i + 1) (some (.int (σ 34 i))) (by omega) (by omega); rw [e8] at hh; exact hh)
        · have e8 : sp_use (σ 34) (i + 1) = sp_use (σ 34) i + 1 := by rw [sp_use, if_neg h28]
          refine wj_iinc C (v := nI (sp_use (σ 34) i + 1)) dX4_spotsInUse_31 rfl (wj_i1 _) (by decide) rfl ?_
          dsimp only [List.set]
          refine wj_iinc C (v := nI (i + 1)) dX4_spotsInUse_34 rfl (wj_i1 i) (by decide) rfl ?_
          dsimp only [List.set]
          refine wj_goto C 13 dX4_spotsInUse_37 (by decide) ?_
          exact (by have hh := ih (i + 1) (some (.int (σ 34 i))) (by omega) (by omega); rw [e8] at hh; exact hh)
  refine wj_iconst (v := 0) C dX4_spotsInUse_0 (by decide) ?_
  refine wj_istore_n C 1 dX4_spotsInUse_1 rfl (by decide) rfl ?_
  dsimp only [List.set]
  refine wj_aload_n C 0 dX4_spotsInUse_2 rfl rfl ?_
  refine wg_X4_19 C dX4_spotsInUse_3 ?_
  refine wj_astore_n C 2 dX4_spotsInUse_6 rfl (by decide) rfl ?_
  dsimp only [List.set]
  refine wj_aload_n C 2 dX4_spotsInUse_7 rfl rfl ?_
  refine wj_alen C dX4_spotsInUse_8 ar_spots rfl rfl ?_
  refine wj_istore_n C 3 dX4_spotsInUse_9 rfl (by decide) rfl ?_
  dsimp only [List.set]
  refine wj_iconst (v := 0) C dX4_spotsInUse_10 (by decide) ?_
  refine wj_istore C dX4_spotsInUse_11 (by decide) rfl ?_
  dsimp only [List.set]
  exact lp 11 0 _ (by omega) (by omega)
set_option maxRecDepth 100000 in
set_option maxHeartbeats 4000000 in
theorem c_X4_sheetAt (l : Launch) (V : wj_V) {σ : wj_St} {i : Nat} (hi : i < 4) : wj_M l V yX4_sheetAt cX4_sheetAt 2 (some (.object "WordHedge$Sheet")) 1 22 [.ref (V.2.2.1 0), .int (nI i)] σ (wj_Rf V (some (V.2.2.1 (38 + i))) σ) := by
  refine wj_ofR (own := RX4) [some (.ref (V.2.2.1 0)), some (.int (nI i))] (by decide) rfl rfl (Nat.le_of_ble_eq_true rfl) (fun X C hR => ?_)
  refine wj_iload_n C 1 dX4_sheetAt_0 rfl rfl ?_
  refine wj_iconst (v := 0) C dX4_sheetAt_1 (by decide) ?_
  refine wj_iconst (v := 3) C dX4_sheetAt_2 (by decide) ?_
  refine wj_cif C (wj_rS C dX4_sheetAt_3 km_X4_isIn kl_X4_64 (c_X4_isIn l V) rfl rfl (Nat.le_of_ble_eq_true rfl) (by decide)) ?_
  refine wj_if_eq C 18 dX4_sheetAt_6 (by decide) (fun h6 => absurd h6 (by rw [if_pos (show 0 ≤ nI i ∧ nI i ≤ (3 : Int32) from wj_rngCI (i := i) (N := 3) (by omega) (by decide))]; decide)) (fun h6 => ?_)
  refine wj_aload_n C 0 dX4_sheetAt_9 rfl rfl ?_
  refine wg_X4_42 C dX4_sheetAt_10 ?_
  refine wj_iload_n C 1 dX4_sheetAt_13 rfl rfl ?_
  refine wj_aaldH C dX4_sheetAt_14 (by omega) ?_
  refine wj_goto C 19 dX4_sheetAt_15 (by decide) ?_
  exact hR _ _ _ _ _ dX4_sheetAt_19 ⟨rfl, rfl⟩ wj_rfl
set_option maxRecDepth 100000 in
set_option maxHeartbeats 4000000 in
theorem c_X4_sheetAt_no (l : Launch) (V : wj_V) {σ : wj_St} {x : Int32} (hx : ¬ (0 ≤ x ∧ x ≤ 3)) : wj_M l V yX4_sheetAt cX4_sheetAt 2 (some (.object "WordHedge$Sheet")) 1 22 [.ref (V.2.2.1 0), .int x] σ (wj_Rf V none σ) := by
  refine wj_ofR (own := RX4) [some (.ref (V.2.2.1 0)), some (.int x)] (by decide) rfl rfl (Nat.le_of_ble_eq_true rfl) (fun X C hR => ?_)
  refine wj_iload_n C 1 dX4_sheetAt_0 rfl rfl ?_
  refine wj_iconst (v := 0) C dX4_sheetAt_1 (by decide) ?_
  refine wj_iconst (v := 3) C dX4_sheetAt_2 (by decide) ?_
  refine wj_cif C (wj_rS C dX4_sheetAt_3 km_X4_isIn kl_X4_64 (c_X4_isIn l V) rfl rfl (Nat.le_of_ble_eq_true rfl) (by decide)) ?_
  refine wj_if_eq C 18 dX4_sheetAt_6 (by decide) (fun h6 => ?_) (fun h6 => absurd (by rw [if_neg hx]) h6)
  refine wj_null C dX4_sheetAt_18 ?_
  exact hR _ _ _ _ _ dX4_sheetAt_19 ⟨rfl, rfl⟩ wj_rfl
set_option maxRecDepth 100000 in
set_option maxHeartbeats 4000000 in
theorem c_X4_draw (l : Launch) (V : wj_V) {σ : wj_St} : wj_M l V yX4_draw cX4_draw 1 (some .int) 0 0 [.ref (V.2.2.1 0)] σ (wj_I V ((σ 0 3 * 1103515245 + 12345).toUInt32 >>> ((8 : Int32).toUInt32 &&& Int32.toUInt32 31)).toInt32 (wj_u σ 0 3 (σ 0 3 * 1103515245 + 12345))) := by
  refine wj_ofI (own := RX4) [some (.ref (V.2.2.1 0))] (by decide) rfl rfl (Nat.le_of_ble_eq_true rfl) (fun X C hR => ?_)
  refine wj_aload_n C 0 dX4_draw_0 rfl rfl ?_
  refine wj_aload_n C 0 dX4_draw_1 rfl rfl ?_
  refine wg_X4_23 C dX4_draw_2 ?_
  refine wj_ldcw C dX4_draw_5 kc_X4_272 ?_
  refine wj_imul C dX4_draw_8 ?_
  refine wj_sipush (v := 12345) C dX4_draw_9 (by decide) ?_
  refine wj_iadd C dX4_draw_12 ?_
  refine wp_X4_23 C dX4_draw_13 ?_
  refine wj_aload_n C 0 dX4_draw_16 rfl rfl ?_
  refine wg_X4_23 C dX4_draw_17 ?_
  refine wj_bipush (v := 8) C dX4_draw_20 (by decide) ?_
  refine wj_iushr C dX4_draw_22 ?_
  exact hR _ _ _ _ _ dX4_draw_23 ⟨(by rw [wj_u_same]; simp [upd]), rfl⟩ wj_rfl
/-- a product of n -/
def sp_pw (b : Int32) : Nat → Int64
  | 0 => 1
  | n + 1 => sp_pw b n * b.toInt64
set_option maxRecDepth 100000 in
set_option maxHeartbeats 4000000 in
theorem c_X4_power (l : Launch) (V : wj_V) {σ : wj_St} {b : Int32} {M : Nat} (hM : M < 2 ^ 31) : wj_M l V yX4_power cX4_power 5 (some .long) 0 0 [.int b, .int (nI M)] σ (wj_Lg V (sp_pw b M) σ) := by
  refine wj_ofL (own := RX4) [some (.int b), some (.int (nI M)), none, none, none] (by decide) rfl rfl (Nat.le_of_ble_eq_true rfl) (fun X C hR => ?_)
  have lp : ∀ n i, i ≤ M → M - i < n → wj_J l V X 5 [some (.int b), some (.int (nI M)), some (.long (sp_pw b i)), none, some (.int (nI i))] [] (σ) := by
    intro n
    induction n with
    | zero => intro i _ h; omega
    | succ n ih =>
      intro i hi hm
      refine wj_iload C dX4_power_5 rfl ?_
      refine wj_iload_n C 1 dX4_power_7 rfl rfl ?_
      refine wj_icmp_ge C 22 dX4_power_8 (by decide) (fun h8 => ?_) (fun h8 => ?_)
      · have e9 := wj_ge (N := M) (by omega) hi h8
        subst e9
        refine wj_lload_n C 2 dX4_power_22 rfl rfl ?_
        exact hR _ _ _ _ _ dX4_power_23 ⟨rfl, rfl⟩ wj_rfl
      · have hlt := wj_nge (N := M) (by omega) hi h8
        refine wj_lload_n C 2 dX4_power_11 rfl rfl ?_
        refine wj_iload_n C 0 dX4_power_12 rfl rfl ?_
        refine wj_i2l C dX4_power_13 ?_
        refine wj_lmul C dX4_power_14 ?_
        refine wj_lstore_n C 2 dX4_power_15 rfl (by decide) rfl ?_
        dsimp only [List.set]
        refine wj_iinc C (v := nI (i + 1)) dX4_power_16 rfl (wj_i1 i) (by decide) rfl ?_
        dsimp only [List.set]
        refine wj_goto C 5 dX4_power_19 (by decide) ?_
        exact ih (i + 1) (by omega) (by omega)
  refine wj_lconst (v := 1) C dX4_power_0 (by decide) ?_
  refine wj_lstore_n C 2 dX4_power_1 rfl (by decide) rfl ?_
  dsimp only [List.set]
  refine wj_iconst (v := 0) C dX4_power_2 (by decide) ?_
  refine wj_istore C dX4_power_3 (by decide) rfl ?_
  dsimp only [List.set]
  exact lp (M + 1) 0 (by omega) (by omega)
/-- the kind above, at most n steps -/
def sp_one (w : Int32) : Nat → Int32 → Bool
  | 0, k => decide (k = w)
  | n + 1, k => if k = w then true else sp_one w n (sp_abv k)
theorem sp_one_y {w : Int32} : ∀ n, sp_one w n w = true
  | 0 => by simp [sp_one]
  | n + 1 => by simp [sp_one]
theorem sp_one_s {w k : Int32} {n : Nat} (h : ¬ k = w) : sp_one w (n + 1) k = sp_one w n (sp_abv k) := by rw [sp_one, if_neg h]
set_option maxRecDepth 100000 in
set_option maxHeartbeats 4000000 in
theorem c_X2_isOne (l : Launch) (V : wj_V) {σ : wj_St} {k : Nat} {w : Int32} (hk : 10 ≤ k ∧ k < 34) : wj_M l V yX2_isOne cX2_isOne 4 (some .boolean) 1 20 [.ref (V.2.2.1 k), .int w] σ (wj_I V (if sp_one w 3 (σ k 0) = true then 1 else 0) σ) := by
  refine wj_ofZ (own := RX2) [some (.ref (V.2.2.1 k)), some (.int w), none, none] (by decide) rfl rfl (Nat.le_of_ble_eq_true rfl) (fun X C hR => ?_)
  have lp : ∀ n i c, i ≤ 3 → 3 - i < n → sp_one w (3 - i) c = sp_one w 3 (σ k 0) → wj_J l V X 7 [some (.ref (V.2.2.1 k)), some (.int w), some (.int c), some (.int (nI i))] [] (σ) := by
    intro n
    induction n with
    | zero => intro i c _ h; omega
    | succ n ih =>
      intro i c hi hm hr
      refine wj_iload_n C 3 dX2_isOne_7 rfl rfl ?_
      refine wj_iconst (v := 3) C dX2_isOne_8 (by decide) ?_
      refine wj_icmp_ge C 28 dX2_isOne_9 (by decide) (fun h9 => ?_) (fun h9 => ?_)
      · have e9 := wj_ge (N := 3) (by decide) hi h9
        subst e9
        refine wj_iload_n C 2 dX2_isOne_28 rfl rfl ?_
        refine wj_iload_n C 1 dX2_isOne_29 rfl rfl ?_
        refine wj_icmp_ne C 37 dX2_isOne_30 (by decide) (fun h30 => ?_) (fun h30 => ?_)
        · refine wj_iconst (v := 0) C dX2_isOne_37 (by decide) ?_
          exact hR _ _ _ _ _ dX2_isOne_38 ⟨by decide +kernel, (by first | exact absurd rfl h30 | (rw [← hr, if_pos rfl]; done) | (rw [← hr, if_pos (by simp [sp_one, h30])]; done) | (rw [← hr, if_neg (by simp [sp_one, h30])]; done)), rfl⟩ wj_rfl
        · refine wj_iconst (v := 1) C dX2_isOne_33 (by decide) ?_
          refine wj_goto C 38 dX2_isOne_34 (by decide) ?_
          exact hR _ _ _ _ _ dX2_isOne_38 ⟨by decide +kernel, (by first | exact absurd rfl h30 | (rw [← hr, if_pos rfl]; done) | (rw [← hr, if_pos (by simp [sp_one, h30])]; done) | (rw [← hr, if_neg (by simp [sp_one, h30])]; done)), rfl⟩ wj_rfl
      · have hlt := wj_nge (N := 3) (by decide) hi h9
        refine wj_iload_n C 2 dX2_isOne_12 rfl rfl ?_
        refine wj_iload_n C 1 dX2_isOne_13 rfl rfl ?_
        refine wj_icmp_eq C 28 dX2_isOne_14 (by decide) (fun h14 => ?_) (fun h14 => ?_)
        · subst h14
          rw [sp_one_y] at hr
          refine wj_iload_n C 2 dX2_isOne_28 rfl rfl ?_
          refine wj_iload_n C 1 dX2_isOne_29 rfl rfl ?_
          refine wj_icmp_ne C 37 dX2_isOne_30 (by decide) (fun h30 => ?_) (fun h30 => ?_)
          · refine wj_iconst (v := 0) C dX2_isOne_37 (by decide) ?_
            exact hR _ _ _ _ _ dX2_isOne_38 ⟨by decide +kernel, (by first | exact absurd rfl h30 | (rw [← hr, if_pos rfl]; done) | (rw [← hr, if_pos (by simp [sp_one, h30])]; done) | (rw [← hr, if_neg (by simp [sp_one, h30])]; done)), rfl⟩ wj_rfl
          · refine wj_iconst (v := 1) C dX2_isOne_33 (by decide) ?_
            refine wj_goto C 38 dX2_isOne_34 (by decide) ?_
            exact hR _ _ _ _ _ dX2_isOne_38 ⟨by decide +kernel, (by first | exact absurd rfl h30 | (rw [← hr, if_pos rfl]; done) | (rw [← hr, if_pos (by simp [sp_one, h30])]; done) | (rw [← hr, if_neg (by simp [sp_one, h30])]; done)), rfl⟩ wj_rfl
        · refine wj_iload_n C 2 dX2_isOne_17 rfl rfl ?_
          refine wj_cif C (wj_rS C dX2_isOne_18 km_X2_kindAbove kl_X2_44 (c_X2_kindAbove l V) rfl rfl (Nat.le_of_ble_eq_true rfl) (by decide)) ?_
          refine wj_istore_n C 2 dX2_isOne_21 rfl (by decide) rfl ?_
          dsimp only [List.set]
          refine wj_iinc C (v := nI (i + 1)) dX2_isOne_22 rfl (wj_i1 i) (by decide) rfl ?_
          dsimp only [List.set]
          refine wj_goto C 7 dX2_isOne_25 (by decide) ?_
          exact ih (i + 1) (sp_abv c) (by omega) (by omega) (by rw [← hr, show 3 - i = (3 - (i + 1)) + 1 by omega, sp_one_s h14])
  refine wj_aload_n C 0 dX2_isOne_0 rfl rfl ?_
  refine wg_X2_22 C dX2_isOne_1 (by first | assumption | omega) ?_
  refine wj_istore_n C 2 dX2_isOne_4 rfl (by decide) rfl ?_
  dsimp only [List.set]
  refine wj_iconst (v := 0) C dX2_isOne_5 (by decide) ?_
  refine wj_istore_n C 3 dX2_isOne_6 rfl (by decide) rfl ?_
  dsimp only [List.set]
  exact lp 4 0 _ (by omega) (by omega) rfl
set_option maxRecDepth 100000 in
set_option maxHeartbeats 4000000 in
theorem c_X1_canBeOf (l : Launch) (V : wj_V) {σ : wj_St} {a : Int32} : wj_M l V yX1_canBeOf cX1_canBeOf 1 (some .boolean) 0 0 [.int a] σ (wj_I V (if a = 0 ∨ a = 8 ∨ a = 16 ∨ a = 32 then 1 else 0) σ) := by
  refine wj_ofZ (own := RX1) [some (.int a)] (by decide) rfl rfl (Nat.le_of_ble_eq_true rfl) (fun X C hR => ?_)
  refine wj_iload_n C 0 dX1_canBeOf_0 rfl rfl ?_
  refine wj_if_eq C 22 dX1_canBeOf_1 (by decide) (fun h1 => ?_) (fun h1 => ?_)
  · refine wj_iconst (v := 1) C dX1_canBeOf_22 (by decide) ?_
    refine wj_goto C 27 dX1_canBeOf_23 (by decide) ?_
    exact hR _ _ _ _ _ dX1_canBeOf_27 ⟨by decide +kernel, (by simp [*]), rfl⟩ wj_rfl
  · refine wj_iload_n C 0 dX1_canBeOf_4 rfl rfl ?_
    refine wj_bipush (v := 8) C dX1_canBeOf_5 (by decide) ?_
    refine wj_icmp_eq C 22 dX1_canBeOf_7 (by decide) (fun h7 => ?_) (fun h7 => ?_)
    · refine wj_iconst (v := 1) C dX1_canBeOf_22 (by decide) ?_
      refine wj_goto C 27 dX1_canBeOf_23 (by decide) ?_
      exact hR _ _ _ _ _ dX1_canBeOf_27 ⟨by decide +kernel, (by simp [*]), rfl⟩ wj_rfl
    · refine wj_iload_n C 0 dX1_canBeOf_10 rfl rfl ?_
      refine wj_bipush (v := 16) C dX1_canBeOf_11 (by decide) ?_
      refine wj_icmp_eq C 22 dX1_canBeOf_13 (by decide) (fun h13 => ?_) (fun h13 => ?_)
      · refine wj_iconst (v := 1) C dX1_canBeOf_22 (by decide) ?_
        refine wj_goto C 27 dX1_canBeOf_23 (by decide) ?_
        exact hR _ _ _ _ _ dX1_canBeOf_27 ⟨by decide +kernel, (by simp [*]), rfl⟩ wj_rfl
      · refine wj_iload_n C 0 dX1_canBeOf_16 rfl rfl ?_
        refine wj_bipush (v := 32) C dX1_canBeOf_17 (by decide) ?_
        refine wj_icmp_ne C 26 dX1_canBeOf_19 (by decide) (fun h19 => ?_) (fun h19 => ?_)
        · refine wj_iconst (v := 0) C dX1_canBeOf_26 (by decide) ?_
          exact hR _ _ _ _ _ dX1_canBeOf_27 ⟨by decide +kernel, (by simp [*]), rfl⟩ wj_rfl
        · refine wj_iconst (v := 1) C dX1_canBeOf_22 (by decide) ?_
          refine wj_goto C 27 dX1_canBeOf_23 (by decide) ?_
          exact hR _ _ _ _ _ dX1_canBeOf_27 ⟨by decide +kernel, (by simp [*]), rfl⟩ wj_rfl
set_option maxRecDepth 100000 in
set_option maxHeartbeats 4000000 in
theorem c_X1_isMissing (l : Launch) (V : wj_V) {σ : wj_St} {k : Nat} (hk : 38 ≤ k ∧ k < 42) : wj_M l V yX1_isMissing cX1_isMissing 1 (some .boolean) 0 0 [.ref (V.2.2.1 k)] σ (wj_I V (if σ k 1 = 0 then 1 else 0) σ) := by
  refine wj_ofZ (own := RX1) [some (.ref (V.2.2.1 k))] (by decide) rfl rfl (Nat.le_of_ble_eq_true rfl) (fun X C hR => ?_)
  refine wj_aload_n C 0 dX1_isMissing_0 rfl rfl ?_
  refine wg_X1_15 C dX1_isMissing_1 (by first | assumption | omega) ?_
  refine wj_if_ne C 11 dX1_isMissing_4 (by decide) (fun h4 => ?_) (fun h4 => ?_)
  · refine wj_iconst (v := 0) C dX1_isMissing_11 (by decide) ?_
    exact hR _ _ _ _ _ dX1_isMissing_12 ⟨by decide +kernel, (by simp [*]), rfl⟩ wj_rfl
  · refine wj_iconst (v := 1) C dX1_isMissing_7 (by decide) ?_
    refine wj_goto C 12 dX1_isMissing_8 (by decide) ?_
    exact hR _ _ _ _ _ dX1_isMissing_12 ⟨by decide +kernel, (by simp [*]), rfl⟩ wj_rfl
set_option maxRecDepth 100000 in
set_option maxHeartbeats 4000000 in
theorem c_X1_has (l : Launch) (V : wj_V) {σ : wj_St} {k : Nat} {a b : Int32} (hk : 38 ≤ k ∧ k < 42) : wj_M l V yX1_has cX1_has 3 (some .boolean) 0 0 [.ref (V.2.2.1 k), .int a, .int b] σ (wj_I V (if 0 ≤ a ∧ 0 ≤ b ∧ a ≤ σ k 2 - b then 1 else 0) σ) := by
  refine wj_ofZ (own := RX1) [some (.ref (V.2.2.1 k)), some (.int a), some (.int b)] (by decide) rfl rfl (Nat.le_of_ble_eq_true rfl) (fun X C hR => ?_)
  refine wj_iload_n C 1 dX1_has_0 rfl rfl ?_
  refine wj_if_lt C 22 dX1_has_1 (by decide) (fun h1 => ?_) (fun h1 => ?_)
  · refine wj_iconst (v := 0) C dX1_has_22 (by decide) ?_
    exact hR _ _ _ _ _ dX1_has_23 ⟨by decide +kernel, (by first | (rw [if_pos ⟨Int32.not_lt.mp h1, Int32.not_lt.mp h5, Int32.not_lt.mp h15⟩]; done) | (rw [if_neg (fun q => Int32.not_lt.mpr q.1 h1)]; done) | (rw [if_neg (fun q => Int32.not_lt.mpr q.2.1 h5)]; done) | (rw [if_neg (fun q => Int32.not_lt.mpr q.2.2 h15)]; done)), rfl⟩ wj_rfl
  · refine wj_iload_n C 2 dX1_has_4 rfl rfl ?_
    refine wj_if_lt C 22 dX1_has_5 (by decide) (fun h5 => ?_) (fun h5 => ?_)
    · refine wj_iconst (v := 0) C dX1_has_22 (by decide) ?_
      exact hR _ _ _ _ _ dX1_has_23 ⟨by decide +kernel, (by first | (rw [if_pos ⟨Int32.not_lt.mp h1, Int32.not_lt.mp h5, Int32.not_lt.mp h15⟩]; done) | (rw [if_neg (fun q => Int32.not_lt.mpr q.1 h1)]; done) | (rw [if_neg (fun q => Int32.not_lt.mpr q.2.1 h5)]; done) | (rw [if_neg (fun q => Int32.not_lt.mpr q.2.2 h15)]; done)), rfl⟩ wj_rfl
    · refine wj_iload_n C 1 dX1_has_8 rfl rfl ?_
      refine wj_aload_n C 0 dX1_has_9 rfl rfl ?_
      refine wg_X1_19 C dX1_has_10 (by first | assumption | omega) ?_
      refine wj_iload_n C 2 dX1_has_13 rfl rfl ?_
      refine wj_isub C dX1_has_14 ?_
      refine wj_icmp_gt C 22 dX1_has_15 (by decide) (fun h15 => ?_) (fun h15 => ?_)
      · refine wj_iconst (v := 0) C dX1_has_22 (by decide) ?_
        exact hR _ _ _ _ _ dX1_has_23 ⟨by decide +kernel, (by first | (rw [if_pos ⟨Int32.not_lt.mp h1, Int32.not_lt.mp h5, Int32.not_lt.mp h15⟩]; done) | (rw [if_neg (fun q => Int32.not_lt.mpr q.1 h1)]; done) | (rw [if_neg (fun q => Int32.not_lt.mpr q.2.1 h5)]; done) | (rw [if_neg (fun q => Int32.not_lt.mpr q.2.2 h15)]; done)), rfl⟩ wj_rfl
      · refine wj_iconst (v := 1) C dX1_has_18 (by decide) ?_
        refine wj_goto C 23 dX1_has_19 (by decide) ?_
        exact hR _ _ _ _ _ dX1_has_23 ⟨by decide +kernel, (by first | (rw [if_pos ⟨Int32.not_lt.mp h1, Int32.not_lt.mp h5, Int32.not_lt.mp h15⟩]; done) | (rw [if_neg (fun q => Int32.not_lt.mpr q.1 h1)]; done) | (rw [if_neg (fun q => Int32.not_lt.mpr q.2.1 h5)]; done) | (rw [if_neg (fun q => Int32.not_lt.mpr q.2.2 h15)]; done)), rfl⟩ wj_rfl
set_option maxRecDepth 100000 in
set_option maxHeartbeats 4000000 in
theorem c_X1_agrees (l : Launch) (V : wj_V) {σ : wj_St} {k : Nat} {j m : Nat} {v : Int32} (hk : 38 ≤ k ∧ k < 42) (hm : σ k 2 = nI m) (hj : j < m) (h40 : m ≤ 40) : wj_M l V yX1_agrees cX1_agrees 3 (some .boolean) 1 22 [.ref (V.2.2.1 k), .int (nI j), .int v] σ (wj_I V (if σ (k + 4) j = -1 ∨ σ (k + 4) j = v then 1 else 0) σ) := by
  refine wj_ofZ (own := RX1) [some (.ref (V.2.2.1 k)), some (.int (nI j)), some (.int v)] (by decide) rfl rfl (Nat.le_of_ble_eq_true rfl) (fun X C hR => ?_)
  refine wj_iload_n C 1 dX1_agrees_0 rfl rfl ?_
  refine wj_iconst (v := 0) C dX1_agrees_1 (by decide) ?_
  refine wj_aload_n C 0 dX1_agrees_2 rfl rfl ?_
  refine wg_X1_19 C dX1_agrees_3 (by first | assumption | omega) ?_
  rw [hm]
  refine wj_iconst (v := 1) C dX1_agrees_6 (by decide) ?_
  refine wj_isub C dX1_agrees_7 ?_
  refine wj_cif C (wj_rSN C dX1_agrees_8 km_X4_isIn kl_X1_28 (c_X4_isIn l V) rfl rfl (Nat.le_of_ble_eq_true rfl) (by decide)) ?_
  refine wj_if_eq C 38 dX1_agrees_11 (by decide) (fun h11 => absurd h11 (by rw [if_pos (wj_rngBI hj (by omega))]; decide)) (fun h11 => ?_)
  refine wj_aload_n C 0 dX1_agrees_14 rfl rfl ?_
  refine wg_X1_9 C dX1_agrees_15 (by first | assumption | omega) ?_
  refine wj_iload_n C 1 dX1_agrees_18 rfl rfl ?_
  refine wj_ialdN C dX1_agrees_19 (ar_numbers (by first | assumption | omega)) ⟨by omega, by decide⟩ ?_
  refine wj_iconst (v := -1) C dX1_agrees_20 (by decide) ?_
  refine wj_icmp_eq C 34 dX1_agrees_21 (by decide) (fun h21 => ?_) (fun h21 => ?_)
  · refine wj_iconst (v := 1) C dX1_agrees_34 (by decide) ?_
    refine wj_goto C 39 dX1_agrees_35 (by decide) ?_
    exact hR _ _ _ _ _ dX1_agrees_39 ⟨by decide +kernel, (by simp [*]), rfl⟩ wj_rfl
  · refine wj_aload_n C 0 dX1_agrees_24 rfl rfl ?_
    refine wg_X1_9 C dX1_agrees_25 (by first | assumption | omega) ?_
    refine wj_iload_n C 1 dX1_agrees_28 rfl rfl ?_
    refine wj_ialdN C dX1_agrees_29 (ar_numbers (by first | assumption | omega)) ⟨by omega, by decide⟩ ?_
    refine wj_iload_n C 2 dX1_agrees_30 rfl rfl ?_
    refine wj_icmp_ne C 38 dX1_agrees_31 (by decide) (fun h31 => ?_) (fun h31 => ?_)
    · refine wj_iconst (v := 0) C dX1_agrees_38 (by decide) ?_
      exact hR _ _ _ _ _ dX1_agrees_39 ⟨by decide +kernel, (by simp [*]), rfl⟩ wj_rfl
    · refine wj_iconst (v := 1) C dX1_agrees_34 (by decide) ?_
      refine wj_goto C 39 dX1_agrees_35 (by decide) ?_
      exact hR _ _ _ _ _ dX1_agrees_39 ⟨by decide +kernel, (by simp [*]), rfl⟩ wj_rfl
def sp_cut (v b : Int32) : Int32 := if b = 8 then v.toInt8.toInt32 else if b = 16 then v.toInt16.toInt32 else v
set_option maxRecDepth 100000 in
set_option maxHeartbeats 4000000 in
theorem c_X1_put (l : Launch) (V : wj_V) {σ : wj_St} {k : Nat} {j m : Nat} {v : Int32} (hk : 38 ≤ k ∧ k < 42) (hm : σ k 2 = nI m) (hj : j < m) (h40 : m ≤ 40) : wj_M l V yX1_put cX1_put 3 none 1 22 [.ref (V.2.2.1 k), .int (nI j), .int v] σ (wj_Vd V (wj_u σ (k + 4) j (sp_cut v (σ k 1)))) := by
  refine wj_ofV (own := RX1) [some (.ref (V.2.2.1 k)), some (.int (nI j)), some (.int v)] (by decide) rfl rfl (Nat.le_of_ble_eq_true rfl) (fun X C hR => ?_)
  refine wj_iload_n C 1 dX1_put_0 rfl rfl ?_
  refine wj_iconst (v := 0) C dX1_put_1 (by decide) ?_
  refine wj_aload_n C 0 dX1_put_2 rfl rfl ?_
  refine wg_X1_19 C dX1_put_3 (by first | assumption | omega) ?_
  rw [hm]
  refine wj_iconst (v := 1) C dX1_put_6 (by decide) ?_
  refine wj_isub C dX1_put_7 ?_
  refine wj_cif C (wj_rSN C dX1_put_8 km_X4_isIn kl_X1_28 (c_X4_isIn l V) rfl rfl (Nat.le_of_ble_eq_true rfl) (by decide)) ?_
  refine wj_if_ne C 15 dX1_put_11 (by decide) (fun h11 => ?_) (fun h11 => ?_)
  · refine wj_aload_n C 0 dX1_put_15 rfl rfl ?_
    refine wg_X1_15 C dX1_put_16 (by first | assumption | omega) ?_
    refine wj_lkc C (8) (25) 44 dX1_put_19 (by decide) (by decide) (by decide) (fun h19_8 => ?_) (fun h19_8 => ?_)
    · refine wj_aload_n C 0 dX1_put_44 rfl rfl ?_
      refine wg_X1_9 C dX1_put_45 (by first | assumption | omega) ?_
      refine wj_iload_n C 1 dX1_put_48 rfl rfl ?_
      refine wj_iload_n C 2 dX1_put_49 rfl rfl ?_
      refine wj_i2b C dX1_put_50 ?_
      refine wj_iastN C dX1_put_51 (ar_numbers (by first | assumption | omega)) ⟨by omega, by decide⟩ ?_
      refine wj_goto C 73 dX1_put_52 (by decide) ?_
      exact hR _ _ _ _ dX1_put_73 (by simp [sp_cut, *]) wj_rfl
    refine wj_lkc C (16) (36) 55 dX1_put_19 (by decide) (by decide) (by decide) (fun h19_16 => ?_) (fun h19_16 => ?_)
    · refine wj_aload_n C 0 dX1_put_55 rfl rfl ?_
      refine wg_X1_9 C dX1_put_56 (by first | assumption | omega) ?_
      refine wj_iload_n C 1 dX1_put_59 rfl rfl ?_
      refine wj_iload_n C 2 dX1_put_60 rfl rfl ?_
      refine wj_i2s C dX1_put_61 ?_
      refine wj_iastN C dX1_put_62 (ar_numbers (by first | assumption | omega)) ⟨by omega, by decide⟩ ?_
      refine wj_goto C 73 dX1_put_63 (by decide) ?_
      exact hR _ _ _ _ dX1_put_73 (by simp [sp_cut, *]) wj_rfl
    refine wj_look C (47) 66 dX1_put_19 (by decide) (by rw [lv_osw h19_8 (by decide)]; rw [lv_osw h19_16 (by decide)]; rfl) (by decide) ?_
    refine wj_aload_n C 0 dX1_put_66 rfl rfl ?_
    refine wg_X1_9 C dX1_put_67 (by first | assumption | omega) ?_
    refine wj_iload_n C 1 dX1_put_70 rfl rfl ?_
    refine wj_iload_n C 2 dX1_put_71 rfl rfl ?_
    refine wj_iastN C dX1_put_72 (ar_numbers (by first | assumption | omega)) ⟨by omega, by decide⟩ ?_
    exact hR _ _ _ _ dX1_put_73 (by simp [sp_cut, *]) wj_rfl
  · exact absurd h11 (by rw [if_pos (wj_rngBI hj (by omega))]; decide)
/-- the first n places of a row are v -/
def sp_fi (f : Nat → Int32) (v : Int32) (n : Nat) : Nat → Int32 := fun j => if j < n then v else f j
theorem sp_fi_s {f : Nat → Int32} {v : Int32} {i : Nat} : upd (sp_fi f v i) i v = sp_fi f v (i + 1) := by
  funext j
  simp only [upd, sp_fi]
  by_cases h : j = i
  · subst h; rw [if_pos rfl, if_pos (Nat.lt_succ_self j)]
  · rw [if_neg h]
    by_cases h2 : j < i
    · rw [if_pos h2, if_pos (by omega)]
    · rw [if_neg h2, if_neg (by omega)]
theorem sp_fi_0 {σ : wj_St} {k : Nat} {v : Int32} : wj_r σ k (sp_fi (σ k) v 0) = σ := by
  rw [show sp_fi (σ k) v 0 = σ k from funext fun j => by simp [sp_fi], wj_r_id]
set_option maxRecDepth 100000 in
set_option maxHeartbeats 4000000 in
theorem c_J7_fill_53178 (l : Launch) (V : wj_V) {σ : wj_St} {k N : Nat} {v : Int32} (ha : wj_ar V 0 k N) (hN : N < 1000) : wj_M l V yJ7_fill_53178 cJ7_fill_53178 4 none 0 0 [.ref (V.2.2.1 k), .int v] σ (wj_Vd V (wj_r σ k (sp_fi (σ k) v N))) := by
  refine wj_ofVJ (own := RJ7) [some (.ref (V.2.2.1 k)), some (.int v), none, none] (by decide +kernel) rfl rfl (Nat.le_of_ble_eq_true rfl) (fun X C hR => ?_)
  have lp : ∀ n i, i ≤ N → N - i < n → wj_J l V X 5 [some (.ref (V.2.2.1 k)), some (.int v), some (.int (nI i)), some (.int (nI N))] [] (wj_r σ k (sp_fi (σ k) v i)) := by
    intro n
    induction n with
    | zero => intro i _ h; omega
    | succ n ih =>
      intro i hi hm
      refine wj_iload_n C 2 dJ7_fill_53178_5 rfl rfl ?_
      refine wj_iload_n C 3 dJ7_fill_53178_6 rfl rfl ?_
      refine wj_icmp_ge C 20 dJ7_fill_53178_7 (by decide) (fun h7 => ?_) (fun h7 => ?_)
      · have e9 := wj_ge (N := N) (by omega) hi h7
        subst e9
        exact hR _ _ _ _ dJ7_fill_53178_20 rfl wj_rfl
      · have hlt := wj_nge (N := N) (by omega) hi h7
        refine wj_aload_n C 0 dJ7_fill_53178_10 rfl rfl ?_
        refine wj_iload_n C 2 dJ7_fill_53178_11 rfl rfl ?_
        refine wj_iload_n C 1 dJ7_fill_53178_12 rfl rfl ?_
        refine wj_iastN C dJ7_fill_53178_13 ha ⟨hlt, hN⟩ ?_
        rw [wj_uu, sp_fi_s]
        refine wj_iinc C (v := nI (i + 1)) dJ7_fill_53178_14 rfl (wj_i1 i) (by decide) rfl ?_
        dsimp only [List.set]
        refine wj_goto C 5 dJ7_fill_53178_17 (by decide) ?_
        exact ih (i + 1) (by omega) (by omega)
  refine wj_iconst (v := 0) C dJ7_fill_53178_0 (by decide) ?_
  refine wj_istore_n C 2 dJ7_fill_53178_1 rfl (by decide) rfl ?_
  dsimp only [List.set]
  refine wj_aload_n C 0 dJ7_fill_53178_2 rfl rfl ?_
  refine wj_alen C dJ7_fill_53178_3 ha rfl rfl ?_
  refine wj_istore_n C 3 dJ7_fill_53178_4 rfl (by decide) rfl ?_
  dsimp only [List.set]
  exact (by have hh := lp (N + 1) 0 (by omega) (by omega); rw [sp_fi_0] at hh; exact hh)
set_option maxRecDepth 100000 in
set_option maxHeartbeats 4000000 in
theorem c_X1_renew (l : Launch) (V : wj_V) {σ : wj_St} {k : Nat} {b n : Int32} (hk : 38 ≤ k ∧ k < 42) : wj_M l V yX1_renew cX1_renew 3 none 1 23 [.ref (V.2.2.1 k), .int b, .int n] σ (wj_Vd V (wj_u (wj_u (wj_r σ (k + 4) (sp_fi (σ (k + 4)) 0 40)) k 1 b) k 2 (if b = 0 then 0 else n))) := by
  refine wj_ofV (own := RX1) [some (.ref (V.2.2.1 k)), some (.int b), some (.int n)] (by decide) rfl rfl (Nat.le_of_ble_eq_true rfl) (fun X C hR => ?_)
  refine wj_aload_n C 0 dX1_renew_0 rfl rfl ?_
  refine wg_X1_9 C dX1_renew_1 (by first | assumption | omega) ?_
  refine wj_iconst (v := 0) C dX1_renew_4 (by decide) ?_
  refine wj_cvf C (wj_rS C dX1_renew_5 km_J7_fill_53178 kl_X1_22 (c_J7_fill_53178 l V (ar_numbers hk) (by decide)) rfl rfl (Nat.le_of_ble_eq_true rfl) (by decide)) ?_
  refine wj_aload_n C 0 dX1_renew_8 rfl rfl ?_
  refine wj_iload_n C 1 dX1_renew_9 rfl rfl ?_
  refine wp_X1_15 C dX1_renew_10 (by first | assumption | omega) ?_
  refine wj_aload_n C 0 dX1_renew_13 rfl rfl ?_
  refine wj_iload_n C 1 dX1_renew_14 rfl rfl ?_
  refine wj_if_ne C 22 dX1_renew_15 (by decide) (fun h15 => ?_) (fun h15 => ?_)
  · refine wj_iload_n C 2 dX1_renew_22 rfl rfl ?_
    refine wp_X1_19 C dX1_renew_23 (by first | assumption | omega) ?_
    exact hR _ _ _ _ dX1_renew_26 (by simp [*]) wj_rfl
  · refine wj_iconst (v := 0) C dX1_renew_18 (by decide) ?_
    refine wj_goto C 23 dX1_renew_19 (by decide) ?_
    refine wp_X1_19 C dX1_renew_23 (by first | assumption | omega) ?_
    exact hR _ _ _ _ dX1_renew_26 (by simp [*]) wj_rfl

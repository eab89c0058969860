/-- how many of the lowest n bits are set -/
def sp_pcF : Nat → Nat → Nat
  | 0, _ => 0
  | n + 1, t => t % 2 + sp_pcF n (t / 2)
def sp_pc (t : Nat) : Nat := sp_pcF 16 t
theorem sp_pcF_le : ∀ n t, sp_pcF n t ≤ n
  | 0, _ => Nat.le_refl 0
  | n + 1, t => by have := sp_pcF_le n (t / 2); simp only [sp_pcF]; omega
theorem sp_pc_le (t : Nat) : sp_pc t ≤ 16 := sp_pcF_le 16 t
theorem sp_pcF_0 : ∀ n, sp_pcF n 0 = 0
  | 0 => rfl
  | n + 1 => by simp [sp_pcF, sp_pcF_0 n]
theorem sp_pcF_clear : ∀ n t, 0 < t → t < 2 ^ n → sp_pcF n (t &&& (t - 1)) + 1 = sp_pcF n t
  | 0, t, h0, h => by simp at h; omega
  | n + 1, t, h0, h => by
    rw [Nat.pow_succ] at h
    simp only [sp_pcF]
    have hm : (t &&& (t - 1)) % 2 = 0 := by
      rcases Nat.mod_two_eq_zero_or_one (t &&& (t - 1)) with q | q
      · exact q
      · have := Nat.and_mod_two_eq_one.mp q
        omega
    rw [hm, Nat.and_div_two]
    rcases Nat.mod_two_eq_zero_or_one t with q | q
    · have h1 : (t - 1) / 2 = t / 2 - 1 := by omega
      rw [h1, q]
      have ih := sp_pcF_clear n (t / 2) (by omega) (by omega)
      omega
    · have h1 : (t - 1) / 2 = t / 2 := by omega
      rw [h1, Nat.and_self, q]
      omega
/-- the JDK's sum -/
def sp_b1 (x : Int32) : Int32 := x - ((x.toUInt32 >>> ((1 : Int32).toUInt32 &&& Int32.toUInt32 31)).toInt32 &&& 1431655765)
def sp_b2 (x : Int32) : Int32 := (x &&& 858993459) + ((x.toUInt32 >>> ((2 : Int32).toUInt32 &&& Int32.toUInt32 31)).toInt32 &&& 858993459)
def sp_b3 (x : Int32) : Int32 := (x + (x.toUInt32 >>> ((4 : Int32).toUInt32 &&& Int32.toUInt32 31)).toInt32) &&& 252645135
def sp_b4 (x : Int32) : Int32 := x + (x.toUInt32 >>> ((8 : Int32).toUInt32 &&& Int32.toUInt32 31)).toInt32
def sp_b5 (x : Int32) : Int32 := x + (x.toUInt32 >>> ((16 : Int32).toUInt32 &&& Int32.toUInt32 31)).toInt32
def sp_bc (x : Int32) : Int32 := sp_b5 (sp_b4 (sp_b3 (sp_b2 (sp_b1 x)))) &&& 63
theorem sp_bc_k : ∀ a, a < 256 → ∀ b, b < 256 → sp_bc (nI (256 * a + b)) = nI (sp_pc (256 * a + b)) := by decide +kernel
theorem sp_bc_of {m : Nat} (h : m < 65536) : sp_bc (nI m) = nI (sp_pc m) := by
  have := sp_bc_k (m / 256) (by omega) (m % 256) (by omega)
  rw [show 256 * (m / 256) + m % 256 = m by omega] at this
  exact this
set_option maxRecDepth 100000 in
set_option maxHeartbeats 4000000 in
theorem c_J6_bitCount_0f7a4 (l : Launch) (V : wj_V) {σ : wj_St} {m : Nat} (hm : m < 65536) : wj_M l V yJ6_bitCount_0f7a4 cJ6_bitCount_0f7a4 1 (some .int) 0 0 [.int (nI m)] σ (wj_I V (nI (sp_pc m)) σ) := by
  refine wj_ofIJ (own := RJ6) [some (.int (nI m))] (by decide +kernel) rfl rfl (Nat.le_of_ble_eq_true rfl) (fun X C hR => ?_)
  refine wj_iload_n C 0 dJ6_bitCount_0f7a4_0 rfl rfl ?_
  refine wj_iload_n C 0 dJ6_bitCount_0f7a4_1 rfl rfl ?_
  refine wj_iconst (v := 1) C dJ6_bitCount_0f7a4_2 (by decide) ?_
  refine wj_iushr C dJ6_bitCount_0f7a4_3 ?_
  refine wj_ldcw C dJ6_bitCount_0f7a4_4 kc_J6_265 ?_
  refine wj_iand C dJ6_bitCount_0f7a4_7 ?_
  refine wj_isub C dJ6_bitCount_0f7a4_8 ?_
  refine wj_istore_n C 0 dJ6_bitCount_0f7a4_9 rfl (by decide) rfl ?_
  dsimp only [List.set]
  refine wj_iload_n C 0 dJ6_bitCount_0f7a4_10 rfl rfl ?_
  refine wj_ldcw C dJ6_bitCount_0f7a4_11 kc_J6_266 ?_
  refine wj_iand C dJ6_bitCount_0f7a4_14 ?_
  refine wj_iload_n C 0 dJ6_bitCount_0f7a4_15 rfl rfl ?_
  refine wj_iconst (v := 2) C dJ6_bitCount_0f7a4_16 (by decide) ?_
  refine wj_iushr C dJ6_bitCount_0f7a4_17 ?_
  refine wj_ldcw C dJ6_bitCount_0f7a4_18 kc_J6_266 ?_
  refine wj_iand C dJ6_bitCount_0f7a4_21 ?_
  refine wj_iadd C dJ6_bitCount_0f7a4_22 ?_
  refine wj_istore_n C 0 dJ6_bitCount_0f7a4_23 rfl (by decide) rfl ?_
  dsimp only [List.set]
  refine wj_iload_n C 0 dJ6_bitCount_0f7a4_24 rfl rfl ?_
  refine wj_iload_n C 0 dJ6_bitCount_0f7a4_25 rfl rfl ?_
  refine wj_iconst (v := 4) C dJ6_bitCount_0f7a4_26 (by decide) ?_
  refine wj_iushr C dJ6_bitCount_0f7a4_27 ?_
  refine wj_iadd C dJ6_bitCount_0f7a4_28 ?_
  refine wj_ldcw C dJ6_bitCount_0f7a4_29 kc_J6_267 ?_
  refine wj_iand C dJ6_bitCount_0f7a4_32 ?_
  refine wj_istore_n C 0 dJ6_bitCount_0f7a4_33 rfl (by decide) rfl ?_
  dsimp only [List.set]
  refine wj_iload_n C 0 dJ6_bitCount_0f7a4_34 rfl rfl ?_
  refine wj_iload_n C 0 dJ6_bitCount_0f7a4_35 rfl rfl ?_
  refine wj_bipush (v := 8) C dJ6_bitCount_0f7a4_36 (by decide) ?_
  refine wj_iushr C dJ6_bitCount_0f7a4_38 ?_
  refine wj_iadd C dJ6_bitCount_0f7a4_39 ?_
  refine wj_istore_n C 0 dJ6_bitCount_0f7a4_40 rfl (by decide) rfl ?_
  dsimp only [List.set]
  refine wj_iload_n C 0 dJ6_bitCount_0f7a4_41 rfl rfl ?_
  refine wj_iload_n C 0 dJ6_bitCount_0f7a4_42 rfl rfl ?_
  refine wj_bipush (v := 16) C dJ6_bitCount_0f7a4_43 (by decide) ?_
  refine wj_iushr C dJ6_bitCount_0f7a4_45 ?_
  refine wj_iadd C dJ6_bitCount_0f7a4_46 ?_
  refine wj_istore_n C 0 dJ6_bitCount_0f7a4_47 rfl (by decide) rfl ?_
  dsimp only [List.set]
  refine wj_iload_n C 0 dJ6_bitCount_0f7a4_48 rfl rfl ?_
  refine wj_bipush (v := 63) C dJ6_bitCount_0f7a4_49 (by decide) ?_
  refine wj_iand C dJ6_bitCount_0f7a4_51 ?_
  exact hR _ _ _ _ _ dJ6_bitCount_0f7a4_52 ⟨(sp_bc_of hm), rfl⟩ wj_rfl
set_option maxRecDepth 100000 in
set_option maxHeartbeats 4000000 in
theorem c_X5_bits (l : Launch) (V : wj_V) {σ : wj_St} {m : Nat} (hm : m < 65536) : wj_M l V yX5_bits cX5_bits 3 (some .int) 0 0 [.int (nI m)] σ (wj_I V (nI (sp_pc m)) σ) := by
  refine wj_ofI (own := RX5) [some (.int (nI m)), none, none] (by decide) rfl rfl (Nat.le_of_ble_eq_true rfl) (fun X C hR => ?_)
  have lp : ∀ n i t, t < 65536 → sp_pcF 16 t < n → i + sp_pcF 16 t = sp_pc m → wj_J l V X 4 [some (.int (nI m)), some (.int (nI i)), some (.int (nI t))] [] σ := by
    intro n
    induction n with
    | zero => intro i t _ h; omega
    | succ n ih =>
      intro i t ht hm9 hpc
      refine wj_iload_n C 2 dX5_bits_4 rfl rfl ?_
      refine wj_if_eq C 20 dX5_bits_5 (by decide) (fun h5 => ?_) (fun h5 => ?_)
      · have ht0 : t = 0 := by
          rcases Nat.eq_zero_or_pos t with q | q
          · exact q
          · exact absurd h5 (nI_ne0 q (by omega))
        refine wj_iload_n C 1 dX5_bits_20 rfl rfl ?_
        exact hR _ _ _ _ _ dX5_bits_21 ⟨by rw [← hpc, ht0, sp_pcF_0, Nat.add_zero], rfl⟩ wj_rfl
      · have ht0 : 0 < t := by
          rcases Nat.eq_zero_or_pos t with q | q
          · exact absurd (by rw [q]; rfl) h5
          · exact q
        refine wj_iinc C (v := nI (i + 1)) dX5_bits_8 rfl (wj_i1 i) (by decide) rfl ?_
        dsimp only [List.set]
        refine wj_iload_n C 2 dX5_bits_11 rfl rfl ?_
        refine wj_iload_n C 2 dX5_bits_12 rfl rfl ?_
        refine wj_iconst (v := 1) C dX5_bits_13 (by decide) ?_
        refine wj_isub C dX5_bits_14 ?_
        refine wj_iand C dX5_bits_15 ?_
        refine wj_top (y := nI (t &&& (t - 1))) (by rw [show (1 : Int32) = nI 1 from rfl, pk_sub (by omega), nx_and]) ?_
        refine wj_istore_n C 2 dX5_bits_16 rfl (by decide) rfl ?_
        dsimp only [List.set]
        refine wj_goto C 4 dX5_bits_17 (by decide) ?_
        exact ih (i + 1) (t &&& (t - 1)) (Nat.lt_of_le_of_lt Nat.and_le_left ht) (by have := sp_pcF_clear 16 t ht0 ht; omega) (by have := sp_pcF_clear 16 t ht0 ht; omega)
  refine wj_iconst (v := 0) C dX5_bits_0 (by decide) ?_
  refine wj_istore_n C 1 dX5_bits_1 rfl (by decide) rfl ?_
  dsimp only [List.set]
  refine wj_iload_n C 0 dX5_bits_2 rfl rfl ?_
  refine wj_istore_n C 2 dX5_bits_3 rfl (by decide) rfl ?_
  dsimp only [List.set]
  exact lp 17 0 m hm (by have := sp_pc_le m; rw [sp_pc] at this; omega) (by rw [sp_pc]; omega)
/-- gaps are places -/
theorem sp_gap_n (A : sp_L) : ∃ m, m < 65536 ∧ sp_gap A = nI m := by
  obtain ⟨k, hk, e⟩ := nx_mask (sp_un A (sp_N A) ^^^ (-1))
  refine ⟨k, hk, ?_⟩
  rw [sp_gap, ← e]
  exact b_ext (fun i _ => by rw [b_and, b_and, Bool.and_comm])

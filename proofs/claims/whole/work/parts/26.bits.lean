/-- how many of the lowest n bits are set -/
def sp_pcF : Nat → Nat → Nat
  | 0, _ => 0
  | n + 1, t => t % 2 + sp_pcF n (t / 2)
def sp_pc (t : Nat) : Nat := sp_pcF 16 t
theorem sp_pcF_le : ∀ n t, sp_pcF n t ≤ n
  | 0, _ => Nat.le_refl 0
  | n + 1, t => by have := sp_pcF_le n (t / 2); simp only [sp_pcF]; omega
theorem sp_pc_le (t : Nat) : sp_pc t ≤ 16 := sp_pcF_le 16 t
theorem sp_pcF_0 : ∀ n, sp_pcF n 0 = 0
  | 0 => rfl
  | n + 1 => by simp [sp_pcF, sp_pcF_0 n]
theorem sp_pcF_clear : ∀ n t, 0 < t → t < 2 ^ n → sp_pcF n (t &&& (t - 1)) + 1 = sp_pcF n t
  | 0, t, h0, h => by simp at h; omega
  | n + 1, t, h0, h => by
    rw [Nat.pow_succ] at h
    simp only [sp_pcF]
    have hm : (t &&& (t - 1)) % 2 = 0 := by
      rcases Nat.mod_two_eq_zero_or_one (t &&& (t - 1)) with q | q
      · exact q
      · have := Nat.and_mod_two_eq_one.mp q
        omega
    rw [hm, Nat.and_div_two]
    rcases Nat.mod_two_eq_zero_or_one t with q | q
    · have h1 : (t - 1) / 2 = t / 2 - 1 := by omega
      rw [h1, q]
      have ih := sp_pcF_clear n (t / 2) (by omega) (by omega)
      omega
    · have h1 : (t - 1) / 2 = t / 2 := by omega
      rw [h1, Nat.and_self, q]
      omega
/-- the JDK's sum -/
def sp_b1 (x : Int32) : Int32 := x - ((x.toUInt32 >>> ((1 : Int32).toUInt32 &&& Int32.toUInt32 31)).toInt32 &&& 1431655765)
def sp_b2 (x : Int32) : Int32 := (x &&& 858993459) + ((x.toUInt32 >>> ((2 : Int32).toUInt32 &&& Int32.toUInt32 31)).toInt32 &&& 858993459)
def sp_b3 (x : Int32) : Int32 := (x + (x.toUInt32 >>> ((4 : Int32).toUInt32 &&& Int32.toUInt32 31)).toInt32) &&& 252645135
def sp_b4 (x : Int32) : Int32 := x + (x.toUInt32 >>> ((8 : Int32).toUInt32 &&& Int32.toUInt32 31)).toInt32
def sp_b5 (x : Int32) : Int32 := x + (x.toUInt32 >>> ((16 : Int32).toUInt32 &&& Int32.toUInt32 31)).toInt32
def sp_bc (x : Int32) : Int32 := sp_b5 (sp_b4 (sp_b3 (sp_b2 (sp_b1 x)))) &&& 63
theorem sp_pcF_add (m : Nat) : ∀ n t, sp_pcF (n + m) t = sp_pcF n (t % 2 ^ n) + sp_pcF m (t / 2 ^ n)
  | 0, t => by simp [sp_pcF, Nat.mod_one]
  | n + 1, t => by
    rw [show n + 1 + m = (n + m) + 1 by omega]
    simp only [sp_pcF]
    rw [sp_pcF_add m n (t / 2), Nat.pow_succ, Nat.div_div_eq_div_mul, Nat.mul_comm 2 (2 ^ n)]
    have h1 : t % (2 ^ n * 2) % 2 = t % 2 := Nat.mod_mod_of_dvd t ⟨2 ^ n, Nat.mul_comm _ _⟩
    have h2 : t % (2 ^ n * 2) / 2 = t / 2 % 2 ^ n := by rw [Nat.mul_comm, Nat.mod_mul_right_div_self]
    rw [h1, h2]
    omega
theorem sp_an (k : Nat) {a b c d : Nat} (hb : b < 2 ^ k) (hd : d < 2 ^ k) : (2 ^ k * a + b) &&& (2 ^ k * c + d) = 2 ^ k * (a &&& c) + (b &&& d) := by
  have h1 := Nat.and_div_two_pow (a := 2 ^ k * a + b) (b := 2 ^ k * c + d) (n := k)
  have h2 := Nat.and_mod_two_pow (a := 2 ^ k * a + b) (b := 2 ^ k * c + d) (n := k)
  have hp := Nat.two_pow_pos k
  rw [Nat.mul_add_div hp, Nat.mul_add_div hp, Nat.div_eq_of_lt hb, Nat.div_eq_of_lt hd, Nat.add_zero, Nat.add_zero] at h1
  rw [Nat.mul_add_mod, Nat.mul_add_mod, Nat.mod_eq_of_lt hb, Nat.mod_eq_of_lt hd] at h2
  have h3 := Nat.div_add_mod ((2 ^ k * a + b) &&& (2 ^ k * c + d)) (2 ^ k)
  rw [h1, h2] at h3
  exact h3.symm
/-- one byte of the sum's first two steps -/
def sp_h1 (b : Nat) : Nat := b - ((b / 2) &&& 85)
def sp_h2 (b : Nat) : Nat := (b &&& 51) + ((b / 4) &&& 51)
def sp_h3 (b : Nat) : Nat := b % 16 + b / 16
theorem sp_hk : ∀ b, b < 256 → (b / 2) &&& 85 ≤ b ∧ sp_h1 b < 256 ∧ sp_h2 (sp_h1 b) < 256 ∧ sp_h2 (sp_h1 b) / 16 ≤ 4 ∧ sp_h2 (sp_h1 b) % 16 ≤ 4 ∧ sp_h3 (sp_h2 (sp_h1 b)) = sp_pcF 8 b := by decide +kernel
theorem sp_hA : ∀ q, q < 2 → ∀ b, b < 128 → (128 * q + b) &&& 85 = b &&& 85 := by decide +kernel
theorem sp_hB : ∀ q, q < 4 → ∀ b, b < 64 → (64 * q + b) &&& 51 = b &&& 51 := by decide +kernel
theorem sp_hC : ∀ q, q < 256 → q &&& 5592405 = q &&& 85 := by decide +kernel
theorem sp_hD : ∀ q, q < 256 → q &&& 3355443 = q &&& 51 := by decide +kernel
theorem sp_hE : ∀ q, q < 256 → q &&& 986895 = q % 16 := by decide +kernel
theorem sp_hF : ∀ q, q < 256 → q &&& 15 = q % 16 := by decide +kernel
theorem sp_nadd (a b : Nat) : nI a + nI b = nI (a + b) := nI_add a b
theorem sp_bc_1 {a b : Nat} (ha : a < 256) (hb : b < 256) : sp_b1 (nI (256 * a + b)) = nI (256 * sp_h1 a + sp_h1 b) := by
  have e : ((256 * a + b) >>> 1) &&& 1431655765 = 256 * ((a / 2) &&& 85) + ((b / 2) &&& 85) := by
    rw [Nat.shiftRight_eq_div_pow, show (256 * a + b) / 2 ^ 1 = 2 ^ 8 * (a / 2) + (128 * (a % 2) + b / 2) by omega, show (1431655765 : Nat) = 2 ^ 8 * 5592405 + 85 from rfl, sp_an 8 (by omega) (by omega), sp_hC _ (by omega), sp_hA _ (by omega) _ (by omega)]
  have h1 := (sp_hk a ha).1
  have h2 := (sp_hk b hb).1
  show nI (256 * a + b) - (((nI (256 * a + b)).toUInt32 >>> ((nI 1).toUInt32 &&& Int32.toUInt32 31)).toInt32 &&& nI 1431655765) = _
  rw [nx_ush (by omega) (by omega), nx_and, e, pk_sub (by omega)]
  congr 1
  simp only [sp_h1]
  omega
theorem sp_bc_2 {a b : Nat} (ha : a < 256) (hb : b < 256) : sp_b2 (nI (256 * a + b)) = nI (256 * sp_h2 a + sp_h2 b) := by
  have e : ((256 * a + b) >>> 2) &&& 858993459 = 256 * ((a / 4) &&& 51) + ((b / 4) &&& 51) := by
    rw [Nat.shiftRight_eq_div_pow, show (256 * a + b) / 2 ^ 2 = 2 ^ 8 * (a / 4) + (64 * (a % 4) + b / 4) by omega, show (858993459 : Nat) = 2 ^ 8 * 3355443 + 51 from rfl, sp_an 8 (by omega) (by omega), sp_hD _ (by omega), sp_hB _ (by omega) _ (by omega)]
  have e2 : (256 * a + b) &&& 858993459 = 256 * (a &&& 51) + (b &&& 51) := by
    rw [show (858993459 : Nat) = 2 ^ 8 * 3355443 + 51 from rfl, show 256 * a + b = 2 ^ 8 * a + b from rfl, sp_an 8 (by omega) (by omega), sp_hD _ (by omega)]
  show (nI (256 * a + b) &&& nI 858993459) + (((nI (256 * a + b)).toUInt32 >>> ((nI 2).toUInt32 &&& Int32.toUInt32 31)).toInt32 &&& nI 858993459) = _
  rw [nx_ush (by omega) (by omega), nx_and, nx_and, e, e2, sp_nadd]
  congr 1
  simp only [sp_h2]
  omega
theorem sp_bc_3 {a b : Nat} (ha : a < 256) (hb : b < 256) (h1 : a / 16 ≤ 4) (h2 : a % 16 ≤ 4) (h3 : b / 16 ≤ 4) (h4 : b % 16 ≤ 4) : sp_b3 (nI (256 * a + b)) = nI (256 * sp_h3 a + sp_h3 b) := by
  have e : ((256 * a + b) + (256 * a + b) >>> 4) &&& 252645135 = 256 * sp_h3 a + sp_h3 b := by
    rw [Nat.shiftRight_eq_div_pow, show 256 * a + b + (256 * a + b) / 2 ^ 4 = 2 ^ 8 * (a + a / 16) + (a % 16 * 16 + b + b / 16) by omega, show (252645135 : Nat) = 2 ^ 8 * 986895 + 15 from rfl, sp_an 8 (by omega) (by omega), sp_hE _ (by omega), sp_hF _ (by omega)]
    have q1 : (a + a / 16) % 16 = a % 16 + a / 16 := by omega
    have q2 : (a % 16 * 16 + b + b / 16) % 16 = b % 16 + b / 16 := by omega
    rw [q1, q2]
    rfl
  show (nI (256 * a + b) + ((nI (256 * a + b)).toUInt32 >>> ((nI 4).toUInt32 &&& Int32.toUInt32 31)).toInt32) &&& nI 252645135 = _
  rw [nx_ush (by omega) (by omega), sp_nadd, nx_and, e]
theorem sp_bc_of {m : Nat} (h : m < 65536) : sp_bc (nI m) = nI (sp_pc m) := by
  have ha : m / 256 < 256 := by omega
  have hb : m % 256 < 256 := by omega
  have em : m = 256 * (m / 256) + m % 256 := by omega
  obtain ⟨_, a1, a2, a3, a4, a5⟩ := sp_hk (m / 256) ha
  obtain ⟨_, b1, b2, b3, b4, b5⟩ := sp_hk (m % 256) hb
  have h3 : sp_b3 (sp_b2 (sp_b1 (nI m))) = nI (256 * sp_pcF 8 (m / 256) + sp_pcF 8 (m % 256)) := by
    conv => lhs; rw [em]
    rw [sp_bc_1 ha hb, sp_bc_2 a1 b1, sp_bc_3 a2 b2 a3 a4 b3 b4, a5, b5]
  have l1 := sp_pcF_le 8 (m / 256)
  have l2 := sp_pcF_le 8 (m % 256)
  have e4 : ∀ x, x < 65536 → sp_b4 (nI x) = nI (x + x / 256) := by
    intro x hx
    show nI x + ((nI x).toUInt32 >>> ((nI 8).toUInt32 &&& Int32.toUInt32 31)).toInt32 = _
    rw [nx_ush hx (by omega), sp_nadd, Nat.shiftRight_eq_div_pow]
  have e5 : ∀ x, x < 65536 → sp_b5 (nI x) = nI x := by
    intro x hx
    show nI x + ((nI x).toUInt32 >>> ((nI 16).toUInt32 &&& Int32.toUInt32 31)).toInt32 = _
    rw [nx_ush hx (by omega), sp_nadd, Nat.shiftRight_eq_div_pow, Nat.div_eq_of_lt (by omega), Nat.add_zero]
  rw [sp_bc, h3, e4 _ (by omega), e5 _ (by omega)]
  have em2 := fa_mask (256 * sp_pcF 8 (m / 256) + sp_pcF 8 (m % 256) + (256 * sp_pcF 8 (m / 256) + sp_pcF 8 (m % 256)) / 256) 6
  refine em2.trans ?_
  have hs := sp_pcF_add 8 8 m
  have e8 : m % 2 ^ 8 = m % 256 := rfl
  have e9 : m / 2 ^ 8 = m / 256 := rfl
  rw [e8, e9] at hs
  rw [sp_pc, hs]
  congr 1
  have q3 : (256 * sp_pcF 8 (m / 256) + sp_pcF 8 (m % 256)) / 256 = sp_pcF 8 (m / 256) := by omega
  rw [q3]
  omega
set_option maxRecDepth 100000 in
set_option maxHeartbeats 4000000 in
theorem c_J6_bitCount_0f7a4 (l : Launch) (V : wj_V) {σ : wj_St} {m : Nat} (hm : m < 65536) : wj_M l V yJ6_bitCount_0f7a4 cJ6_bitCount_0f7a4 1 (some .int) 0 0 [.int (nI m)] σ (wj_I V (nI (sp_pc m)) σ) := by
  refine wj_ofIJ (own := RJ6) [some (.int (nI m))] (by decide +kernel) rfl rfl (Nat.le_of_ble_eq_true rfl) (fun X C hR => ?_)
  refine wj_iload_n C 0 dJ6_bitCount_0f7a4_0 rfl rfl ?_
  refine wj_iload_n C 0 dJ6_bitCount_0f7a4_1 rfl rfl ?_
  refine wj_iconst (v := 1) C dJ6_bitCount_0f7a4_2 (by decide) ?_
  refine wj_iushr C dJ6_bitCount_0f7a4_3 ?_
  refine wj_ldcw C dJ6_bitCount_0f7a4_4 kc_J6_265 ?_
  refine wj_iand C dJ6_bitCount_0f7a4_7 ?_
  refine wj_isub C dJ6_bitCount_0f7a4_8 ?_
  refine wj_istore_n C 0 dJ6_bitCount_0f7a4_9 rfl (by decide) rfl ?_
  dsimp only [List.set]
  refine wj_iload_n C 0 dJ6_bitCount_0f7a4_10 rfl rfl ?_
  refine wj_ldcw C dJ6_bitCount_0f7a4_11 kc_J6_266 ?_
  refine wj_iand C dJ6_bitCount_0f7a4_14 ?_
  refine wj_iload_n C 0 dJ6_bitCount_0f7a4_15 rfl rfl ?_
  refine wj_iconst (v := 2) C dJ6_bitCount_0f7a4_16 (by decide) ?_
  refine wj_iushr C dJ6_bitCount_0f7a4_17 ?_
  refine wj_ldcw C dJ6_bitCount_0f7a4_18 kc_J6_266 ?_
  refine wj_iand C dJ6_bitCount_0f7a4_21 ?_
  refine wj_iadd C dJ6_bitCount_0f7a4_22 ?_
  refine wj_istore_n C 0 dJ6_bitCount_0f7a4_23 rfl (by decide) rfl ?_
  dsimp only [List.set]
  refine wj_iload_n C 0 dJ6_bitCount_0f7a4_24 rfl rfl ?_
  refine wj_iload_n C 0 dJ6_bitCount_0f7a4_25 rfl rfl ?_
  refine wj_iconst (v := 4) C dJ6_bitCount_0f7a4_26 (by decide) ?_
  refine wj_iushr C dJ6_bitCount_0f7a4_27 ?_
  refine wj_iadd C dJ6_bitCount_0f7a4_28 ?_
  refine wj_ldcw C dJ6_bitCount_0f7a4_29 kc_J6_267 ?_
  refine wj_iand C dJ6_bitCount_0f7a4_32 ?_
  refine wj_istore_n C 0 dJ6_bitCount_0f7a4_33 rfl (by decide) rfl ?_
  dsimp only [List.set]
  refine wj_iload_n C 0 dJ6_bitCount_0f7a4_34 rfl rfl ?_
  refine wj_iload_n C 0 dJ6_bitCount_0f7a4_35 rfl rfl ?_
  refine wj_bipush (v := 8) C dJ6_bitCount_0f7a4_36 (by decide) ?_
  refine wj_iushr C dJ6_bitCount_0f7a4_38 ?_
  refine wj_iadd C dJ6_bitCount_0f7a4_39 ?_
  refine wj_istore_n C 0 dJ6_bitCount_0f7a4_40 rfl (by decide) rfl ?_
  dsimp only [List.set]
  refine wj_iload_n C 0 dJ6_bitCount_0f7a4_41 rfl rfl ?_
  refine wj_iload_n C 0 dJ6_bitCount_0f7a4_42 rfl rfl ?_
  refine wj_bipush (v := 16) C dJ6_bitCount_0f7a4_43 (by decide) ?_
  refine wj_iushr C dJ6_bitCount_0f7a4_45 ?_
  refine wj_iadd C dJ6_bitCount_0f7a4_46 ?_
  refine wj_istore_n C 0 dJ6_bitCount_0f7a4_47 rfl (by decide) rfl ?_
  dsimp only [List.set]
  refine wj_iload_n C 0 dJ6_bitCount_0f7a4_48 rfl rfl ?_
  refine wj_bipush (v := 63) C dJ6_bitCount_0f7a4_49 (by decide) ?_
  refine wj_iand C dJ6_bitCount_0f7a4_51 ?_
  exact hR _ _ _ _ _ dJ6_bitCount_0f7a4_52 ⟨(sp_bc_of hm), rfl⟩ wj_rfl
set_option maxRecDepth 100000 in
set_option maxHeartbeats 4000000 in
theorem c_X5_bits (l : Launch) (V : wj_V) {σ : wj_St} {m : Nat} (hm : m < 65536) : wj_M l V yX5_bits cX5_bits 3 (some .int) 0 0 [.int (nI m)] σ (wj_I V (nI (sp_pc m)) σ) := by
  refine wj_ofI (own := RX5) [some (.int (nI m)), none, none] (by decide) rfl rfl (Nat.le_of_ble_eq_true rfl) (fun X C hR => ?_)
  have lp : ∀ n i t, t < 65536 → sp_pcF 16 t < n → i + sp_pcF 16 t = sp_pc m → wj_J l V X 4 [some (.int (nI m)), some (.int (nI i)), some (.int (nI t))] [] σ := by
    intro n
    induction n with
    | zero => intro i t _ h; omega
    | succ n ih =>
      intro i t ht hm9 hpc
      refine wj_iload_n C 2 dX5_bits_4 rfl rfl ?_
      refine wj_if_eq C 20 dX5_bits_5 (by decide) (fun h5 => ?_) (fun h5 => ?_)
      · have ht0 : t = 0 := by
          rcases Nat.eq_zero_or_pos t with q | q
          · exact q
          · exact absurd h5 (nI_ne0 q (by omega))
        refine wj_iload_n C 1 dX5_bits_20 rfl rfl ?_
        exact hR _ _ _ _ _ dX5_bits_21 ⟨by rw [← hpc, ht0, sp_pcF_0, Nat.add_zero], rfl⟩ wj_rfl
      · have ht0 : 0 < t := by
          rcases Nat.eq_zero_or_pos t with q | q
          · exact absurd (by rw [q]; rfl) h5
          · exact q
        refine wj_iinc C (v := nI (i + 1)) dX5_bits_8 rfl (wj_i1 i) (by decide) rfl ?_
        dsimp only [List.set]
        refine wj_iload_n C 2 dX5_bits_11 rfl rfl ?_
        refine wj_iload_n C 2 dX5_bits_12 rfl rfl ?_
        refine wj_iconst (v := 1) C dX5_bits_13 (by decide) ?_
        refine wj_isub C dX5_bits_14 ?_
        refine wj_iand C dX5_bits_15 ?_
        refine wj_top (y := nI (t &&& (t - 1))) (by rw [show (1 : Int32) = nI 1 from rfl, pk_sub (by omega), nx_and]) ?_
        refine wj_istore_n C 2 dX5_bits_16 rfl (by decide) rfl ?_
        dsimp only [List.set]
        refine wj_goto C 4 dX5_bits_17 (by decide) ?_
        exact ih (i + 1) (t &&& (t - 1)) (Nat.lt_of_le_of_lt Nat.and_le_left ht) (by have := sp_pcF_clear 16 t ht0 ht; omega) (by have := sp_pcF_clear 16 t ht0 ht; omega)
  refine wj_iconst (v := 0) C dX5_bits_0 (by decide) ?_
  refine wj_istore_n C 1 dX5_bits_1 rfl (by decide) rfl ?_
  dsimp only [List.set]
  refine wj_iload_n C 0 dX5_bits_2 rfl rfl ?_
  refine wj_istore_n C 2 dX5_bits_3 rfl (by decide) rfl ?_
  dsimp only [List.set]
  exact lp 17 0 m hm (by have := sp_pc_le m; rw [sp_pc] at this; omega) (by rw [sp_pc]; omega)
/-- gaps are places -/
theorem sp_gap_n (A : sp_L) : ∃ m, m < 65536 ∧ sp_gap A = nI m := by
  obtain ⟨k, hk, e⟩ := nx_mask (sp_un A (sp_N A) ^^^ (-1))
  refine ⟨k, hk, ?_⟩
  rw [sp_gap, ← e]
  exact b_ext (fun i _ => by rw [b_and, b_and, Bool.and_comm])

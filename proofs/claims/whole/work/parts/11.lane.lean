/-! A LANE: YEAR, how many SLIPS, HURDLES, GAPS MADE, THE LIST, the SLIPS -/
abbrev sp_L : Type := Int32 × Int32 × Int32 × Int32 × (Nat → Int32) × (Nat → Nat → Int32)
abbrev sp_ls (A : sp_L) (i : Nat) : Int32 := A.2.2.2.2.1 i
abbrev sp_sl (A : sp_L) (i : Nat) : Nat → Int32 := A.2.2.2.2.2 i
def sp_N (A : sp_L) : Nat := A.2.1.toNatClampNeg
def sp_hur (h p : Int32) : Bool := decide ((h >>> (p &&& 31)) &&& 1 = 1)
def sp_sg (A : sp_L) (p : Int32) : Nat → Int32
  | 0 => if sp_hur A.2.2.1 p = true then 40 else 0
  | i + 1 => if sp_isc (sp_sl A i) p = true then sp_sg A p i + sp_str (sp_sl A i) A.1 else sp_sg A p i
def sp_stg (A : sp_L) (p : Int32) : Int32 := sp_sg A p (sp_N A)
def sp_si (A : sp_L) (p : Int32) : Nat → Int32
  | 0 => 0
  | i + 1 => if sp_sl A i 1 = p then sp_si A p i ||| ((1 : Int32) <<< (nI i &&& 31)) else sp_si A p i
def sp_co (A : sp_L) (p : Int32) : Nat → Int32
  | 0 => 0
  | i + 1 => if sp_isc (sp_sl A i) p = true then sp_co A p i ||| ((1 : Int32) <<< (nI i &&& 31)) else sp_co A p i
def sp_un (A : sp_L) : Nat → Int32
  | 0 => A.2.2.1
  | i + 1 => sp_un A i ||| sp_cov (sp_sl A i)
def sp_gap (A : sp_L) : Int32 := 65535 &&& (sp_un A (sp_N A) ^^^ (-1))
def sp_wk (A : sp_L) : Nat → Int32
  | 0 => 0
  | m + 1 => if sp_stg A (nI (m + 1)) < sp_stg A (sp_wk A m) then nI (m + 1) else sp_wk A m
def sp_pb (A : sp_L) (w : Int32) : Nat → Int32
  | 0 => 0
  | m + 1 => if sp_stg A (nI m) < w then sp_pb A w m + 1 else sp_pb A w m
def sp_sum (A : sp_L) (w : Int32) : Nat → Int32
  | 0 => 0
  | i + 1 => sp_sum A w i + sp_tra (sp_sl A i) w A.1
def sp_wS (A : sp_L) (g : Nat → Nat → Int32) : sp_L := (A.1, A.2.1, A.2.2.1, A.2.2.2.1, A.2.2.2.2.1, g)
def sp_wY (A : sp_L) (x : Int32) : sp_L := (x, A.2)
def sp_wC (A : sp_L) (x : Int32) : sp_L := (A.1, x, A.2.2)
def sp_wH (A : sp_L) (x : Int32) : sp_L := (A.1, A.2.1, x, A.2.2.2)
def sp_wM (A : sp_L) (x : Int32) : sp_L := (A.1, A.2.1, A.2.2.1, x, A.2.2.2.2)
def sp_wL (A : sp_L) (g : Nat → Int32) : sp_L := (A.1, A.2.1, A.2.2.1, A.2.2.2.1, g, A.2.2.2.2.2)
/-- the first m slips are laid by a set -/
def sp_layN (A : sp_L) (s : Int32) (m : Nat) : sp_L := sp_wS A (fun i => if i < m then upd (sp_sl A i) 4 (if (s >>> (nI i &&& 31)) &&& 1 = 1 then 1 else 0) else sp_sl A i)
/-- of the first m slips those that cover p give way -/
def sp_gvN (A : sp_L) (p : Int32) (m : Nat) : sp_L := sp_wS A (fun i => if i < m ∧ sp_isc (sp_sl A i) p = true then sp_giv (sp_sl A i) else sp_sl A i)
def sp_grN (A : sp_L) (m : Nat) : sp_L := sp_wS A (fun i => if i < m then sp_grw (sp_sl A i) else sp_sl A i)
/-- a place breaks -/
def sp_brk (A : sp_L) (p : Int32) : sp_L := sp_wM (sp_gvN (sp_wH A (A.2.2.1 &&& (((1 : Int32) <<< (p &&& 31)) ^^^ (-1)))) p (sp_N A)) (if A.2.2.2.1 + 1 < 9999 then A.2.2.2.1 + 1 else 9999)
def sp_le (A : sp_L) : Int32 := sp_ls A (A.1 - A.1 / 6 * 6).toNatClampNeg
/-- the cattle lean -/
def sp_lean (A : sp_L) : sp_L := if sp_stg A (sp_le A / 100) < sp_le A - sp_le A / 100 * 100 then sp_brk A (sp_le A / 100) else A
/-- a year goes by -/
def sp_yr (A : sp_L) : sp_L := sp_wY (sp_grN (sp_lean A) (sp_N A)) (A.1 + 1)
def sp_yrs (A : sp_L) : Nat → sp_L
  | 0 => A
  | m + 1 => sp_yr (sp_yrs A m)
/-- a lane of another's -/
def sp_bec (A B : sp_L) : sp_L := (B.1, B.2.1, B.2.2.1, B.2.2.2.1, B.2.2.2.2.1, fun i => if i < sp_N B then sp_sl B i else sp_sl A i)
/-! the lane in the cells of lane k -/
def sp_get (σ : wj_St) (k : Nat) : sp_L := (σ k 5, σ k 2, σ k 3, σ k 4, σ (k + 6), fun i => σ (2 + 8 * k + i))
def sp_put (σ : wj_St) (k : Nat) (A : sp_L) : wj_St := fun q => if q = k then (fun j => if j = 5 then A.1 else if j = 2 then A.2.1 else if j = 3 then A.2.2.1 else if j = 4 then A.2.2.2.1 else σ k j) else if q = k + 6 then A.2.2.2.2.1 else if 2 + 8 * k ≤ q ∧ q < 10 + 8 * k then A.2.2.2.2.2 (q - (2 + 8 * k)) else σ q
theorem sp_put_get {σ : wj_St} {k : Nat} : sp_put σ k (sp_get σ k) = σ := by
  funext q j
  simp only [sp_put, sp_get]
  split
  · subst_vars; repeat' (first | split | simp_all)
  · split
    · subst_vars; rfl
    · split
      · rw [show 2 + 8 * k + (q - (2 + 8 * k)) = q by omega]
      · rfl
theorem sp_put_2 {σ : wj_St} {k : Nat} {A : sp_L} : sp_put σ k A k 2 = A.2.1 := by simp [sp_put]
theorem sp_put_3 {σ : wj_St} {k : Nat} {A : sp_L} : sp_put σ k A k 3 = A.2.2.1 := by simp [sp_put]
theorem sp_put_4 {σ : wj_St} {k : Nat} {A : sp_L} : sp_put σ k A k 4 = A.2.2.2.1 := by simp [sp_put]
theorem sp_put_5 {σ : wj_St} {k : Nat} {A : sp_L} : sp_put σ k A k 5 = A.1 := by simp [sp_put]
theorem sp_put_l {σ : wj_St} {k : Nat} {A : sp_L} : sp_put σ k A (k + 6) = A.2.2.2.2.1 := by simp [sp_put]
theorem sp_put_s {σ : wj_St} {k i : Nat} {A : sp_L} (hk : 1 ≤ k ∧ k < 4) (hi : i < 8) : sp_put σ k A (2 + 8 * k + i) = sp_sl A i := by
  simp only [sp_put]
  rw [if_neg (by omega), if_neg (by omega), if_pos (by omega), show 2 + 8 * k + i - (2 + 8 * k) = i by omega]
theorem sp_put_o {σ : wj_St} {k q : Nat} {A : sp_L} (h : q ≠ k ∧ q ≠ k + 6 ∧ (q < 2 + 8 * k ∨ 10 + 8 * k ≤ q)) : sp_put σ k A q = σ q := by
  simp only [sp_put]
  rw [if_neg h.1, if_neg h.2.1, if_neg (by omega)]
theorem sp_put_put {σ : wj_St} {k : Nat} {A B : sp_L} : sp_put (sp_put σ k A) k B = sp_put σ k B := by
  funext q j
  by_cases h1 : q = k
  · subst h1
    by_cases j5 : j = 5
    · simp [sp_put, j5]
    · by_cases j2 : j = 2
      · simp [sp_put, j2]
      · by_cases j3 : j = 3
        · simp [sp_put, j3]
        · by_cases j4 : j = 4
          · simp [sp_put, j4]
          · simp [sp_put, j5, j2, j3, j4]
  · simp only [sp_put, if_neg h1]
    by_cases h2 : q = k + 6
    · simp only [if_pos h2]
    · simp only [if_neg h2]
      by_cases h3 : 2 + 8 * k ≤ q ∧ q < 10 + 8 * k
      · simp only [if_pos h3]
      · simp only [if_neg h3]
theorem sp_get_put {σ : wj_St} {k : Nat} {A : sp_L} (hk : 1 ≤ k ∧ k < 4) (i : Nat) (hi : i < 8) : sp_sl (sp_get (sp_put σ k A) k) i = sp_sl A i := sp_put_s hk hi
theorem sp_put_u2 {σ : wj_St} {k : Nat} {A : sp_L} {x : Int32} : wj_u (sp_put σ k A) k 2 x = sp_put σ k (sp_wC A x) := by
  funext q j
  by_cases h : q = k
  · subst h; simp only [wj_u, sp_put, sp_wC, upd, if_true]; repeat' (first | split | simp_all)
  · simp [wj_u, sp_put, sp_wC, h]
theorem sp_put_u3 {σ : wj_St} {k : Nat} {A : sp_L} {x : Int32} : wj_u (sp_put σ k A) k 3 x = sp_put σ k (sp_wH A x) := by
  funext q j
  by_cases h : q = k
  · subst h; simp only [wj_u, sp_put, sp_wH, upd, if_true]; repeat' (first | split | simp_all)
  · simp [wj_u, sp_put, sp_wH, h]
theorem sp_put_u4 {σ : wj_St} {k : Nat} {A : sp_L} {x : Int32} : wj_u (sp_put σ k A) k 4 x = sp_put σ k (sp_wM A x) := by
  funext q j
  by_cases h : q = k
  · subst h; simp only [wj_u, sp_put, sp_wM, upd, if_true]; repeat' (first | split | simp_all)
  · simp [wj_u, sp_put, sp_wM, h]
theorem sp_put_u5 {σ : wj_St} {k : Nat} {A : sp_L} {x : Int32} : wj_u (sp_put σ k A) k 5 x = sp_put σ k (sp_wY A x) := by
  funext q j
  by_cases h : q = k
  · subst h; simp only [wj_u, sp_put, sp_wY, upd, if_true]; repeat' (first | split | simp_all)
  · simp [wj_u, sp_put, sp_wY, h]
theorem sp_put_rl {σ : wj_St} {k : Nat} {A : sp_L} {g : Nat → Int32} : wj_r (sp_put σ k A) (k + 6) g = sp_put σ k (sp_wL A g) := by
  funext q j
  by_cases h : q = k + 6
  · subst h; simp [wj_r, sp_put, sp_wL]
  · simp [wj_r, sp_put, sp_wL, h]
theorem sp_put_rs {σ : wj_St} {k i : Nat} {A : sp_L} {g : Nat → Int32} (hk : 1 ≤ k ∧ k < 4) (hi : i < 8) : wj_r (sp_put σ k A) (2 + 8 * k + i) g = sp_put σ k (sp_wS A (fun a => if a = i then g else sp_sl A a)) := by
  funext q j
  by_cases h : q = 2 + 8 * k + i
  · subst h
    rw [wj_r_same, sp_put_s hk hi]
    simp [sp_wS, sp_sl]
  · rw [wj_r_ne h]
    simp only [sp_put, sp_wS]
    by_cases h1 : q = k
    · simp only [if_pos h1]
    · simp only [if_neg h1]
      by_cases h2 : q = k + 6
      · simp only [if_pos h2]
      · simp only [if_neg h2]
        by_cases h3 : 2 + 8 * k ≤ q ∧ q < 10 + 8 * k
        · simp only [if_pos h3]
          rw [if_neg (by omega)]
        · simp only [if_neg h3]
theorem sp_N_of {A : sp_L} {N : Nat} (h : A.2.1 = nI N) (hN : N ≤ 8) : sp_N A = N := by rw [sp_N, h, nI_clamp (by omega)]
theorem sp_wS_c {A : sp_L} {g g' : Nat → Nat → Int32} (h : ∀ i, g i = g' i) : sp_wS A g = sp_wS A g' := by rw [show g = g' from funext h]
set_option maxRecDepth 100000 in
set_option maxHeartbeats 4000000 in
theorem c_J9_floorMod_7cf53 (l : Launch) (V : wj_V) {σ : wj_St} {y : Nat} (hy : y < 2 ^ 31) : wj_M l V yJ9_floorMod_7cf53 cJ9_floorMod_7cf53 3 (some .int) 0 0 [.int (nI y), .int 6] σ (wj_I V (nI y - nI y / 6 * 6) σ) := by
  refine wj_ofIJ (own := RJ9) [some (.int (nI y)), some (.int 6), none] (by decide +kernel) rfl rfl (Nat.le_of_ble_eq_true rfl) (fun X C hR => ?_)
  refine wj_iload_n C 0 dJ9_floorMod_7cf53_0 rfl rfl ?_
  refine wj_iload_n C 1 dJ9_floorMod_7cf53_1 rfl rfl ?_
  refine wj_irem C dJ9_floorMod_7cf53_2 (by decide) ?_
  refine wj_istore_n C 2 dJ9_floorMod_7cf53_3 rfl (by decide) rfl ?_
  dsimp only [List.set]
  refine wj_iload_n C 0 dJ9_floorMod_7cf53_4 rfl rfl ?_
  refine wj_iload_n C 1 dJ9_floorMod_7cf53_5 rfl rfl ?_
  refine wj_ixor C dJ9_floorMod_7cf53_6 ?_
  refine wj_if_ge C 18 dJ9_floorMod_7cf53_7 (by decide) (fun h7 => ?_) (fun h7 => ?_)
  · refine wj_iload_n C 2 dJ9_floorMod_7cf53_18 rfl rfl ?_
    exact hR _ _ _ _ _ dJ9_floorMod_7cf53_19 ⟨rfl, rfl⟩ wj_rfl
  · exact absurd (show (0 : Int32) ≤ nI y ^^^ 6 from (wj_xorp hy)) h7
set_option maxRecDepth 100000 in
set_option maxHeartbeats 4000000 in
theorem c_X0_listedFor (l : Launch) (V : wj_V) {σ : wj_St} {y : Nat} (hy : y < 2 ^ 31) : wj_M l V yX0_listedFor cX0_listedFor 1 (some .int) 1 22 [.int (nI y)] σ (wj_I V (nI y - nI y / 6 * 6) σ) := by
  refine wj_ofI (own := RX0) [some (.int (nI y))] (by decide) rfl rfl (Nat.le_of_ble_eq_true rfl) (fun X C hR => ?_)
  refine wj_iload_n C 0 dX0_listedFor_0 rfl rfl ?_
  refine wj_bipush (v := 6) C dX0_listedFor_1 (by decide) ?_
  refine wj_cif C (wj_rS C dX0_listedFor_3 km_J9_floorMod_7cf53 kl_X0_35 (c_J9_floorMod_7cf53 l V hy) rfl rfl (Nat.le_of_ble_eq_true rfl) (by decide)) ?_
  exact hR _ _ _ _ _ dX0_listedFor_6 ⟨rfl, rfl⟩ wj_rfl
set_option maxRecDepth 100000 in
set_option maxHeartbeats 4000000 in
theorem c_X0_hasHurdle (l : Launch) (V : wj_V) {σ : wj_St} {k : Nat} {A : sp_L} {N : Nat} {p : Int32} (hk : 1 ≤ k ∧ k < 4) (hn : A.2.1 = nI N) (hN : N ≤ 8) : wj_M l V yX0_hasHurdle cX0_hasHurdle 2 (some .boolean) 0 0 [.ref (V.2.2.1 k), .int p] (sp_put σ k A) (wj_I V (if sp_hur A.2.2.1 p = true then 1 else 0) (sp_put σ k A)) := by
  refine wj_ofZ (own := RX0) [some (.ref (V.2.2.1 k)), some (.int p)] (by decide) rfl rfl (Nat.le_of_ble_eq_true rfl) (fun X C hR => ?_)
  refine wj_aload_n C 0 dX0_hasHurdle_0 rfl rfl ?_
  refine wg_X0_25 C dX0_hasHurdle_1 (by first | assumption | omega) ?_
  rw [sp_put_3]
  refine wj_iload_n C 1 dX0_hasHurdle_4 rfl rfl ?_
  refine wj_ishr C dX0_hasHurdle_5 ?_
  refine wj_iconst (v := 1) C dX0_hasHurdle_6 (by decide) ?_
  refine wj_iand C dX0_hasHurdle_7 ?_
  refine wj_iconst (v := 1) C dX0_hasHurdle_8 (by decide) ?_
  refine wj_icmp_ne C 16 dX0_hasHurdle_9 (by decide) (fun h9 => ?_) (fun h9 => ?_)
  · refine wj_iconst (v := 0) C dX0_hasHurdle_16 (by decide) ?_
    exact hR _ _ _ _ _ dX0_hasHurdle_17 ⟨by decide +kernel, (by simp_all [sp_hur]), rfl⟩ wj_rfl
  · refine wj_iconst (v := 1) C dX0_hasHurdle_12 (by decide) ?_
    refine wj_goto C 17 dX0_hasHurdle_13 (by decide) ?_
    exact hR _ _ _ _ _ dX0_hasHurdle_17 ⟨by decide +kernel, (by simp_all [sp_hur]), rfl⟩ wj_rfl
set_option maxRecDepth 100000 in
set_option maxHeartbeats 4000000 in
theorem c_X0_slipsIn (l : Launch) (V : wj_V) {σ : wj_St} {k : Nat} {A : sp_L} {N : Nat} {p : Int32} (hk : 1 ≤ k ∧ k < 4) (hn : A.2.1 = nI N) (hN : N ≤ 8) : wj_M l V yX0_slipsIn cX0_slipsIn 4 (some .int) 0 0 [.ref (V.2.2.1 k), .int p] (sp_put σ k A) (wj_I V (sp_si A p (sp_N A)) (sp_put σ k A)) := by
  refine wj_ofI (own := RX0) [some (.ref (V.2.2.1 k)), some (.int p), none, none] (by decide) rfl rfl (Nat.le_of_ble_eq_true rfl) (fun X C hR => ?_)
  have lp : ∀ n i, i ≤ N → N - i < n → wj_J l V X 4 [some (.ref (V.2.2.1 k)), some (.int p), some (.int (sp_si A p i)), some (.int (nI i))] [] (sp_put σ k A) := by
    intro n
    induction n with
    | zero => intro i _ h; omega
    | succ n ih =>
      intro i hi hm
      refine wj_iload_n C 3 dX0_slipsIn_4 rfl rfl ?_
      refine wj_aload_n C 0 dX0_slipsIn_5 rfl rfl ?_
      refine wg_X0_21 C dX0_slipsIn_6 (by first | assumption | omega) ?_
      rw [sp_put_2]
      refine wj_icmp_ge C 37 dX0_slipsIn_9 (by decide) (fun h9 => ?_) (fun h9 => ?_)
      · rw [hn] at h9
        have e9 := wj_ge (by omega) hi h9
        subst e9
        refine wj_iload_n C 2 dX0_slipsIn_37 rfl rfl ?_
        exact hR _ _ _ _ _ dX0_slipsIn_38 ⟨by rw [sp_N_of hn hN], rfl⟩ wj_rfl
      · rw [hn] at h9
        have hlt := wj_nge (by omega) hi h9
        refine wj_aload_n C 0 dX0_slipsIn_12 rfl rfl ?_
        refine wg_X0_11 C dX0_slipsIn_13 (by first | assumption | omega) ?_
        refine wj_iload_n C 3 dX0_slipsIn_16 rfl rfl ?_
        refine wj_aaldS C dX0_slipsIn_17 (by first | assumption | omega) (by first | assumption | omega) ?_
        refine wg_X0_59 C dX0_slipsIn_18 (by first | assumption | omega) ?_
        rw [sp_put_s (by first | assumption | omega) (by first | assumption | omega)]
        refine wj_iload_n C 1 dX0_slipsIn_21 rfl rfl ?_
        refine wj_icmp_ne C 31 dX0_slipsIn_22 (by decide) (fun h22 => ?_) (fun h22 => ?_)
        · have e8 : sp_si A p (i + 1) = sp_si A p i := by rw [sp_si, if_neg h22]
          refine wj_iinc C (v := nI (i + 1)) dX0_slipsIn_31 rfl (wj_i1 i) (by decide) rfl ?_
          dsimp only [List.set]
          refine wj_goto C 4 dX0_slipsIn_34 (by decide) ?_
          exact (by have hh := ih (i + 1) (by omega) (by omega); rw [e8] at hh; exact hh)
        · have e8 : sp_si A p (i + 1) = sp_si A p i ||| ((1 : Int32) <<< (nI i &&& 31)) := by rw [sp_si, if_pos h22]
          refine wj_iload_n C 2 dX0_slipsIn_25 rfl rfl ?_
          refine wj_iconst (v := 1) C dX0_slipsIn_26 (by decide) ?_
          refine wj_iload_n C 3 dX0_slipsIn_27 rfl rfl ?_
          refine wj_ishl C dX0_slipsIn_28 ?_
          refine wj_ior C dX0_slipsIn_29 ?_
          refine wj_istore_n C 2 dX0_slipsIn_30 rfl (by decide) rfl ?_
          dsimp only [List.set]
          refine wj_iinc C (v := nI (i + 1)) dX0_slipsIn_31 rfl (wj_i1 i) (by decide) rfl ?_
          dsimp only [List.set]
          refine wj_goto C 4 dX0_slipsIn_34 (by decide) ?_
          exact (by have hh := ih (i + 1) (by omega) (by omega); rw [e8] at hh; exact hh)
  refine wj_iconst (v := 0) C dX0_slipsIn_0 (by decide) ?_
  refine wj_istore_n C 2 dX0_slipsIn_1 rfl (by decide) rfl ?_
  dsimp only [List.set]
  refine wj_iconst (v := 0) C dX0_slipsIn_2 (by decide) ?_
  refine wj_istore_n C 3 dX0_slipsIn_3 rfl (by decide) rfl ?_
  dsimp only [List.set]
  exact lp (N + 1) 0 (Nat.zero_le _) (by omega)
set_option maxRecDepth 100000 in
set_option maxHeartbeats 4000000 in
theorem c_X0_coverersOf (l : Launch) (V : wj_V) {σ : wj_St} {k : Nat} {A : sp_L} {N : Nat} {p : Int32} (hk : 1 ≤ k ∧ k < 4) (hn : A.2.1 = nI N) (hN : N ≤ 8) : wj_M l V yX0_coverersOf cX0_coverersOf 4 (some .int) 2 42 [.ref (V.2.2.1 k), .int p] (sp_put σ k A) (wj_I V (sp_co A p (sp_N A)) (sp_put σ k A)) := by
  refine wj_ofI (own := RX0) [some (.ref (V.2.2.1 k)), some (.int p), none, none] (by decide) rfl rfl (Nat.le_of_ble_eq_true rfl) (fun X C hR => ?_)
  have lp : ∀ n i, i ≤ N → N - i < n → wj_J l V X 4 [some (.ref (V.2.2.1 k)), some (.int p), some (.int (sp_co A p i)), some (.int (nI i))] [] (sp_put σ k A) := by
    intro n
    induction n with
    | zero => intro i _ h; omega
    | succ n ih =>
      intro i hi hm
      refine wj_iload_n C 3 dX0_coverersOf_4 rfl rfl ?_
      refine wj_aload_n C 0 dX0_coverersOf_5 rfl rfl ?_
      refine wg_X0_21 C dX0_coverersOf_6 (by first | assumption | omega) ?_
      rw [sp_put_2]
      refine wj_icmp_ge C 37 dX0_coverersOf_9 (by decide) (fun h9 => ?_) (fun h9 => ?_)
      · rw [hn] at h9
        have e9 := wj_ge (by omega) hi h9
        subst e9
        refine wj_iload_n C 2 dX0_coverersOf_37 rfl rfl ?_
        exact hR _ _ _ _ _ dX0_coverersOf_38 ⟨by rw [sp_N_of hn hN], rfl⟩ wj_rfl
      · rw [hn] at h9
        have hlt := wj_nge (by omega) hi h9
        refine wj_aload_n C 0 dX0_coverersOf_12 rfl rfl ?_
        refine wg_X0_11 C dX0_coverersOf_13 (by first | assumption | omega) ?_
        refine wj_iload_n C 3 dX0_coverersOf_16 rfl rfl ?_
        refine wj_aaldS C dX0_coverersOf_17 (by first | assumption | omega) (by first | assumption | omega) ?_
        refine wj_iload_n C 1 dX0_coverersOf_18 rfl rfl ?_
        refine wj_cif C (wj_rV C dX0_coverersOf_19 km_X2_isCovering kl_X0_62 (is_X2 (by first | assumption | omega)) rfl rfl (c_X2_isCovering l V (by omega)) rfl rfl (Nat.le_of_ble_eq_true rfl) (by decide)) ?_
        rw [sp_put_s hk (by omega)]
        refine wj_if_eq C 31 dX0_coverersOf_22 (by decide) (fun h22 => ?_) (fun h22 => ?_)
        · have e8 : sp_co A p (i + 1) = sp_co A p i := by rw [sp_co, wj_b0 h22]; rfl
          refine wj_iinc C (v := nI (i + 1)) dX0_coverersOf_31 rfl (wj_i1 i) (by decide) rfl ?_
          dsimp only [List.set]
          refine wj_goto C 4 dX0_coverersOf_34 (by decide) ?_
          exact (by have hh := ih (i + 1) (by omega) (by omega); rw [e8] at hh; exact hh)
        · have e8 : sp_co A p (i + 1) = sp_co A p i ||| ((1 : Int32) <<< (nI i &&& 31)) := by rw [sp_co, wj_b1 h22]; rfl
          refine wj_iload_n C 2 dX0_coverersOf_25 rfl rfl ?_
          refine wj_iconst (v := 1) C dX0_coverersOf_26 (by decide) ?_
          refine wj_iload_n C 3 dX0_coverersOf_27 rfl rfl ?_
          refine wj_ishl C dX0_coverersOf_28 ?_
          refine wj_ior C dX0_coverersOf_29 ?_
          refine wj_istore_n C 2 dX0_coverersOf_30 rfl (by decide) rfl ?_
          dsimp only [List.set]
          refine wj_iinc C (v := nI (i + 1)) dX0_coverersOf_31 rfl (wj_i1 i) (by decide) rfl ?_
          dsimp only [List.set]
          refine wj_goto C 4 dX0_coverersOf_34 (by decide) ?_
          exact (by have hh := ih (i + 1) (by omega) (by omega); rw [e8] at hh; exact hh)
  refine wj_iconst (v := 0) C dX0_coverersOf_0 (by decide) ?_
  refine wj_istore_n C 2 dX0_coverersOf_1 rfl (by decide) rfl ?_
  dsimp only [List.set]
  refine wj_iconst (v := 0) C dX0_coverersOf_2 (by decide) ?_
  refine wj_istore_n C 3 dX0_coverersOf_3 rfl (by decide) rfl ?_
  dsimp only [List.set]
  exact lp (N + 1) 0 (Nat.zero_le _) (by omega)
set_option maxRecDepth 100000 in
set_option maxHeartbeats 4000000 in
theorem c_X0_strengthOf (l : Launch) (V : wj_V) {σ : wj_St} {k : Nat} {A : sp_L} {N : Nat} {p : Int32} (hk : 1 ≤ k ∧ k < 4) (hn : A.2.1 = nI N) (hN : N ≤ 8) : wj_M l V yX0_strengthOf cX0_strengthOf 4 (some .int) 2 43 [.ref (V.2.2.1 k), .int p] (sp_put σ k A) (wj_I V (sp_stg A p) (sp_put σ k A)) := by
  refine wj_ofI (own := RX0) [some (.ref (V.2.2.1 k)), some (.int p), none, none] (by decide) rfl rfl (Nat.le_of_ble_eq_true rfl) (fun X C hR => ?_)
  have lp : ∀ n i, i ≤ N → N - i < n → wj_J l V X 17 [some (.ref (V.2.2.1 k)), some (.int p), some (.int (sp_sg A p i)), some (.int (nI i))] [] (sp_put σ k A) := by
    intro n
    induction n with
    | zero => intro i _ h; omega
    | succ n ih =>
      intro i hi hm
      refine wj_iload_n C 3 dX0_strengthOf_17 rfl rfl ?_
      refine wj_aload_n C 0 dX0_strengthOf_18 rfl rfl ?_
      refine wg_X0_21 C dX0_strengthOf_19 (by first | assumption | omega) ?_
      rw [sp_put_2]
      refine wj_icmp_ge C 60 dX0_strengthOf_22 (by decide) (fun h22 => ?_) (fun h22 => ?_)
      · rw [hn] at h22
        have e9 := wj_ge (by omega) hi h22
        subst e9
        refine wj_iload_n C 2 dX0_strengthOf_60 rfl rfl ?_
        exact hR _ _ _ _ _ dX0_strengthOf_61 ⟨by rw [sp_stg, sp_N_of hn hN], rfl⟩ wj_rfl
      · rw [hn] at h22
        have hlt := wj_nge (by omega) hi h22
        refine wj_aload_n C 0 dX0_strengthOf_25 rfl rfl ?_
        refine wg_X0_11 C dX0_strengthOf_26 (by first | assumption | omega) ?_
        refine wj_iload_n C 3 dX0_strengthOf_29 rfl rfl ?_
        refine wj_aaldS C dX0_strengthOf_30 (by first | assumption | omega) (by first | assumption | omega) ?_
        refine wj_iload_n C 1 dX0_strengthOf_31 rfl rfl ?_
        refine wj_cif C (wj_rV C dX0_strengthOf_32 km_X2_isCovering kl_X0_62 (is_X2 (by first | assumption | omega)) rfl rfl (c_X2_isCovering l V (by omega)) rfl rfl (Nat.le_of_ble_eq_true rfl) (by decide)) ?_
        rw [sp_put_s hk (by omega)]
        refine wj_if_eq C 54 dX0_strengthOf_35 (by decide) (fun h35 => ?_) (fun h35 => ?_)
        · have e8 : sp_sg A p (i + 1) = sp_sg A p i := by rw [sp_sg, wj_b0 h35]; rfl
          refine wj_iinc C (v := nI (i + 1)) dX0_strengthOf_54 rfl (wj_i1 i) (by decide) rfl ?_
          dsimp only [List.set]
          refine wj_goto C 17 dX0_strengthOf_57 (by decide) ?_
          exact (by have hh := ih (i + 1) (by omega) (by omega); rw [e8] at hh; exact hh)
        · have e8 : sp_sg A p (i + 1) = sp_sg A p i + sp_str (sp_sl A i) A.1 := by rw [sp_sg, wj_b1 h35]; rfl
          refine wj_iload_n C 2 dX0_strengthOf_38 rfl rfl ?_
          refine wj_aload_n C 0 dX0_strengthOf_39 rfl rfl ?_
          refine wg_X0_11 C dX0_strengthOf_40 (by first | assumption | omega) ?_
          refine wj_iload_n C 3 dX0_strengthOf_43 rfl rfl ?_
          refine wj_aaldS C dX0_strengthOf_44 (by first | assumption | omega) (by first | assumption | omega) ?_
          refine wj_aload_n C 0 dX0_strengthOf_45 rfl rfl ?_
          refine wg_X0_31 C dX0_strengthOf_46 (by first | assumption | omega) ?_
          rw [sp_put_5]
          refine wj_cif C (wj_rV C dX0_strengthOf_49 km_X2_strongIn kl_X0_69 (is_X2 (by first | assumption | omega)) rfl rfl (c_X2_strongIn l V (by omega)) rfl rfl (Nat.le_of_ble_eq_true rfl) (by decide)) ?_
          rw [sp_put_s hk (by omega)]
          refine wj_iadd C dX0_strengthOf_52 ?_
          refine wj_istore_n C 2 dX0_strengthOf_53 rfl (by decide) rfl ?_
          dsimp only [List.set]
          refine wj_iinc C (v := nI (i + 1)) dX0_strengthOf_54 rfl (wj_i1 i) (by decide) rfl ?_
          dsimp only [List.set]
          refine wj_goto C 17 dX0_strengthOf_57 (by decide) ?_
          exact (by have hh := ih (i + 1) (by omega) (by omega); rw [e8] at hh; exact hh)
  refine wj_aload_n C 0 dX0_strengthOf_0 rfl rfl ?_
  refine wj_iload_n C 1 dX0_strengthOf_1 rfl rfl ?_
  refine wj_cif C (wj_rV C dX0_strengthOf_2 km_X0_hasHurdle kl_X0_66 (is_X0 (by first | assumption | omega)) rfl rfl (c_X0_hasHurdle l V hk hn hN) rfl rfl (Nat.le_of_ble_eq_true rfl) (by decide)) ?_
  refine wj_if_eq C 13 dX0_strengthOf_5 (by decide) (fun h5 => ?_) (fun h5 => ?_)
  · have e7 : sp_sg A p 0 = 0 := by rw [sp_sg, wj_b0 h5]; rfl
    refine wj_iconst (v := 0) C dX0_strengthOf_13 (by decide) ?_
    refine wj_istore_n C 2 dX0_strengthOf_14 rfl (by decide) rfl ?_
    dsimp only [List.set]
    refine wj_iconst (v := 0) C dX0_strengthOf_15 (by decide) ?_
    refine wj_istore_n C 3 dX0_strengthOf_16 rfl (by decide) rfl ?_
    dsimp only [List.set]
    exact (by have hh := lp (N + 1) 0 (Nat.zero_le _) (by omega); rw [e7] at hh; exact hh)
  · have e7 : sp_sg A p 0 = 40 := by rw [sp_sg, wj_b1 h5]; rfl
    refine wj_bipush (v := 40) C dX0_strengthOf_8 (by decide) ?_
    refine wj_goto C 14 dX0_strengthOf_10 (by decide) ?_
    refine wj_istore_n C 2 dX0_strengthOf_14 rfl (by decide) rfl ?_
    dsimp only [List.set]
    refine wj_iconst (v := 0) C dX0_strengthOf_15 (by decide) ?_
    refine wj_istore_n C 3 dX0_strengthOf_16 rfl (by decide) rfl ?_
    dsimp only [List.set]
    exact (by have hh := lp (N + 1) 0 (Nat.zero_le _) (by omega); rw [e7] at hh; exact hh)
set_option maxRecDepth 100000 in
set_option maxHeartbeats 4000000 in
theorem c_X0_gapSet (l : Launch) (V : wj_V) {σ : wj_St} {k : Nat} {A : sp_L} {N : Nat}  (hk : 1 ≤ k ∧ k < 4) (hn : A.2.1 = nI N) (hN : N ≤ 8) : wj_M l V yX0_gapSet cX0_gapSet 3 (some .int) 2 43 [.ref (V.2.2.1 k)] (sp_put σ k A) (wj_I V (sp_gap A) (sp_put σ k A)) := by
  refine wj_ofI (own := RX0) [some (.ref (V.2.2.1 k)), none, none] (by decide) rfl rfl (Nat.le_of_ble_eq_true rfl) (fun X C hR => ?_)
  have lp : ∀ n i, i ≤ N → N - i < n → wj_J l V X 7 [some (.ref (V.2.2.1 k)), some (.int (sp_un A i)), some (.int (nI i))] [] (sp_put σ k A) := by
    intro n
    induction n with
    | zero => intro i _ h; omega
    | succ n ih =>
      intro i hi hm
      refine wj_iload_n C 2 dX0_gapSet_7 rfl rfl ?_
      refine wj_aload_n C 0 dX0_gapSet_8 rfl rfl ?_
      refine wg_X0_21 C dX0_gapSet_9 (by first | assumption | omega) ?_
      rw [sp_put_2]
      refine wj_icmp_ge C 33 dX0_gapSet_12 (by decide) (fun h12 => ?_) (fun h12 => ?_)
      · rw [hn] at h12
        have e9 := wj_ge (by omega) hi h12
        subst e9
        refine wj_ldc C dX0_gapSet_33 kc_X0_77 ?_
        refine wj_iload_n C 1 dX0_gapSet_35 rfl rfl ?_
        refine wj_iconst (v := -1) C dX0_gapSet_36 (by decide) ?_
        refine wj_ixor C dX0_gapSet_37 ?_
        refine wj_iand C dX0_gapSet_38 ?_
        exact hR _ _ _ _ _ dX0_gapSet_39 ⟨by rw [sp_gap, sp_N_of hn hN], rfl⟩ wj_rfl
      · rw [hn] at h12
        have hlt := wj_nge (by omega) hi h12
        refine wj_iload_n C 1 dX0_gapSet_15 rfl rfl ?_
        refine wj_aload_n C 0 dX0_gapSet_16 rfl rfl ?_
        refine wg_X0_11 C dX0_gapSet_17 (by first | assumption | omega) ?_
        refine wj_iload_n C 2 dX0_gapSet_20 rfl rfl ?_
        refine wj_aaldS C dX0_gapSet_21 (by first | assumption | omega) (by first | assumption | omega) ?_
        refine wj_cif C (wj_rV C dX0_gapSet_22 km_X2_coverSet kl_X0_73 (is_X2 (by first | assumption | omega)) rfl rfl (c_X2_coverSet l V (by omega)) rfl rfl (Nat.le_of_ble_eq_true rfl) (by decide)) ?_
        rw [sp_put_s hk (by omega)]
        refine wj_ior C dX0_gapSet_25 ?_
        refine wj_istore_n C 1 dX0_gapSet_26 rfl (by decide) rfl ?_
        dsimp only [List.set]
        refine wj_iinc C (v := nI (i + 1)) dX0_gapSet_27 rfl (wj_i1 i) (by decide) rfl ?_
        dsimp only [List.set]
        refine wj_goto C 7 dX0_gapSet_30 (by decide) ?_
        exact ih (i + 1) (by omega) (by omega)
  refine wj_aload_n C 0 dX0_gapSet_0 rfl rfl ?_
  refine wg_X0_25 C dX0_gapSet_1 (by first | assumption | omega) ?_
  rw [sp_put_3]
  refine wj_istore_n C 1 dX0_gapSet_4 rfl (by decide) rfl ?_
  dsimp only [List.set]
  refine wj_iconst (v := 0) C dX0_gapSet_5 (by decide) ?_
  refine wj_istore_n C 2 dX0_gapSet_6 rfl (by decide) rfl ?_
  dsimp only [List.set]
  exact lp (N + 1) 0 (Nat.zero_le _) (by omega)
set_option maxRecDepth 100000 in
set_option maxHeartbeats 4000000 in
theorem c_X0_isGap (l : Launch) (V : wj_V) {σ : wj_St} {k : Nat} {A : sp_L} {N : Nat} {p : Int32} (hk : 1 ≤ k ∧ k < 4) (hn : A.2.1 = nI N) (hN : N ≤ 8) : wj_M l V yX0_isGap cX0_isGap 2 (some .boolean) 3 65 [.ref (V.2.2.1 k), .int p] (sp_put σ k A) (wj_I V (if sp_hur (sp_gap A) p = true then 1 else 0) (sp_put σ k A)) := by
  refine wj_ofZ (own := RX0) [some (.ref (V.2.2.1 k)), some (.int p)] (by decide) rfl rfl (Nat.le_of_ble_eq_true rfl) (fun X C hR => ?_)
  refine wj_aload_n C 0 dX0_isGap_0 rfl rfl ?_
  refine wj_cif C (wj_rV C dX0_isGap_1 km_X0_gapSet kl_X0_78 (is_X0 (by first | assumption | omega)) rfl rfl (c_X0_gapSet l V hk hn hN) rfl rfl (Nat.le_of_ble_eq_true rfl) (by decide)) ?_
  refine wj_iload_n C 1 dX0_isGap_4 rfl rfl ?_
  refine wj_ishr C dX0_isGap_5 ?_
  refine wj_iconst (v := 1) C dX0_isGap_6 (by decide) ?_
  refine wj_iand C dX0_isGap_7 ?_
  refine wj_iconst (v := 1) C dX0_isGap_8 (by decide) ?_
  refine wj_icmp_ne C 16 dX0_isGap_9 (by decide) (fun h9 => ?_) (fun h9 => ?_)
  · refine wj_iconst (v := 0) C dX0_isGap_16 (by decide) ?_
    exact hR _ _ _ _ _ dX0_isGap_17 ⟨by decide +kernel, (by simp_all [sp_hur]), rfl⟩ wj_rfl
  · refine wj_iconst (v := 1) C dX0_isGap_12 (by decide) ?_
    refine wj_goto C 17 dX0_isGap_13 (by decide) ?_
    exact hR _ _ _ _ _ dX0_isGap_17 ⟨by decide +kernel, (by simp_all [sp_hur]), rfl⟩ wj_rfl
set_option maxRecDepth 100000 in
set_option maxHeartbeats 4000000 in
theorem c_X0_sumOf (l : Launch) (V : wj_V) {σ : wj_St} {k : Nat} {A : sp_L} {N : Nat} {w : Int32} (hk : 1 ≤ k ∧ k < 4) (hn : A.2.1 = nI N) (hN : N ≤ 8) : wj_M l V yX0_sumOf cX0_sumOf 4 (some .int) 3 65 [.ref (V.2.2.1 k), .int w] (sp_put σ k A) (wj_I V (sp_sum A w (sp_N A)) (sp_put σ k A)) := by
  refine wj_ofI (own := RX0) [some (.ref (V.2.2.1 k)), some (.int w), none, none] (by decide) rfl rfl (Nat.le_of_ble_eq_true rfl) (fun X C hR => ?_)
  have lp : ∀ n i, i ≤ N → N - i < n → wj_J l V X 4 [some (.ref (V.2.2.1 k)), some (.int w), some (.int (sp_sum A w i)), some (.int (nI i))] [] (sp_put σ k A) := by
    intro n
    induction n with
    | zero => intro i _ h; omega
    | succ n ih =>
      intro i hi hm
      refine wj_iload_n C 3 dX0_sumOf_4 rfl rfl ?_
      refine wj_aload_n C 0 dX0_sumOf_5 rfl rfl ?_
      refine wg_X0_21 C dX0_sumOf_6 (by first | assumption | omega) ?_
      rw [sp_put_2]
      refine wj_icmp_ge C 35 dX0_sumOf_9 (by decide) (fun h9 => ?_) (fun h9 => ?_)
      · rw [hn] at h9
        have e9 := wj_ge (by omega) hi h9
        subst e9
        refine wj_iload_n C 2 dX0_sumOf_35 rfl rfl ?_
        exact hR _ _ _ _ _ dX0_sumOf_36 ⟨by rw [sp_N_of hn hN], rfl⟩ wj_rfl
      · rw [hn] at h9
        have hlt := wj_nge (by omega) hi h9
        refine wj_iload_n C 2 dX0_sumOf_12 rfl rfl ?_
        refine wj_aload_n C 0 dX0_sumOf_13 rfl rfl ?_
        refine wg_X0_11 C dX0_sumOf_14 (by first | assumption | omega) ?_
        refine wj_iload_n C 3 dX0_sumOf_17 rfl rfl ?_
        refine wj_aaldS C dX0_sumOf_18 (by first | assumption | omega) (by first | assumption | omega) ?_
        refine wj_iload_n C 1 dX0_sumOf_19 rfl rfl ?_
        refine wj_aload_n C 0 dX0_sumOf_20 rfl rfl ?_
        refine wg_X0_31 C dX0_sumOf_21 (by first | assumption | omega) ?_
        rw [sp_put_5]
        refine wj_cif C (wj_rV C dX0_sumOf_24 km_X2_trait kl_X0_84 (is_X2 (by first | assumption | omega)) rfl rfl (c_X2_trait l V (by omega)) rfl rfl (Nat.le_of_ble_eq_true rfl) (by decide)) ?_
        rw [sp_put_s hk (by omega)]
        refine wj_iadd C dX0_sumOf_27 ?_
        refine wj_istore_n C 2 dX0_sumOf_28 rfl (by decide) rfl ?_
        dsimp only [List.set]
        refine wj_iinc C (v := nI (i + 1)) dX0_sumOf_29 rfl (wj_i1 i) (by decide) rfl ?_
        dsimp only [List.set]
        refine wj_goto C 4 dX0_sumOf_32 (by decide) ?_
        exact ih (i + 1) (by omega) (by omega)
  refine wj_iconst (v := 0) C dX0_sumOf_0 (by decide) ?_
  refine wj_istore_n C 2 dX0_sumOf_1 rfl (by decide) rfl ?_
  dsimp only [List.set]
  refine wj_iconst (v := 0) C dX0_sumOf_2 (by decide) ?_
  refine wj_istore_n C 3 dX0_sumOf_3 rfl (by decide) rfl ?_
  dsimp only [List.set]
  exact lp (N + 1) 0 (Nat.zero_le _) (by omega)

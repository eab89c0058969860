theorem wj_u_u {σ : wj_St} {k j : Nat} {x y : Int32} : wj_u (wj_u σ k j x) k j y = wj_u σ k j y := by
  funext q i
  by_cases h : q = k
  · subst h
    rw [wj_u_same, wj_u_same, wj_u_same]
    simp only [upd]
    split <;> rfl
  · rw [wj_u_ne h, wj_u_ne h, wj_u_ne h]
theorem wj_u_id {σ : wj_St} {k j : Nat} : wj_u σ k j (σ k j) = σ := by
  funext q i
  by_cases h : q = k
  · subst h
    rw [wj_u_same]
    simp only [upd]
    split
    · subst_vars; rfl
    · rfl
  · rw [wj_u_ne h]
theorem sp_rv2 {σ σ2 : wj_St} {A A2 : sp_L} {a : Sum Nat Int32} {v : Int32} (h : a = .inr v) (h2 : A2 = A) (h3 : σ2 = σ) : v = sp_v a ∧ sp_put σ 1 A = sp_put (sp_tw σ2 a) 1 A2 := by subst h; subst h2; subst h3; exact ⟨rfl, rfl⟩
theorem sp_rf2 {σ σ2 : wj_St} {A A2 : sp_L} {a : Sum Nat Int32} {w : Nat} {x : Int32} (h : a = .inl w) (h2 : A2 = A) (h3 : σ2 = σ) (hx : x = -1000001 - nI w) : x = sp_v a ∧ sp_tl (sp_put σ 1 A) w = sp_put (sp_tw σ2 a) 1 A2 := by subst h3; exact sp_rf1 h h2 hx
/-! draws -/
def sp_dr (z : Int32) : Int32 := z * 1103515245 + 12345
def sp_du (z : Int32) : Int32 := (z.toUInt32 >>> ((8 : Int32).toUInt32 &&& Int32.toUInt32 31)).toInt32
theorem sp_du_n (z : Int32) : ∃ q, q < 2 ^ 24 ∧ sp_du z = nI q := by
  obtain ⟨n, hn, rfl⟩ := wb_of32 z
  refine ⟨n / 256, by omega, ?_⟩
  apply Int32.toBitVec_inj.mp
  apply BitVec.eq_of_toNat_eq
  have e : (sp_du (nI n)).toBitVec.toNat = n / 256 := by
    show ((nI n).toUInt32 >>> ((8 : Int32).toUInt32 &&& Int32.toUInt32 31)).toNat = n / 256
    rw [UInt32.toNat_shiftRight, show ((8 : Int32).toUInt32 &&& Int32.toUInt32 31).toNat % 32 = 8 from by decide +kernel, Nat.shiftRight_eq_div_pow]
    have : (nI n).toUInt32.toNat = n := by
      show (BitVec.ofNat 32 n).toNat = n
      rw [BitVec.toNat_ofNat, Nat.mod_eq_of_lt hn]
    rw [this]
  rw [e]
  show n / 256 = (BitVec.ofNat 32 (n / 256)).toNat
  rw [BitVec.toNat_ofNat, Nat.mod_eq_of_lt (by omega)]
/-- a leaning is drawn, and a year goes by -/
def sp_ent (z : Int32) : Int32 := 100 * (sp_du (sp_dr z) - sp_du (sp_dr z) / 16 * 16) + (sp_du (sp_dr (sp_dr z)) - sp_du (sp_dr (sp_dr z)) / 100 * 100)
theorem sp_ent_b (z : Int32) : ∃ e, e < 1600 ∧ sp_ent z = nI e := by
  obtain ⟨p, hp, ep⟩ := sp_du_n (sp_dr z)
  obtain ⟨q, hq, eq⟩ := sp_du_n (sp_dr (sp_dr z))
  refine ⟨100 * (p % 16) + q % 100, by omega, ?_⟩
  rw [sp_ent, ep, eq, show (16 : Int32) = nI 16 from rfl, show (100 : Int32) = nI 100 from rfl, pk_rem (by omega) (by decide) (by decide), pk_rem (by omega) (by decide) (by decide), pk_mul, nI_add]
def sp_lz (z : Int32) (A : sp_L) : Nat → Int32 × sp_L
  | 0 => (z, A)
  | m + 1 => (sp_dr (sp_dr (sp_lz z A m).1), sp_yr (sp_wL (sp_lz z A m).2 (upd (sp_lz z A m).2.2.2.2.2.1 ((sp_lz z A m).2.1 - (sp_lz z A m).2.1 / 6 * 6).toNatClampNeg (sp_ent (sp_lz z A m).1))))
theorem sp_G_ent {A : sp_L} {N y i e : Nat} (h : sp_G A N y) (he : e < 1600) : sp_G (sp_wL A (upd A.2.2.2.2.1 i (nI e))) N y := by
  refine ⟨h.1, h.2.1, h.2.2.1, h.2.2.2.1, fun j hj => ?_, h.2.2.2.2.2⟩
  show 0 ≤ (upd A.2.2.2.2.1 i (nI e) j).toInt ∧ (upd A.2.2.2.2.1 i (nI e) j).toInt < 1600
  simp only [upd]
  split
  · rw [nI_toInt (by omega)]; omega
  · exact h.2.2.2.2.1 j hj
theorem sp_lz_G {z : Int32} {A : sp_L} {N y : Nat} (h : sp_G A N y) : ∀ m, sp_G (sp_lz z A m).2 N (y + m)
  | 0 => h
  | m + 1 => by
    obtain ⟨e, he, ee⟩ := sp_ent_b (sp_lz z A m).1
    have ih := sp_lz_G (z := z) h m
    show sp_G (sp_yr (sp_wL _ (upd _ _ (sp_ent _)))) N (y + m + 1)
    rw [ee]
    exact sp_G_yr (sp_G_ent ih he)
theorem re_lz {A B : sp_L} (h : sp_re A B) (z : Int32) {N y : Nat} (g : sp_G A N y) : ∀ m, y + m < 2 ^ 31 → (sp_lz z A m).1 = (sp_lz z B m).1 ∧ sp_re (sp_lz z A m).2 (sp_lz z B m).2
  | 0, _ => ⟨rfl, h⟩
  | m + 1, hm => by
    obtain ⟨e1, e2⟩ := re_lz h z g m (by omega)
    have hG := sp_lz_G (z := z) g m
    refine ⟨by rw [sp_lz, sp_lz, e1], ?_⟩
    show sp_re (sp_yr (sp_wL _ _)) (sp_yr (sp_wL _ _))
    refine re_yr (y := y + m) (re_wL e2 (fun i hi => ?_)) hG.2.2.1 (by omega)
    rw [← e1, ← e2.1]
    simp only [upd]
    split
    · rfl
    · exact e2.2.2.2.2.1 i hi
def a_leans (z : Int32) (A : sp_L) (n : Int32) : Sum Nat Int32 := if 1 ≤ n ∧ n ≤ 20 then .inr (sp_gap (sp_lz z A n.toNatClampNeg).2) else .inl 0
def n_leans (z : Int32) (A : sp_L) (n : Int32) : sp_L := if 1 ≤ n ∧ n ≤ 20 then (sp_lz z A n.toNatClampNeg).2 else A
def z_leans (z : Int32) (A : sp_L) (n : Int32) : Int32 := if 1 ≤ n ∧ n ≤ 20 then (sp_lz z A n.toNatClampNeg).1 else z
/-! odds -/
def sp_vL : Sum Nat Int64 → Int64
  | .inl w => (-1000001 - nI w : Int32).toInt64
  | .inr v => v
def sp_twL (σ : wj_St) : Sum Nat Int64 → wj_St
  | .inl w => sp_tl σ w
  | .inr _ => σ
def sp_half : Nat → Nat → Nat → Nat × Nat
  | 0, a, b => (a, b)
  | n + 1, a, b => if 1 < b ∧ a % 2 = 0 then sp_half n (a / 2) (b / 2) else (a, b)
def sp_od (g : Nat) (w : Int32) : Nat := if w = 0 then (sp_half 5 g 16).1 else (sp_half 5 g 16).2
def a_odds (A : sp_L) (w n t : Int32) : Sum Nat Int64 := if (0 ≤ w ∧ w ≤ 99) ∧ (0 ≤ n ∧ n ≤ 15) ∧ 0 ≤ t ∧ t ≤ 1 then .inr (sp_pw (nI (sp_od (sp_pb A w 16).toNatClampNeg t)) n.toNatClampNeg) else .inl 0
theorem sp_pb_n (A : sp_L) (w : Int32) : ∀ m, ∃ q, q ≤ m ∧ sp_pb A w m = nI q
  | 0 => ⟨0, Nat.le_refl _, rfl⟩
  | m + 1 => by
    obtain ⟨q, h1, h2⟩ := sp_pb_n A w m
    rw [sp_pb]
    split
    · exact ⟨q + 1, by omega, by rw [h2, nI_1]⟩
    · exact ⟨q, by omega, h2⟩
/-! the tape -/
theorem sp_nar (x : Int32) : vp_nar .byte x = x.toInt8.toInt32 := rfl
theorem sp_nar2 (x : Int32) : vp_nar .byte x.toInt8.toInt32 = x.toInt8.toInt32 := by rw [sp_nar, Int8.toInt8_toInt32]
/-- the bytes of b, t of n, at m -/
def sp_fb (f : Nat → Int32) (b : Int32) (m n t : Nat) : Nat → Int32 := fun k => if m ≤ k ∧ k < m + t then (b >>> (nI (8 * (n - 1 - (k - m))) &&& 31)).toInt8.toInt32 else f k
theorem sp_fb_s {f : Nat → Int32} {b : Int32} {m n t : Nat} : upd (sp_fb f b m n t) (m + t) (b >>> (nI (8 * (n - 1 - t)) &&& 31)).toInt8.toInt32 = sp_fb f b m n (t + 1) := by
  funext k
  simp only [upd, sp_fb]
  by_cases h : k = m + t
  · subst h; rw [if_pos rfl, if_pos (by omega), show m + t - m = t by omega]
  · rw [if_neg h]
    by_cases h2 : m ≤ k ∧ k < m + t
    · rw [if_pos h2, if_pos (by omega)]
    · rw [if_neg h2, if_neg (by omega)]
theorem sp_fb_0 {f : Nat → Int32} {b : Int32} {m n : Nat} : sp_fb f b m n 0 = f := funext fun k => if_neg (by omega)
def sp_fed (σ : wj_St) (b : Int32) (m n t : Nat) : wj_St := wj_u (wj_r σ 47 (sp_fb (σ 47) b m n t)) 46 1 (nI (m + t))
def a_feed (m : Nat) (n : Int32) : Sum Nat Int32 := if 1 ≤ n ∧ n ≤ 4 then (if m + n.toNatClampNeg ≤ 120 then .inr (nI (m + n.toNatClampNeg)) else .inl 1) else .inl 0
def n_feed (σ : wj_St) (m : Nat) (b n : Int32) : wj_St := if (1 ≤ n ∧ n ≤ 4) ∧ m + n.toNatClampNeg ≤ 120 then sp_fed σ b m n.toNatClampNeg n.toNatClampNeg else σ
theorem sp_wva (a t : Nat) : (nI a - nI t) + Int32.ofInt (-1) = nI a - nI (t + 1) := by
  rw [← nI_1 t]
  apply Int32.toBitVec_inj.mp
  simp only [Int32.toBitVec_sub, Int32.toBitVec_add]
  show _ + (-1#32) = _ - (_ + 1#32)
  rw [BitVec.sub_eq_add_neg, BitVec.sub_eq_add_neg, BitVec.neg_add, BitVec.add_assoc, BitVec.sub_eq_add_neg]
/-! spots -/
def a_hold (A : sp_L) (p x : Int32) : Sum Nat Int32 := if (0 ≤ p ∧ p ≤ 9) ∧ (x = -1 ∨ sp_rg A x) then .inr 1 else .inl 0
def n_hold (σ : wj_St) (A : sp_L) (p x : Int32) : wj_St := if (0 ≤ p ∧ p ≤ 9) ∧ (x = -1 ∨ sp_rg A x) then wj_u σ 34 p.toNatClampNeg x else σ
def a_as (f : Nat → Int32) (A : sp_L) (p k : Int32) : Sum Nat Int32 := if (0 ≤ p ∧ p ≤ 9) ∧ 0 ≤ k ∧ k ≤ 6 then (if sp_rg A (f p.toNatClampNeg) then (if sp_one k 3 (sp_sl A (f p.toNatClampNeg).toNatClampNeg 0) = true then .inr (f p.toNatClampNeg) else .inl 2) else .inl 5) else .inl 0
set_option maxRecDepth 100000 in
set_option maxHeartbeats 4000000 in
theorem c_X4_leans (l : Launch) (V : wj_V) {σ : wj_St} {A : sp_L} {N y : Nat} {nn : Int32} (hG : sp_G A N y) (hy : y < 90000) : wj_M l V yX4_leans cX4_leans 5 (some .int) 4 89 [.ref (V.2.2.1 0), .int nn] (sp_put σ 1 A) (wj_QI V (fun r u => r = sp_v (a_leans (σ 0 3) A nn) ∧ u = sp_put (sp_tw (wj_u σ 0 3 (z_leans (σ 0 3) A nn)) (a_leans (σ 0 3) A nn)) 1 (n_leans (σ 0 3) A nn))) := by
  refine wj_ofI (own := RX4) [some (.ref (V.2.2.1 0)), some (.int nn), none, none, none] (by decide) rfl rfl (Nat.le_of_ble_eq_true rfl) (fun X C hR => ?_)
  have lp : ∀ m, nn = nI m → m ≤ 20 → 1 ≤ m → ∀ n t j1 j2, t ≤ m → m - t < n → wj_J l V X 40 [some (.ref (V.2.2.1 0)), some (.int (nI m)), some (.int (nI t)), j1, j2] [] (sp_put (wj_u σ 0 3 (sp_lz (σ 0 3) A t).1) 1 (sp_lz (σ 0 3) A t).2) := by
    intro m hn2 hm h1m n
    subst hn2
    have hok : (1 : Int32) ≤ nI m ∧ nI m ≤ 20 := ⟨nI_le (a := 1) (b := m) (by omega) (by omega), nI_le (a := m) (b := 20) (by omega) (by omega)⟩
    induction n with
    | zero => intro t j1 j2 _ h; omega
    | succ n ih =>
      intro t j1 j2 hi hlt9
      refine wj_iload_n C 2 dX4_leans_40 rfl rfl ?_
      refine wj_iload_n C 1 dX4_leans_41 rfl rfl ?_
      refine wj_icmp_ge C 100 dX4_leans_42 (by decide) (fun h42 => ?_) (fun h42 => ?_)
      · have e9 := wj_ge (N := m) (by omega) hi h42
        subst e9
        refine wj_aload_n C 0 dX4_leans_100 rfl rfl ?_
        refine wg_X4_12 C dX4_leans_101 ?_
        refine wj_cif C (wj_rV C dX4_leans_104 km_X0_gapSet kl_X4_144 (is_X0 (by first | assumption | omega)) rfl rfl (c_X0_gapSet l V (by decide) (sp_lz_G (z := σ 0 3) hG t).1 (sp_lz_G (z := σ 0 3) hG t).2.1) rfl rfl (Nat.le_of_ble_eq_true rfl) (by decide)) ?_
        exact hR _ _ _ _ _ dX4_leans_107 (sp_rv2 (by rw [a_leans, if_pos hok, nI_clamp (by omega)]) (by rw [n_leans, if_pos hok, nI_clamp (by omega)]) (by rw [z_leans, if_pos hok, nI_clamp (by omega)])) wj_rfl
      · have hlt := wj_nge (N := m) (by omega) hi h42
        refine wj_aload_n C 0 dX4_leans_45 rfl rfl ?_
        refine wj_cif C (wj_rV C dX4_leans_46 km_X4_draw kl_X4_211 is_X4 rfl rfl (c_X4_draw l V) rfl rfl (Nat.le_of_ble_eq_true rfl) (by decide)) ?_
        rw [sp_put_o (by decide), wj_u_same, sp_put_u (by decide), wj_u_u]
        refine wj_top (y := sp_du (sp_dr (sp_lz (σ 0 3) A t).1)) (by simp [upd, sp_du, sp_dr]) ?_
        rw [show upd (σ 0) 3 (sp_lz (σ 0 3) A t).1 3 * 1103515245 + 12345 = sp_dr (sp_lz (σ 0 3) A t).1 by simp [upd, sp_dr]]
        refine wj_bipush (v := 16) C dX4_leans_49 (by decide) ?_
        refine wj_irem C dX4_leans_51 (by decide) ?_
        refine wj_istore_n C 3 dX4_leans_52 rfl (by decide) rfl ?_
        dsimp only [List.set]
        refine wj_aload_n C 0 dX4_leans_53 rfl rfl ?_
        refine wj_cif C (wj_rV C dX4_leans_54 km_X4_draw kl_X4_211 is_X4 rfl rfl (c_X4_draw l V) rfl rfl (Nat.le_of_ble_eq_true rfl) (by decide)) ?_
        rw [sp_put_o (by decide), wj_u_same, sp_put_u (by decide), wj_u_u]
        refine wj_top (y := sp_du (sp_dr (sp_dr (sp_lz (σ 0 3) A t).1))) (by simp [upd, sp_du, sp_dr]) ?_
        rw [show upd (σ 0) 3 (sp_dr (sp_lz (σ 0 3) A t).1) 3 * 1103515245 + 12345 = sp_dr (sp_dr (sp_lz (σ 0 3) A t).1) by simp [upd, sp_dr]]
        refine wj_bipush (v := 100) C dX4_leans_57 (by decide) ?_
        refine wj_irem C dX4_leans_59 (by decide) ?_
        refine wj_istore C dX4_leans_60 (by decide) rfl ?_
        dsimp only [List.set]
        refine wj_aload_n C 0 dX4_leans_62 rfl rfl ?_
        refine wg_X4_12 C dX4_leans_63 ?_
        refine wg_X4_98 C dX4_leans_66 (by first | assumption | omega) ?_
        refine wj_aload_n C 0 dX4_leans_69 rfl rfl ?_
        refine wg_X4_12 C dX4_leans_70 ?_
        refine wg_X4_119 C dX4_leans_73 (by first | assumption | omega) ?_
        rw [sp_put_5, (sp_lz_G (z := σ 0 3) hG t).2.2.1]
        refine wj_cif C (wj_rS C dX4_leans_76 km_X0_listedFor kl_X4_214 (c_X0_listedFor l V (by omega)) rfl rfl (Nat.le_of_ble_eq_true rfl) (by decide)) ?_
        rw [show (6 : Int32) = nI 6 from rfl, pk_rem (by omega) (by decide) (by decide)]
        refine wj_bipush (v := 100) C dX4_leans_79 (by decide) ?_
        refine wj_iload_n C 3 dX4_leans_81 rfl rfl ?_
        refine wj_imul C dX4_leans_82 ?_
        refine wj_iload C dX4_leans_83 rfl ?_
        refine wj_iadd C dX4_leans_85 ?_
        refine wj_iastN C dX4_leans_86 (ar_leanings (by first | assumption | omega)) ⟨Nat.mod_lt _ (by decide), by decide⟩ ?_
        rw [wj_u_r, sp_put_l, sp_put_rl]
        have ez : sp_lz (σ 0 3) A (t + 1) = (sp_dr (sp_dr (sp_lz (σ 0 3) A t).1), sp_yr (sp_wL (sp_lz (σ 0 3) A t).2 (upd (sp_lz (σ 0 3) A t).2.2.2.2.2.1 ((y + t) % 6) (sp_ent (sp_lz (σ 0 3) A t).1)))) := by
          rw [sp_lz, (sp_lz_G (z := σ 0 3) hG t).2.2.1, show (6 : Int32) = nI 6 from rfl, pk_rem (by omega) (by decide) (by decide), nI_clamp (by omega)]
        refine wj_aload_n C 0 dX4_leans_87 rfl rfl ?_
        refine wg_X4_12 C dX4_leans_88 ?_
        refine wj_cvf C (wj_rV C dX4_leans_91 km_X0_passYear kl_X4_170 (is_X0 (by first | assumption | omega)) rfl rfl (c_X0_passYear l V (by decide) (A := sp_wL (sp_lz (σ 0 3) A t).2 (upd (sp_lz (σ 0 3) A t).2.2.2.2.2.1 ((y + t) % 6) (sp_ent (sp_lz (σ 0 3) A t).1))) (sp_lz_G (z := σ 0 3) hG t).1 (sp_lz_G (z := σ 0 3) hG t).2.1 (sp_lz_G (z := σ 0 3) hG t).2.2.1 (by omega)) rfl rfl (Nat.le_of_ble_eq_true rfl) (by decide)) ?_
        refine wj_iinc C (v := nI (t + 1)) dX4_leans_94 rfl (wj_i1 t) (by decide) rfl ?_
        dsimp only [List.set]
        refine wj_goto C 40 dX4_leans_97 (by decide) ?_
        exact (by have hh := fun j3 j4 => ih (t + 1) j3 j4 (by omega) (by omega); rw [ez] at hh; exact hh _ _)
  refine wj_iload_n C 1 dX4_leans_0 rfl rfl ?_
  refine wj_iconst (v := 1) C dX4_leans_1 (by decide) ?_
  refine wj_bipush (v := 20) C dX4_leans_2 (by decide) ?_
  refine wj_cif C (wj_rS C dX4_leans_4 km_X4_isIn kl_X4_64 (c_X4_isIn l V) rfl rfl (Nat.le_of_ble_eq_true rfl) (by decide)) ?_
  refine wj_if_ne C 17 dX4_leans_7 (by decide) (fun h7 => ?_) (fun h7 => ?_)
  · obtain ⟨m, h1m, hm, rfl⟩ := sp_nat1 (M := 20) (wj_c1 h7)
    refine wj_aload_n C 0 dX4_leans_17 rfl rfl ?_
    refine wg_X4_12 C dX4_leans_18 ?_
    refine wg_X4_119 C dX4_leans_21 (by first | assumption | omega) ?_
    rw [sp_put_5, hG.2.2.1]
    refine wj_ldc C dX4_leans_24 kc_X4_138 ?_
    refine wj_iload_n C 1 dX4_leans_26 rfl rfl ?_
    refine wj_isub C dX4_leans_27 ?_
    refine wj_top (y := nI (99999 - m)) (by rw [show (99999 : Int32) = nI 99999 from rfl, pk_sub (by omega)]) ?_
    refine wj_icmp_le C 38 dX4_leans_28 (by decide) (fun h28 => ?_) (fun h28 => absurd (nI_le (a := y) (b := 99999 - m) (by omega) (by omega)) h28)
    refine wj_iconst (v := 0) C dX4_leans_38 (by decide) ?_
    refine wj_istore_n C 2 dX4_leans_39 rfl (by decide) rfl ?_
    dsimp only [List.set]
    exact (by have hh := lp m rfl hm h1m (m + 1) 0 none none (by omega) (by omega); rw [sp_lz, wj_u_id] at hh; exact hh)
  · refine wj_aload_n C 0 dX4_leans_10 rfl rfl ?_
    refine wj_ldc C dX4_leans_11 kc_X4_68 ?_
    refine wj_cif C (wj_rV C dX4_leans_13 km_X4_tell kl_X4_69 is_X4 rfl rfl (c_X4_tell (w := 0) l V (by decide) (by decide)) rfl rfl (Nat.le_of_ble_eq_true rfl) (by decide)) ?_
    exact hR _ _ _ _ _ dX4_leans_16 (sp_rf2 (by rw [a_leans, if_neg (wj_c0 h7)]) (by rw [n_leans, if_neg (wj_c0 h7)]) (by rw [z_leans, if_neg (wj_c0 h7), wj_u_id]) (by decide)) wj_rfl
set_option maxRecDepth 100000 in
set_option maxHeartbeats 4000000 in
theorem c_X4_seed (l : Launch) (V : wj_V) {σ : wj_St} {A : sp_L} {N y : Nat} {x : Int32} (hG : sp_G A N y) (hy : y < 90000) : wj_M l V yX4_seed cX4_seed 3 (some .int) 0 0 [.ref (V.2.2.1 0), .int x] (sp_put σ 1 A) (wj_QI V (fun r u => r = sp_v (Sum.inr (σ 0 3)) ∧ u = sp_put (sp_tw (wj_u σ 0 3 x) (Sum.inr (σ 0 3))) 1 A)) := by
  refine wj_ofI (own := RX4) [some (.ref (V.2.2.1 0)), some (.int x), none] (by decide) rfl rfl (Nat.le_of_ble_eq_true rfl) (fun X C hR => ?_)
  refine wj_aload_n C 0 dX4_seed_0 rfl rfl ?_
  refine wg_X4_23 C dX4_seed_1 ?_
  refine wj_istore_n C 2 dX4_seed_4 rfl (by decide) rfl ?_
  dsimp only [List.set]
  refine wj_aload_n C 0 dX4_seed_5 rfl rfl ?_
  refine wj_iload_n C 1 dX4_seed_6 rfl rfl ?_
  refine wp_X4_23 C dX4_seed_7 ?_
  rw [sp_put_u (by decide)]
  refine wj_iload_n C 2 dX4_seed_10 rfl rfl ?_
  exact hR _ _ _ _ _ dX4_seed_11 ⟨rfl, rfl⟩ wj_rfl
set_option maxRecDepth 100000 in
set_option maxHeartbeats 4000000 in
theorem c_X4_wipe (l : Launch) (V : wj_V) {σ : wj_St} {A : sp_L} {N y : Nat} (hG : sp_G A N y) (hy : y < 90000) : wj_M l V yX4_wipe cX4_wipe 2 (some .int) 0 0 [.ref (V.2.2.1 0)] (sp_put σ 1 A) (wj_QI V (fun r u => r = sp_v (Sum.inr (σ 46 1)) ∧ u = sp_put (sp_tw (wj_u σ 46 1 0) (Sum.inr (σ 46 1))) 1 A)) := by
  refine wj_ofI (own := RX4) [some (.ref (V.2.2.1 0)), none] (by decide) rfl rfl (Nat.le_of_ble_eq_true rfl) (fun X C hR => ?_)
  refine wj_aload_n C 0 dX4_wipe_0 rfl rfl ?_
  refine wg_X4_49 C dX4_wipe_1 ?_
  refine wg_X4_224 C dX4_wipe_4 ?_
  rw [sp_put_o (by decide)]
  refine wj_istore_n C 1 dX4_wipe_7 rfl (by decide) rfl ?_
  dsimp only [List.set]
  refine wj_aload_n C 0 dX4_wipe_8 rfl rfl ?_
  refine wg_X4_49 C dX4_wipe_9 ?_
  refine wj_iconst (v := 0) C dX4_wipe_12 (by decide) ?_
  refine wp_X4_224 C dX4_wipe_13 ?_
  rw [sp_put_u (by decide)]
  refine wj_iload_n C 1 dX4_wipe_16 rfl rfl ?_
  exact hR _ _ _ _ _ dX4_wipe_17 ⟨rfl, rfl⟩ wj_rfl
set_option maxRecDepth 100000 in
set_option maxHeartbeats 4000000 in
theorem c_X4_hold (l : Launch) (V : wj_V) {σ : wj_St} {A : sp_L} {N y : Nat} {p x : Int32} (hG : sp_G A N y) (hy : y < 90000) : wj_M l V yX4_hold cX4_hold 3 (some .int) 2 44 [.ref (V.2.2.1 0), .int p, .int x] (sp_put σ 1 A) (wj_QI V (fun r u => r = sp_v (a_hold A p x) ∧ u = sp_put (sp_tw (n_hold σ A p x) (a_hold A p x)) 1 A)) := by
  refine wj_ofI (own := RX4) [some (.ref (V.2.2.1 0)), some (.int p), some (.int x)] (by decide) rfl rfl (Nat.le_of_ble_eq_true rfl) (fun X C hR => ?_)
  refine wj_iload_n C 1 dX4_hold_0 rfl rfl ?_
  refine wj_iconst (v := 0) C dX4_hold_1 (by decide) ?_
  refine wj_bipush (v := 9) C dX4_hold_2 (by decide) ?_
  refine wj_cif C (wj_rS C dX4_hold_4 km_X4_isIn kl_X4_64 (c_X4_isIn l V) rfl rfl (Nat.le_of_ble_eq_true rfl) (by decide)) ?_
  refine wj_if_ne C 17 dX4_hold_7 (by decide) (fun h7 => ?_) (fun h7 => ?_)
  · obtain ⟨i, hi, rfl⟩ := wj_natC (N := 9) (wj_c1 h7)
    refine wj_iload_n C 2 dX4_hold_17 rfl rfl ?_
    refine wj_iconst (v := -1) C dX4_hold_18 (by decide) ?_
    refine wj_icmp_eq C 40 dX4_hold_19 (by decide) (fun h19 => ?_) (fun h19 => ?_)
    · have hx : x = -1 ∨ sp_rg A x := Or.inl h19
      refine wj_aload_n C 0 dX4_hold_40 rfl rfl ?_
      refine wg_X4_19 C dX4_hold_41 ?_
      refine wj_iload_n C 1 dX4_hold_44 rfl rfl ?_
      refine wj_iload_n C 2 dX4_hold_45 rfl rfl ?_
      refine wj_iastN C dX4_hold_46 ar_spots ⟨by omega, by decide⟩ ?_
      rw [sp_put_u (by decide)]
      refine wj_iconst (v := 1) C dX4_hold_47 (by decide) ?_
      exact hR _ _ _ _ _ dX4_hold_48 (sp_rv2 (by rw [a_hold, if_pos ⟨wj_c1 h7, hx⟩]) rfl (by rw [n_hold, if_pos ⟨wj_c1 h7, hx⟩, nI_clamp (by omega)])) wj_rfl
    · refine wj_aload_n C 0 dX4_hold_22 rfl rfl ?_
      refine wg_X4_12 C dX4_hold_23 ?_
      refine wj_iload_n C 2 dX4_hold_26 rfl rfl ?_
      refine wj_crn C (wj_rV C dX4_hold_27 km_X0_slipAt kl_X4_115 (is_X0 (by first | assumption | omega)) rfl rfl (c_X0_slipAt_g l V (by decide) hG.1 hG.2.1) rfl rfl (Nat.le_of_ble_eq_true rfl) (by decide)) (fun hn27 => ?_) (fun a27 ha27 => ?_)
      · refine wj_ifnonnullN C dX4_hold_30 ?_
        refine wj_aload_n C 0 dX4_hold_33 rfl rfl ?_
        refine wj_ldc C dX4_hold_34 kc_X4_68 ?_
        refine wj_cif C (wj_rV C dX4_hold_36 km_X4_tell kl_X4_69 is_X4 rfl rfl (c_X4_tell (w := 0) l V (by decide) (by decide)) rfl rfl (Nat.le_of_ble_eq_true rfl) (by decide)) ?_
        exact hR _ _ _ _ _ dX4_hold_39 (sp_rf2 (by rw [a_hold, if_neg (fun q => by first | exact wj_c0 h7 q.1 | exact q.2.elim h19 (sp_rgX hG.1 hn27))]) rfl (by rw [n_hold, if_neg (fun q => by first | exact wj_c0 h7 q.1 | exact q.2.elim h19 (sp_rgX hG.1 hn27))]) (by decide)) wj_rfl
      · obtain ⟨j, hj, hxj, rfl⟩ := sp_sa_s hG.2.1 ha27
        have hx : x = -1 ∨ sp_rg A x := Or.inr (hxj ▸ sp_rgN hG.1 hG.2.1 hj)
        refine wj_ifnonnull C 40 dX4_hold_30 (by decide) ?_
        refine wj_aload_n C 0 dX4_hold_40 rfl rfl ?_
        refine wg_X4_19 C dX4_hold_41 ?_
        refine wj_iload_n C 1 dX4_hold_44 rfl rfl ?_
        refine wj_iload_n C 2 dX4_hold_45 rfl rfl ?_
        refine wj_iastN C dX4_hold_46 ar_spots ⟨by omega, by decide⟩ ?_
        rw [sp_put_u (by decide)]
        refine wj_iconst (v := 1) C dX4_hold_47 (by decide) ?_
        exact hR _ _ _ _ _ dX4_hold_48 (sp_rv2 (by rw [a_hold, if_pos ⟨wj_c1 h7, hx⟩]) rfl (by rw [n_hold, if_pos ⟨wj_c1 h7, hx⟩, nI_clamp (by omega)])) wj_rfl
  · refine wj_aload_n C 0 dX4_hold_10 rfl rfl ?_
    refine wj_ldc C dX4_hold_11 kc_X4_68 ?_
    refine wj_cif C (wj_rV C dX4_hold_13 km_X4_tell kl_X4_69 is_X4 rfl rfl (c_X4_tell (w := 0) l V (by decide) (by decide)) rfl rfl (Nat.le_of_ble_eq_true rfl) (by decide)) ?_
    exact hR _ _ _ _ _ dX4_hold_16 (sp_rf2 (by rw [a_hold, if_neg (fun q => by first | exact wj_c0 h7 q.1 | exact q.2.elim h19 (sp_rgX hG.1 hn27))]) rfl (by rw [n_hold, if_neg (fun q => by first | exact wj_c0 h7 q.1 | exact q.2.elim h19 (sp_rgX hG.1 hn27))]) (by decide)) wj_rfl
set_option maxRecDepth 100000 in
set_option maxHeartbeats 4000000 in
theorem c_X4_as (l : Launch) (V : wj_V) {σ : wj_St} {A : sp_L} {N y : Nat} {p k : Int32} (hG : sp_G A N y) (hy : y < 90000) : wj_M l V yX4_as cX4_as 4 (some .int) 2 44 [.ref (V.2.2.1 0), .int p, .int k] (sp_put σ 1 A) (wj_QI V (fun r u => r = sp_v (a_as (σ 34) A p k) ∧ u = sp_put (sp_tw σ (a_as (σ 34) A p k)) 1 A)) := by
  refine wj_ofI (own := RX4) [some (.ref (V.2.2.1 0)), some (.int p), some (.int k), none] (by decide) rfl rfl (Nat.le_of_ble_eq_true rfl) (fun X C hR => ?_)
  refine wj_iload_n C 1 dX4_as_0 rfl rfl ?_
  refine wj_iconst (v := 0) C dX4_as_1 (by decide) ?_
  refine wj_bipush (v := 9) C dX4_as_2 (by decide) ?_
  refine wj_cif C (wj_rS C dX4_as_4 km_X4_isIn kl_X4_64 (c_X4_isIn l V) rfl rfl (Nat.le_of_ble_eq_true rfl) (by decide)) ?_
  refine wj_if_eq C 18 dX4_as_7 (by decide) (fun h7 => ?_) (fun h7 => ?_)
  · refine wj_aload_n C 0 dX4_as_18 rfl rfl ?_
    refine wj_ldc C dX4_as_19 kc_X4_68 ?_
    refine wj_cif C (wj_rV C dX4_as_21 km_X4_tell kl_X4_69 is_X4 rfl rfl (c_X4_tell (w := 0) l V (by decide) (by decide)) rfl rfl (Nat.le_of_ble_eq_true rfl) (by decide)) ?_
    exact hR _ _ _ _ _ dX4_as_24 (sp_rf2 (by rw [a_as, if_neg (fun q => by first | exact wj_c0 h7 q.1 | exact wj_c0 h15 (sp_k6.mpr q.2))]) rfl rfl (by decide)) wj_rfl
  · refine wj_iconst (v := 0) C dX4_as_10 (by decide) ?_
    refine wj_iload_n C 2 dX4_as_11 rfl rfl ?_
    refine wj_cif C (wj_rS C dX4_as_12 km_X2_allows kl_X4_101 (c_X2_allows l V) rfl rfl (Nat.le_of_ble_eq_true rfl) (by decide)) ?_
    refine wj_if_ne C 25 dX4_as_15 (by decide) (fun h15 => ?_) (fun h15 => ?_)
    · obtain ⟨i, hi, rfl⟩ := wj_natC (N := 9) (wj_c1 h7)
      refine wj_aload_n C 0 dX4_as_25 rfl rfl ?_
      refine wg_X4_12 C dX4_as_26 ?_
      refine wj_aload_n C 0 dX4_as_29 rfl rfl ?_
      refine wg_X4_19 C dX4_as_30 ?_
      refine wj_iload_n C 1 dX4_as_33 rfl rfl ?_
      refine wj_ialdN C dX4_as_34 ar_spots ⟨by omega, by decide⟩ ?_
      rw [sp_put_o (by decide)]
      refine wj_crn C (wj_rV C dX4_as_35 km_X0_slipAt kl_X4_115 (is_X0 (by first | assumption | omega)) rfl rfl (c_X0_slipAt_g l V (by decide) hG.1 hG.2.1) rfl rfl (Nat.le_of_ble_eq_true rfl) (by decide)) (fun hn35 => ?_) (fun a35 ha35 => ?_)
      · refine wj_astore_nN C 3 dX4_as_38 rfl (by decide) rfl ?_
        dsimp only [List.set]
        refine wj_aload_nN C 3 dX4_as_39 rfl rfl ?_
        refine wj_ifnonnullN C dX4_as_40 ?_
        refine wj_aload_n C 0 dX4_as_43 rfl rfl ?_
        refine wj_ldc C dX4_as_44 kc_X4_206 ?_
        refine wj_cif C (wj_rV C dX4_as_46 km_X4_tell kl_X4_69 is_X4 rfl rfl (c_X4_tell (w := 5) l V (by decide) (by decide)) rfl rfl (Nat.le_of_ble_eq_true rfl) (by decide)) ?_
        exact hR _ _ _ _ _ dX4_as_49 (sp_rf2 (by rw [a_as, if_pos ⟨wj_c1 h7, sp_k6.mp (wj_c1 h15)⟩, nI_clamp (by omega), if_neg (sp_rgX hG.1 hn35)]) rfl rfl (by decide)) wj_rfl
      · obtain ⟨j, hj, hxj, rfl⟩ := sp_sa_s hG.2.1 ha35
        have hN8 := hG.2.1
        have hr : sp_rg A (σ 34 i) := hxj ▸ sp_rgN hG.1 hG.2.1 hj
        have hj2 : (σ 34 i).toNatClampNeg = j := by rw [hxj, nI_clamp (by omega)]
        refine wj_astore_n C 3 dX4_as_38 rfl (by decide) rfl ?_
        dsimp only [List.set]
        refine wj_aload_n C 3 dX4_as_39 rfl rfl ?_
        refine wj_ifnonnull C 50 dX4_as_40 (by decide) ?_
        refine wj_aload_n C 3 dX4_as_50 rfl rfl ?_
        refine wj_iload_n C 2 dX4_as_51 rfl rfl ?_
        refine wj_cif C (wj_rV C dX4_as_52 km_X2_isOne kl_X4_232 (is_X2 (by first | assumption | omega)) rfl rfl (c_X2_isOne l V (by omega)) rfl rfl (Nat.le_of_ble_eq_true rfl) (by decide)) ?_
        rw [sp_put_s (by decide) (by omega)]
        refine wj_if_ne C 65 dX4_as_55 (by decide) (fun h55 => ?_) (fun h55 => ?_)
        · refine wj_aload_n C 0 dX4_as_65 rfl rfl ?_
          refine wg_X4_19 C dX4_as_66 ?_
          refine wj_iload_n C 1 dX4_as_69 rfl rfl ?_
          refine wj_ialdN C dX4_as_70 ar_spots ⟨by omega, by decide⟩ ?_
          rw [sp_put_o (by decide)]
          exact hR _ _ _ _ _ dX4_as_71 (sp_rv2 (by rw [a_as, if_pos ⟨wj_c1 h7, sp_k6.mp (wj_c1 h15)⟩, nI_clamp (by omega), if_pos hr, hj2, if_pos (wj_c1 h55)]) rfl rfl) wj_rfl
        · refine wj_aload_n C 0 dX4_as_58 rfl rfl ?_
          refine wj_ldc C dX4_as_59 kc_X4_235 ?_
          refine wj_cif C (wj_rV C dX4_as_61 km_X4_tell kl_X4_69 is_X4 rfl rfl (c_X4_tell (w := 2) l V (by decide) (by decide)) rfl rfl (Nat.le_of_ble_eq_true rfl) (by decide)) ?_
          exact hR _ _ _ _ _ dX4_as_64 (sp_rf2 (by rw [a_as, if_pos ⟨wj_c1 h7, sp_k6.mp (wj_c1 h15)⟩, nI_clamp (by omega), if_pos hr, hj2, if_neg (wj_c0 h55)]) rfl rfl (by decide)) wj_rfl
    · refine wj_aload_n C 0 dX4_as_18 rfl rfl ?_
      refine wj_ldc C dX4_as_19 kc_X4_68 ?_
      refine wj_cif C (wj_rV C dX4_as_21 km_X4_tell kl_X4_69 is_X4 rfl rfl (c_X4_tell (w := 0) l V (by decide) (by decide)) rfl rfl (Nat.le_of_ble_eq_true rfl) (by decide)) ?_
      exact hR _ _ _ _ _ dX4_as_24 (sp_rf2 (by rw [a_as, if_neg (fun q => by first | exact wj_c0 h7 q.1 | exact wj_c0 h15 (sp_k6.mpr q.2))]) rfl rfl (by decide)) wj_rfl
set_option maxRecDepth 100000 in
set_option maxHeartbeats 4000000 in
theorem c_X3_append (l : Launch) (V : wj_V) {σ : wj_St} {m : Nat} {x : Int32} (hm : σ 46 1 = nI m) (h : m < 120) : wj_M l V yX3_append cX3_append 2 none 0 0 [.ref (V.2.2.1 46), .int x] σ (wj_Vd V (wj_u (wj_u σ 47 m x.toInt8.toInt32) 46 1 (nI (m + 1)))) := by
  refine wj_ofV (own := RX3) [some (.ref (V.2.2.1 46)), some (.int x)] (by decide) rfl rfl (Nat.le_of_ble_eq_true rfl) (fun X C hR => ?_)
  refine wj_aload_n C 0 dX3_append_0 rfl rfl ?_
  refine wg_X3_15 C dX3_append_1 ?_
  rw [hm]
  refine wj_bipush (v := 120) C dX3_append_4 (by decide) ?_
  refine wj_icmp_lt C 10 dX3_append_6 (by decide) (fun h6 => ?_) (fun h6 => absurd (nI_lt (a := m) (b := 120) h (by decide)) h6)
  refine wj_aload_n C 0 dX3_append_10 rfl rfl ?_
  refine wg_X3_9 C dX3_append_11 ?_
  refine wj_aload_n C 0 dX3_append_14 rfl rfl ?_
  refine wg_X3_15 C dX3_append_15 ?_
  rw [hm]
  refine wj_iload_n C 1 dX3_append_18 rfl rfl ?_
  refine wj_i2b C dX3_append_19 ?_
  refine wj_bastN C dX3_append_20 ar_bytes ⟨h, by decide⟩ ?_
  rw [sp_nar2]
  refine wj_aload_n C 0 dX3_append_21 rfl rfl ?_
  refine wj_dup C dX3_append_22 rfl ?_
  refine wg_X3_15 C dX3_append_23 ?_
  rw [wj_u_ne (by decide), hm]
  refine wj_iconst (v := 1) C dX3_append_26 (by decide) ?_
  refine wj_iadd C dX3_append_27 ?_
  rw [show (1 : Int32) = nI 1 from rfl, nI_add]
  refine wp_X3_15 C dX3_append_28 ?_
  exact hR _ _ _ _ dX3_append_31 rfl wj_rfl
theorem sp_fed_0 {σ : wj_St} {b : Int32} {m n : Nat} (hm : σ 46 1 = nI m) : sp_fed σ b m n 0 = σ := by
  rw [sp_fed, sp_fb_0, wj_r_id, Nat.add_zero, ← hm, wj_u_id]
theorem sp_fed_s {σ : wj_St} {b : Int32} {m n t : Nat} : wj_u (wj_u (sp_fed σ b m n t) 47 (m + t) (b >>> (nI (8 * (n - 1 - t)) &&& 31)).toInt8.toInt32) 46 1 (nI (m + t + 1)) = sp_fed σ b m n (t + 1) := by
  unfold sp_fed
  funext q i
  by_cases h : q = 46
  · subst h
    rw [wj_u_same, wj_u_ne (by decide), wj_u_same, wj_u_same, wj_r_ne (by decide), wj_r_ne (by decide)]
    simp only [upd]
    split <;> rfl
  · rw [wj_u_ne h, wj_u_ne h]
    by_cases h2 : q = 47
    · subst h2
      rw [wj_u_same, wj_u_ne (by decide), wj_r_same, wj_r_same, sp_fb_s]
    · rw [wj_u_ne h2, wj_u_ne h, wj_r_ne h2, wj_r_ne h2]
theorem sp_fed_46 {σ : wj_St} {b : Int32} {m n t : Nat} : sp_fed σ b m n t 46 1 = nI (m + t) := by rw [sp_fed, wj_u_same]; simp [upd]
set_option maxRecDepth 100000 in
set_option maxHeartbeats 4000000 in
theorem c_X4_feed (l : Launch) (V : wj_V) {σ : wj_St} {A : sp_L} {N y : Nat} {b nn : Int32} {m : Nat} (hG : sp_G A N y) (hy : y < 90000) (hm : σ 46 1 = nI m) (hm2 : m ≤ 120) : wj_M l V yX4_feed cX4_feed 4 (some .int) 2 44 [.ref (V.2.2.1 0), .int b, .int nn] (sp_put σ 1 A) (wj_QI V (fun r u => r = sp_v (a_feed m nn) ∧ u = sp_put (sp_tw (n_feed σ m b nn) (a_feed m nn)) 1 A)) := by
  refine wj_ofI (own := RX4) [some (.ref (V.2.2.1 0)), some (.int b), some (.int nn), none] (by decide) rfl rfl (Nat.le_of_ble_eq_true rfl) (fun X C hR => ?_)
  have lp : ∀ q, nn = nI q → 1 ≤ q → q ≤ 4 → m + q ≤ 120 → (1 ≤ nI q ∧ nI q ≤ 4) → ∀ n t, t ≤ q → q - t < n → wj_J l V X 41 [some (.ref (V.2.2.1 0)), some (.int b), some (.int (nI q)), some (.int (nI (q - 1) - nI t))] [] (sp_put (sp_fed σ b m q t) 1 A) := by
    intro q hn2 h1q hq hle hok n
    subst hn2
    induction n with
    | zero => intro t _ h; omega
    | succ n ih =>
      intro t hi hlt9
      refine wj_iload_n C 3 dX4_feed_41 rfl rfl ?_
      refine wj_if_lt C 64 dX4_feed_42 (by decide) (fun h42 => ?_) (fun h42 => ?_)
      · have e9 : t = q := by
          rcases Nat.lt_or_ge t q with z | z
          · rw [pk_sub (by omega)] at h42; exact absurd h42 (Int32.not_lt.mpr (nI_pos' (by omega)))
          · omega
        subst e9
        refine wj_aload_n C 0 dX4_feed_64 rfl rfl ?_
        refine wg_X4_49 C dX4_feed_65 ?_
        refine wg_X4_224 C dX4_feed_68 ?_
        rw [sp_put_o (by decide), sp_fed_46]
        exact hR _ _ _ _ _ dX4_feed_71 (sp_rv2 (by rw [a_feed, if_pos hok, nI_clamp (by omega), if_pos hle]) rfl (by rw [n_feed, nI_clamp (by omega), if_pos ⟨hok, hle⟩])) wj_rfl
      · have hlt : t < q := by
          rcases Nat.lt_or_ge t q with z | z
          · exact z
          · exact absurd (show nI (q - 1) - nI t < 0 by
              rw [show t = q by omega, Int32.lt_iff_toInt_lt, pk_sub_toInt (by omega) (by omega), Int32.toInt_zero]
              omega) h42
        refine wj_aload_n C 0 dX4_feed_45 rfl rfl ?_
        refine wg_X4_49 C dX4_feed_46 ?_
        refine wj_iload_n C 1 dX4_feed_49 rfl rfl ?_
        refine wj_bipush (v := 8) C dX4_feed_50 (by decide) ?_
        refine wj_iload_n C 3 dX4_feed_52 rfl rfl ?_
        refine wj_top (y := nI (q - 1 - t)) (pk_sub (by omega)) ?_
        refine wj_imul C dX4_feed_53 ?_
        refine wj_top (y := nI (8 * (q - 1 - t))) (pk_mul 8 (q - 1 - t)) ?_
        refine wj_ishr C dX4_feed_54 ?_
        refine wj_cvf C (wj_rV C dX4_feed_55 km_X3_append kl_X4_225 is_X3 rfl rfl (c_X3_append (m := m + t) l V (by rw [sp_put_o (by decide)]; exact sp_fed_46) (by omega)) rfl rfl (Nat.le_of_ble_eq_true rfl) (by decide)) ?_
        rw [sp_put_u (by decide), sp_put_u (by decide), sp_fed_s]
        refine wj_iinc C (v := nI (q - 1) - nI (t + 1)) dX4_feed_58 rfl (sp_wva (q - 1) t) (by decide) rfl ?_
        dsimp only [List.set]
        refine wj_goto C 41 dX4_feed_61 (by decide) ?_
        exact ih (t + 1) (by omega) (by omega)
  refine wj_iload_n C 2 dX4_feed_0 rfl rfl ?_
  refine wj_iconst (v := 1) C dX4_feed_1 (by decide) ?_
  refine wj_iconst (v := 4) C dX4_feed_2 (by decide) ?_
  refine wj_cif C (wj_rS C dX4_feed_3 km_X4_isIn kl_X4_64 (c_X4_isIn l V) rfl rfl (Nat.le_of_ble_eq_true rfl) (by decide)) ?_
  refine wj_if_ne C 16 dX4_feed_6 (by decide) (fun h6 => ?_) (fun h6 => ?_)
  · obtain ⟨q, h1q, hq, rfl⟩ := sp_nat1 (M := 4) (wj_c1 h6)
    have hok := wj_c1 h6
    refine wj_aload_n C 0 dX4_feed_16 rfl rfl ?_
    refine wg_X4_49 C dX4_feed_17 ?_
    refine wg_X4_224 C dX4_feed_20 ?_
    rw [sp_put_o (by decide), hm]
    refine wj_bipush (v := 120) C dX4_feed_23 (by decide) ?_
    refine wj_iload_n C 2 dX4_feed_25 rfl rfl ?_
    refine wj_isub C dX4_feed_26 ?_
    rw [show (120 : Int32) = nI 120 from rfl, pk_sub (by omega)]
    refine wj_icmp_le C 37 dX4_feed_27 (by decide) (fun h27 => ?_) (fun h27 => ?_)
    · have hle : m + q ≤ 120 := by have := (nI_leI (a := m) (b := 120 - q) (by omega) (by omega)).mp h27; omega
      refine wj_iload_n C 2 dX4_feed_37 rfl rfl ?_
      refine wj_iconst (v := 1) C dX4_feed_38 (by decide) ?_
      refine wj_isub C dX4_feed_39 ?_
      rw [show (1 : Int32) = nI 1 from rfl, pk_sub (by omega)]
      refine wj_istore_n C 3 dX4_feed_40 rfl (by decide) rfl ?_
      dsimp only [List.set]
      exact (by have hh := lp q rfl h1q hq hle hok (q + 1) 0 (by omega) (by omega); rw [sp_fed_0 hm, show nI (q - 1) - nI 0 = nI (q - 1) from pk_sub (Nat.zero_le _)] at hh; exact hh)
    · have hle : ¬ m + q ≤ 120 := fun z => h27 (nI_le (a := m) (b := 120 - q) (by omega) (by omega))
      refine wj_aload_n C 0 dX4_feed_30 rfl rfl ?_
      refine wj_ldc C dX4_feed_31 kc_X4_111 ?_
      refine wj_cif C (wj_rV C dX4_feed_33 km_X4_tell kl_X4_69 is_X4 rfl rfl (c_X4_tell (w := 1) l V (by decide) (by decide)) rfl rfl (Nat.le_of_ble_eq_true rfl) (by decide)) ?_
      exact hR _ _ _ _ _ dX4_feed_36 (sp_rf2 (by rw [a_feed, if_pos hok, nI_clamp (by omega), if_neg hle]) rfl (by rw [n_feed, nI_clamp (by omega), if_neg (fun q9 => hle q9.2)]) (by decide)) wj_rfl
  · refine wj_aload_n C 0 dX4_feed_9 rfl rfl ?_
    refine wj_ldc C dX4_feed_10 kc_X4_68 ?_
    refine wj_cif C (wj_rV C dX4_feed_12 km_X4_tell kl_X4_69 is_X4 rfl rfl (c_X4_tell (w := 0) l V (by decide) (by decide)) rfl rfl (Nat.le_of_ble_eq_true rfl) (by decide)) ?_
    exact hR _ _ _ _ _ dX4_feed_15 (sp_rf2 (by rw [a_feed, if_neg (wj_c0 h6)]) rfl (by rw [n_feed, if_neg (fun q => wj_c0 h6 q.1)]) (by decide)) wj_rfl
theorem sp_half_x {n a b : Nat} (h : ¬ (1 < b ∧ a % 2 = 0)) : sp_half n a b = (a, b) := by
  cases n with
  | zero => rfl
  | succ n => rw [sp_half, if_neg h]
theorem sp_rvL {σ : wj_St} {A : sp_L} {a : Sum Nat Int64} {v : Int64} (h : a = .inr v) : v = sp_vL a ∧ sp_put σ 1 A = sp_put (sp_twL σ a) 1 A := by subst h; exact ⟨rfl, rfl⟩
theorem sp_rfL {σ : wj_St} {A : sp_L} {a : Sum Nat Int64} {w : Nat} {x : Int32} (h : a = .inl w) (hx : x = -1000001 - nI w) : x.toInt64 = sp_vL a ∧ sp_tl (sp_put σ 1 A) w = sp_put (sp_twL σ a) 1 A := by
  subst h
  refine ⟨by rw [hx]; rfl, ?_⟩
  show sp_tl _ w = sp_put (sp_tl σ w) 1 _
  unfold sp_tl
  rw [sp_put_u (by decide), sp_put_o (by decide)]
set_option maxRecDepth 100000 in
set_option maxHeartbeats 4000000 in
theorem c_X4_odds (l : Launch) (V : wj_V) {σ : wj_St} {A : sp_L} {N y : Nat} {w nn tt : Int32} (hG : sp_G A N y) (hy : y < 90000) : wj_M l V yX4_odds cX4_odds 6 (some .long) 4 89 [.ref (V.2.2.1 0), .int w, .int nn, .int tt] (sp_put σ 1 A) (wj_QL V (fun r u => r = sp_vL (a_odds A w nn tt) ∧ u = sp_put (sp_twL σ (a_odds A w nn tt)) 1 A)) := by
  refine wj_ofL (own := RX4) [some (.ref (V.2.2.1 0)), some (.int w), some (.int nn), some (.int tt), none, none] (by decide) rfl rfl (Nat.le_of_ble_eq_true rfl) (fun X C hR => ?_)
  have lp : ∀ m g, nn = nI m → m ≤ 15 → g ≤ 16 → a_odds A w nn tt = .inr (sp_pw (nI (sp_od g tt)) m) → ∀ k a b, a ≤ 16 → b ≤ 16 → b < 2 ^ k → sp_half k a b = sp_half 5 g 16 → wj_J l V X 48 [some (.ref (V.2.2.1 0)), some (.int w), some (.int (nI m)), some (.int tt), some (.int (nI a)), some (.int (nI b))] [] (sp_put σ 1 A) := by
    intro m g hn2 hm hg ha k
    subst hn2
    induction k using Nat.strongRecOn with
    | ind k ih =>
      intro a b ha16 hb16 hb2 hk
      refine wj_iload C dX4_odds_48 rfl ?_
      refine wj_iconst (v := 1) C dX4_odds_50 (by decide) ?_
      refine wj_icmp_le C 76 dX4_odds_51 (by decide) (fun h51 => ?_) (fun h51 => ?_)
      · have hb1 := (nI_leI (a := b) (b := 1) (by omega) (by decide)).mp h51
        refine wj_iload_n C 3 dX4_odds_76 rfl rfl ?_
        refine wj_if_ne C 85 dX4_odds_77 (by decide) (fun h77 => ?_) (fun h77 => ?_)
        · have hP : sp_od g tt = b := by rw [sp_od, if_neg h77, ← hk, sp_half_x (by omega)]
          refine wj_iload C dX4_odds_85 rfl ?_
          refine wj_iload_n C 2 dX4_odds_87 rfl rfl ?_
          refine wj_clf C (wj_rS C dX4_odds_88 km_X4_power kl_X4_220 (c_X4_power l V (by omega)) rfl rfl (Nat.le_of_ble_eq_true rfl) (by decide)) ?_
          exact hR _ _ _ _ _ dX4_odds_91 (sp_rvL (by rw [ha, hP])) wj_rfl
        · have hP : sp_od g tt = a := by rw [sp_od, if_pos h77, ← hk, sp_half_x (by omega)]
          refine wj_iload C dX4_odds_80 rfl ?_
          refine wj_goto C 87 dX4_odds_82 (by decide) ?_
          refine wj_iload_n C 2 dX4_odds_87 rfl rfl ?_
          refine wj_clf C (wj_rS C dX4_odds_88 km_X4_power kl_X4_220 (c_X4_power l V (by omega)) rfl rfl (Nat.le_of_ble_eq_true rfl) (by decide)) ?_
          exact hR _ _ _ _ _ dX4_odds_91 (sp_rvL (by rw [ha, hP])) wj_rfl
      · have hb1 : ¬ b ≤ 1 := fun z => h51 (nI_le (a := b) (b := 1) z (by decide))
        refine wj_iload C dX4_odds_54 rfl ?_
        refine wj_iconst (v := 2) C dX4_odds_56 (by decide) ?_
        refine wj_irem C dX4_odds_57 (by decide) ?_
        rw [show (2 : Int32) = nI 2 from rfl, pk_rem (by omega) (by decide) (by decide)]
        refine wj_if_ne C 76 dX4_odds_58 (by decide) (fun h58 => ?_) (fun h58 => ?_)
        · have h2 : ¬ a % 2 = 0 := fun z => h58 (by rw [z]; rfl)
          refine wj_iload_n C 3 dX4_odds_76 rfl rfl ?_
          refine wj_if_ne C 85 dX4_odds_77 (by decide) (fun h77 => ?_) (fun h77 => ?_)
          · have hP : sp_od g tt = b := by rw [sp_od, if_neg h77, ← hk, sp_half_x (by omega)]
            refine wj_iload C dX4_odds_85 rfl ?_
            refine wj_iload_n C 2 dX4_odds_87 rfl rfl ?_
            refine wj_clf C (wj_rS C dX4_odds_88 km_X4_power kl_X4_220 (c_X4_power l V (by omega)) rfl rfl (Nat.le_of_ble_eq_true rfl) (by decide)) ?_
            exact hR _ _ _ _ _ dX4_odds_91 (sp_rvL (by rw [ha, hP])) wj_rfl
          · have hP : sp_od g tt = a := by rw [sp_od, if_pos h77, ← hk, sp_half_x (by omega)]
            refine wj_iload C dX4_odds_80 rfl ?_
            refine wj_goto C 87 dX4_odds_82 (by decide) ?_
            refine wj_iload_n C 2 dX4_odds_87 rfl rfl ?_
            refine wj_clf C (wj_rS C dX4_odds_88 km_X4_power kl_X4_220 (c_X4_power l V (by omega)) rfl rfl (Nat.le_of_ble_eq_true rfl) (by decide)) ?_
            exact hR _ _ _ _ _ dX4_odds_91 (sp_rvL (by rw [ha, hP])) wj_rfl
        · have h2 : a % 2 = 0 := by
            rcases Nat.mod_two_eq_zero_or_one a with z | z
            · exact z
            · rw [z] at h58; exact absurd h58 (by decide)
          refine wj_iload C dX4_odds_61 rfl ?_
          refine wj_iconst (v := 2) C dX4_odds_63 (by decide) ?_
          refine wj_idiv C dX4_odds_64 (by decide) ?_
          rw [show (2 : Int32) = nI 2 from rfl, pk_div (by omega) (by decide) (by decide)]
          refine wj_istore C dX4_odds_65 (by decide) rfl ?_
          dsimp only [List.set]
          refine wj_iload C dX4_odds_67 rfl ?_
          refine wj_iconst (v := 2) C dX4_odds_69 (by decide) ?_
          refine wj_idiv C dX4_odds_70 (by decide) ?_
          rw [show (2 : Int32) = nI 2 from rfl, pk_div (by omega) (by decide) (by decide)]
          refine wj_istore C dX4_odds_71 (by decide) rfl ?_
          dsimp only [List.set]
          refine wj_goto C 48 dX4_odds_73 (by decide) ?_
          exact (by
            cases k with
            | zero => exact absurd hb2 (by omega)
            | succ k =>
              rw [sp_half, if_pos ⟨by omega, h2⟩] at hk
              exact ih k (Nat.lt_succ_self _) (a / 2) (b / 2) (by omega) (by omega) (by rw [Nat.pow_succ] at hb2; omega) hk)
  refine wj_iload_n C 1 dX4_odds_0 rfl rfl ?_
  refine wj_cif C (wj_rS C dX4_odds_1 km_X4_isWeight kl_X4_95 (c_X4_isWeight l V) rfl rfl (Nat.le_of_ble_eq_true rfl) (by decide)) ?_
  refine wj_if_eq C 26 dX4_odds_4 (by decide) (fun h4 => ?_) (fun h4 => ?_)
  · refine wj_aload_n C 0 dX4_odds_26 rfl rfl ?_
    refine wj_ldc C dX4_odds_27 kc_X4_68 ?_
    refine wj_cif C (wj_rV C dX4_odds_29 km_X4_tell kl_X4_69 is_X4 rfl rfl (c_X4_tell (w := 0) l V (by decide) (by decide)) rfl rfl (Nat.le_of_ble_eq_true rfl) (by decide)) ?_
    refine wj_i2l C dX4_odds_32 ?_
    exact hR _ _ _ _ _ dX4_odds_33 (sp_rfL (by rw [a_odds, if_neg (fun q => by first | exact wj_c0 h4 q.1 | exact wj_c0 h14 q.2.1 | exact wj_c0 h23 q.2.2)]) (by decide)) wj_rfl
  · refine wj_iload_n C 2 dX4_odds_7 rfl rfl ?_
    refine wj_iconst (v := 0) C dX4_odds_8 (by decide) ?_
    refine wj_bipush (v := 15) C dX4_odds_9 (by decide) ?_
    refine wj_cif C (wj_rS C dX4_odds_11 km_X4_isIn kl_X4_64 (c_X4_isIn l V) rfl rfl (Nat.le_of_ble_eq_true rfl) (by decide)) ?_
    refine wj_if_eq C 26 dX4_odds_14 (by decide) (fun h14 => ?_) (fun h14 => ?_)
    · refine wj_aload_n C 0 dX4_odds_26 rfl rfl ?_
      refine wj_ldc C dX4_odds_27 kc_X4_68 ?_
      refine wj_cif C (wj_rV C dX4_odds_29 km_X4_tell kl_X4_69 is_X4 rfl rfl (c_X4_tell (w := 0) l V (by decide) (by decide)) rfl rfl (Nat.le_of_ble_eq_true rfl) (by decide)) ?_
      refine wj_i2l C dX4_odds_32 ?_
      exact hR _ _ _ _ _ dX4_odds_33 (sp_rfL (by rw [a_odds, if_neg (fun q => by first | exact wj_c0 h4 q.1 | exact wj_c0 h14 q.2.1 | exact wj_c0 h23 q.2.2)]) (by decide)) wj_rfl
    · refine wj_iload_n C 3 dX4_odds_17 rfl rfl ?_
      refine wj_iconst (v := 0) C dX4_odds_18 (by decide) ?_
      refine wj_iconst (v := 1) C dX4_odds_19 (by decide) ?_
      refine wj_cif C (wj_rS C dX4_odds_20 km_X4_isIn kl_X4_64 (c_X4_isIn l V) rfl rfl (Nat.le_of_ble_eq_true rfl) (by decide)) ?_
      refine wj_if_ne C 34 dX4_odds_23 (by decide) (fun h23 => ?_) (fun h23 => ?_)
      · obtain ⟨m, hm, rfl⟩ := wj_natC (N := 15) (wj_c1 h14)
        have hok := (⟨wj_c1 h4, wj_c1 h14, wj_c1 h23⟩ : (0 ≤ w ∧ w ≤ 99) ∧ (0 ≤ nI m ∧ nI m ≤ 15) ∧ 0 ≤ tt ∧ tt ≤ 1)
        obtain ⟨g, hg, eg⟩ := sp_pb_n A w 16
        have ha : a_odds A w (nI m) tt = .inr (sp_pw (nI (sp_od g tt)) m) := by rw [a_odds, if_pos hok, eg, nI_clamp (by omega), nI_clamp (by omega)]
        refine wj_aload_n C 0 dX4_odds_34 rfl rfl ?_
        refine wg_X4_12 C dX4_odds_35 ?_
        refine wj_iload_n C 1 dX4_odds_38 rfl rfl ?_
        refine wj_cif C (wj_rV C dX4_odds_39 km_X0_placesBrokenBy kl_X4_217 (is_X0 (by first | assumption | omega)) rfl rfl (c_X0_placesBrokenBy l V (by decide) hG.1 hG.2.1) rfl rfl (Nat.le_of_ble_eq_true rfl) (by decide)) ?_
        rw [eg]
        refine wj_istore C dX4_odds_42 (by decide) rfl ?_
        dsimp only [List.set]
        refine wj_bipush (v := 16) C dX4_odds_44 (by decide) ?_
        refine wj_istore C dX4_odds_46 (by decide) rfl ?_
        dsimp only [List.set]
        exact lp m g rfl hm hg ha 5 g 16 hg (by decide) (by decide) rfl
      · refine wj_aload_n C 0 dX4_odds_26 rfl rfl ?_
        refine wj_ldc C dX4_odds_27 kc_X4_68 ?_
        refine wj_cif C (wj_rV C dX4_odds_29 km_X4_tell kl_X4_69 is_X4 rfl rfl (c_X4_tell (w := 0) l V (by decide) (by decide)) rfl rfl (Nat.le_of_ble_eq_true rfl) (by decide)) ?_
        refine wj_i2l C dX4_odds_32 ?_
        exact hR _ _ _ _ _ dX4_odds_33 (sp_rfL (by rw [a_odds, if_neg (fun q => by first | exact wj_c0 h4 q.1 | exact wj_c0 h14 q.2.1 | exact wj_c0 h23 q.2.2)]) (by decide)) wj_rfl

def sp_fwL (σ : wj_St) : Sum Nat Int64 → wj_St
  | .inl w => sp_fd σ w
  | .inr _ => σ
def sp_gc : Nat → Nat → Nat → Nat
  | 0, b, _ => b
  | n + 1, b, o => if o = 0 then b else sp_gc n o (b % o)
def sp_dd (g : Nat) (w : Int32) : Nat := if w = 0 then g / sp_gc 17 16 g else 16 / sp_gc 17 16 g
theorem sp_gc_k : ∀ g, g < 17 → g / sp_gc 17 16 g = (sp_half 5 g 16).1 ∧ 16 / sp_gc 17 16 g = (sp_half 5 g 16).2 ∧ 1 ≤ sp_gc 17 16 g ∧ sp_gc 17 16 g ≤ 16 := by decide +kernel
theorem sp_dd_od {g : Nat} (h : g < 17) (w : Int32) : sp_dd g w = sp_od g w := by
  rw [sp_dd, sp_od, (sp_gc_k g h).1, (sp_gc_k g h).2.1]
theorem sp_gc_0 {n b o : Nat} (h : o = 0) : sp_gc n b o = b := by
  cases n with
  | zero => rfl
  | succ n => rw [sp_gc, if_pos h]
theorem sp_rvML {σ : wj_St} {A : sp_L} {a : Sum Nat Int64} {v : Int64} (h : a = .inr v) : v = sp_vL a ∧ ∃ g, sp_mq σ A = sp_mq (wj_r (sp_fwL σ a) 51 g) A := by
  subst h
  exact ⟨rfl, σ 51, by show _ = sp_mq (wj_r σ 51 (σ 51)) A; rw [wj_r_id]⟩
theorem sp_rfML {σ : wj_St} {A : sp_L} {a : Sum Nat Int64} {w : Nat} {x : Int32} (h : a = .inl w) (hx : x = -1000001 - nI w) : x.toInt64 = sp_vL a ∧ ∃ g, sp_fd (sp_mq σ A) w = sp_mq (wj_r (sp_fwL σ a) 51 g) A := by
  subst h
  exact ⟨by rw [hx]; rfl, sp_fd σ w 51, by rw [sp_fd_c]; show _ = sp_mq (wj_r (sp_fd σ w) 51 _) A; rw [wj_r_id]⟩
set_option maxRecDepth 100000 in
set_option maxHeartbeats 4000000 in
theorem c_X5_odds (l : Launch) (V : wj_V) {σ : wj_St} {A : sp_L} {N y : Nat} {w nn tt : Int32} (hG : sp_G A N y) (hy : y < 90000) : wj_M l V yX5_odds cX5_odds 10 (some .long) 5 115 [.ref (V.2.2.1 48), .int w, .int nn, .int tt] (sp_mq σ A) (wj_QL V (fun r u => r = sp_vL (a_odds A w nn tt) ∧ ∃ g, u = sp_mq (wj_r (sp_fwL σ (a_odds A w nn tt)) 51 g) A)) := by
  refine wj_ofL (own := RX5) [some (.ref (V.2.2.1 48)), some (.int w), some (.int nn), some (.int tt), none, none, none, none, none, none] (by decide) rfl rfl (Nat.le_of_ble_eq_true rfl) (fun X C hR => ?_)
  have lp3 : ∀ m g j6, nn = nI m → m ≤ 15 → g ≤ 16 → a_odds A w nn tt = .inr (sp_pw (nI (sp_dd g tt)) m) → ∀ n k, k ≤ m → m - k < n → wj_J l V X 113 [some (.ref (V.2.2.1 48)), some (.int w), some (.int (nI m)), some (.int tt), some (.int (nI g)), some (.int (nI (sp_gc 17 16 g))), some (.int j6), some (.long (sp_pw (nI (sp_dd g tt)) k)), none, some (.int (nI k))] [] (sp_mq σ A) := by
    intro m g j6 hn2 hm hg ha n
    subst hn2
    have hgk := (sp_gc_k g (by omega)).2.2
    induction n with
    | zero => intro k _ h; omega
    | succ n ih =>
      intro k hi hlt9
      refine wj_iload C dX5_odds_113 rfl ?_
      refine wj_iload_n C 2 dX5_odds_115 rfl rfl ?_
      refine wj_icmp_ge C 145 dX5_odds_116 (by decide) (fun h116 => ?_) (fun h116 => ?_)
      · have e9 := wj_ge (N := m) (by omega) hi h116
        subst e9
        refine wj_lload C dX5_odds_145 rfl ?_
        exact hR _ _ _ _ _ dX5_odds_147 (sp_rvML ha) wj_rfl
      · have hlt := wj_nge (N := m) (by omega) hi h116
        refine wj_lload C dX5_odds_119 rfl ?_
        refine wj_iload_n C 3 dX5_odds_121 rfl rfl ?_
        refine wj_if_ne C 130 dX5_odds_122 (by decide) (fun h122 => ?_) (fun h122 => ?_)
        · have hD : sp_dd g tt = 16 / sp_gc 17 16 g := by rw [sp_dd, if_neg h122]
          refine wj_bipush (v := 16) C dX5_odds_130 (by decide) ?_
          refine wj_iload C dX5_odds_132 rfl ?_
          refine wj_idiv C dX5_odds_134 (nI_ne0 hgk.1 (by omega)) ?_
          refine wj_top (y := nI (sp_dd g tt)) (by rw [hD]; first | exact pk_div (by omega) (by omega) (by omega) | exact pk_div (a := 16) (by omega) (by omega) (by omega)) ?_
          refine wj_i2l C dX5_odds_135 ?_
          refine wj_lmul C dX5_odds_136 ?_
          refine wj_lstore C dX5_odds_137 (by decide) rfl ?_
          dsimp only [List.set]
          refine wj_iinc C (v := nI (k + 1)) dX5_odds_139 rfl (wj_i1 k) (by decide) rfl ?_
          dsimp only [List.set]
          refine wj_goto C 113 dX5_odds_142 (by decide) ?_
          exact ih (k + 1) (by omega) (by omega)
        · have hD : sp_dd g tt = g / sp_gc 17 16 g := by rw [sp_dd, if_pos h122]
          refine wj_iload C dX5_odds_125 rfl ?_
          refine wj_goto C 132 dX5_odds_127 (by decide) ?_
          refine wj_iload C dX5_odds_132 rfl ?_
          refine wj_idiv C dX5_odds_134 (nI_ne0 hgk.1 (by omega)) ?_
          refine wj_top (y := nI (sp_dd g tt)) (by rw [hD]; first | exact pk_div (by omega) (by omega) (by omega) | exact pk_div (a := 16) (by omega) (by omega) (by omega)) ?_
          refine wj_i2l C dX5_odds_135 ?_
          refine wj_lmul C dX5_odds_136 ?_
          refine wj_lstore C dX5_odds_137 (by decide) rfl ?_
          dsimp only [List.set]
          refine wj_iinc C (v := nI (k + 1)) dX5_odds_139 rfl (wj_i1 k) (by decide) rfl ?_
          dsimp only [List.set]
          refine wj_goto C 113 dX5_odds_142 (by decide) ?_
          exact ih (k + 1) (by omega) (by omega)
  have lp2 : ∀ m g, nn = nI m → m ≤ 15 → g ≤ 16 → a_odds A w nn tt = .inr (sp_pw (nI (sp_dd g tt)) m) → ∀ n o b j7 j8 j9, o < n → b ≤ 16 → o ≤ 16 → sp_gc n b o = sp_gc 17 16 g → wj_J l V X 84 [some (.ref (V.2.2.1 48)), some (.int w), some (.int (nI m)), some (.int tt), some (.int (nI g)), some (.int (nI b)), some (.int (nI o)), j7, j8, j9] [] (sp_mq σ A) := by
    intro m g hn2 hm hg ha n
    subst hn2
    induction n with
    | zero => intro o b j7 j8 j9 h; omega
    | succ n ih =>
      intro o b j7 j8 j9 hlt9 hb ho16 hgc
      refine wj_iload C dX5_odds_84 rfl ?_
      refine wj_if_eq C 107 dX5_odds_86 (by decide) (fun h86 => ?_) (fun h86 => ?_)
      · have ho : o = 0 := by
          rcases Nat.eq_zero_or_pos o with q | q
          · exact q
          · exact absurd h86 (nI_ne0 q (by omega))
        have hG9 : b = sp_gc 17 16 g := by rw [← hgc, sp_gc_0 ho]
        subst hG9
        subst ho
        refine wj_lconst (v := 1) C dX5_odds_107 (by decide) ?_
        refine wj_lstore C dX5_odds_108 (by decide) rfl ?_
        dsimp only [List.set]
        refine wj_iconst (v := 0) C dX5_odds_110 (by decide) ?_
        refine wj_istore C dX5_odds_111 (by decide) rfl ?_
        dsimp only [List.set]
        exact lp3 m g _ rfl hm hg ha (m + 1) 0 (by omega) (by omega)
      · have ho : ¬ o = 0 := fun z => h86 (by rw [z]; rfl)
        refine wj_iload C dX5_odds_89 rfl ?_
        refine wj_iload C dX5_odds_91 rfl ?_
        refine wj_irem C dX5_odds_93 h86 ?_
        rw [pk_rem (by omega) (by omega) (by omega)]
        refine wj_istore C dX5_odds_94 (by decide) rfl ?_
        dsimp only [List.set]
        refine wj_iload C dX5_odds_96 rfl ?_
        refine wj_istore C dX5_odds_98 (by decide) rfl ?_
        dsimp only [List.set]
        refine wj_iload C dX5_odds_100 rfl ?_
        refine wj_istore C dX5_odds_102 (by decide) rfl ?_
        dsimp only [List.set]
        refine wj_goto C 84 dX5_odds_104 (by decide) ?_
        exact ih (b % o) o _ _ _ (by have := Nat.mod_lt b (show 0 < o by omega); omega) (by omega) (by have := Nat.mod_lt b (show 0 < o by omega); omega) (by rw [← hgc, sp_gc, if_neg ho])
  have lp : ∀ m g, nn = nI m → m ≤ 15 → g ≤ 16 → sp_pb A w 16 = nI g → a_odds A w nn tt = .inr (sp_pw (nI (sp_dd g tt)) m) → ∀ n p, p ≤ 16 → 16 - p < n → wj_J l V X 43 [some (.ref (V.2.2.1 48)), some (.int w), some (.int (nI m)), some (.int tt), some (.int (sp_pb A w p)), some (.int (nI p)), none, none, none, none] [] (sp_mq σ A) := by
    intro m g hn2 hm hg eg ha n
    subst hn2
    induction n with
    | zero => intro p _ h; omega
    | succ n ih =>
      intro p hi hlt9
      refine wj_iload C dX5_odds_43 rfl ?_
      refine wj_bipush (v := 16) C dX5_odds_45 (by decide) ?_
      refine wj_icmp_ge C 76 dX5_odds_47 (by decide) (fun h47 => ?_) (fun h47 => ?_)
      · have e9 := wj_ge (N := 16) (by decide) hi h47
        subst e9
        rw [eg]
        refine wj_bipush (v := 16) C dX5_odds_76 (by decide) ?_
        refine wj_istore C dX5_odds_78 (by decide) rfl ?_
        dsimp only [List.set]
        refine wj_iload C dX5_odds_80 rfl ?_
        refine wj_istore C dX5_odds_82 (by decide) rfl ?_
        dsimp only [List.set]
        exact lp2 m g rfl hm hg ha 17 g 16 none none none (by omega) (by omega) (by omega) rfl
      · have hlt := wj_nge (N := 16) (by decide) hi h47
        refine wj_iload C dX5_odds_50 rfl ?_
        refine wj_iload_n C 1 dX5_odds_52 rfl rfl ?_
        refine wj_aload_n C 0 dX5_odds_53 rfl rfl ?_
        refine wj_iload C dX5_odds_54 rfl ?_
        refine wj_cif C (wj_rV C dX5_odds_56 km_X5_strength kl_X5_113 is_X5 rfl rfl (c_X5_strength l V hG (by omega)) rfl rfl (Nat.le_of_ble_eq_true rfl) (by decide)) ?_
        refine wj_icmp_le C 66 dX5_odds_59 (by decide) (fun h59 => ?_) (fun h59 => ?_)
        · have e8 : sp_pb A w (p + 1) = sp_pb A w p := by rw [sp_pb, if_neg (Int32.not_lt.mpr h59)]
          refine wj_iconst (v := 0) C dX5_odds_66 (by decide) ?_
          refine wj_iadd C dX5_odds_67 ?_
          refine wj_top (y := sp_pb A w (p + 1)) (by first | (rw [e8]; done) | (rw [e8]; exact Int32.add_zero _)) ?_
          refine wj_istore C dX5_odds_68 (by decide) rfl ?_
          dsimp only [List.set]
          refine wj_iinc C (v := nI (p + 1)) dX5_odds_70 rfl (wj_i1 p) (by decide) rfl ?_
          dsimp only [List.set]
          refine wj_goto C 43 dX5_odds_73 (by decide) ?_
          exact ih (p + 1) (by omega) (by omega)
        · have e8 : sp_pb A w (p + 1) = sp_pb A w p + 1 := by rw [sp_pb, if_pos (Int32.not_le.mp h59)]
          refine wj_iconst (v := 1) C dX5_odds_62 (by decide) ?_
          refine wj_goto C 67 dX5_odds_63 (by decide) ?_
          refine wj_iadd C dX5_odds_67 ?_
          refine wj_top (y := sp_pb A w (p + 1)) (by first | (rw [e8]; done) | (rw [e8]; exact Int32.add_zero _)) ?_
          refine wj_istore C dX5_odds_68 (by decide) rfl ?_
          dsimp only [List.set]
          refine wj_iinc C (v := nI (p + 1)) dX5_odds_70 rfl (wj_i1 p) (by decide) rfl ?_
          dsimp only [List.set]
          refine wj_goto C 43 dX5_odds_73 (by decide) ?_
          exact ih (p + 1) (by omega) (by omega)
  refine wj_iload_n C 1 dX5_odds_0 rfl rfl ?_
  refine wj_iconst (v := 0) C dX5_odds_1 (by decide) ?_
  refine wj_bipush (v := 99) C dX5_odds_2 (by decide) ?_
  refine wj_cif C (wj_rS C dX5_odds_4 km_X5_within kl_X5_70 (c_X5_within l V) rfl rfl (Nat.le_of_ble_eq_true rfl) (by decide)) ?_
  refine wj_if_eq C 29 dX5_odds_7 (by decide) (fun h7 => ?_) (fun h7 => ?_)
  · refine wj_aload_n C 0 dX5_odds_29 rfl rfl ?_
    refine wj_ldc C dX5_odds_30 kc_X5_60 ?_
    refine wj_cif C (wj_rV C dX5_odds_32 km_X5_finding kl_X5_66 is_X5 rfl rfl (c_X5_finding (w := 0) l V (by decide) (by decide)) rfl rfl (Nat.le_of_ble_eq_true rfl) (by decide)) ?_
    refine wj_i2l C dX5_odds_35 ?_
    exact hR _ _ _ _ _ dX5_odds_36 (sp_rfML (by rw [a_odds]; exact if_neg (fun q => by first | exact wj_c0 h7 q.1 | exact wj_c0 h17 q.2.1 | exact wj_c0 h26 q.2.2)) (by decide)) wj_rfl
  · refine wj_iload_n C 2 dX5_odds_10 rfl rfl ?_
    refine wj_iconst (v := 0) C dX5_odds_11 (by decide) ?_
    refine wj_bipush (v := 15) C dX5_odds_12 (by decide) ?_
    refine wj_cif C (wj_rS C dX5_odds_14 km_X5_within kl_X5_70 (c_X5_within l V) rfl rfl (Nat.le_of_ble_eq_true rfl) (by decide)) ?_
    refine wj_if_eq C 29 dX5_odds_17 (by decide) (fun h17 => ?_) (fun h17 => ?_)
    · refine wj_aload_n C 0 dX5_odds_29 rfl rfl ?_
      refine wj_ldc C dX5_odds_30 kc_X5_60 ?_
      refine wj_cif C (wj_rV C dX5_odds_32 km_X5_finding kl_X5_66 is_X5 rfl rfl (c_X5_finding (w := 0) l V (by decide) (by decide)) rfl rfl (Nat.le_of_ble_eq_true rfl) (by decide)) ?_
      refine wj_i2l C dX5_odds_35 ?_
      exact hR _ _ _ _ _ dX5_odds_36 (sp_rfML (by rw [a_odds]; exact if_neg (fun q => by first | exact wj_c0 h7 q.1 | exact wj_c0 h17 q.2.1 | exact wj_c0 h26 q.2.2)) (by decide)) wj_rfl
    · refine wj_iload_n C 3 dX5_odds_20 rfl rfl ?_
      refine wj_iconst (v := 0) C dX5_odds_21 (by decide) ?_
      refine wj_iconst (v := 1) C dX5_odds_22 (by decide) ?_
      refine wj_cif C (wj_rS C dX5_odds_23 km_X5_within kl_X5_70 (c_X5_within l V) rfl rfl (Nat.le_of_ble_eq_true rfl) (by decide)) ?_
      refine wj_if_ne C 37 dX5_odds_26 (by decide) (fun h26 => ?_) (fun h26 => ?_)
      · obtain ⟨m, hm, rfl⟩ := wj_natC (N := 15) (wj_c1 h17)
        have hok := (⟨wj_c1 h7, wj_c1 h17, wj_c1 h26⟩ : (0 ≤ w ∧ w ≤ 99) ∧ (0 ≤ nI m ∧ nI m ≤ 15) ∧ 0 ≤ tt ∧ tt ≤ 1)
        obtain ⟨g, hg, eg⟩ := sp_pb_n A w 16
        have ha : a_odds A w (nI m) tt = .inr (sp_pw (nI (sp_dd g tt)) m) := by rw [a_odds, if_pos hok, eg, nI_clamp (by omega), nI_clamp (by omega), sp_dd_od (by omega)]
        refine wj_iconst (v := 0) C dX5_odds_37 (by decide) ?_
        refine wj_istore C dX5_odds_38 (by decide) rfl ?_
        dsimp only [List.set]
        refine wj_iconst (v := 0) C dX5_odds_40 (by decide) ?_
        refine wj_istore C dX5_odds_41 (by decide) rfl ?_
        dsimp only [List.set]
        exact lp m g rfl hm hg eg ha 17 0 (by omega) (by omega)
      · refine wj_aload_n C 0 dX5_odds_29 rfl rfl ?_
        refine wj_ldc C dX5_odds_30 kc_X5_60 ?_
        refine wj_cif C (wj_rV C dX5_odds_32 km_X5_finding kl_X5_66 is_X5 rfl rfl (c_X5_finding (w := 0) l V (by decide) (by decide)) rfl rfl (Nat.le_of_ble_eq_true rfl) (by decide)) ?_
        refine wj_i2l C dX5_odds_35 ?_
        exact hR _ _ _ _ _ dX5_odds_36 (sp_rfML (by rw [a_odds]; exact if_neg (fun q => by first | exact wj_c0 h7 q.1 | exact wj_c0 h17 q.2.1 | exact wj_c0 h26 q.2.2)) (by decide)) wj_rfl

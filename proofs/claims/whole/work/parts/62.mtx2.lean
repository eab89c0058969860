theorem ty_mq {σ : wj_St} {B : sp_L} {b : Int32} {e : Nat} {s v w : Int32} {i n : Nat} {h : Nat → Int32} : ty_P (sp_mq σ B) b e s v w i n h = sp_mq (ty_P σ b e s v w i n h) B := by
  rw [ty_P, sp_mq_r9 (by decide), sp_mq_r9 (by decide), sp_mq_o (by decide), ty_P]
theorem tm_mq {f : Nat → Int32} {m c : Nat} {σ : wj_St} {B : sp_L} {w : Int32} {i n : Nat} {h : Nat → Int32} : tm f m (sp_mq σ B) c w i n h = sp_mq (tm f m σ c w i n h) B := ty_mq
theorem ty_u7 {σ : wj_St} {b : Int32} {e : Nat} {s v w x : Int32} {i n : Nat} {h : Nat → Int32} : wj_u (ty_P σ b e s v w i n h) 48 7 x = ty_P (wj_u σ 48 7 x) b e s v w i n h := by
  rw [ty_P, wj_uu, ty_P]
  funext q
  by_cases e1 : q = 48
  · subst e1
    rw [wj_r_same, wj_r_same]
    funext j
    simp only [upd, wj_u_same]
    by_cases h7 : j = 7
    · simp [h7]
    · simp [h7]
  · rw [wj_r_ne e1, wj_r_ne e1]
    by_cases e2 : q = 54
    · subst e2; rw [wj_r_same, wj_r_same]
    · rw [wj_r_ne e2, wj_r_ne e2, wj_u_ne e1]
theorem tm_u7 {f : Nat → Int32} {m c : Nat} {σ : wj_St} {w x : Int32} {i n : Nat} {h : Nat → Int32} : wj_u (tm f m σ c w i n h) 48 7 x = tm f m (wj_u σ 48 7 x) c w i n h := ty_u7
theorem ty_in {s : wj_St} {N : Nat} : wj_u (wj_u (wj_u (wj_u s 48 9 0) 48 12 0) 48 15 0) 48 16 (nI N) = ty_P s (s 48 8) 0 (s 48 10) (s 48 11) 0 0 N (s 54) := by
  funext q
  by_cases e1 : q = 48
  · subst e1
    rw [ty_P, wj_r_same]
    funext j
    simp only [wj_u_same, upd]
    by_cases q8 : j = 8
    · simp [q8]
    · by_cases q9 : j = 9
      · simp [q9]; rfl
      · by_cases q10 : j = 10
        · simp [q10]
        · by_cases q11 : j = 11
          · simp [q11]
          · by_cases q12 : j = 12
            · simp [q12]
            · by_cases q15 : j = 15
              · simp [q15]; rfl
              · by_cases q16 : j = 16
                · simp [q16]
                · simp [q8, q9, q10, q11, q12, q15, q16]
  · rw [wj_u_ne e1, wj_u_ne e1, wj_u_ne e1, wj_u_ne e1]
    by_cases e2 : q = 54
    · subst e2; rw [ty_54]
    · rw [ty_o e1 e2]
/-- what comes behind an item -/
def tx_R (f : Nat → Int32) (m q n c : Nat) : Sum Nat (List tx_I) := if tx_s f m c = 0 then .inr [] else if tx_s f m c = 3 then tx_tx f m q n (tx_e f m c) else .inl c
theorem tx_R_l {f : Nat → Int32} {m q n c c1 d : Nat} {it : tx_I} (hi : tx_it f m n c = .inr (it, c1)) (h : tx_tx f m (q + 1) n c = .inl d) : tx_R f m q (tx_up it n) c1 = .inl d := by
  rw [tx_tx, hi] at h
  dsimp only at h
  rw [tx_R]
  split
  · rename_i h0; rw [if_pos h0] at h; cases h
  · rename_i h0
    rw [if_neg h0] at h
    split
    · rename_i h3
      rw [if_pos h3] at h
      split at h
      · rename_i x hx; cases h; exact hx
      · cases h
    · rename_i h3; rw [if_neg h3] at h; cases h; rfl
theorem tx_R_r {f : Nat → Int32} {m q n c c1 : Nat} {it : tx_I} {l : List tx_I} (hi : tx_it f m n c = .inr (it, c1)) (h : tx_tx f m (q + 1) n c = .inr l) : ∃ l2, tx_R f m q (tx_up it n) c1 = .inr l2 ∧ l = it :: l2 := by
  rw [tx_tx, hi] at h
  dsimp only at h
  rw [tx_R]
  split
  · rename_i h0; rw [if_pos h0] at h; cases h; exact ⟨[], rfl, rfl⟩
  · rename_i h0
    rw [if_neg h0] at h
    split
    · rename_i h3
      rw [if_pos h3] at h
      split at h
      · cases h
      · rename_i l2 hx; cases h; exact ⟨l2, hx, rfl⟩
    · rename_i h3; rw [if_neg h3] at h; cases h
def tx_okl : Nat → List tx_I → Prop
  | _, [] => True
  | n, it :: l => tx_oki it ∧ (it.1 < 10 → n < 8) ∧ tx_okl (tx_up it n) l
theorem tx_tx_ok {f : Nat → Int32} {m : Nat} : ∀ q n c l, c ≤ m → tx_tx f m q n c = .inr l → tx_okl n l
  | 0, n, c, l, _, h => by rw [tx_tx] at h; cases h
  | q + 1, n, c, l, hc, h => by
    rcases hi : tx_it f m n c with x | ⟨it, c1⟩
    · rw [tx_tx, hi] at h; cases h
    · have g := tx_it_c hc hi
      obtain ⟨l2, h2, rfl⟩ := tx_R_r hi h
      refine ⟨g.2.2.1, g.2.2.2, ?_⟩
      rw [tx_R] at h2
      split at h2
      · cases h2; trivial
      · split at h2
        · exact tx_tx_ok q _ _ l2 (tx_e_le g.1) h2
        · cases h2
theorem tx_s_3 {f : Nat → Int32} {m c : Nat} (h : tx_s f m c = 3) : tx_b f m c < m ∧ f (tx_b f m c) = 59 := by
  rw [tx_s] at h
  split at h
  · rename_i hb
    refine ⟨hb, ?_⟩
    split at h
    · omega
    · split at h
      · omega
      · split at h
        · assumption
        · omega
  · omega
theorem tx_s_4 {f : Nat → Int32} {m c : Nat} (h : tx_s f m c = 4) : tx_b f m c < m ∧ ¬ f (tx_b f m c) = 59 := by
  rw [tx_s] at h
  split at h
  · rename_i hb
    refine ⟨hb, ?_⟩
    split at h
    · omega
    · split at h
      · omega
      · split at h
        · omega
        · assumption
  · omega
/-- the items put down are those of a list -/
def ty_enc (h : Nat → Int32) (l : List tx_I) : Prop := ∀ j it, l[j]? = some it → h (5 * j) = nI it.1 ∧ h (5 * j + 1) = nI it.2.1 ∧ h (5 * j + 2) = nI it.2.2.1 ∧ h (5 * j + 3) = nI it.2.2.2.1 ∧ h (5 * j + 4) = nI it.2.2.2.2
theorem ty_enc_s {h : Nat → Int32} {l : List tx_I} {it : tx_I} (he : ty_enc h l) : ty_enc (tyi h l.length it) (l ++ [it]) := by
  intro j it2 hj
  rcases Nat.lt_or_ge j l.length with q | q
  · rw [List.getElem?_append_left q] at hj
    obtain ⟨a, b, c, d, e⟩ := he j it2 hj
    rw [tyi, ty_ad_o (by omega), ty_ad_o (by omega), ty_ad_o (by omega), ty_ad_o (by omega), ty_ad_o (by omega)]
    exact ⟨a, b, c, d, e⟩
  · have e : j = l.length := by
      have := (List.getElem?_eq_some_iff.mp hj).1
      rw [List.length_append] at this
      have : [it].length = 1 := rfl
      omega
    subst e
    rw [List.getElem?_append_right (Nat.le_refl _), Nat.sub_self] at hj
    cases hj
    exact ⟨ty_ad_0, ty_ad_1, ty_ad_2, ty_ad_3, ty_ad_4⟩
theorem tm_mqz {f : Nat → Int32} {m c : Nat} {σ : wj_St} {B : sp_L} {w x : Int32} {i n : Nat} {h : Nat → Int32} : tm f m (wj_u (sp_mq σ B) 48 7 x) c w i n h = sp_mq (tm f m (wj_u σ 48 7 x) c w i n h) B := by
  rw [sp_mq_u9 (by decide), tm_mq]
set_option maxRecDepth 100000 in
set_option maxHeartbeats 4000000 in
theorem c_X5_text_l (l : Launch) (V : wj_V) {σ : wj_St} {f g : Nat → Int32} {m N : Nat} {B : sp_L} (hg : σ 53 = g) (hm : σ 48 7 = nI m) (h120 : m ≤ 120) (ht : tx_tg g f m) (hN : B.2.1 = nI N) (hN8 : N ≤ 8) {d : Nat} (hd : d ≤ m) (hn : tx_tx f m 120 N 0 = .inl d) : wj_M l V yX5_text cX5_text 2 (some .int) 8 178 [.ref (V.2.2.1 48)] (sp_mq σ B) (wj_QI V (fun r u => r = -1 - nI (tx_b f m d) ∧ ∃ i2 n2 h2, u = sp_mq (tm f m (wj_u σ 48 7 0) d 1 i2 n2 h2) B)) := by
  refine wj_ofI (own := RX5) [some (.ref (V.2.2.1 48)), none] (by decide) rfl rfl (Nat.le_of_ble_eq_true rfl) (fun X C hR => ?_)
  have hg2 : sp_mq σ B 53 = g := by rw [sp_mq_o (by decide)]; exact hg
  have hm2 : sp_mq σ B 48 7 = nI m := by rw [sp_mq_o (by decide)]; exact hm
  have tW : ∀ j1 i n h, wj_J l V X 33 [some (.ref (V.2.2.1 48)), j1] [] (tm f m (sp_mq σ B) d 1 i n h) := by
    intro j1 i n h
    refine wj_aload_n C 0 dX5_text_33 rfl rfl ?_
    refine wg_X5_256 C dX5_text_34 ?_
    rw [tm_12]
    refine wj_if_ne C 74 dX5_text_37 (by decide) (fun h37 => ?_) (fun h37 => ?_)
    · refine wj_aload_n C 0 dX5_text_74 rfl rfl ?_
      refine wj_aload_n C 0 dX5_text_75 rfl rfl ?_
      refine wg_X5_245 C dX5_text_76 ?_
      rw [tm_10]
      refine wj_if_ne C 86 dX5_text_79 (by decide) (fun h79 => ?_) (fun h79 => ?_)
      · refine wj_iconst (v := 0) C dX5_text_86 (by decide) ?_
        refine wj_cvf C (wj_rV C dX5_text_87 km_X5_must kl_X5_262 is_X5 rfl rfl (c_X5_must_no l V hg2 hm2 h120 ht hd (w := 1) (Or.inr rfl)) rfl rfl (Nat.le_of_ble_eq_true rfl) (by decide)) ?_
        refine wj_aload_n C 0 dX5_text_90 rfl rfl ?_
        refine wj_iconst (v := 0) C dX5_text_91 (by decide) ?_
        refine wp_X5_229 C dX5_text_92 ?_
        rw [tm_u7]
        refine wj_aload_n C 0 dX5_text_95 rfl rfl ?_
        refine wg_X5_256 C dX5_text_96 ?_
        rw [tm_12]
        refine wj_if_eq C 109 dX5_text_99 (by decide) (fun h99 => absurd h99 (by decide)) (fun h99 => ?_)
        refine wj_iconst (v := -1) C dX5_text_102 (by decide) ?_
        refine wj_aload_n C 0 dX5_text_103 rfl rfl ?_
        refine wg_X5_236 C dX5_text_104 ?_
        rw [tm_8]
        refine wj_isub C dX5_text_107 ?_
        exact hR _ _ _ _ _ dX5_text_108 ⟨rfl, _, _, _, tm_mqz⟩ wj_rfl
      · refine wj_iconst (v := 1) C dX5_text_82 (by decide) ?_
        refine wj_goto C 87 dX5_text_83 (by decide) ?_
        refine wj_cvf C (wj_rV C dX5_text_87 km_X5_must kl_X5_262 is_X5 rfl rfl (c_X5_must_no l V hg2 hm2 h120 ht hd (w := 1) (Or.inr rfl)) rfl rfl (Nat.le_of_ble_eq_true rfl) (by decide)) ?_
        refine wj_aload_n C 0 dX5_text_90 rfl rfl ?_
        refine wj_iconst (v := 0) C dX5_text_91 (by decide) ?_
        refine wp_X5_229 C dX5_text_92 ?_
        rw [tm_u7]
        refine wj_aload_n C 0 dX5_text_95 rfl rfl ?_
        refine wg_X5_256 C dX5_text_96 ?_
        rw [tm_12]
        refine wj_if_eq C 109 dX5_text_99 (by decide) (fun h99 => absurd h99 (by decide)) (fun h99 => ?_)
        refine wj_iconst (v := -1) C dX5_text_102 (by decide) ?_
        refine wj_aload_n C 0 dX5_text_103 rfl rfl ?_
        refine wg_X5_236 C dX5_text_104 ?_
        rw [tm_8]
        refine wj_isub C dX5_text_107 ?_
        exact hR _ _ _ _ _ dX5_text_108 ⟨rfl, _, _, _, tm_mqz⟩ wj_rfl
    · exact absurd h37 (by decide)
  have tX : ∀ j1 i n h, ¬ tx_s f m d = 0 → wj_J l V X 74 [some (.ref (V.2.2.1 48)), j1] [] (tm f m (sp_mq σ B) d 0 i n h) := by
    intro j1 i n h hs
    have hs5 := tx_s5 (f := f) (m := m) (c := d)
    refine wj_aload_n C 0 dX5_text_74 rfl rfl ?_
    refine wj_aload_n C 0 dX5_text_75 rfl rfl ?_
    refine wg_X5_245 C dX5_text_76 ?_
    rw [tm_10]
    refine wj_if_ne C 86 dX5_text_79 (by decide) (fun h79 => ?_) (fun h79 => ?_)
    · refine wj_iconst (v := 0) C dX5_text_86 (by decide) ?_
      refine wj_cvf C (wj_rV C dX5_text_87 km_X5_must kl_X5_262 is_X5 rfl rfl (c_X5_must_no l V hg2 hm2 h120 ht hd (w := 0) (Or.inl rfl)) rfl rfl (Nat.le_of_ble_eq_true rfl) (by decide)) ?_
      refine wj_aload_n C 0 dX5_text_90 rfl rfl ?_
      refine wj_iconst (v := 0) C dX5_text_91 (by decide) ?_
      refine wp_X5_229 C dX5_text_92 ?_
      rw [tm_u7]
      refine wj_aload_n C 0 dX5_text_95 rfl rfl ?_
      refine wg_X5_256 C dX5_text_96 ?_
      rw [tm_12]
      refine wj_if_eq C 109 dX5_text_99 (by decide) (fun h99 => absurd h99 (by decide)) (fun h99 => ?_)
      refine wj_iconst (v := -1) C dX5_text_102 (by decide) ?_
      refine wj_aload_n C 0 dX5_text_103 rfl rfl ?_
      refine wg_X5_236 C dX5_text_104 ?_
      rw [tm_8]
      refine wj_isub C dX5_text_107 ?_
      exact hR _ _ _ _ _ dX5_text_108 ⟨rfl, _, _, _, tm_mqz⟩ wj_rfl
    · exact absurd ((nI_eq (a := min (tx_s f m d) 3) (b := 0) (by omega) (by omega)).mp h79) (by omega)
  have lp : ∀ q n c1 j1 i h, q ≤ 120 → c1 ≤ m → n ≤ 8 → i + q = 120 → 2 * i ≤ c1 + 1 → 1 ≤ i → tx_R f m q n c1 = .inl d → wj_J l V X 33 [some (.ref (V.2.2.1 48)), j1] [] (tm f m (sp_mq σ B) c1 0 i n h) := by
    intro q
    induction q with
    | zero =>
      intro n c1 j1 i h hq hc1 h8 hi hinv h1 hn
      exact absurd hinv (by omega)
    | succ q ih =>
      intro n c1 j1 i h hq hc1 h8 hi hinv h1 hn
      have hs5 := tx_s5 (f := f) (m := m) (c := c1)
      rw [tx_R] at hn
      split at hn
      · cases hn
      · rename_i hs0
        split at hn
        · rename_i hs3
          obtain ⟨hb, h59⟩ := tx_s_3 hs3
          have hgb : g (tx_b f m c1) = 59 := by
            have := (tb_is (k := tx_b f m c1) (a := 59) ht (by decide)).mpr ⟨hb, h59⟩
            rw [tx_tb, if_pos hb] at this
            exact this
          have hce := tx_e_le (f := f) hc1
          have hgt := tx_e_gt (f := f) (m := m) (c := c1) (by omega)
          have hbg := tx_b_ge (f := f) (m := m) (c := c1)
          rcases hit : tx_it f m n (tx_e f m c1) with x | ⟨it, c2⟩
          · rw [tx_tx, hit] at hn
            cases hn
            refine wj_aload_n C 0 dX5_text_33 rfl rfl ?_
            refine wg_X5_256 C dX5_text_34 ?_
            rw [tm_12]
            refine wj_if_ne C 74 dX5_text_37 (by decide) (fun h37 => ?_) (fun h37 => ?_)
            · exact absurd rfl h37
            · refine wj_aload_n C 0 dX5_text_40 rfl rfl ?_
              refine wg_X5_245 C dX5_text_41 ?_
              rw [tm_10]
              refine wj_iconst (v := 3) C dX5_text_44 (by decide) ?_
              refine wj_icmp_ne C 74 dX5_text_45 (by decide) (fun h45 => ?_) (fun h45 => ?_)
              · exact absurd (show nI (min (tx_s f m c1) 3) = 3 by rw [hs3]; rfl) h45
              · refine wj_aload_n C 0 dX5_text_48 rfl rfl ?_
                refine wg_X5_22 C dX5_text_49 ?_
                refine wj_aload_n C 0 dX5_text_52 rfl rfl ?_
                refine wg_X5_236 C dX5_text_53 ?_
                rw [tm_8]
                refine wj_ialdN C dX5_text_56 ar_mtape ⟨by omega, by decide⟩ ?_
                rw [tm_o (by decide) (by decide), hg2]
                refine wj_bipush (v := 59) C dX5_text_57 (by decide) ?_
                refine wj_icmp_ne C 74 dX5_text_59 (by decide) (fun h59 => ?_) (fun h59 => ?_)
                · exact absurd hgb h59
                · refine wj_aload_n C 0 dX5_text_62 rfl rfl ?_
                  refine wj_iconst (v := 1) C dX5_text_63 (by decide) ?_
                  refine wj_cvf C (wj_rV C dX5_text_64 km_X5_must kl_X5_262 is_X5 rfl rfl (c_X5_must_go l V hg2 hm2 h120 ht hc1) rfl rfl (Nat.le_of_ble_eq_true rfl) (by decide)) ?_
                  refine wj_aload_n C 0 dX5_text_67 rfl rfl ?_
                  refine wj_cv C (wj_rV C dX5_text_68 km_X5_readItem kl_X5_306 is_X5 rfl rfl (c_X5_readItem_l l V hg2 hm2 h120 ht hce (by omega) (by omega) hit) rfl rfl (Nat.le_of_ble_eq_true rfl) (by decide)) (fun u9 hp9 => ?_)
                  obtain ⟨i9, n9, g9, rfl⟩ := hp9
                  refine wj_goto C 33 dX5_text_71 (by decide) ?_
                  exact tW _ _ _ _
          · have hg9 := tx_it_c hce hit
            have hn2 := tx_R_l hit hn
            refine wj_aload_n C 0 dX5_text_33 rfl rfl ?_
            refine wg_X5_256 C dX5_text_34 ?_
            rw [tm_12]
            refine wj_if_ne C 74 dX5_text_37 (by decide) (fun h37 => ?_) (fun h37 => ?_)
            · exact absurd rfl h37
            · refine wj_aload_n C 0 dX5_text_40 rfl rfl ?_
              refine wg_X5_245 C dX5_text_41 ?_
              rw [tm_10]
              refine wj_iconst (v := 3) C dX5_text_44 (by decide) ?_
              refine wj_icmp_ne C 74 dX5_text_45 (by decide) (fun h45 => ?_) (fun h45 => ?_)
              · exact absurd (show nI (min (tx_s f m c1) 3) = 3 by rw [hs3]; rfl) h45
              · refine wj_aload_n C 0 dX5_text_48 rfl rfl ?_
                refine wg_X5_22 C dX5_text_49 ?_
                refine wj_aload_n C 0 dX5_text_52 rfl rfl ?_
                refine wg_X5_236 C dX5_text_53 ?_
                rw [tm_8]
                refine wj_ialdN C dX5_text_56 ar_mtape ⟨by omega, by decide⟩ ?_
                rw [tm_o (by decide) (by decide), hg2]
                refine wj_bipush (v := 59) C dX5_text_57 (by decide) ?_
                refine wj_icmp_ne C 74 dX5_text_59 (by decide) (fun h59 => ?_) (fun h59 => ?_)
                · exact absurd hgb h59
                · refine wj_aload_n C 0 dX5_text_62 rfl rfl ?_
                  refine wj_iconst (v := 1) C dX5_text_63 (by decide) ?_
                  refine wj_cvf C (wj_rV C dX5_text_64 km_X5_must kl_X5_262 is_X5 rfl rfl (c_X5_must_go l V hg2 hm2 h120 ht hc1) rfl rfl (Nat.le_of_ble_eq_true rfl) (by decide)) ?_
                  refine wj_aload_n C 0 dX5_text_67 rfl rfl ?_
                  refine wj_cvf C (wj_rV C dX5_text_68 km_X5_readItem kl_X5_306 is_X5 rfl rfl (c_X5_readItem_r l V hg2 hm2 h120 ht hce (by omega) hit) rfl rfl (Nat.le_of_ble_eq_true rfl) (by decide)) ?_
                  refine wj_goto C 33 dX5_text_71 (by decide) ?_
                  exact ih (tx_up it n) c2 _ (i + 1) _ (by omega) hg9.1 (tx_up_8 h8 hg9.2.2.2) (by omega) (by omega) (by omega) hn2
        · rename_i hs3
          cases hn
          refine wj_aload_n C 0 dX5_text_33 rfl rfl ?_
          refine wg_X5_256 C dX5_text_34 ?_
          rw [tm_12]
          refine wj_if_ne C 74 dX5_text_37 (by decide) (fun h37 => ?_) (fun h37 => ?_)
          · exact absurd rfl h37
          · refine wj_aload_n C 0 dX5_text_40 rfl rfl ?_
            refine wg_X5_245 C dX5_text_41 ?_
            rw [tm_10]
            refine wj_iconst (v := 3) C dX5_text_44 (by decide) ?_
            refine wj_icmp_ne C 74 dX5_text_45 (by decide) (fun h45 => ?_) (fun h45 => ?_)
            · exact tX _ _ _ _ hs0
            · have h4 : tx_s f m d = 4 := by
                have := (nI_eq (a := min (tx_s f m d) 3) (b := 3) (by omega) (by omega)).mp h45
                omega
              obtain ⟨hb, hne⟩ := tx_s_4 h4
              refine wj_aload_n C 0 dX5_text_48 rfl rfl ?_
              refine wg_X5_22 C dX5_text_49 ?_
              refine wj_aload_n C 0 dX5_text_52 rfl rfl ?_
              refine wg_X5_236 C dX5_text_53 ?_
              rw [tm_8]
              refine wj_ialdN C dX5_text_56 ar_mtape ⟨by omega, by decide⟩ ?_
              rw [tm_o (by decide) (by decide), hg2]
              refine wj_bipush (v := 59) C dX5_text_57 (by decide) ?_
              refine wj_icmp_ne C 74 dX5_text_59 (by decide) (fun h59 => ?_) (fun h59 => ?_)
              · exact tX _ _ _ _ hs0
              · exact absurd ((tb_is (k := tx_b f m d) (a := 59) ht (by decide)).mp (by rw [tx_tb, if_pos hb]; exact h59)).2 hne
  rcases hit : tx_it f m N 0 with x | ⟨it, c2⟩
  · rw [tx_tx, hit] at hn
    cases hn
    refine wj_aload_n C 0 dX5_text_0 rfl rfl ?_
    refine wj_iconst (v := 0) C dX5_text_1 (by decide) ?_
    refine wp_X5_233 C dX5_text_2 ?_
    skip
    refine wj_aload_n C 0 dX5_text_5 rfl rfl ?_
    refine wj_iconst (v := 0) C dX5_text_6 (by decide) ?_
    refine wp_X5_256 C dX5_text_7 (by first | exact Or.inl rfl | exact Or.inr rfl | assumption) ?_
    skip
    refine wj_aload_n C 0 dX5_text_10 rfl rfl ?_
    refine wj_iconst (v := 0) C dX5_text_11 (by decide) ?_
    refine wp_X5_266 C dX5_text_12 ?_
    skip
    refine wj_aload_n C 0 dX5_text_15 rfl rfl ?_
    refine wj_aload_n C 0 dX5_text_16 rfl rfl ?_
    refine wg_X5_9 C dX5_text_17 ?_
    refine wj_iconst (v := 1) C dX5_text_20 (by decide) ?_
    refine wj_ialdN C dX5_text_21 ar_now ⟨by decide, by decide⟩ ?_
    rw [wj_u_ne (by decide), wj_u_ne (by decide), wj_u_ne (by decide), sp_mq_49, sp_mr_1, hN]
    refine wp_X5_273 C dX5_text_22 ?_
    rw [ty_in]
    refine wj_aload_n C 0 dX5_text_25 rfl rfl ?_
    refine wj_cvf C (wj_rV C dX5_text_26 km_X5_token kl_X5_259 is_X5 rfl rfl (c_X5_token l V hg2 hm2 h120 ht (Nat.zero_le _)) rfl rfl (Nat.le_of_ble_eq_true rfl) (by decide)) ?_
    refine wj_aload_n C 0 dX5_text_29 rfl rfl ?_
    refine wj_cv C (wj_rV C dX5_text_30 km_X5_readItem kl_X5_306 is_X5 rfl rfl (c_X5_readItem_l l V hg2 hm2 h120 ht (Nat.zero_le _) (by decide) (by omega) hit) rfl rfl (Nat.le_of_ble_eq_true rfl) (by decide)) (fun u9 hp9 => ?_)
    obtain ⟨i9, n9, g9, rfl⟩ := hp9
    exact tW _ _ _ _
  · have hg9 := tx_it_c (Nat.zero_le _) hit
    have hn2 := tx_R_l hit hn
    refine wj_aload_n C 0 dX5_text_0 rfl rfl ?_
    refine wj_iconst (v := 0) C dX5_text_1 (by decide) ?_
    refine wp_X5_233 C dX5_text_2 ?_
    skip
    refine wj_aload_n C 0 dX5_text_5 rfl rfl ?_
    refine wj_iconst (v := 0) C dX5_text_6 (by decide) ?_
    refine wp_X5_256 C dX5_text_7 (by first | exact Or.inl rfl | exact Or.inr rfl | assumption) ?_
    skip
    refine wj_aload_n C 0 dX5_text_10 rfl rfl ?_
    refine wj_iconst (v := 0) C dX5_text_11 (by decide) ?_
    refine wp_X5_266 C dX5_text_12 ?_
    skip
    refine wj_aload_n C 0 dX5_text_15 rfl rfl ?_
    refine wj_aload_n C 0 dX5_text_16 rfl rfl ?_
    refine wg_X5_9 C dX5_text_17 ?_
    refine wj_iconst (v := 1) C dX5_text_20 (by decide) ?_
    refine wj_ialdN C dX5_text_21 ar_now ⟨by decide, by decide⟩ ?_
    rw [wj_u_ne (by decide), wj_u_ne (by decide), wj_u_ne (by decide), sp_mq_49, sp_mr_1, hN]
    refine wp_X5_273 C dX5_text_22 ?_
    rw [ty_in]
    refine wj_aload_n C 0 dX5_text_25 rfl rfl ?_
    refine wj_cvf C (wj_rV C dX5_text_26 km_X5_token kl_X5_259 is_X5 rfl rfl (c_X5_token l V hg2 hm2 h120 ht (Nat.zero_le _)) rfl rfl (Nat.le_of_ble_eq_true rfl) (by decide)) ?_
    refine wj_aload_n C 0 dX5_text_29 rfl rfl ?_
    refine wj_cvf C (wj_rV C dX5_text_30 km_X5_readItem kl_X5_306 is_X5 rfl rfl (c_X5_readItem_r l V hg2 hm2 h120 ht (Nat.zero_le _) (by decide) hit) rfl rfl (Nat.le_of_ble_eq_true rfl) (by decide)) ?_
    exact lp 119 (tx_up it N) c2 _ 1 _ (by decide) hg9.1 (tx_up_8 hN8 hg9.2.2.2) (by decide) (by omega) (by decide) hn2
set_option maxRecDepth 100000 in
set_option maxHeartbeats 4000000 in
theorem c_X5_text_r (l : Launch) (V : wj_V) {σ : wj_St} {f g : Nat → Int32} {m N : Nat} {B : sp_L} (hg : σ 53 = g) (hm : σ 48 7 = nI m) (h120 : m ≤ 120) (ht : tx_tg g f m) (hN : B.2.1 = nI N) (hN8 : N ≤ 8) {l1 : List tx_I} (hn : tx_tx f m 120 N 0 = .inr l1) : wj_M l V yX5_text cX5_text 2 (some .int) 8 178 [.ref (V.2.2.1 48)] (sp_mq σ B) (wj_QI V (fun r u => r = nI l1.length ∧ ∃ c2 n2 h2, u = sp_mq (tm f m (wj_u σ 48 7 0) c2 0 l1.length n2 h2) (tx_aps B l1))) := by
  refine wj_ofI (own := RX5) [some (.ref (V.2.2.1 48)), none] (by decide) rfl rfl (Nat.le_of_ble_eq_true rfl) (fun X C hR => ?_)
  have hg2 : sp_mq σ B 53 = g := by rw [sp_mq_o (by decide)]; exact hg
  have hm2 : sp_mq σ B 48 7 = nI m := by rw [sp_mq_o (by decide)]; exact hm
  have hlen := tx_tx_len 120 N 0 l1 (Nat.zero_le _) hn
  have hokl := tx_tx_ok 120 N 0 l1 (Nat.zero_le _) hn
  have lq : ∀ h c2 n2, ty_enc h l1 → ∀ l2 k Bk nk, k + l2.length = l1.length → (∀ j, l1[k + j]? = l2[j]?) → Bk.2.1 = nI nk → nk ≤ 8 → tx_okl nk l2 → tx_aps Bk l2 = tx_aps B l1 → wj_J l V X 111 [some (.ref (V.2.2.1 48)), some (.int (nI k))] [] (sp_mq (tm f m (wj_u σ 48 7 0) c2 0 l1.length n2 h) Bk) := by
    intro h c2 n2 henc l2
    induction l2 with
    | nil =>
      intro k Bk nk hk hj hB hB8 hok hfin
      have hk2 : k = l1.length := hk
      refine wj_iload_n C 1 dX5_text_111 rfl rfl ?_
      refine wj_aload_n C 0 dX5_text_112 rfl rfl ?_
      refine wg_X5_266 C dX5_text_113 ?_
      rw [sp_mq_o (by decide), tm_15]
      refine wj_icmp_ge C 132 dX5_text_116 (by decide) (fun h116 => ?_) (fun h116 => absurd (nI_le (a := l1.length) (b := k) (by omega) (by omega)) h116)
      refine wj_aload_n C 0 dX5_text_132 rfl rfl ?_
      refine wg_X5_266 C dX5_text_133 ?_
      rw [sp_mq_o (by decide), tm_15]
      exact hR _ _ _ _ _ dX5_text_136 ⟨rfl, _, _, _, by rw [← hfin]; rfl⟩ wj_rfl
    | cons it l3 ih =>
      intro k Bk nk hk hj hB hB8 hok hfin
      rw [List.length_cons] at hk
      have hit : l1[k]? = some it := by have := hj 0; simpa using this
      refine wj_iload_n C 1 dX5_text_111 rfl rfl ?_
      refine wj_aload_n C 0 dX5_text_112 rfl rfl ?_
      refine wg_X5_266 C dX5_text_113 ?_
      rw [sp_mq_o (by decide), tm_15]
      refine wj_icmp_ge C 132 dX5_text_116 (by decide) (fun h116 => absurd h116 (nI_ge (a := k) (b := l1.length) (by omega) (by omega))) (fun h116 => ?_)
      refine wj_aload_n C 0 dX5_text_119 rfl rfl ?_
      refine wj_iconst (v := 5) C dX5_text_120 (by decide) ?_
      refine wj_iload_n C 1 dX5_text_121 rfl rfl ?_
      refine wj_imul C dX5_text_122 ?_
      rw [show (5 : Int32) = nI 5 from rfl, pk_mul]
      refine wj_cvf C (wj_rV C dX5_text_123 km_X5_isToldSo kl_X5_309 is_X5 rfl rfl (c_X5_isToldSo l V tm_54 (by omega) (henc k it hit) hok.1 hB hok.2.1 hB8) rfl rfl (Nat.le_of_ble_eq_true rfl) (by decide)) ?_
      refine wj_iinc C (v := nI (k + 1)) dX5_text_126 rfl (wj_i1 k) (by decide) rfl ?_
      dsimp only [List.set]
      refine wj_goto C 111 dX5_text_129 (by decide) ?_
      exact ih (k + 1) (tx_ap Bk it) (tx_up it nk) (by omega) (fun j => by have := hj (j + 1); rw [show k + 1 + j = k + (j + 1) by omega, this]; rfl) (tx_ap_n hB hB8 hok.1) (tx_up_8 hB8 hok.2.1) hok.2.2 hfin
  have tE : ∀ j1 n c1 h, c1 ≤ m → tx_s f m c1 = 0 → ty_enc h l1 → wj_J l V X 33 [some (.ref (V.2.2.1 48)), j1] [] (tm f m (sp_mq σ B) c1 0 l1.length n h) := by
    intro j1 n c1 h hc1 hs henc
    have hs5 := tx_s5 (f := f) (m := m) (c := c1)
    refine wj_aload_n C 0 dX5_text_33 rfl rfl ?_
    refine wg_X5_256 C dX5_text_34 ?_
    rw [tm_12]
    refine wj_if_ne C 74 dX5_text_37 (by decide) (fun h37 => ?_) (fun h37 => ?_)
    · exact absurd rfl h37
    · refine wj_aload_n C 0 dX5_text_40 rfl rfl ?_
      refine wg_X5_245 C dX5_text_41 ?_
      rw [tm_10]
      refine wj_iconst (v := 3) C dX5_text_44 (by decide) ?_
      refine wj_icmp_ne C 74 dX5_text_45 (by decide) (fun h45 => ?_) (fun h45 => ?_)
      · refine wj_aload_n C 0 dX5_text_74 rfl rfl ?_
        refine wj_aload_n C 0 dX5_text_75 rfl rfl ?_
        refine wg_X5_245 C dX5_text_76 ?_
        rw [tm_10]
        refine wj_if_ne C 86 dX5_text_79 (by decide) (fun h79 => ?_) (fun h79 => ?_)
        · exact absurd (show nI (min (tx_s f m c1) 3) = 0 by rw [hs]; rfl) h79
        · refine wj_iconst (v := 1) C dX5_text_82 (by decide) ?_
          refine wj_goto C 87 dX5_text_83 (by decide) ?_
          refine wj_cvf C (wj_rV C dX5_text_87 km_X5_must kl_X5_262 is_X5 rfl rfl (c_X5_must_go l V hg2 hm2 h120 ht hc1) rfl rfl (Nat.le_of_ble_eq_true rfl) (by decide)) ?_
          refine wj_aload_n C 0 dX5_text_90 rfl rfl ?_
          refine wj_iconst (v := 0) C dX5_text_91 (by decide) ?_
          refine wp_X5_229 C dX5_text_92 ?_
          rw [tm_u7]
          refine wj_aload_n C 0 dX5_text_95 rfl rfl ?_
          refine wg_X5_256 C dX5_text_96 ?_
          rw [tm_12]
          refine wj_if_eq C 109 dX5_text_99 (by decide) (fun h99 => ?_) (fun h99 => absurd rfl h99)
          refine wj_iconst (v := 0) C dX5_text_109 (by decide) ?_
          refine wj_istore_n C 1 dX5_text_110 rfl (by decide) rfl ?_
          dsimp only [List.set]
          rw [tm_mqz]
          exact lq h _ _ henc l1 0 B N (by omega) (fun j => by rw [Nat.zero_add]) hN hN8 hokl rfl
      · exact absurd ((nI_eq (a := min (tx_s f m c1) 3) (b := 3) (by omega) (by omega)).mp h45) (by omega)
  have lp : ∀ q n c1 j1 h l0 lx, c1 ≤ m → n ≤ 8 → l0 ++ lx = l1 → tx_R f m q n c1 = .inr lx → ty_enc h l0 → wj_J l V X 33 [some (.ref (V.2.2.1 48)), j1] [] (tm f m (sp_mq σ B) c1 0 l0.length n h) := by
    intro q
    induction q with
    | zero =>
      intro n c1 j1 h l0 lx hc1 h8 hl hn henc
      rw [tx_R] at hn
      split at hn
      · rename_i hs0
        cases hn
        rw [List.append_nil] at hl
        subst hl
        exact tE _ _ _ _ hc1 hs0 henc
      · split at hn
        · rw [tx_tx] at hn; cases hn
        · cases hn
    | succ q ih =>
      intro n c1 j1 h l0 lx hc1 h8 hl hn henc
      rw [tx_R] at hn
      split at hn
      · rename_i hs0
        cases hn
        rw [List.append_nil] at hl
        subst hl
        exact tE _ _ _ _ hc1 hs0 henc
      · split at hn
        · rename_i hs3
          obtain ⟨hb, h59⟩ := tx_s_3 hs3
          have hgb : g (tx_b f m c1) = 59 := by
            have := (tb_is (k := tx_b f m c1) (a := 59) ht (by decide)).mpr ⟨hb, h59⟩
            rw [tx_tb, if_pos hb] at this
            exact this
          have hce := tx_e_le (f := f) hc1
          have hl0 : l0.length ≤ l1.length := by rw [← hl, List.length_append]; omega
          rcases hit : tx_it f m n (tx_e f m c1) with x | ⟨it, c2⟩
          · rw [tx_tx, hit] at hn
            cases hn
          · have hg9 := tx_it_c hce hit
            obtain ⟨l2, hn2, rfl⟩ := tx_R_r hit hn
            refine wj_aload_n C 0 dX5_text_33 rfl rfl ?_
            refine wg_X5_256 C dX5_text_34 ?_
            rw [tm_12]
            refine wj_if_ne C 74 dX5_text_37 (by decide) (fun h37 => ?_) (fun h37 => ?_)
            · exact absurd rfl h37
            · refine wj_aload_n C 0 dX5_text_40 rfl rfl ?_
              refine wg_X5_245 C dX5_text_41 ?_
              rw [tm_10]
              refine wj_iconst (v := 3) C dX5_text_44 (by decide) ?_
              refine wj_icmp_ne C 74 dX5_text_45 (by decide) (fun h45 => ?_) (fun h45 => ?_)
              · exact absurd (show nI (min (tx_s f m c1) 3) = 3 by rw [hs3]; rfl) h45
              · refine wj_aload_n C 0 dX5_text_48 rfl rfl ?_
                refine wg_X5_22 C dX5_text_49 ?_
                refine wj_aload_n C 0 dX5_text_52 rfl rfl ?_
                refine wg_X5_236 C dX5_text_53 ?_
                rw [tm_8]
                refine wj_ialdN C dX5_text_56 ar_mtape ⟨by omega, by decide⟩ ?_
                rw [tm_o (by decide) (by decide), hg2]
                refine wj_bipush (v := 59) C dX5_text_57 (by decide) ?_
                refine wj_icmp_ne C 74 dX5_text_59 (by decide) (fun h59 => ?_) (fun h59 => ?_)
                · exact absurd hgb h59
                · refine wj_aload_n C 0 dX5_text_62 rfl rfl ?_
                  refine wj_iconst (v := 1) C dX5_text_63 (by decide) ?_
                  refine wj_cvf C (wj_rV C dX5_text_64 km_X5_must kl_X5_262 is_X5 rfl rfl (c_X5_must_go l V hg2 hm2 h120 ht hc1) rfl rfl (Nat.le_of_ble_eq_true rfl) (by decide)) ?_
                  refine wj_aload_n C 0 dX5_text_67 rfl rfl ?_
                  refine wj_cvf C (wj_rV C dX5_text_68 km_X5_readItem kl_X5_306 is_X5 rfl rfl (c_X5_readItem_r l V hg2 hm2 h120 ht hce (by omega) hit) rfl rfl (Nat.le_of_ble_eq_true rfl) (by decide)) ?_
                  refine wj_goto C 33 dX5_text_71 (by decide) ?_
                  exact (by have hh := ih (tx_up it n) c2 j1 _ (l0 ++ [it]) l2 hg9.1 (tx_up_8 h8 hg9.2.2.2) (by rw [List.append_assoc]; exact hl) hn2 (ty_enc_s henc); rw [List.length_append] at hh; exact hh)
        · cases hn
  rcases hit : tx_it f m N 0 with x | ⟨it, c2⟩
  · rw [tx_tx, hit] at hn
    cases hn
  · have hg9 := tx_it_c (Nat.zero_le _) hit
    obtain ⟨l2, hn2, hl2⟩ := tx_R_r hit hn
    refine wj_aload_n C 0 dX5_text_0 rfl rfl ?_
    refine wj_iconst (v := 0) C dX5_text_1 (by decide) ?_
    refine wp_X5_233 C dX5_text_2 ?_
    skip
    refine wj_aload_n C 0 dX5_text_5 rfl rfl ?_
    refine wj_iconst (v := 0) C dX5_text_6 (by decide) ?_
    refine wp_X5_256 C dX5_text_7 (by first | exact Or.inl rfl | exact Or.inr rfl | assumption) ?_
    skip
    refine wj_aload_n C 0 dX5_text_10 rfl rfl ?_
    refine wj_iconst (v := 0) C dX5_text_11 (by decide) ?_
    refine wp_X5_266 C dX5_text_12 ?_
    skip
    refine wj_aload_n C 0 dX5_text_15 rfl rfl ?_
    refine wj_aload_n C 0 dX5_text_16 rfl rfl ?_
    refine wg_X5_9 C dX5_text_17 ?_
    refine wj_iconst (v := 1) C dX5_text_20 (by decide) ?_
    refine wj_ialdN C dX5_text_21 ar_now ⟨by decide, by decide⟩ ?_
    rw [wj_u_ne (by decide), wj_u_ne (by decide), wj_u_ne (by decide), sp_mq_49, sp_mr_1, hN]
    refine wp_X5_273 C dX5_text_22 ?_
    rw [ty_in]
    refine wj_aload_n C 0 dX5_text_25 rfl rfl ?_
    refine wj_cvf C (wj_rV C dX5_text_26 km_X5_token kl_X5_259 is_X5 rfl rfl (c_X5_token l V hg2 hm2 h120 ht (Nat.zero_le _)) rfl rfl (Nat.le_of_ble_eq_true rfl) (by decide)) ?_
    refine wj_aload_n C 0 dX5_text_29 rfl rfl ?_
    refine wj_cvf C (wj_rV C dX5_text_30 km_X5_readItem kl_X5_306 is_X5 rfl rfl (c_X5_readItem_r l V hg2 hm2 h120 ht (Nat.zero_le _) (by decide) hit) rfl rfl (Nat.le_of_ble_eq_true rfl) (by decide)) ?_
    exact lp 119 (tx_up it N) c2 _ _ [it] l2 hg9.1 (tx_up_8 hN8 hg9.2.2.2) hl2.symm hn2 (ty_enc_s (l := []) (fun j it2 hj => by simp at hj))


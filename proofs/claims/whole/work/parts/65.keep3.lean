/-! a text's lane -/
theorem tx_num_lb {f : Nat → Int32} {m lo hi c x : Nat} (hc : c ≤ m) (h : tx_num f m lo hi c = .inl x) : x ≤ m := by rw [tx_num_l h]; exact hc
theorem tx_prt_lb {f : Nat → Int32} {m q lo hi d c x : Nat} (hc : c ≤ m) (h : tx_prt f m q lo hi d c = .inl x) : x ≤ m := by
  rw [tx_prt] at h
  split at h
  · exact tx_num_lb (tx_e_le hc) h
  · cases h
theorem tx_sl_lb {f : Nat → Int32} {m k c x : Nat} (hc : c ≤ m) (h : tx_sl f m k c = .inl x) : x ≤ m := by
  rw [tx_sl] at h
  split at h
  · rename_i y hy; cases h; exact tx_prt_lb hc hy
  · rename_i p c1 h1
    have g1 := tx_prt_c hc h1 (by decide)
    split at h
    · rename_i y hy; cases h; exact tx_prt_lb g1.1 hy
    · rename_i w c2 h2
      have g2 := tx_prt_c g1.1 h2 (by decide)
      split at h
      · rename_i y hy; cases h; exact tx_prt_lb g2.1 hy
      · cases h
theorem tx_it_lb {f : Nat → Int32} {m n c x : Nat} (hc : c ≤ m) (h : tx_it f m n c = .inl x) : x ≤ m := by
  have he := tx_e_le (f := f) hc
  rw [tx_it] at h
  split at h
  · rw [tx_hu] at h
    split at h
    · rename_i y hy; cases h; exact tx_num_lb he hy
    · cases h
  · split at h
    · rw [tx_le] at h
      split at h
      · rename_i y hy; cases h; exact tx_num_lb he hy
      · rename_i i c1 h1
        have g1 := tx_num_c he h1
        split at h
        · rename_i y hy; cases h; exact tx_num_lb g1.1 hy
        · rename_i p c2 h2
          have g2 := tx_num_c g1.1 h2
          split at h
          · rename_i y hy; cases h; exact tx_num_lb g2.1 hy
          · cases h
    · split at h
      · cases h; exact hc
      · split at h
        · exact tx_sl_lb he h
        · cases h; exact hc
theorem tx_tx_lb {f : Nat → Int32} {m : Nat} : ∀ q n c x, c ≤ m → tx_tx f m q n c = .inl x → x ≤ m
  | 0, n, c, x, hc, h => by rw [tx_tx] at h; cases h; exact hc
  | q + 1, n, c, x, hc, h => by
    rcases hi : tx_it f m n c with y | ⟨it, c1⟩
    · rw [tx_tx, hi] at h; cases h; exact tx_it_lb hc hi
    · have g := tx_it_c hc hi
      have h2 := tx_R_l hi h
      rw [tx_R] at h2
      split at h2
      · cases h2
      · split at h2
        · exact tx_tx_lb q _ _ x (tx_e_le g.1) h2
        · cases h2; exact g.1
theorem re_ap {A B : sp_L} {it : tx_I} {n : Nat} (h : sp_re A B) (hN : A.2.1 = nI n) (hn : n ≤ 8) (h8 : it.1 < 10 → n < 8) (ho : tx_oki it) : sp_re (tx_ap A it) (tx_ap B it) := by
  rw [tx_ap, tx_ap]
  by_cases c1 : it.1 = 10
  · rw [if_pos c1, if_pos c1]; exact re_wH h _
  · rw [if_neg c1, if_neg c1]
    by_cases c2 : it.1 = 11
    · rw [if_pos c2, if_pos c2]
      refine re_wL h (fun i hi => ?_)
      simp only [upd]
      split
      · rfl
      · exact h.2.2.2.2.1 i hi
    · rw [if_neg c2, if_neg c2, tx_ns, tx_ns, sp_N_of hN hn, sp_N_of (h.2.1.symm.trans hN) hn]
      have h9 : n < 8 := h8 (by rcases ho with g | g | g <;> omega)
      exact re_us (re_us (re_add h hN h9 _ _ _) _ _ _) _ _ _
theorem re_aps {A B : sp_L} {l : List tx_I} {n : Nat} (h : sp_re A B) (hN : A.2.1 = nI n) (hn : n ≤ 8) (ho : tx_okl n l) : sp_re (tx_aps A l) (tx_aps B l) := by
  induction l generalizing A B n with
  | nil => exact h
  | cons it l ih => exact ih (re_ap h hN hn ho.2.1 ho.1) (tx_ap_n hN hn ho.1) (tx_up_8 hn ho.2.1) ho.2.2
theorem kp_ap {A : sp_L} {it : tx_I} {n y : Nat} (g : sp_G A n y) (h8 : it.1 < 10 → n < 8) (ho : tx_oki it) : sp_G (tx_ap A it) (tx_up it n) y := by
  rw [tx_ap]
  rcases ho with ho | ho | ho
  · have h9 : n < 8 := h8 (by omega)
    rw [if_neg (by omega), if_neg (by omega), tx_ns, sp_N_of g.1 g.2.1, tx_up, if_pos (by omega)]
    have hk : sp_oks (nI it.1) (nI it.2.1) (nI it.2.2.1) := ⟨wj_rngCI (N := 6) ho.1 (by decide), wj_rngCI (N := 15) ho.2.1 (by decide), nI_le (a := 1) ho.2.2.1 (by omega), nI_le (b := 12) ho.2.2.2.1 (by decide)⟩
    have g1 := kp_add g h9 hk
    have g2 : sp_G (sp_us (sp_add A n (nI it.1) (nI it.2.1) (nI it.2.2.1)) n 2 (nI it.2.2.2.1)) (n + 1) y := sp_G_us g1 (fun hi => sp_gs_u2 (g1.2.2.2.1 n hi) ho.2.2.2.2.1)
    exact sp_G_us g2 (fun hi => sp_gs_u (g2.2.2.2.1 n hi) (Or.inr (Or.inr (Or.inl ⟨rfl, ho.2.2.2.2.2⟩))))
  · rw [if_pos ho.1, tx_up, if_neg (by omega)]
    exact ⟨g.1, g.2.1, g.2.2.1, g.2.2.2.1, g.2.2.2.2.1, g.2.2.2.2.2⟩
  · rw [if_neg (by omega), if_pos ho.1, tx_up, if_neg (by omega)]
    refine ⟨g.1, g.2.1, g.2.2.1, g.2.2.2.1, fun i hi => ?_, g.2.2.2.2.2⟩
    show 0 ≤ (upd A.2.2.2.2.1 it.2.1 (nI it.2.2.1) i).toInt ∧ (upd A.2.2.2.2.1 it.2.1 (nI it.2.2.1) i).toInt < 1600
    simp only [upd]
    split
    · rw [nI_toInt (by omega)]; omega
    · exact g.2.2.2.2.1 i hi
theorem kp_aps {A : sp_L} {l : List tx_I} {n y : Nat} (g : sp_G A n y) (ho : tx_okl n l) : ∃ M, n ≤ M ∧ sp_G (tx_aps A l) M y := by
  induction l generalizing A n with
  | nil => exact ⟨n, Nat.le_refl _, g⟩
  | cons it l ih =>
    obtain ⟨M, h1, h2⟩ := ih (kp_ap g ho.2.1 ho.1) ho.2.2
    refine ⟨M, ?_, h2⟩
    rw [tx_up] at h1
    split at h1 <;> omega
/-! sheets -/
theorem kp_sheet {S : wj_St} (h : sp_shok (sp_shC S)) (s b n : Int32) : sp_shok (sp_shC (n_sheet S s b n)) := by
  unfold n_sheet
  by_cases q : sp_ok6 s b n = true
  · rw [if_pos q]
    have q2 := of_decide_eq_true q
    obtain ⟨t, ht, rfl⟩ := wj_natC (N := 3) q2.1.1
    obtain ⟨k, hk, rfl⟩ := wj_natC (x := n) (N := 40) ⟨Int32.not_lt.mp q2.2.1, q2.2.2⟩
    rw [nI_clamp (by omega)]
    intro a ha
    obtain ⟨m, h1, h2⟩ := h a ha
    by_cases c : a = t
    · subst c
      show ∃ m, m ≤ 40 ∧ sp_ren S a b (nI k) (38 + a) 2 = nI m
      rw [sp_ren, wj_u_same]
      simp only [upd, if_true]
      by_cases hb : b = 0
      · exact ⟨0, by omega, by rw [if_pos hb]; rfl⟩
      · exact ⟨k, hk, by rw [if_neg hb]⟩
    · refine ⟨m, h1, ?_⟩
      show sp_ren S t b (nI k) (38 + a) 2 = nI m
      rw [sp_ren, wj_u_ne (by omega), wj_u_ne (by omega), wj_r_ne (by omega)]
      exact h2
  · rw [if_neg q]; exact h
theorem kp_write {S : wj_St} (h : sp_shok (sp_shC S)) (s i v : Int32) : sp_shok (sp_shC (n_write S s i v)) := by
  unfold n_write
  split
  · intro a ha
    obtain ⟨m, h1, h2⟩ := h a ha
    refine ⟨m, h1, ?_⟩
    show wj_u S _ _ _ (38 + a) 2 = nI m
    rw [wj_u_ne (by omega)]; exact h2
  · exact h
theorem kp_copy {S : wj_St} (h : sp_shok (sp_shC S)) (s f t u n : Int32) : sp_shok (sp_shC (n_copy S s f t u n)) := by
  unfold n_copy
  split
  · intro a ha
    obtain ⟨m, h1, h2⟩ := h a ha
    refine ⟨m, h1, ?_⟩
    show wj_r S _ _ (38 + a) 2 = nI m
    rw [wj_r_ne (by omega)]; exact h2
  · exact h
theorem ag_write {σ τ : wj_St} (e : sp_she (sp_shC σ) (sp_shM τ)) (o : sp_shok (sp_shC σ)) (s i v : Int32) : sp_she (sp_shC (n_write σ s i v)) (sp_shM (n_writeM τ s i v)) := by
  have hiff : sp_wok (sp_shC σ) s i ↔ sp_wok (sp_shM τ) s i := by
    refine and_congr_right (fun hs => ?_)
    obtain ⟨t, ht, rfl⟩ := wj_natC (N := 3) hs
    rw [nI_clamp (by omega), (e t (by omega)).1, (e t (by omega)).2.1]
  unfold n_write n_writeM
  by_cases q : sp_wok (sp_shC σ) s i
  · rw [if_pos q, if_pos (hiff.mp q)]
    obtain ⟨hs, hm, hi⟩ := q
    obtain ⟨t, ht, rfl⟩ := wj_natC (N := 3) hs
    rw [nI_clamp (show t < 2 ^ 31 by omega)] at hi ⊢
    obtain ⟨m, h40, hm2⟩ := o t (by omega)
    rw [hm2] at hi
    obtain ⟨k, hk, rfl⟩ := wj_natB hi (by omega)
    rw [nI_clamp (show k < 2 ^ 31 by omega)]
    intro a ha
    obtain ⟨e1, e2, e3⟩ := e a ha
    refine ⟨?_, ?_, fun j hj => ?_⟩
    · show wj_u σ (42 + t) k (sp_cut v (σ (38 + t) 1)) (38 + a) 1 = wj_u τ 57 (40 * t + k) (sp_cut v (τ 55 t)) 55 a
      rw [wj_u_ne (by omega), wj_u_ne (by decide)]; exact e1
    · show wj_u σ (42 + t) k (sp_cut v (σ (38 + t) 1)) (38 + a) 2 = wj_u τ 57 (40 * t + k) (sp_cut v (τ 55 t)) 56 a
      rw [wj_u_ne (by omega), wj_u_ne (by decide)]; exact e2
    · show wj_u σ (42 + t) k (sp_cut v (σ (38 + t) 1)) (42 + a) j = wj_u τ 57 (40 * t + k) (sp_cut v (τ 55 t)) 57 (40 * a + j)
      rw [wj_u_same]
      by_cases c : a = t
      · subst c
        rw [wj_u_same]
        simp only [upd]
        by_cases c2 : j = k
        · subst c2
          rw [if_pos rfl, if_pos rfl, show σ (38 + a) 1 = τ 55 a from e1]
        · rw [if_neg c2, if_neg (by omega)]; exact e3 j hj
      · rw [wj_u_ne (by omega)]
        simp only [upd]
        rw [if_neg (by omega)]; exact e3 j hj
  · rw [if_neg q, if_neg (fun z => q (hiff.mpr z))]; exact e
theorem ag_copy {σ τ : wj_St} (e : sp_she (sp_shC σ) (sp_shM τ)) (o : sp_shok (sp_shC σ)) (s f t u n : Int32) : sp_she (sp_shC (n_copy σ s f t u n)) (sp_shM (n_copyM τ s f t u n)) := by
  have hiff : sp_cok (sp_shC σ) s f t u n ↔ sp_cok (sp_shM τ) s f t u n := by
    refine and_congr_right (fun hs => ?_)
    obtain ⟨a, ha, rfl⟩ := wj_natC (N := 3) hs.1
    obtain ⟨b, hb, rfl⟩ := wj_natC (N := 3) hs.2
    rw [nI_clamp (show a < 2 ^ 31 by omega), nI_clamp (show b < 2 ^ 31 by omega), (e a (by omega)).1, (e a (by omega)).2.1, (e b (by omega)).1, (e b (by omega)).2.1]
  unfold n_copy n_copyM
  by_cases q : sp_cok (sp_shC σ) s f t u n
  · rw [if_pos q, if_pos (hiff.mp q)]
    obtain ⟨hs, -, -, hf1, hf2⟩ := q
    obtain ⟨a, ha, rfl⟩ := wj_natC (N := 3) hs.1
    obtain ⟨b, hb, rfl⟩ := wj_natC (N := 3) hs.2
    rw [nI_clamp (show a < 2 ^ 31 by omega)] at hf1 ⊢
    rw [nI_clamp (show b < 2 ^ 31 by omega)] at hf2 ⊢
    obtain ⟨ma, h40a, hma⟩ := o a (by omega)
    obtain ⟨mb, h40b, hmb⟩ := o b (by omega)
    rw [hma] at hf1
    rw [hmb] at hf2
    obtain ⟨-, -, g1⟩ := sp_has h40a hf1
    obtain ⟨-, -, g2⟩ := sp_has h40b hf2
    generalize f.toNatClampNeg = F at g1 ⊢
    generalize u.toNatClampNeg = U at g2 ⊢
    generalize n.toNatClampNeg = M at g1 g2 ⊢
    intro c hc
    obtain ⟨e1, e2, e3⟩ := e c hc
    refine ⟨?_, ?_, fun j hj => ?_⟩
    · show wj_r σ (42 + b) (va_cpy (σ (42 + a)) (σ (42 + b)) F U M) (38 + c) 1 = sp_cpM τ (40 * a + F) (40 * b + U) M M 55 c
      rw [wj_r_ne (by omega), sp_cpM, wj_r_ne (by decide), wj_r_ne (by decide)]; exact e1
    · show wj_r σ (42 + b) (va_cpy (σ (42 + a)) (σ (42 + b)) F U M) (38 + c) 2 = sp_cpM τ (40 * a + F) (40 * b + U) M M 56 c
      rw [wj_r_ne (by omega), sp_cpM, wj_r_ne (by decide), wj_r_ne (by decide)]; exact e2
    · show wj_r σ (42 + b) (va_cpy (σ (42 + a)) (σ (42 + b)) F U M) (42 + c) j = sp_cpM τ (40 * a + F) (40 * b + U) M M 57 (40 * c + j)
      rw [sp_cpM, wj_r_same]
      by_cases cb : c = b
      · subst cb
        rw [wj_r_same]
        simp only [va_cpy]
        by_cases r : U ≤ j ∧ j < U + M
        · rw [if_pos r, if_pos (by omega)]
          have h3 := (e a (by omega)).2.2 (F + (j - U)) (by omega)
          have h4 : σ (42 + a) (F + (j - U)) = τ 57 (40 * a + (F + (j - U))) := h3
          rw [h4, sp_mv, va_cpy, if_pos (by omega)]
          congr 1
          omega
        · rw [if_neg r, if_neg (by omega)]; exact e3 j hj
      · rw [wj_r_ne (by omega)]
        simp only [va_cpy]
        rw [if_neg (by omega)]; exact e3 j hj
  · rw [if_neg q, if_neg (fun z => q (hiff.mpr z))]; exact e
theorem st_c {f tl : Nat → Int32} (h : ∀ w, w < 7 → f w = tl w) (w : Int32) : a_status f w = a_status tl w := by
  unfold a_status
  rw [sp_tot_c 7 h]
  split
  · rfl
  · split
    · rename_i q
      obtain ⟨t, ht, rfl⟩ := wj_natC (N := 6) q
      rw [nI_clamp (by omega), h t (by omega)]
    · rfl
theorem lt7_r {v : Int32} : lt7 (.inr v) := fun _ h => by cases h
theorem lt7_l {w : Nat} (h : w < 7) : lt7 (.inl w) := fun _ e => by cases e; exact h
theorem lt7_first (p : Nat → Bool) : lt7 (a_first p) := by
  unfold a_first; split
  · exact lt7_r
  · exact lt7_l (by decide)
theorem lt7_wf (p : Nat → Bool) : lt7 (a_wf p) := by
  unfold a_wf; split
  · exact lt7_r
  · exact lt7_l (by decide)
theorem lt7_lb (p : Option Nat) : lt7 (a_lb p) := by
  cases p with
  | none => exact lt7_l (by decide)
  | some b => exact lt7_r
theorem lt7_hurdles (A : sp_L) (x : Int32) : lt7 (a_hurdles A x) := by
  unfold a_hurdles
  repeat' split
  all_goals first | with_reducible exact lt7_r | with_reducible exact lt7_first _ | with_reducible exact lt7_wf _ | with_reducible exact lt7_lb _ | exact lt7_l (by decide)
theorem lt7_place (A : sp_L) (p w : Int32) : lt7 (a_place A p w) := by
  unfold a_place
  repeat' split
  all_goals first | with_reducible exact lt7_r | with_reducible exact lt7_first _ | with_reducible exact lt7_wf _ | with_reducible exact lt7_lb _ | exact lt7_l (by decide)
theorem lt7_lean (A : sp_L) (i p w : Int32) : lt7 (a_lean A i p w) := by
  unfold a_lean
  repeat' split
  all_goals first | with_reducible exact lt7_r | with_reducible exact lt7_first _ | with_reducible exact lt7_wf _ | with_reducible exact lt7_lb _ | exact lt7_l (by decide)
theorem lt7_leaning (A : sp_L) (i : Int32) : lt7 (a_leaning A i) := by
  unfold a_leaning
  repeat' split
  all_goals first | with_reducible exact lt7_r | with_reducible exact lt7_first _ | with_reducible exact lt7_wf _ | with_reducible exact lt7_lb _ | exact lt7_l (by decide)
theorem lt7_slip (A : sp_L) (k p w : Int32) : lt7 (a_slip A k p w) := by
  unfold a_slip
  repeat' split
  all_goals first | with_reducible exact lt7_r | with_reducible exact lt7_first _ | with_reducible exact lt7_wf _ | with_reducible exact lt7_lb _ | exact lt7_l (by decide)
theorem lt7_of (A : sp_L) (x w : Int32) : lt7 (a_of A x w) := by
  unfold a_of
  repeat' split
  all_goals first | with_reducible exact lt7_r | with_reducible exact lt7_first _ | with_reducible exact lt7_wf _ | with_reducible exact lt7_lb _ | exact lt7_l (by decide)
theorem lt7_change (A : sp_L) (x w v : Int32) : lt7 (a_change A x w v) := by
  unfold a_change
  repeat' split
  all_goals first | with_reducible exact lt7_r | with_reducible exact lt7_first _ | with_reducible exact lt7_wf _ | with_reducible exact lt7_lb _ | exact lt7_l (by decide)
theorem lt7_cut (A : sp_L) (x v : Int32) : lt7 (a_cut A x v) := by
  unfold a_cut
  repeat' split
  all_goals first | with_reducible exact lt7_r | with_reducible exact lt7_first _ | with_reducible exact lt7_wf _ | with_reducible exact lt7_lb _ | exact lt7_l (by decide)
theorem lt7_go (A : sp_L) (n : Int32) : lt7 (a_go A n) := by
  unfold a_go
  repeat' split
  all_goals first | with_reducible exact lt7_r | with_reducible exact lt7_first _ | with_reducible exact lt7_wf _ | with_reducible exact lt7_lb _ | exact lt7_l (by decide)
theorem lt7_now (A : sp_L) (w : Int32) : lt7 (a_now A w) := by
  unfold a_now
  repeat' split
  all_goals first | with_reducible exact lt7_r | with_reducible exact lt7_first _ | with_reducible exact lt7_wf _ | with_reducible exact lt7_lb _ | exact lt7_l (by decide)
theorem lt7_ahead (A : sp_L) (x w n : Int32) : lt7 (a_ahead A x w n) := by
  unfold a_ahead
  repeat' split
  all_goals first | with_reducible exact lt7_r | with_reducible exact lt7_first _ | with_reducible exact lt7_wf _ | with_reducible exact lt7_lb _ | exact lt7_l (by decide)
theorem lt7_strong (A : sp_L) (p n : Int32) : lt7 (a_strong A p n) := by
  unfold a_strong
  repeat' split
  all_goals first | with_reducible exact lt7_r | with_reducible exact lt7_first _ | with_reducible exact lt7_wf _ | with_reducible exact lt7_lb _ | exact lt7_l (by decide)
theorem lt7_closed (A : sp_L) (p : Int32) : lt7 (a_closed A p) := by
  unfold a_closed
  repeat' split
  all_goals first | with_reducible exact lt7_r | with_reducible exact lt7_first _ | with_reducible exact lt7_wf _ | with_reducible exact lt7_lb _ | exact lt7_l (by decide)
theorem lt7_whole (A : sp_L) : lt7 (a_whole A) := by
  exact lt7_first _
theorem lt7_breaks (A : sp_L) (x : Int32) : lt7 (a_breaks A x) := by
  unfold a_breaks
  repeat' split
  all_goals first | with_reducible exact lt7_r | with_reducible exact lt7_first _ | with_reducible exact lt7_wf _ | with_reducible exact lt7_lb _ | exact lt7_l (by decide)
theorem lt7_few (A : sp_L) (x : Int32) (f M : Nat) (n : Int32) : lt7 (a_few A x f M n) := by
  unfold a_few
  repeat' split
  all_goals first | with_reducible exact lt7_r | with_reducible exact lt7_first _ | with_reducible exact lt7_wf _ | with_reducible exact lt7_lb _ | exact lt7_l (by decide)
theorem lt7_kindFor (A : sp_L) (x n : Int32) : lt7 (a_kindFor A x n) := by
  unfold a_kindFor
  repeat' split
  all_goals first | with_reducible exact lt7_r | with_reducible exact lt7_first _ | with_reducible exact lt7_wf _ | with_reducible exact lt7_lb _ | exact lt7_l (by decide)
theorem lt7_weightFor (A : sp_L) (i n : Int32) : lt7 (a_weightFor A i n) := by
  unfold a_weightFor
  repeat' split
  all_goals first | with_reducible exact lt7_r | with_reducible exact lt7_first _ | with_reducible exact lt7_wf _ | with_reducible exact lt7_lb _ | exact lt7_l (by decide)
theorem lt7_layAll (A : sp_L) (n : Int32) : lt7 (a_layAll A n) := by
  unfold a_layAll
  repeat' split
  all_goals first | with_reducible exact lt7_r | with_reducible exact lt7_first _ | with_reducible exact lt7_wf _ | with_reducible exact lt7_lb _ | exact lt7_l (by decide)
theorem lt7_hurdlesFor (A : sp_L) (n : Int32) : lt7 (a_hurdlesFor A n) := by
  unfold a_hurdlesFor
  repeat' split
  all_goals first | with_reducible exact lt7_r | with_reducible exact lt7_first _ | with_reducible exact lt7_wf _ | with_reducible exact lt7_lb _ | exact lt7_l (by decide)
theorem lt7_cb (H : sp_Sh) (A : sp_L) (s x : Int32) (f lo hi : Nat) : lt7 (a_cb H A s x f lo hi) := by
  unfold a_cb
  repeat' split
  all_goals first | with_reducible exact lt7_r | with_reducible exact lt7_first _ | with_reducible exact lt7_wf _ | with_reducible exact lt7_lb _ | exact lt7_l (by decide)
theorem lt7_fits (H : sp_Sh) (A : sp_L) (s x : Int32) : lt7 (a_fits H A s x) := by
  unfold a_fits
  repeat' split
  all_goals first | with_reducible exact lt7_r | with_reducible exact lt7_first _ | with_reducible exact lt7_wf _ | with_reducible exact lt7_lb _ | exact lt7_l (by decide)
theorem lt7_leans (z : Int32) (A : sp_L) (n : Int32) : lt7 (a_leans z A n) := by
  unfold a_leans
  repeat' split
  all_goals first | with_reducible exact lt7_r | with_reducible exact lt7_first _ | with_reducible exact lt7_wf _ | with_reducible exact lt7_lb _ | exact lt7_l (by decide)
theorem lt7_feed (m : Nat) (n : Int32) : lt7 (a_feed m n) := by
  unfold a_feed
  repeat' split
  all_goals first | with_reducible exact lt7_r | with_reducible exact lt7_first _ | with_reducible exact lt7_wf _ | with_reducible exact lt7_lb _ | exact lt7_l (by decide)
theorem lt7_hold (A : sp_L) (p x : Int32) : lt7 (a_hold A p x) := by
  unfold a_hold
  repeat' split
  all_goals first | with_reducible exact lt7_r | with_reducible exact lt7_first _ | with_reducible exact lt7_wf _ | with_reducible exact lt7_lb _ | exact lt7_l (by decide)
theorem lt7_as (f : Nat → Int32) (A : sp_L) (p k : Int32) : lt7 (a_as f A p k) := by
  unfold a_as
  repeat' split
  all_goals first | with_reducible exact lt7_r | with_reducible exact lt7_first _ | with_reducible exact lt7_wf _ | with_reducible exact lt7_lb _ | exact lt7_l (by decide)
theorem lt7_sheet (s b n : Int32) : lt7 (a_sheet s b n) := by
  unfold a_sheet
  repeat' split
  all_goals first | with_reducible exact lt7_r | with_reducible exact lt7_first _ | with_reducible exact lt7_wf _ | with_reducible exact lt7_lb _ | exact lt7_l (by decide)
theorem lt7_write (H : sp_Sh) (s i : Int32) : lt7 (a_write H s i) := by
  unfold a_write
  repeat' split
  all_goals first | with_reducible exact lt7_r | with_reducible exact lt7_first _ | with_reducible exact lt7_wf _ | with_reducible exact lt7_lb _ | exact lt7_l (by decide)
theorem lt7_copy (H : sp_Sh) (s f t u n : Int32) : lt7 (a_copy H s f t u n) := by
  unfold a_copy
  repeat' split
  all_goals first | with_reducible exact lt7_r | with_reducible exact lt7_first _ | with_reducible exact lt7_wf _ | with_reducible exact lt7_lb _ | exact lt7_l (by decide)
theorem lt7_load (H : sp_Sh) (s : Int32) : lt7 (a_load H s) := by
  unfold a_load
  repeat' split
  all_goals first | with_reducible exact lt7_r | with_reducible exact lt7_first _ | with_reducible exact lt7_wf _ | with_reducible exact lt7_lb _ | exact lt7_l (by decide)
theorem lt7_judge (H : sp_Sh) (A : sp_L) (s : Int32) : lt7 (a_judge H A s) := by
  unfold a_judge
  repeat' split
  all_goals first | with_reducible exact lt7_r | with_reducible exact lt7_first _ | with_reducible exact lt7_wf _ | with_reducible exact lt7_lb _ | exact lt7_l (by decide)
theorem lt7_count (A : sp_L) (m z : Int32) (u : Nat) (w : Int32) : lt7 (a_count A m z u w) := by
  unfold a_count
  repeat' split
  all_goals first | with_reducible exact lt7_r | with_reducible exact lt7_first _ | with_reducible exact lt7_wf _ | with_reducible exact lt7_lb _ | exact lt7_l (by decide)
theorem lt7_status (f : Nat → Int32) (w : Int32) : lt7 (a_status f w) := by
  unfold a_status
  repeat' split
  all_goals first | with_reducible exact lt7_r | with_reducible exact lt7_first _ | with_reducible exact lt7_wf _ | with_reducible exact lt7_lb _ | exact lt7_l (by decide)

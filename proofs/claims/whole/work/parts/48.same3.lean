theorem re_rg {A B : sp_L} (h : sp_re A B) (x : Int32) : sp_rg A x ↔ sp_rg B x := by rw [sp_rg, sp_rg, h.2.1]
theorem re_in {A B : sp_L} (h : sp_re A B) {N y : Nat} (g : sp_G A N y) {x : Int32} (q : sp_rg A x) : ∃ i, i < N ∧ x = nI i ∧ sp_ag (sp_sl A i) (sp_sl B i) := by
  obtain ⟨i, hi, rfl⟩ := sp_rgi g.1 g.2.1 q
  exact ⟨i, hi, rfl, re_s h (by rw [sp_N_of g.1 g.2.1]; exact hi)⟩
theorem re_a_leaning {A B : sp_L} (h : sp_re A B) (i : Int32) : a_leaning A i = a_leaning B i := by
  unfold a_leaning
  by_cases q : 0 ≤ i ∧ i ≤ 5
  · rw [if_pos q, if_pos q]
    obtain ⟨k, hk, rfl⟩ := wj_natC (N := 5) q
    rw [nI_clamp (by omega), show sp_ls A k = sp_ls B k from h.2.2.2.2.1 k (by omega)]
  · rw [if_neg q, if_neg q]
theorem re_a_of {A B : sp_L} (h : sp_re A B) {N y : Nat} (g : sp_G A N y) (x w : Int32) : a_of A x w = a_of B x w := by
  unfold a_of
  by_cases q : sp_rg A x ∧ 0 ≤ w ∧ w ≤ 11
  · rw [if_pos q, if_pos ⟨(re_rg h x).mp q.1, q.2⟩]
    obtain ⟨i, hi, rfl, ha⟩ := re_in h g q.1
    have := g.2.1
    rw [nI_clamp (by omega), ag_tra ha, h.1]
  · rw [if_neg q, if_neg (fun z => q ⟨(re_rg h x).mpr z.1, z.2⟩)]
theorem re_a_change {A B : sp_L} (h : sp_re A B) {N y : Nat} (g : sp_G A N y) (x w v : Int32) : a_change A x w v = a_change B x w v ∧ sp_re (n_change A x w v) (n_change B x w v) := by
  unfold a_change n_change
  by_cases q : sp_rg A x ∧ sp_lst w ≤ v ∧ v ≤ sp_mst w
  · have q2 := (⟨(re_rg h x).mp q.1, q.2⟩ : sp_rg B x ∧ sp_lst w ≤ v ∧ v ≤ sp_mst w)
    rw [if_pos q, if_pos q2, if_pos q, if_pos q2]
    obtain ⟨i, hi, rfl, ha⟩ := re_in h g q.1
    have := g.2.1
    rw [nI_clamp (by omega), ag_tra ha, h.1]
    exact ⟨rfl, re_us h _ _ _⟩
  · have q2 : ¬ (sp_rg B x ∧ sp_lst w ≤ v ∧ v ≤ sp_mst w) := fun z => q ⟨(re_rg h x).mpr z.1, z.2⟩
    rw [if_neg q, if_neg q2, if_neg q, if_neg q2]
    exact ⟨rfl, h⟩
theorem re_a_cut {A B : sp_L} (h : sp_re A B) {N y : Nat} (g : sp_G A N y) (x v : Int32) : a_cut A x v = a_cut B x v ∧ sp_re (n_cut A x v) (n_cut B x v) := by
  unfold a_cut n_cut
  by_cases q : sp_rg A x ∧ 0 ≤ v ∧ v ≤ 199
  · have q2 := (⟨(re_rg h x).mp q.1, q.2⟩ : sp_rg B x ∧ 0 ≤ v ∧ v ≤ 199)
    rw [if_pos q, if_pos q2, if_pos q, if_pos q2]
    obtain ⟨i, hi, rfl, ha⟩ := re_in h g q.1
    have := g.2.1
    rw [nI_clamp (by omega), ha 2 (by decide)]
    exact ⟨rfl, re_us h _ _ _⟩
  · have q2 : ¬ (sp_rg B x ∧ 0 ≤ v ∧ v ≤ 199) := fun z => q ⟨(re_rg h x).mpr z.1, z.2⟩
    rw [if_neg q, if_neg q2, if_neg q, if_neg q2]
    exact ⟨rfl, h⟩
theorem re_a_slip {A B : sp_L} (h : sp_re A B) {N y : Nat} (g : sp_G A N y) (k p w : Int32) : a_slip A k p w = a_slip B k p w ∧ sp_re (n_slip A k p w) (n_slip B k p w) := by
  unfold a_slip n_slip
  rw [← re_N h, ← h.2.1]
  refine ⟨rfl, ?_⟩
  by_cases q : sp_oks k p w ∧ sp_N A < 8
  · rw [if_pos q, if_pos q]
    have hN := sp_N_of g.1 g.2.1
    rw [hN] at q ⊢
    exact re_add h g.1 q.2 k p w
  · rw [if_neg q, if_neg q]; exact h
theorem re_a_hold {A B : sp_L} (h : sp_re A B) (p x : Int32) : a_hold A p x = a_hold B p x := by
  unfold a_hold sp_rg
  rw [h.2.1]
theorem re_a_as {A B : sp_L} (h : sp_re A B) {N y : Nat} (g : sp_G A N y) {f f2 : Nat → Int32} (hf : ∀ p, p < 10 → f p = f2 p) (p k : Int32) : a_as f A p k = a_as f2 B p k := by
  unfold a_as
  by_cases q : (0 ≤ p ∧ p ≤ 9) ∧ 0 ≤ k ∧ k ≤ 6
  · rw [if_pos q, if_pos q]
    obtain ⟨i, hi, rfl⟩ := wj_natC (N := 9) q.1
    rw [nI_clamp (by omega), ← hf i (by omega)]
    by_cases r : sp_rg A (f i)
    · rw [if_pos r, if_pos ((re_rg h _).mp r)]
      obtain ⟨j, hj, ej, ha⟩ := re_in h g r
      have := g.2.1
      rw [ej, nI_clamp (by omega), ha 0 (by decide)]
    · rw [if_neg r, if_neg (fun z => r ((re_rg h _).mpr z))]
  · rw [if_neg q, if_neg q]
theorem sp_use_c {f f2 : Nat → Int32} : ∀ n, (∀ p, p < n → f p = f2 p) → sp_use f n = sp_use f2 n
  | 0, _ => rfl
  | n + 1, hf => by rw [sp_use, sp_use, hf n (by omega), sp_use_c n (fun p hp => hf p (by omega))]
theorem re_a_count {A B : sp_L} (h : sp_re A B) {m m2 z z2 : Int32} {u u2 : Nat} (e1 : m = m2) (e2 : z = z2) (e3 : u = u2) (w : Int32) : a_count A m z u w = a_count B m2 z2 u2 w := by
  subst e1; subst e2; subst e3
  unfold a_count
  rw [h.1, h.2.1, re_gn h, h.2.2.2.1, re_sum h 6 _ (Nat.le_refl _), re_N h]
theorem sp_tot_c {f f2 : Nat → Int32} : ∀ n, (∀ p, p < n → f p = f2 p) → sp_tot f n = sp_tot f2 n
  | 0, _ => rfl
  | n + 1, hf => by rw [sp_tot, sp_tot, hf n (by omega), sp_tot_c n (fun p hp => hf p (by omega))]
theorem re_a_status {f f2 : Nat → Int32} (h0 : f2 0 = sp_tot f 7) (h1 : ∀ w, w < 7 → f w = f2 (w + 1)) (w : Int32) : a_status f w = a_statusM f2 w := by
  unfold a_status a_statusM
  by_cases e : w = -1
  · subst e
    rw [if_pos rfl, if_pos (by decide), show (-1 + 1 : Int32).toNatClampNeg = 0 by decide +kernel, h0]
  · rw [if_neg e]
    by_cases q : 0 ≤ w ∧ w ≤ 6
    · rw [if_pos q, if_pos ⟨Int32.le_trans (by decide) q.1, q.2⟩]
      obtain ⟨t, ht, rfl⟩ := wj_natC (N := 6) q
      rw [nI_1, nI_clamp (by omega), nI_clamp (by omega), h1 t (by omega)]
    · rw [if_neg q, if_neg]
      intro z
      obtain ⟨t, ht, et⟩ := sp_nm1 z
      apply q
      refine ⟨?_, z.2⟩
      have h2 := Int32.le_iff_toInt_le.mp z.1
      rw [show (-1 : Int32).toInt = -1 by decide] at h2
      rw [Int32.le_iff_toInt_le, Int32.toInt_zero]
      have h3 : w.toInt ≠ -1 := fun r => e (Int32.toInt_inj.mp (by rw [r]; decide))
      omega

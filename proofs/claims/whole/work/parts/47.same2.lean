theorem re_G2 {A B : sp_L} (h : sp_re A B) {N y : Nat} (g : sp_G A N y) (hy : y < 90000) : sp_G B N y := re_G h g
theorem re_a_kindFor {A B : sp_L} (h : sp_re A B) {N y : Nat} (g : sp_G A N y) (hy : y < 90000) (x n : Int32) : a_kindFor A x n = a_kindFor B x n := by
  unfold a_kindFor
  rw [← h.2.1]
  split
  · rename_i q
    have q1 := q.1
    rw [g.1] at q1
    obtain ⟨i, hi, rfl⟩ := wj_natB q1 (by have := g.2.1; omega)
    obtain ⟨m, hm, rfl⟩ := wj_natC (N := 60) q.2
    have hN8 := g.2.1
    rw [nI_clamp (by omega), nI_clamp (by omega)]
    have e : sp_kg A i m = sp_kg B i m := funext fun v => by
      rw [sp_kg, sp_kg, re_s h (by rw [sp_N_of g.1 g.2.1]; exact hi) 1 (by decide)]
      exact re_stg (re_yrs (re_us h _ _ _) g.2.2.1 m (by omega)) _
    rw [e]
  · rfl
theorem re_wbL {A B : sp_L} (h : sp_re A B) {i : Nat} (hi : i < 6) (w : Int32) : sp_re (sp_wb A i w) (sp_wb B i w) := re_wL h (fun j hj => by
  rw [show sp_ls A i = sp_ls B i from h.2.2.2.2.1 i hi]
  simp only [upd]
  split
  · rfl
  · exact h.2.2.2.2.1 j hj)
theorem re_a_weightFor {A B : sp_L} (h : sp_re A B) {N y : Nat} (g : sp_G A N y) (hy : y < 90000) (x n : Int32) : a_weightFor A x n = a_weightFor B x n := by
  unfold a_weightFor
  split
  · rename_i q
    obtain ⟨i, hi, rfl⟩ := wj_natC (N := 5) q.1
    obtain ⟨m, hm, rfl⟩ := wj_natC (N := 60) q.2
    rw [nI_clamp (by omega), nI_clamp (by omega)]
    have e : sp_wq A i m = sp_wq B i m := funext fun t => by
      rw [sp_wq, sp_wq, (re_yrs (re_wbL h (by omega) _) g.2.2.1 m (by omega)).2.2.2.1, h.2.2.2.1]
    rw [e]
  · rfl
theorem re_a_layAll {A B : sp_L} (h : sp_re A B) {N y : Nat} (g : sp_G A N y) (hy : y < 90000) (n : Int32) : a_layAll A n = a_layAll B n := by
  unfold a_layAll
  split
  · rename_i q
    obtain ⟨m, hm, rfl⟩ := wj_natC (N := 40) q
    rw [nI_clamp (by omega), ← re_N h]
    have e : sp_lo2 A m = sp_lo2 B m := funext fun s => by
      rw [sp_lo2, sp_lo2, ← re_N h, re_gap (re_yrs (re_layN h _ _) g.2.2.1 m (by omega))]
    rw [e]
  · rfl
theorem re_yxT {A B : sp_L} (h : sp_re A B) : sp_re (sp_yx true A) (sp_yx true B) := by
  unfold sp_yx
  rw [if_pos rfl, if_pos rfl, re_N h, h.1]
  exact re_wY (re_grN h _) _
theorem re_yxsT {A B : sp_L} (h : sp_re A B) : ∀ m, sp_re (sp_yxs true A m) (sp_yxs true B m)
  | 0 => h
  | m + 1 => re_yxT (re_yxsT h m)
theorem re_a_hurdlesFor {A B : sp_L} (h : sp_re A B) (n : Int32) : a_hurdlesFor A n = a_hurdlesFor B n := by
  unfold a_hurdlesFor
  rw [re_gn (re_yxsT (re_wH h 0) n.toNatClampNeg)]
theorem re_a_leans {A B : sp_L} (h : sp_re A B) {N y : Nat} (g : sp_G A N y) (hy : y < 90000) (z n : Int32) : a_leans z A n = a_leans z B n ∧ z_leans z A n = z_leans z B n ∧ sp_re (n_leans z A n) (n_leans z B n) := by
  unfold a_leans z_leans n_leans
  by_cases q : 1 ≤ n ∧ n ≤ 20
  · obtain ⟨m, _, hm, rfl⟩ := sp_nat1 (M := 20) q
    rw [if_pos q, if_pos q, if_pos q, if_pos q, if_pos q, if_pos q, nI_clamp (by omega)]
    obtain ⟨e1, e2⟩ := re_lz h z g m (by omega)
    exact ⟨by rw [re_gap e2], e1, e2⟩
  · rw [if_neg q, if_neg q, if_neg q, if_neg q, if_neg q, if_neg q]
    exact ⟨rfl, rfl, h⟩
theorem re_a_odds {A B : sp_L} (h : sp_re A B) (w n t : Int32) : a_odds A w n t = a_odds B w n t := by
  unfold a_odds
  rw [re_pb h w 16]
theorem re_a_place {A B : sp_L} (h : sp_re A B) (p w : Int32) : a_place A p w = a_place B p w := by
  unfold a_place sp_pl
  rw [re_stg h, re_gap h, re_si h p _ (Nat.le_refl _), re_co h p _ (Nat.le_refl _), re_N h]
theorem re_a_lean {A B : sp_L} (h : sp_re A B) (i p w : Int32) : a_lean A i p w = a_lean B i p w ∧ sp_re (n_lean A i p w) (n_lean B i p w) := by
  unfold a_lean n_lean
  by_cases q : (0 ≤ i ∧ i ≤ 5) ∧ (0 ≤ p ∧ p ≤ 15) ∧ 0 ≤ w ∧ w ≤ 99
  · rw [if_pos q, if_pos q, if_pos q, if_pos q]
    obtain ⟨k, hk, rfl⟩ := wj_natC (N := 5) q.1
    rw [nI_clamp (by omega)]
    refine ⟨by rw [show sp_ls A k = sp_ls B k from h.2.2.2.2.1 k (by omega)], re_wL h (fun j hj => ?_)⟩
    simp only [upd]
    split
    · rfl
    · exact h.2.2.2.2.1 j hj
  · rw [if_neg q, if_neg q, if_neg q, if_neg q]
    exact ⟨rfl, h⟩
theorem re_a_now {A B : sp_L} (h : sp_re A B) (w : Int32) : a_now A w = a_now B w := by
  unfold a_now
  rw [h.1, re_gap h, h.2.2.2.1, h.2.2.1, re_wk h, re_sum h 3 _ (Nat.le_refl _), re_sum h 6 _ (Nat.le_refl _), re_sum h 2 _ (Nat.le_refl _), re_N h]
theorem re_n_go {A B : sp_L} (h : sp_re A B) {N y : Nat} (g : sp_G A N y) (hy : y < 90000) (n : Int32) : sp_re (n_go A n) (n_go B n) := by
  unfold n_go
  by_cases q : 1 ≤ n ∧ n ≤ 60
  · obtain ⟨m, _, hm, rfl⟩ := sp_nat1 (M := 60) q
    rw [if_pos q, if_pos q, nI_clamp (by omega)]
    exact re_ysN h g hy m (by omega)
  · rw [if_neg q, if_neg q]; exact h
theorem re_a_hurdles {A B : sp_L} (h : sp_re A B) (x : Int32) : a_hurdles A x = a_hurdles B x ∧ sp_re (n_hurdles A x) (n_hurdles B x) := by
  unfold a_hurdles n_hurdles
  rw [h.2.2.1]
  refine ⟨rfl, ?_⟩
  split
  · exact re_wH h x
  · exact h

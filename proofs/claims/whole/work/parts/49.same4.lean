/-! sheets that agree -/
def sp_she (H K : sp_Sh) : Prop := ∀ s, s < 4 → H.1 s = K.1 s ∧ H.2.1 s = K.2.1 s ∧ ∀ k, k < 40 → H.2.2 s k = K.2.2 s k
theorem she_ok {H K : sp_Sh} (e : sp_she H K) (o : sp_shok H) : sp_shok K := fun s hs => by
  obtain ⟨m, h1, h2⟩ := o s hs
  exact ⟨m, h1, by rw [← (e s hs).2.1]; exact h2⟩
theorem sp_hs_c {f f2 : Nat → Int32} {A : sp_L} {i : Nat} : ∀ m, (∀ k, k < m → f k = f2 k) → sp_hs f A i m = sp_hs f2 A i m
  | 0, _ => rfl
  | m + 1, hf => by rw [sp_hs, sp_hs, sp_hs_c m (fun k hk => hf k (by omega)), hf m (by omega)]
theorem sp_ss_c {f f2 : Nat → Int32} {A : sp_L} : ∀ m, (∀ k, k < m → f k = f2 k) → sp_ss f A m = sp_ss f2 A m
  | 0, _ => rfl
  | m + 1, hf => by rw [sp_ss, sp_ss, sp_ss_c m (fun k hk => hf k (by omega)), hf m (by omega)]
theorem sp_ors_c {p q : Nat → Bool} : ∀ n, (∀ k, k < n → p k = q k) → sp_ors p n = sp_ors q n
  | 0, _ => rfl
  | n + 1, hf => by rw [sp_ors, sp_ors, hf n (by omega), sp_ors_c n (fun k hk => hf k (by omega))]
theorem she_cb {A B : sp_L} (h : sp_re A B) {N y : Nat} (g : sp_G A N y) (hy : y < 90000) {H K : sp_Sh} (e : sp_she H K) (o : sp_shok H) (s x : Int32) (f lo hi : Nat) : a_cb H A s x f lo hi = a_cb K B s x f lo hi := by
  unfold a_cb
  by_cases q : 0 ≤ s ∧ s ≤ 3
  · rw [if_pos q, if_pos q]
    obtain ⟨t, ht, rfl⟩ := wj_natC (N := 3) q
    obtain ⟨m, h40, hm⟩ := o t (by omega)
    obtain ⟨e1, e2, e3⟩ := e t (by omega)
    rw [nI_clamp (by omega), ← e1, ← e2, hm, nI_clamp (by omega), ← h.2.1]
    by_cases r : 0 ≤ x ∧ x ≤ A.2.1 - 1
    · rw [if_pos r, if_pos r]
      have r2 := r
      rw [g.1] at r2
      obtain ⟨i, hi0, rfl⟩ := wj_natB r2 (by have := g.2.1; omega)
      have hN8 := g.2.1
      rw [nI_clamp (by omega)]
      have eo : sp_ors (fun v => decide (lo ≤ v) && sp_hs (H.2.2 t) (sp_us A i f (nI v)) i m) (hi + 1) = sp_ors (fun v => decide (lo ≤ v) && sp_hs (K.2.2 t) (sp_us B i f (nI v)) i m) (hi + 1) := sp_ors_c _ (fun v _ => by
        rw [sp_hs_c m (fun k hk => e3 k (by omega)), re_hs (re_us h i f (nI v)) (by rw [sp_N_of (A := sp_us A i f (nI v)) g.1 g.2.1]; exact hi0) g.2.2.1 m (by omega)])
      rw [eo]
    · rw [if_neg r, if_neg r]
  · rw [if_neg q, if_neg q]
theorem she_fits {A B : sp_L} (h : sp_re A B) {N y : Nat} (g : sp_G A N y) (hy : y < 90000) {H K : sp_Sh} (e : sp_she H K) (o : sp_shok H) (s x : Int32) : a_fits H A s x = a_fits K B s x := by
  unfold a_fits
  by_cases q : 0 ≤ s ∧ s ≤ 3
  · rw [if_pos q, if_pos q]
    obtain ⟨t, ht, rfl⟩ := wj_natC (N := 3) q
    obtain ⟨m, h40, hm⟩ := o t (by omega)
    obtain ⟨e1, e2, e3⟩ := e t (by omega)
    rw [nI_clamp (by omega), ← e1, ← e2, hm, nI_clamp (by omega), ← h.2.1]
    have eo : sp_ors (fun v => sp_ss (H.2.2 t) (sp_us A x.toNatClampNeg 1 (nI v)) (min m 16)) 16 = sp_ors (fun v => sp_ss (K.2.2 t) (sp_us B x.toNatClampNeg 1 (nI v)) (min m 16)) 16 := sp_ors_c _ (fun v _ => by
      rw [sp_ss_c _ (fun k hk => e3 k (by omega)), re_ss (re_us h _ 1 (nI v))])
    rw [eo]
  · rw [if_neg q, if_neg q]
theorem she_judge {A B : sp_L} (h : sp_re A B) {N y : Nat} (g : sp_G A N y) (hy : y < 90000) {H K : sp_Sh} (e : sp_she H K) (o : sp_shok H) (s : Int32) : a_judge H A s = a_judge K B s := by
  unfold a_judge
  by_cases q : 0 ≤ s ∧ s ≤ 3
  · rw [if_pos q, if_pos q]
    obtain ⟨t, ht, rfl⟩ := wj_natC (N := 3) q
    obtain ⟨m, h40, hm⟩ := o t (by omega)
    obtain ⟨e1, e2, e3⟩ := e t (by omega)
    rw [nI_clamp (by omega), ← e1, ← e2, hm, nI_clamp (by omega)]
    have ej : ∀ k, k < m → sp_jp A (H.2.2 t) k = sp_jp B (K.2.2 t) k := fun k hk => by
      rw [sp_jp, sp_jp, ← re_N h, e3 k (by omega)]
      by_cases c : k < sp_N A
      · rw [re_s h c 3 (by decide)]
      · have z1 : ¬ (k < sp_N A ∧ sp_sl A k 3 = K.2.2 t k) := fun z => c z.1
        have z2 : ¬ (k < sp_N A ∧ sp_sl B k 3 = K.2.2 t k) := fun z => c z.1
        rw [decide_eq_true z1, decide_eq_true z2]
    rw [sp_jd, sp_jd, fa_first_c ej]
  · rw [if_neg q, if_neg q]
theorem she_load {A B : sp_L} (h : sp_re A B) {H K : sp_Sh} (e : sp_she H K) (o : sp_shok H) (s : Int32) : a_load H s = a_load K s ∧ sp_re (n_load H A s) (n_load K B s) := by
  unfold a_load n_load
  by_cases q : 0 ≤ s ∧ s ≤ 3
  · rw [if_pos q, if_pos q, if_pos q, if_pos q]
    obtain ⟨t, ht, rfl⟩ := wj_natC (N := 3) q
    obtain ⟨m, h40, hm⟩ := o t (by omega)
    obtain ⟨e1, e2, e3⟩ := e t (by omega)
    rw [nI_clamp (by omega), ← e1, ← e2, hm, nI_clamp (by omega)]
    have el : sp_ld (H.2.2 t) m = sp_ld (K.2.2 t) m := fa_first_c (fun k hk => by rw [sp_ldp, sp_ldp, e3 k (by omega)])
    rw [← el]
    refine ⟨rfl, ?_⟩
    split
    · exact h
    · refine re_wL h (fun j hj => ?_)
      show (if j < _ then H.2.2 t j else _) = (if j < _ then K.2.2 t j else _)
      rw [e3 j (by omega), show A.2.2.2.2.1 j = B.2.2.2.2.1 j from h.2.2.2.2.1 j hj]
  · rw [if_neg q, if_neg q, if_neg q, if_neg q]
    exact ⟨rfl, h⟩
theorem she_write {H K : sp_Sh} (e : sp_she H K) (s x : Int32) : a_write H s x = a_write K s x := by
  unfold a_write
  by_cases q : 0 ≤ s ∧ s ≤ 3
  · rw [if_pos q, if_pos q]
    obtain ⟨t, ht, rfl⟩ := wj_natC (N := 3) q
    obtain ⟨e1, e2, e3⟩ := e t (by omega)
    rw [nI_clamp (by omega), e1, e2]
  · rw [if_neg q, if_neg q]
theorem she_copy {H K : sp_Sh} (e : sp_she H K) (s f t u n : Int32) : a_copy H s f t u n = a_copy K s f t u n := by
  unfold a_copy
  by_cases q : (0 ≤ s ∧ s ≤ 3) ∧ 0 ≤ t ∧ t ≤ 3
  · rw [if_pos q, if_pos q]
    obtain ⟨a, ha, rfl⟩ := wj_natC (N := 3) q.1
    obtain ⟨b, hb, rfl⟩ := wj_natC (N := 3) q.2
    obtain ⟨e1, e2, e3⟩ := e a (by omega)
    obtain ⟨d1, d2, d3⟩ := e b (by omega)
    rw [nI_clamp (by omega), nI_clamp (by omega), e1, e2, d1, d2]
  · rw [if_neg q, if_neg q]

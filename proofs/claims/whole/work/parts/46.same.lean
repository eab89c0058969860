theorem sp_put_mq {σ : wj_St} {k : Nat} {A B : sp_L} (hk : 1 ≤ k ∧ k < 4) : sp_mq (sp_put σ k A) B = sp_put (sp_mq σ B) k A := by
  unfold sp_mq
  rw [sp_put_o (q := 49) (by omega), sp_put_r (by omega)]
theorem sp_put_fd {σ : wj_St} {k w : Nat} {A : sp_L} (hk : 1 ≤ k ∧ k < 4) : sp_fd (sp_put σ k A) w = sp_put (sp_fd σ w) k A := by
  unfold sp_fd
  rw [sp_put_o (q := 52) (by omega), sp_put_u (by omega), sp_put_u (by omega)]
theorem sp_put_fw {σ : wj_St} {k : Nat} {A : sp_L} {a : Sum Nat Int32} (hk : 1 ≤ k ∧ k < 4) : sp_fw (sp_put σ k A) a = sp_put (sp_fw σ a) k A := by
  cases a with
  | inl w => exact sp_put_fd hk
  | inr v => rfl
theorem sp_tl_mq {σ : wj_St} {B : sp_L} {w : Nat} : sp_tl (sp_mq σ B) w = sp_mq (sp_tl σ w) B := by
  unfold sp_tl
  rw [sp_mq_o (by decide), sp_mq_u9 (by decide)]
theorem sp_tw_mq {σ : wj_St} {B : sp_L} {a : Sum Nat Int32} : sp_tw (sp_mq σ B) a = sp_mq (sp_tw σ a) B := by
  cases a with
  | inl w => exact sp_tl_mq
  | inr v => rfl
theorem fa_first_c {p q : Nat → Bool} : ∀ {n : Nat}, (∀ k, k < n → p k = q k) → fa_first p n = fa_first q n
  | 0, _ => rfl
  | n + 1, h => by
    have ih := fa_first_c (n := n) (fun k hk => h k (by omega))
    rw [fa_first, fa_first, ih, h n (by omega)]
theorem a_first_c {p q : Nat → Bool} (h : ∀ k, k < 201 → p k = q k) : a_first p = a_first q := by rw [a_first, a_first, fa_first_c h]
theorem re_ysN {A B : sp_L} (h : sp_re A B) {N y : Nat} (g : sp_G A N y) (hy : y < 90000) (m : Nat) (hm : m < 1000) : sp_re (sp_yrs A m) (sp_yrs B m) := re_yrs h g.2.2.1 m (by omega)
theorem re_wp {A B : sp_L} (h : sp_re A B) {N y : Nat} (g : sp_G A N y) (hy : y < 90000) (s : Int32) (k : Nat) (hk : k < 201) : sp_wp A s k = sp_wp B s k := by rw [sp_wp, sp_wp, re_gap (re_ysN h g hy k (by omega))]
theorem re_a_closed {A B : sp_L} (h : sp_re A B) {N y : Nat} (g : sp_G A N y) (hy : y < 90000) (p : Int32) : a_closed A p = a_closed B p := by rw [a_closed, a_closed, a_first_c (re_wp h g hy _)]
theorem re_a_whole {A B : sp_L} (h : sp_re A B) {N y : Nat} (g : sp_G A N y) (hy : y < 90000) : a_whole A = a_whole B := a_first_c (re_wp h g hy _)
theorem re_a_strong {A B : sp_L} (h : sp_re A B) {N y : Nat} (g : sp_G A N y) (hy : y < 90000) (p n : Int32) : a_strong A p n = a_strong B p n := by
  unfold a_strong
  split
  · rename_i q
    obtain ⟨m, hm, rfl⟩ := wj_natC (N := 100) q.2
    rw [nI_clamp (by omega), re_stg (re_ysN h g hy m (by omega))]
  · rfl
theorem re_a_breaks {A B : sp_L} (h : sp_re A B) {N y : Nat} (g : sp_G A N y) (hy : y < 90000) (x : Int32) : a_breaks A x = a_breaks B x := by
  unfold a_breaks
  rw [← h.2.1]
  split
  · rename_i q
    rw [g.1] at q
    obtain ⟨i, hi, rfl⟩ := wj_natB q (by have := g.2.1; omega)
    have hN8 := g.2.1
    rw [nI_clamp (by omega)]
    refine a_first_c (fun k hk => ?_)
    rw [sp_bp, sp_bp, re_s (re_ysN h g hy k (by omega)) (by rw [sp_N_of ((sp_yrs_c A k).trans g.1) g.2.1]; exact hi) 6 (by decide), re_s h (by rw [sp_N_of g.1 g.2.1]; exact hi) 6 (by decide)]
  · rfl
theorem re_a_ahead {A B : sp_L} (h : sp_re A B) {N y : Nat} (g : sp_G A N y) (hy : y < 90000) (x w n : Int32) : a_ahead A x w n = a_ahead B x w n := by
  unfold a_ahead
  rw [← h.2.1]
  split
  · rename_i q
    have q1 := q.1
    rw [g.1] at q1
    obtain ⟨i, hi, rfl⟩ := wj_natB q1 (by have := g.2.1; omega)
    obtain ⟨m, hm, rfl⟩ := wj_natC (N := 100) q.2.2
    have hN8 := g.2.1
    have hr := re_ysN h g hy m (by omega)
    rw [nI_clamp (by omega), nI_clamp (by omega), ag_tra (re_s hr (by rw [sp_N_of ((sp_yrs_c A m).trans g.1) g.2.1]; exact hi)), hr.1]
  · rfl
theorem re_a_few {A B : sp_L} (h : sp_re A B) {N y : Nat} (g : sp_G A N y) (hy : y < 90000) (x : Int32) (f M : Nat) (n : Int32) : a_few A x f M n = a_few B x f M n := by
  unfold a_few
  rw [← h.2.1]
  split
  · rename_i q
    obtain ⟨m, hm, rfl⟩ := wj_natC (N := 60) q.2
    rw [nI_clamp (by omega)]
    have e : sp_fg A x.toNatClampNeg f m = sp_fg B x.toNatClampNeg f m := funext fun v => re_gn (re_yrs (re_us h _ _ _) g.2.2.1 m (by omega))
    rw [e]
  · rfl
theorem re_a_go {A B : sp_L} (h : sp_re A B) {N y : Nat} (g : sp_G A N y) (hy : y < 90000) (n : Int32) : a_go A n = a_go B n := by
  unfold a_go
  split
  · rename_i q
    obtain ⟨m, _, hm, rfl⟩ := sp_nat1 (M := 60) q
    rw [nI_clamp (by omega), re_gap (re_ysN h g hy m (by omega))]
  · rfl

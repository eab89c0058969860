theorem sp_fi_40 {f : Nat → Int32} {k : Nat} (h : k < 40) : sp_fi f 0 40 k = 0 := if_pos h
theorem sp_fj_in {f : Nat → Int32} {t k : Nat} (h : k < 40) : sp_fj f t 40 (40 * t + k) = 0 := if_pos ⟨by omega, by omega⟩
theorem sp_fj_out {f : Nat → Int32} {s t k : Nat} (h : k < 40) (hne : s ≠ t) : sp_fj f t 40 (40 * s + k) = f (40 * s + k) := if_neg (by omega)
/-- after a sheet is made: the two sides on their own states -/
theorem ag_sheet {σ τ : wj_St} (e : sp_she (sp_shC σ) (sp_shM τ)) (s b n : Int32) : sp_she (sp_shC (n_sheet σ s b n)) (sp_shM (n_sheetM τ s b n)) := by
  unfold n_sheet n_sheetM
  by_cases q : sp_ok6 s b n = true
  · rw [if_pos q, if_pos q]
    have q2 := of_decide_eq_true q
    obtain ⟨t, ht, rfl⟩ := wj_natC (N := 3) q2.1.1
    rw [nI_clamp (by omega)]
    intro a ha
    obtain ⟨e1, e2, e3⟩ := e a ha
    by_cases c : a = t
    · subst c
      refine ⟨?_, ?_, fun k hk => ?_⟩
      · show sp_ren σ a b n (38 + a) 1 = sp_renM τ a b n 40 55 a
        rw [sp_ren, wj_u_same, wj_u_same, wj_r_ne (by omega), sp_renM, wj_r_ne (by decide), wj_u_ne (by decide), wj_u_same]
        simp [upd]
      · show sp_ren σ a b n (38 + a) 2 = sp_renM τ a b n 40 56 a
        rw [sp_ren, wj_u_same, wj_u_same, wj_r_ne (by omega), sp_renM, wj_r_ne (by decide), wj_u_same]
        simp [upd]
      · show sp_ren σ a b n (42 + a) k = sp_renM τ a b n 40 57 (40 * a + k)
        rw [sp_ren, wj_u_ne (by omega), wj_u_ne (by omega), wj_r_same, sp_fi_40 hk, sp_renM, wj_r_same, sp_fj_in hk]
    · refine ⟨?_, ?_, fun k hk => ?_⟩
      · show sp_ren σ t b n (38 + a) 1 = sp_renM τ t b n 40 55 a
        rw [sp_ren, wj_u_ne (by omega), wj_u_ne (by omega), wj_r_ne (by omega), sp_renM, wj_r_ne (by decide), wj_u_ne (by decide), wj_u_same]
        simp only [upd, if_neg c]
        exact e1
      · show sp_ren σ t b n (38 + a) 2 = sp_renM τ t b n 40 56 a
        rw [sp_ren, wj_u_ne (by omega), wj_u_ne (by omega), wj_r_ne (by omega), sp_renM, wj_r_ne (by decide), wj_u_same]
        simp only [upd, if_neg c]
        rw [wj_u_ne (by decide)]
        exact e2
      · show sp_ren σ t b n (42 + a) k = sp_renM τ t b n 40 57 (40 * a + k)
        rw [sp_ren, wj_u_ne (by omega), wj_u_ne (by omega), wj_r_ne (by omega), sp_renM, wj_r_same, sp_fj_out hk c]
        exact e3 k hk
  · rw [if_neg q, if_neg q]; exact e

theorem kp_new (s : Nat → Int32) {k p w : Int32} (h : sp_oks k p w) : sp_gs (sp_new s k p w) := by
  obtain ⟨a, ha, rfl⟩ := wj_natC (N := 6) h.1
  obtain ⟨b, hb, rfl⟩ := wj_natC (N := 15) h.2.1
  obtain ⟨c, h1c, hc, rfl⟩ := sp_nat1 (M := 12) h.2.2
  have ea : (nI a).toInt = (a : Int) := nI_toInt (by omega)
  have eb : (nI b).toInt = (b : Int) := nI_toInt (by omega)
  have ec : (nI c).toInt = (c : Int) := nI_toInt (by omega)
  refine ⟨?_, ?_, ?_, ?_, ?_, ?_, ?_⟩
  · show 0 ≤ (nI a).toInt ∧ (nI a).toInt ≤ 6; omega
  · show 0 ≤ (nI b).toInt ∧ (nI b).toInt ≤ 15; omega
  · show 0 ≤ (20 : Int32).toInt ∧ (20 : Int32).toInt ≤ 199; decide
  · show 0 ≤ (5 : Int32).toInt ∧ (5 : Int32).toInt ≤ 99; decide
  · show 0 ≤ (0 : Int32).toInt ∧ (0 : Int32).toInt ≤ 2; decide
  · show 1 ≤ (nI c).toInt ∧ (nI c).toInt ≤ 12; omega
  · show 0 ≤ (0 : Int32).toInt ∧ (0 : Int32).toInt ≤ 9999; decide
theorem kp_add {A : sp_L} {N y : Nat} (g : sp_G A N y) (h8 : N < 8) {k p w : Int32} (h : sp_oks k p w) : sp_G (sp_add A N k p w) (N + 1) y := by
  refine ⟨rfl, by omega, g.2.2.1, fun i hi => ?_, g.2.2.2.2.1, g.2.2.2.2.2⟩
  show sp_gs (if i = N then sp_new (sp_sl A N) k p w else sp_sl A i)
  split
  · exact kp_new _ h
  · exact g.2.2.2.1 i (by omega)
theorem kp_slip {A : sp_L} {N y : Nat} (g : sp_G A N y) (k p w : Int32) : ∃ M, N ≤ M ∧ sp_G (n_slip A k p w) M y := by
  unfold n_slip
  rw [sp_N_of g.1 g.2.1]
  split
  · rename_i q
    exact ⟨N + 1, by omega, kp_add g q.2 q.1⟩
  · exact ⟨N, Nat.le_refl _, g⟩
theorem kp_load {A : sp_L} {N y : Nat} (g : sp_G A N y) (H : sp_Sh) (s : Int32) : sp_G (n_load H A s) N y := by
  unfold n_load
  split
  · split
    · exact g
    · refine ⟨g.1, g.2.1, g.2.2.1, g.2.2.2.1, fun i hi => ?_, g.2.2.2.2.2⟩
      show 0 ≤ (if i < sp_ld _ _ then H.2.2 s.toNatClampNeg i else A.2.2.2.2.1 i).toInt ∧ (if i < sp_ld _ _ then H.2.2 s.toNatClampNeg i else A.2.2.2.2.1 i).toInt < 1600
      split
      · rename_i q
        have := fa_first_no _ _ i q
        have z := Classical.byContradiction (of_decide_eq_false this)
        obtain ⟨e, he, ee⟩ := wj_natC (N := 1599) z
        rw [ee, nI_toInt (by omega)]
        omega
      · exact g.2.2.2.2.1 i hi
  · exact g

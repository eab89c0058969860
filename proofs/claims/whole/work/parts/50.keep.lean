theorem kp_hurdles {A : sp_L} {N y : Nat} (g : sp_G A N y) (x : Int32) : sp_G (n_hurdles A x) N y := by
  unfold n_hurdles
  split
  · exact ⟨g.1, g.2.1, g.2.2.1, g.2.2.2.1, g.2.2.2.2.1, g.2.2.2.2.2⟩
  · exact g
theorem kp_lean {A : sp_L} {N y : Nat} (g : sp_G A N y) (i p w : Int32) : sp_G (n_lean A i p w) N y := by
  unfold n_lean
  split
  · rename_i q
    obtain ⟨a, ha, rfl⟩ := wj_natC (N := 15) q.2.1
    obtain ⟨b, hb, rfl⟩ := wj_natC (N := 99) q.2.2
    rw [show (100 : Int32) = nI 100 from rfl, pk_mul, nI_add]
    exact sp_G_ent g (by omega)
  · exact g
theorem kp_go {A : sp_L} {N y : Nat} (g : sp_G A N y) (n : Int32) : ∃ m, m ≤ 60 ∧ sp_G (n_go A n) N (y + m) := by
  unfold n_go
  split
  · rename_i q
    obtain ⟨m, _, hm, rfl⟩ := sp_nat1 (M := 60) q
    rw [nI_clamp (by omega)]
    exact ⟨m, hm, sp_G_yrs g m⟩
  · exact ⟨0, by omega, g⟩
theorem kp_leans {A : sp_L} {N y : Nat} (g : sp_G A N y) (z n : Int32) : ∃ m, m ≤ 60 ∧ sp_G (n_leans z A n) N (y + m) := by
  unfold n_leans
  split
  · rename_i q
    obtain ⟨m, _, hm, rfl⟩ := sp_nat1 (M := 20) q
    rw [nI_clamp (by omega)]
    exact ⟨m, by omega, sp_lz_G g m⟩
  · exact ⟨0, by omega, g⟩
theorem kp_cut {A : sp_L} {N y : Nat} (g : sp_G A N y) (x v : Int32) : sp_G (n_cut A x v) N y := by
  unfold n_cut
  split
  · rename_i q
    obtain ⟨c, hc, rfl⟩ := wj_natC (N := 199) q.2
    rw [nI_clamp (by omega)]
    exact sp_G_us g (fun hi => sp_gs_u2 (g.2.2.2.1 _ hi) (by omega))
  · exact g
theorem kp_gs {s : Nat → Int32} (h : sp_gs s) {f : Nat} (hf : f < 7) {v : Int32} (q : sp_lst (nI f) ≤ v ∧ v ≤ sp_mst (nI f)) : sp_gs (upd s f v) := by
  obtain ⟨h0, h1, h2, h3, h4, h5, h6⟩ := h
  have q1 := Int32.le_iff_toInt_le.mp q.1
  have q2 := Int32.le_iff_toInt_le.mp q.2
  rcases f with _ | _ | _ | _ | _ | _ | _ | f
  · rw [show (sp_lst (nI 0)).toInt = 0 by decide +kernel] at q1; rw [show (sp_mst (nI 0)).toInt = 6 by decide +kernel] at q2
    refine ⟨?_, ?_, ?_, ?_, ?_, ?_, ?_⟩ <;> simp [upd, *]
  · rw [show (sp_lst (nI 1)).toInt = 0 by decide +kernel] at q1; rw [show (sp_mst (nI 1)).toInt = 15 by decide +kernel] at q2
    refine ⟨?_, ?_, ?_, ?_, ?_, ?_, ?_⟩ <;> simp [upd, *]
  · rw [show (sp_lst (nI 2)).toInt = 0 by decide +kernel] at q1; rw [show (sp_mst (nI 2)).toInt = 199 by decide +kernel] at q2
    refine ⟨?_, ?_, ?_, ?_, ?_, ?_, ?_⟩ <;> simp [upd, *]
  · rw [show (sp_lst (nI 3)).toInt = 0 by decide +kernel] at q1; rw [show (sp_mst (nI 3)).toInt = 99 by decide +kernel] at q2
    refine ⟨?_, ?_, ?_, ?_, ?_, ?_, ?_⟩ <;> simp [upd, *]
  · rw [show (sp_lst (nI 4)).toInt = 0 by decide +kernel] at q1; rw [show (sp_mst (nI 4)).toInt = 2 by decide +kernel] at q2
    refine ⟨?_, ?_, ?_, ?_, ?_, ?_, ?_⟩ <;> simp [upd, *]
  · rw [show (sp_lst (nI 5)).toInt = 1 by decide +kernel] at q1; rw [show (sp_mst (nI 5)).toInt = 12 by decide +kernel] at q2
    refine ⟨?_, ?_, ?_, ?_, ?_, ?_, ?_⟩ <;> simp [upd, *]
  · rw [show (sp_lst (nI 6)).toInt = 0 by decide +kernel] at q1; rw [show (sp_mst (nI 6)).toInt = 9999 by decide +kernel] at q2
    refine ⟨?_, ?_, ?_, ?_, ?_, ?_, ?_⟩ <;> simp [upd, *]
  · omega
theorem kp_change {A : sp_L} {N y : Nat} (g : sp_G A N y) (x w v : Int32) : sp_G (n_change A x w v) N y := by
  unfold n_change
  split
  · rename_i q
    obtain ⟨f, hf, rfl⟩ := sp_lm q.2
    rw [nI_clamp (by omega)]
    exact sp_G_us g (fun hi => kp_gs (g.2.2.2.1 _ hi) hf q.2)
  · exact g

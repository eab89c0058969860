/-! rows whose place is counted; small facts -/
section WB
variable {l : Launch} {V : wj_V} {X : wj_X} {cc : ByteArray} {nL : Nat} {own : String} {fr lo : Nat} {pc : Nat} {lv : List (Option Value)} {st : List Value} {σ : wj_St}
theorem wj_aaldS (C : wj_C l V X cc nL own fr lo) {k i : Nat} (hd : decode cc pc = .ok (.aaload, 1)) (hk : 1 ≤ k ∧ k < 4) (hi : i < 8) (kk : wj_J l V X (pc + 1) lv (.ref (V.2.2.1 (2 + 8 * k + i)) :: st) σ) : wj_J l V X pc lv (.int (nI i) :: .ref (V.2.2.1 (k + 3)) :: st) σ :=
  wj_aald C hd (rr_slips hk) rfl (vp_in_nI hi (by omega)) (by rw [nI_clamp (show i < 2 ^ 31 by omega)]; exact kk)
theorem wj_aaldH (C : wj_C l V X cc nL own fr lo) {i : Nat} (hd : decode cc pc = .ok (.aaload, 1)) (hi : i < 4) (kk : wj_J l V X (pc + 1) lv (.ref (V.2.2.1 (38 + i)) :: st) σ) : wj_J l V X pc lv (.int (nI i) :: .ref (V.2.2.1 37) :: st) σ :=
  wj_aald C hd rr_sheets rfl (vp_in_nI hi (by omega)) (by rw [nI_clamp (show i < 2 ^ 31 by omega)]; exact kk)
theorem wj_aaldK (C : wj_C l V X cc nL own fr lo) {i : Nat} (hd : decode cc pc = .ok (.aaload, 1)) (hi : i < 7) (kk : wj_J l V X (pc + 1) lv (.ref (V.2.2.2.1 i) :: st) σ) : wj_J l V X pc lv (.int (nI i) :: .ref (V.2.2.1 59) :: st) σ :=
  wj_aald C hd rr_kindNames rfl (vp_in_nI hi (by omega)) (by rw [nI_clamp (show i < 2 ^ 31 by omega)]; exact kk)
theorem wj_ialdN (C : wj_C l V X cc nL own fr lo) {k n i : Nat} (hd : decode cc pc = .ok (.iaload, 1)) (ha : wj_ar V 0 k n) (hi : i < n ∧ n < 1000) (kk : wj_J l V X (pc + 1) lv (.int (σ k i) :: st) σ) : wj_J l V X pc lv (.int (nI i) :: .ref (V.2.2.1 k) :: st) σ :=
  wj_iald C hd ha (vp_in_nI hi.1 (by omega)) (by rw [nI_clamp (show i < 2 ^ 31 by omega)]; exact kk)
theorem wj_baldN (C : wj_C l V X cc nL own fr lo) {k n i : Nat} (hd : decode cc pc = .ok (.baload, 1)) (ha : wj_ar V 1 k n) (hi : i < n ∧ n < 1000) (kk : wj_J l V X (pc + 1) lv (.int (σ k i) :: st) σ) : wj_J l V X pc lv (.int (nI i) :: .ref (V.2.2.1 k) :: st) σ :=
  wj_bald C hd ha (vp_in_nI hi.1 (by omega)) (by rw [nI_clamp (show i < 2 ^ 31 by omega)]; exact kk)
theorem wj_iastN (C : wj_C l V X cc nL own fr lo) {k n i : Nat} {x : Int32} (hd : decode cc pc = .ok (.iastore, 1)) (ha : wj_ar V 0 k n) (hi : i < n ∧ n < 1000) (kk : wj_J l V X (pc + 1) lv st (wj_u σ k i x)) : wj_J l V X pc lv (.int x :: .int (nI i) :: .ref (V.2.2.1 k) :: st) σ :=
  wj_iast C hd ha (vp_in_nI hi.1 (by omega)) (by rw [nI_clamp (show i < 2 ^ 31 by omega)]; exact kk)
theorem wj_bastN (C : wj_C l V X cc nL own fr lo) {k n i : Nat} {x : Int32} (hd : decode cc pc = .ok (.bastore, 1)) (ha : wj_ar V 1 k n) (hi : i < n ∧ n < 1000) (kk : wj_J l V X (pc + 1) lv st (wj_u σ k i (vp_nar .byte x))) : wj_J l V X pc lv (.int x :: .int (nI i) :: .ref (V.2.2.1 k) :: st) σ :=
  wj_bast C hd ha (vp_in_nI hi.1 (by omega)) (by rw [nI_clamp (show i < 2 ^ 31 by omega)]; exact kk)
end WB
theorem wj_i1 (i : Nat) : nI i + Int32.ofInt 1 = nI (i + 1) := nI_1 i
theorem wj_b0 {b : Bool} (h : (if b = true then (1 : Int32) else 0) = 0) : b = false := by cases b with | false => rfl | true => exact absurd h (by decide)
theorem wj_b1 {b : Bool} (h : ¬ (if b = true then (1 : Int32) else 0) = 0) : b = true := by cases b with | true => rfl | false => exact absurd rfl h
theorem wj_c0 {c : Prop} [Decidable c] (h : (if c then (1 : Int32) else 0) = 0) : ¬ c := fun q => by rw [if_pos q] at h; exact absurd h (by decide)
theorem wj_c1 {c : Prop} [Decidable c] (h : ¬ (if c then (1 : Int32) else 0) = 0) : c := Classical.byContradiction fun q => h (by rw [if_neg q])
theorem wj_ge {i N : Nat} (hN : N < 2 ^ 31) (hi : i ≤ N) (h : nI N ≤ nI i) : i = N := by
  have := (nI_leI hN (by omega)).mp h
  omega
theorem wj_nge {i N : Nat} (hN : N < 2 ^ 31) (hi : i ≤ N) (h : ¬ nI N ≤ nI i) : i < N := by
  rcases Nat.lt_or_ge i N with q | q
  · exact q
  · exact absurd (nI_le q (by omega)) h
/-- a number by its value -/
theorem wj_nat {x : Int32} (h : 0 ≤ x.toInt) : ∃ j : Nat, j < 2 ^ 31 ∧ x = nI j ∧ (j : Int) = x.toInt := by
  obtain ⟨j, hj, rfl⟩ := nI_of (x := x) (fun q => by rw [Int32.lt_iff_toInt_lt, Int32.toInt_zero] at q; omega)
  exact ⟨j, hj, rfl, by rw [nI_toInt hj]⟩

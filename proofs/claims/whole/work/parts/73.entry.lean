/-! what stands at the law's entry -/
def wz_tm (i : Nat) : Term := .string "WordHedge$Tape" ([119, 121, 123, 125, 127, 129, 131, 76, 82, 84, 107, 109, 35, 44].getD i 0)
abbrev wz_v (i : Nat) : Term := .field (wz_tm i) "java/lang/String" "value" "[B"
theorem wz_ex : ∀ i, i < 14 → Cond.exactly (wz_tm i) "java/lang/String" ∈ flatC (Jvm.Cond.and given_1 narrow_1) := by decide +kernel
theorem wz_co : ∀ i, i < 14 → Cond.eq (.field (wz_tm i) "java/lang/String" "coder" "B") (.int 0) ∈ flatC (Jvm.Cond.and given_1 narrow_1) := by decide +kernel
theorem wz_ar : ∀ i, i < 14 → Cond.arrayOf (wz_v i) .byte ∈ flatC (Jvm.Cond.and given_1 narrow_1) := by decide +kernel
theorem wz_le : ∀ i, i < 14 → Cond.eq (.length (wz_v i)) (.int (Int32.ofNat (wj_ln.getD i 0))) ∈ flatC (Jvm.Cond.and given_1 narrow_1) := by decide +kernel
theorem wz_el : ∀ i, i < 14 → ∀ j, j < wj_ln.getD i 0 → Cond.eq (.elem (wz_v i) (.int (Int32.ofNat j))) (.int ((wj_by.getD i []).getD j 0)) ∈ flatC (Jvm.Cond.and given_1 narrow_1) := by decide +kernel
theorem wz_df : ∀ i, i < 14 → ∀ j, j < 14 → i ≠ j → Int32.ofNat (wj_ln.getD i 0) ≠ Int32.ofNat (wj_ln.getD j 0) ∨ ∃ k ∈ List.range 8, k < wj_ln.getD i 0 ∧ k < wj_ln.getD j 0 ∧ (wj_by.getD i []).getD k 0 ≠ (wj_by.getD j []).getD k 0 := by decide +kernel
theorem wz_lL : ∀ q ∈ wj_L, (Term.string q.1 q.2.1 = wz_tm q.2.2.2 ∨ (Cond.eq (wz_tm q.2.2.2) (Term.string q.1 q.2.1) ∈ flatC (Jvm.Cond.and given_1 narrow_1) ∧ Cond.exactly (Term.string q.1 q.2.1) "java/lang/String" ∈ flatC (Jvm.Cond.and given_1 narrow_1))) ∧ q.2.2.2 < 14 := by decide +kernel
theorem wz_lT : ∀ q ∈ wj_L, Cond.stringRef q.1 q.2.1 q.2.2.1 ∈ lw_tbl := by decide +kernel
theorem wz_len {args : Array Value} {s : State} {x y : Term} (e : x.eval args s none [] s = y.eval args s none [] s) : (Term.length x).eval args s none [] s = (Term.length y).eval args s none [] s := by
  simp only [Term.eval, e]
theorem wz_elm {args : Array Value} {s : State} {x y z : Term} (e : x.eval args s none [] s = y.eval args s none [] s) : (Term.elem x z).eval args s none [] s = (Term.elem y z).eval args s none [] s := by
  simp only [Term.eval, e]
theorem wz_not {args : Array Value} {s : State} {t u : Term} {a b : Nat} (ht : t.eval args s none [] s = some (.ref a)) (hu : u.eval args s none [] s = some (.ref b)) (h : a ≠ b) : (Cond.not (.eq t u)).before args s = true := by
  simp [Cond.before, Cond.holds, Cond.value, ht, hu, h]
theorem wz_eqr {args : Array Value} {s : State} {t u : Term} {a b : Nat} (h : (Cond.eq t u).before args s = true) (ht : t.eval args s none [] s = some (.ref a)) (hu : u.eval args s none [] s = some (.ref b)) : a = b := by
  simpa [Cond.before, Cond.holds, Cond.value, ht, hu] using h
theorem wz_ref {args : Array Value} {s : State} {t : Term} (h : (Cond.exactly t "java/lang/String").before args s = true) : ∃ a, t.eval args s none [] s = some (.ref a) := by
  obtain ⟨a, c, cA, kA, q1, -⟩ := Cond.exactly_spec (args := args) (first := s) (o := none) (s := s) (idx := []) (t := t) (cls := "java/lang/String") h
  exact ⟨a, q1⟩
theorem wz_ne {args : Array Value} {s : State} (hs : ∀ q ∈ flatC (Jvm.Cond.and given_1 narrow_1), q.before args s = true) {i j : Nat} (hi : i < 14) (hj : j < 14) (hij : i ≠ j) : (Cond.not (.eq (wz_tm i) (wz_tm j))).before args s = true := by
  obtain ⟨a, ha⟩ := wz_ref (hs _ (wz_ex i hi))
  obtain ⟨b, hb⟩ := wz_ref (hs _ (wz_ex j hj))
  refine wz_not ha hb (fun e => ?_)
  subst e
  have e1 : (wz_v i).eval args s none [] s = (wz_v j).eval args s none [] s := by rw [va_fe ha, va_fe hb]
  rcases wz_df i hi j hj hij with h | ⟨k, -, h1, h2, h⟩
  · have g1 := va_eqt (hs _ (wz_le i hi))
    have g2 := va_eqt (hs _ (wz_le j hj))
    rw [wz_len e1, g2] at g1
    exact h (Value.int.inj (Option.some.inj g1)).symm
  · have g1 := va_eqt (hs _ (wz_el i hi k h1))
    have g2 := va_eqt (hs _ (wz_el j hj k h2))
    rw [wz_elm e1, g2] at g1
    exact h (by simpa using g1.symm)
theorem wz_arr {s : State} {args : Array Value} {ty : FieldType} (h : (Cond.arrayClass ty).before args s = true) : ∃ c, ArrOfT s c ty ∧ s.vm.findClass ("[" ++ ty.toString) = some c := by
  obtain ⟨c, k, comp, h1, h2, h3⟩ := Cond.arrayClass_spec h
  exact ⟨c, fun n z => ⟨fun k h => (by cases h), k, h2, comp, h3⟩, h1⟩
theorem wz_ovr {s : State} {args : Array Value} {n : String} (h : (Cond.arrayOver (.object n)).before args s = true) : ∃ c, ArrOfT s c (.object n) ∧ va_RA s c (.object n) := by
  obtain ⟨comp, c, k, h1, h2, h3, h4, h5⟩ := Cond.arrayOver_spec h
  exact ⟨c, fun n z => ⟨fun k h => (by cases h), k, h3, comp, h4⟩, k, comp, h3, h4, h1, h5⟩
set_option maxHeartbeats 4000000 in
theorem wz_E {args : Array Value} {s : State} (hts : ∀ w ∈ lw_tbl, w.before args s = true) (hgv : (Jvm.Cond.and given_1 narrow_1).before args s = true) : ∃ V : wj_V, wj_E V s ∧ wj_S V (fun q => s.heap.size ≤ q) s s.heap ∧ wk_O s := by
  have hs := flat_of_before _ hgv
  have hA : ∀ a : Nat, a < s.heap.size → ¬ (fun q : Nat => s.heap.size ≤ q) a := fun a h => Nat.not_le.mpr h
  obtain ⟨c0, i0, hk0⟩ := u_known (C := RX0) (T := TX0) (N := 6) (n := 6) hts (fun w h => (kh_X0.2 w h).1) (hts (.instantiable RX0 6) (List.mem_of_getElem? (i := 92) (by decide +kernel)))
  obtain ⟨c1, i1, hk1⟩ := u_known (C := RX1) (T := TX1) (N := 3) (n := 3) hts (fun w h => (kh_X1.2 w h).1) (hts (.instantiable RX1 3) (List.mem_of_getElem? (i := 191) (by decide +kernel)))
  obtain ⟨c2, i2, hk2⟩ := u_known (C := RX2) (T := TX2) (N := 7) (n := 7) hts (fun w h => (kh_X2.2 w h).1) (hts (.instantiable RX2 7) (List.mem_of_getElem? (i := 99) (by decide +kernel)))
  obtain ⟨c3, i3, hk3⟩ := u_known (C := RX3) (T := TX3) (N := 5) (n := 5) hts (fun w h => (kh_X3.2 w h).1) (hts (.instantiable RX3 5) (List.mem_of_getElem? (i := 165) (by decide +kernel)))
  obtain ⟨c4, i4, hk4⟩ := u_known (C := RX4) (T := TX4) (N := 11) (n := 11) hts (fun w h => (kh_X4.2 w h).1) (hts (.instantiable RX4 11) (List.mem_of_getElem? (i := 84) (by decide +kernel)))
  obtain ⟨c5, i5, hk5⟩ := u_known (C := RX5) (T := TX5) (N := 21) (n := 21) hts (fun w h => (kh_X5.2 w h).1) (hts (.instantiable RX5 21) (List.mem_of_getElem? (i := 806) (by decide +kernel)))
  obtain ⟨t0, ha0, hr0⟩ := wz_arr (hts (.arrayClass .int) (List.mem_of_getElem? (i := 134) (by decide +kernel)))
  obtain ⟨t1, ha1, hr1⟩ := wz_arr (hts (.arrayClass .byte) (List.mem_of_getElem? (i := 187) (by decide +kernel)))
  have ho2 := hts (.arrayOver (.object "WordHedge$Sheet")) (List.mem_of_getElem? (i := 163) (by decide +kernel))
  have ho3 := hts (.arrayOver (.object "WordHedge$Slip")) (List.mem_of_getElem? (i := 98) (by decide +kernel))
  have ho4 := hts (.arrayOver (.object "java/lang/String")) (List.mem_of_getElem? (i := 812) (by decide +kernel))
  obtain ⟨t2, ha2, hr2⟩ := wz_ovr ho2
  obtain ⟨t3, ha3, hr3⟩ := wz_ovr ho3
  obtain ⟨t4, ha4, hr4⟩ := wz_ovr ho4
  obtain ⟨aK, aV, hSt, hev⟩ := vk_Sof (args := args) (s := s) (N := 14) (tm := wz_tm) (len := wj_ln) (byt := wj_by) (A := fun q => s.heap.size ≤ q) (by decide +kernel) (fun i hi => hs _ (wz_ex i hi)) (fun i hi => hs _ (wz_co i hi)) (fun i hi => hs _ (wz_ar i hi)) (fun i hi => hs _ (wz_le i hi)) (fun i hi j hj => hs _ (wz_el i hi j hj)) (fun i j hi hj hij => Or.inl (wz_ne hs hi hj hij)) hA
  refine ⟨((fun k => if k = 0 then c0 else if k = 1 then c1 else if k = 2 then c2 else if k = 3 then c3 else if k = 4 then c4 else c5, fun k => if k = 0 then i0 else if k = 1 then i1 else if k = 2 then i2 else if k = 3 then i3 else if k = 4 then i4 else i5), fun k => if k = 0 then t0 else if k = 1 then t1 else if k = 2 then t2 else if k = 3 then t3 else t4, fun _ => 0, aK, aV), ⟨⟨?_, ?_⟩, ?_, ?_⟩, ⟨hSt, ?_, ?_⟩, va_AO.of ho3, va_AO.of ho2, va_AO.of ho4⟩
  · intro k q hq
    match k, hq with
    | 0, hq => cases hq; exact hk0
    | 1, hq => cases hq; exact hk1
    | 2, hq => cases hq; exact hk2
    | 3, hq => cases hq; exact hk3
    | 4, hq => cases hq; exact hk4
    | 5, hq => cases hq; exact hk5
    | k + 6, hq => simp [vwCl] at hq
  · intro k q hq
    match k, hq with
    | 0, hq => cases hq; exact ⟨ha0, hr0⟩
    | 1, hq => cases hq; exact ⟨ha1, hr1⟩
    | 2, hq => cases hq; exact ⟨ha2, hr2⟩
    | 3, hq => cases hq; exact ⟨ha3, hr3⟩
    | 4, hq => cases hq; exact ⟨ha4, hr4⟩
    | k + 5, hq => simp [wj_t] at hq
  · intro w hw ho
    exact va_tabs (wj_ok_tab ho) rfl (hts w hw)
  · intro q hq
    obtain ⟨h1, h2⟩ := wz_lL q hq
    refine vk_R.of (hts _ (wz_lT q hq)) ?_
    rcases h1 with h1 | ⟨h1, h3⟩
    · rw [h1]; exact hev _ h2
    · obtain ⟨b, hb⟩ := wz_ref (hs _ h3)
      rw [hb, ← wz_eqr (hs _ h1) (hev _ h2) hb]
  · exact va_Zof (hts _ (List.mem_of_getElem? (a := Cond.laysStatic "java/lang/String" "COMPACT_STRINGS" "Z") (i := 629) (by decide +kernel))) (hts _ (List.mem_of_getElem? (a := Cond.initialized "java/lang/String") (i := 79) (by decide +kernel))) (va_eqt (hs (.eq (.static "java/lang/String" "COMPACT_STRINGS" "Z") (.int 1)) (by decide +kernel))) hA
  · exact va_Zqof (hts _ (List.mem_of_getElem? (a := Cond.laysStatic "jdk/internal/util/Preconditions" "SIOOBE_FORMATTER" "Ljava/util/function/BiFunction;") (i := 645) (by decide +kernel))) (hts _ (List.mem_of_getElem? (a := Cond.initialized "jdk/internal/util/Preconditions") (i := 81) (by decide +kernel))) (hs (.isRef (.static "jdk/internal/util/Preconditions" "SIOOBE_FORMATTER" "Ljava/util/function/BiFunction;")) (by decide +kernel)) hA

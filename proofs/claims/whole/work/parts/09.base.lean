/-! rows whose place is counted; small facts -/
section WB
variable {l : Launch} {V : wj_V} {X : wj_X} {cc : ByteArray} {nL : Nat} {own : String} {fr lo : Nat} {pc : Nat} {lv : List (Option Value)} {st : List Value} {σ : wj_St}
theorem wj_aaldS (C : wj_C l V X cc nL own fr lo) {k i : Nat} (hd : decode cc pc = .ok (.aaload, 1)) (hk : 1 ≤ k ∧ k < 4) (hi : i < 8) (kk : wj_J l V X (pc + 1) lv (.ref (V.2.2.1 (2 + 8 * k + i)) :: st) σ) : wj_J l V X pc lv (.int (nI i) :: .ref (V.2.2.1 (k + 3)) :: st) σ :=
  wj_aald C hd (rr_slips hk) rfl (vp_in_nI hi (by omega)) (by rw [nI_clamp (show i < 2 ^ 31 by omega)]; exact kk)
theorem wj_aaldH (C : wj_C l V X cc nL own fr lo) {i : Nat} (hd : decode cc pc = .ok (.aaload, 1)) (hi : i < 4) (kk : wj_J l V X (pc + 1) lv (.ref (V.2.2.1 (38 + i)) :: st) σ) : wj_J l V X pc lv (.int (nI i) :: .ref (V.2.2.1 37) :: st) σ :=
  wj_aald C hd rr_sheets rfl (vp_in_nI hi (by omega)) (by rw [nI_clamp (show i < 2 ^ 31 by omega)]; exact kk)
theorem wj_aaldK (C : wj_C l V X cc nL own fr lo) {i : Nat} (hd : decode cc pc = .ok (.aaload, 1)) (hi : i < 7) (kk : wj_J l V X (pc + 1) lv (.ref (V.2.2.2.1 i) :: st) σ) : wj_J l V X pc lv (.int (nI i) :: .ref (V.2.2.1 59) :: st) σ :=
  wj_aald C hd rr_kindNames rfl (vp_in_nI hi (by omega)) (by rw [nI_clamp (show i < 2 ^ 31 by omega)]; exact kk)
theorem wj_ialdN (C : wj_C l V X cc nL own fr lo) {k n i : Nat} (hd : decode cc pc = .ok (.iaload, 1)) (ha : wj_ar V 0 k n) (hi : i < n ∧ n < 1000) (kk : wj_J l V X (pc + 1) lv (.int (σ k i) :: st) σ) : wj_J l V X pc lv (.int (nI i) :: .ref (V.2.2.1 k) :: st) σ :=
  wj_iald C hd ha (vp_in_nI hi.1 (by omega)) (by rw [nI_clamp (show i < 2 ^ 31 by omega)]; exact kk)
theorem wj_baldN (C : wj_C l V X cc nL own fr lo) {k n i : Nat} (hd : decode cc pc = .ok (.baload, 1)) (ha : wj_ar V 1 k n) (hi : i < n ∧ n < 1000) (kk : wj_J l V X (pc + 1) lv (.int (σ k i) :: st) σ) : wj_J l V X pc lv (.int (nI i) :: .ref (V.2.2.1 k) :: st) σ :=
  wj_bald C hd ha (vp_in_nI hi.1 (by omega)) (by rw [nI_clamp (show i < 2 ^ 31 by omega)]; exact kk)
theorem wj_iastN (C : wj_C l V X cc nL own fr lo) {k n i : Nat} {x : Int32} (hd : decode cc pc = .ok (.iastore, 1)) (ha : wj_ar V 0 k n) (hi : i < n ∧ n < 1000) (kk : wj_J l V X (pc + 1) lv st (wj_u σ k i x)) : wj_J l V X pc lv (.int x :: .int (nI i) :: .ref (V.2.2.1 k) :: st) σ :=
  wj_iast C hd ha (vp_in_nI hi.1 (by omega)) (by rw [nI_clamp (show i < 2 ^ 31 by omega)]; exact kk)
theorem wj_bastN (C : wj_C l V X cc nL own fr lo) {k n i : Nat} {x : Int32} (hd : decode cc pc = .ok (.bastore, 1)) (ha : wj_ar V 1 k n) (hi : i < n ∧ n < 1000) (kk : wj_J l V X (pc + 1) lv st (wj_u σ k i (vp_nar .byte x))) : wj_J l V X pc lv (.int x :: .int (nI i) :: .ref (V.2.2.1 k) :: st) σ :=
  wj_bast C hd ha (vp_in_nI hi.1 (by omega)) (by rw [nI_clamp (show i < 2 ^ 31 by omega)]; exact kk)
end WB
/-- a method's entry, also of a class of the JDK -/
theorem wj_metJ {l : Launch} {y : MethodName} {ws ws' : List Cond} {rm : Room} {Pc : Array Value → State → Prop} {Qc : Array Value → State → Outcome → State → Prop} {mc ms : Nat} {free : Addr → Prop} {cc : ByteArray} {maxL : Nat} {ret : Option FieldType}
    (hy : plainFor y = true) (hw : ws = Cond.code y cc maxL ret :: ws')
    (body : ∀ p e s m args below meth c s₁, BodyLoose p l y (headSpec ws rm) cc maxL ret e s m args below meth c s₁ → c.maxLocals = maxL → Pc args s → W p l e (headSpec ws rm).room s m args below meth c s.heap [] 0 0 (MQ below Qc args s mc ms free) (entryFrame m args maxL)) : Met l y ws rm Pc Qc mc ms free := by
  refine MetFree.of_bodySF (code := cc) (maxLocals := maxL) (ret := ret) hy ?_ ?_
  · intro args s m h hn
    obtain ⟨meth, c, h1, h2, h3, h4, h5, h6, -, -⟩ := Cond.code_spec hn (atoms_spec (ws := ws) h _ (by rw [hw]; exact List.mem_cons_self))
    exact ⟨meth, c, h1, h2, h3, h4, h5, h6⟩
  · intro p e s m args below meth c s₁ B hml hP _
    have hh0 : s₁.heap = s.heap := by rw [B.state]; rfl
    obtain ⟨t, a1, o, b1, b2, b3⟩ := body p e s m args below meth c s₁ B hml hP s₁ hh0 (Stand.of_body B)
    exact ⟨t, o, a1, b1, b2, ⟨b3.1, b3.2⟩⟩
theorem wj_ofIJ {l : Launch} {V : wj_V} {y : MethodName} {cc : ByteArray} {n : Nat} {fr lo : Nat} {av : List Value} {σ : wj_St} {own : String} {post : Int32 → wj_St → Prop} (lv0 : List (Option Value)) (hy : plainFor y = true) (ho : y.cls = own) (hlv : wj_en 0 lv0 = lv_args 0 av) (hln : (lg_sl av).length ≤ n)
    (body : ∀ X : wj_X, wj_C l V X cc n own fr lo → wj_RI l V X cc post → wj_J l V X 0 lv0 [] σ) : wj_M l V y cc n (some .int) fr lo av σ (wj_QI V post) := by
  intro sz
  refine wj_metJ (cc := cc) (maxL := n) (ret := (some .int)) (ws' := []) hy rfl ?_
  intro p e s m args below meth c s₁ B hml hv
  obtain ⟨rfl, hsz, hP, hE, hZ, hi⟩ := hv
  have hx := B.exec
  have hb := B.bytes
  have hr := B.returns
  have hown : s.vm.findClass own = some m.cls := ho ▸ findClass_of_methodNamed B.named
  have hlk := B.notSynchronized
  subst hsz
  have hl := lv_entry av (n := n) hln
  rw [← hlv] at hl
  rw [lg_entry_eq]
  refine body (p, e, wj_rm fr lo, s, m, av.toArray, below, meth, c, 0, 0, MQ below (wj_QI V post s.heap.size) av.toArray s 0 0 (wj_A V s.heap.size)) ⟨hx, hb, hml, hown, hE, hZ, hi, Nat.le_refl _, Nat.le_refl _, Nat.le_refl _, Nat.le_refl _⟩ ?_ s.heap [] _ hP va_S.rf (by rw [hml]; exact hl)
  intro pc lv r w9 u hd hp he H locs ls hP hS hl
  exact W.iret (v := r) hx hb hr (fun t ht hW => ⟨⟨r, u, rfl, hp, by show va_P _ _ _ t.heap; rw [ht]; exact wj_P_eq he hP⟩, hS.F ht⟩) hS.2.2 hd hlk
theorem wj_ofZJ {l : Launch} {V : wj_V} {y : MethodName} {cc : ByteArray} {n : Nat} {fr lo : Nat} {av : List Value} {σ : wj_St} {own : String} {post : Int32 → wj_St → Prop} (lv0 : List (Option Value)) (hy : plainFor y = true) (ho : y.cls = own) (hlv : wj_en 0 lv0 = lv_args 0 av) (hln : (lg_sl av).length ≤ n)
    (body : ∀ X : wj_X, wj_C l V X cc n own fr lo → wj_RI l V X cc (fun r u => narrow .boolean (.int r) = .int r ∧ post r u) → wj_J l V X 0 lv0 [] σ) : wj_M l V y cc n (some .boolean) fr lo av σ (wj_QI V post) := by
  intro sz
  refine wj_metJ (cc := cc) (maxL := n) (ret := (some .boolean)) (ws' := []) hy rfl ?_
  intro p e s m args below meth c s₁ B hml hv
  obtain ⟨rfl, hsz, hP, hE, hZ, hi⟩ := hv
  have hx := B.exec
  have hb := B.bytes
  have hr := B.returns
  have hown : s.vm.findClass own = some m.cls := ho ▸ findClass_of_methodNamed B.named
  have hlk := B.notSynchronized
  subst hsz
  have hl := lv_entry av (n := n) hln
  rw [← hlv] at hl
  rw [lg_entry_eq]
  refine body (p, e, wj_rm fr lo, s, m, av.toArray, below, meth, c, 0, 0, MQ below (wj_QI V post s.heap.size) av.toArray s 0 0 (wj_A V s.heap.size)) ⟨hx, hb, hml, hown, hE, hZ, hi, Nat.le_refl _, Nat.le_refl _, Nat.le_refl _, Nat.le_refl _⟩ ?_ s.heap [] _ hP va_S.rf (by rw [hml]; exact hl)
  intro pc lv r w9 u hd hp he H locs ls hP hS hl
  exact W.zret (v := r) hx hb hr hp.1 (fun t ht hW => ⟨⟨r, u, rfl, hp.2, by show va_P _ _ _ t.heap; rw [ht]; exact wj_P_eq he hP⟩, hS.F ht⟩) hS.2.2 hd hlk
theorem wj_ofChJ {l : Launch} {V : wj_V} {y : MethodName} {cc : ByteArray} {n : Nat} {fr lo : Nat} {av : List Value} {σ : wj_St} {own : String} {post : Int32 → wj_St → Prop} (lv0 : List (Option Value)) (hy : plainFor y = true) (ho : y.cls = own) (hlv : wj_en 0 lv0 = lv_args 0 av) (hln : (lg_sl av).length ≤ n)
    (body : ∀ X : wj_X, wj_C l V X cc n own fr lo → wj_RI l V X cc (fun r u => narrow .char (.int r) = .int r ∧ post r u) → wj_J l V X 0 lv0 [] σ) : wj_M l V y cc n (some .char) fr lo av σ (wj_QI V post) := by
  intro sz
  refine wj_metJ (cc := cc) (maxL := n) (ret := (some .char)) (ws' := []) hy rfl ?_
  intro p e s m args below meth c s₁ B hml hv
  obtain ⟨rfl, hsz, hP, hE, hZ, hi⟩ := hv
  have hx := B.exec
  have hb := B.bytes
  have hr := B.returns
  have hown : s.vm.findClass own = some m.cls := ho ▸ findClass_of_methodNamed B.named
  have hlk := B.notSynchronized
  subst hsz
  have hl := lv_entry av (n := n) hln
  rw [← hlv] at hl
  rw [lg_entry_eq]
  refine body (p, e, wj_rm fr lo, s, m, av.toArray, below, meth, c, 0, 0, MQ below (wj_QI V post s.heap.size) av.toArray s 0 0 (wj_A V s.heap.size)) ⟨hx, hb, hml, hown, hE, hZ, hi, Nat.le_refl _, Nat.le_refl _, Nat.le_refl _, Nat.le_refl _⟩ ?_ s.heap [] _ hP va_S.rf (by rw [hml]; exact hl)
  intro pc lv r w9 u hd hp he H locs ls hP hS hl
  exact W.zret (v := r) hx hb hr hp.1 (fun t ht hW => ⟨⟨r, u, rfl, hp.2, by show va_P _ _ _ t.heap; rw [ht]; exact wj_P_eq he hP⟩, hS.F ht⟩) hS.2.2 hd hlk
theorem wj_ofByJ {l : Launch} {V : wj_V} {y : MethodName} {cc : ByteArray} {n : Nat} {fr lo : Nat} {av : List Value} {σ : wj_St} {own : String} {post : Int32 → wj_St → Prop} (lv0 : List (Option Value)) (hy : plainFor y = true) (ho : y.cls = own) (hlv : wj_en 0 lv0 = lv_args 0 av) (hln : (lg_sl av).length ≤ n)
    (body : ∀ X : wj_X, wj_C l V X cc n own fr lo → wj_RI l V X cc (fun r u => narrow .byte (.int r) = .int r ∧ post r u) → wj_J l V X 0 lv0 [] σ) : wj_M l V y cc n (some .byte) fr lo av σ (wj_QI V post) := by
  intro sz
  refine wj_metJ (cc := cc) (maxL := n) (ret := (some .byte)) (ws' := []) hy rfl ?_
  intro p e s m args below meth c s₁ B hml hv
  obtain ⟨rfl, hsz, hP, hE, hZ, hi⟩ := hv
  have hx := B.exec
  have hb := B.bytes
  have hr := B.returns
  have hown : s.vm.findClass own = some m.cls := ho ▸ findClass_of_methodNamed B.named
  have hlk := B.notSynchronized
  subst hsz
  have hl := lv_entry av (n := n) hln
  rw [← hlv] at hl
  rw [lg_entry_eq]
  refine body (p, e, wj_rm fr lo, s, m, av.toArray, below, meth, c, 0, 0, MQ below (wj_QI V post s.heap.size) av.toArray s 0 0 (wj_A V s.heap.size)) ⟨hx, hb, hml, hown, hE, hZ, hi, Nat.le_refl _, Nat.le_refl _, Nat.le_refl _, Nat.le_refl _⟩ ?_ s.heap [] _ hP va_S.rf (by rw [hml]; exact hl)
  intro pc lv r w9 u hd hp he H locs ls hP hS hl
  exact W.zret (v := r) hx hb hr hp.1 (fun t ht hW => ⟨⟨r, u, rfl, hp.2, by show va_P _ _ _ t.heap; rw [ht]; exact wj_P_eq he hP⟩, hS.F ht⟩) hS.2.2 hd hlk
theorem wj_ofVJ {l : Launch} {V : wj_V} {y : MethodName} {cc : ByteArray} {n : Nat} {fr lo : Nat} {av : List Value} {σ : wj_St} {own : String} {post : wj_St → Prop} (lv0 : List (Option Value)) (hy : plainFor y = true) (ho : y.cls = own) (hlv : wj_en 0 lv0 = lv_args 0 av) (hln : (lg_sl av).length ≤ n)
    (body : ∀ X : wj_X, wj_C l V X cc n own fr lo → wj_RV l V X cc post → wj_J l V X 0 lv0 [] σ) : wj_M l V y cc n none fr lo av σ (wj_QV V post) := by
  intro sz
  refine wj_metJ (cc := cc) (maxL := n) (ret := none) (ws' := []) hy rfl ?_
  intro p e s m args below meth c s₁ B hml hv
  obtain ⟨rfl, hsz, hP, hE, hZ, hi⟩ := hv
  have hx := B.exec
  have hb := B.bytes
  have hr := B.returns
  have hown : s.vm.findClass own = some m.cls := ho ▸ findClass_of_methodNamed B.named
  have hlk := B.notSynchronized
  subst hsz
  have hl := lv_entry av (n := n) hln
  rw [← hlv] at hl
  rw [lg_entry_eq]
  refine body (p, e, wj_rm fr lo, s, m, av.toArray, below, meth, c, 0, 0, MQ below (wj_QV V post s.heap.size) av.toArray s 0 0 (wj_A V s.heap.size)) ⟨hx, hb, hml, hown, hE, hZ, hi, Nat.le_refl _, Nat.le_refl _, Nat.le_refl _, Nat.le_refl _⟩ ?_ s.heap [] _ hP va_S.rf (by rw [hml]; exact hl)
  intro pc lv w9 u hd hp he H locs ls hP hS hl
  exact W.vret hx hb hr (fun t ht hW => ⟨⟨u, rfl, hp, by show va_P _ _ _ t.heap; rw [ht]; exact wj_P_eq he hP⟩, hS.F ht⟩) hS.2.2 hd hlk
theorem wj_i1 (i : Nat) : nI i + Int32.ofInt 1 = nI (i + 1) := nI_1 i
theorem wj_b0 {b : Bool} (h : (if b = true then (1 : Int32) else 0) = 0) : b = false := by cases b with | false => rfl | true => exact absurd h (by decide)
theorem wj_b1 {b : Bool} (h : ¬ (if b = true then (1 : Int32) else 0) = 0) : b = true := by cases b with | true => rfl | false => exact absurd rfl h
theorem wj_c0 {c : Prop} [Decidable c] (h : (if c then (1 : Int32) else 0) = 0) : ¬ c := fun q => by rw [if_pos q] at h; exact absurd h (by decide)
theorem wj_c1 {c : Prop} [Decidable c] (h : ¬ (if c then (1 : Int32) else 0) = 0) : c := Classical.byContradiction fun q => h (by rw [if_neg q])
theorem wj_xorp {y : Nat} (hy : y < 2 ^ 31) : (0 : Int32) ≤ nI y ^^^ 6 := by
  rw [show (6 : Int32) = nI 6 from rfl, nx_xor]
  exact nI_pos' (Nat.xor_lt_two_pow hy (by decide))
theorem wj_ge {i N : Nat} (hN : N < 2 ^ 31) (hi : i ≤ N) (h : nI N ≤ nI i) : i = N := by
  have := (nI_leI hN (by omega)).mp h
  omega
theorem wj_nge {i N : Nat} (hN : N < 2 ^ 31) (hi : i ≤ N) (h : ¬ nI N ≤ nI i) : i < N := by
  rcases Nat.lt_or_ge i N with q | q
  · exact q
  · exact absurd (nI_le q (by omega)) h
/-- a number by its value -/
theorem wj_nat {x : Int32} (h : 0 ≤ x.toInt) : ∃ j : Nat, j < 2 ^ 31 ∧ x = nI j ∧ (j : Int) = x.toInt := by
  obtain ⟨j, hj, rfl⟩ := nI_of (x := x) (fun q => by rw [Int32.lt_iff_toInt_lt, Int32.toInt_zero] at q; omega)
  exact ⟨j, hj, rfl, by rw [nI_toInt hj]⟩

/-! THE FRAME OF THE CONSTRUCTORS: a list of cells that grows; a judgement over it, a row an instruction -/
abbrev wk_X : Type := Program × Env × Room × State × MethodId × Array Value × List Frame × Method × Code × (State → Prop) × (Nat → Prop)
def wk_J (l : Launch) (V : wj_V) (X : wk_X) (pc : Nat) (lv : List (Option Value)) (st : List Value) (ws : va_W) (nc ns : Nat) : Prop := match X with
  | (p, e, R, s, m, args, below, meth, c, Q, A) => ∀ (H : Heap) (locs : List Loc) (ls : Array Slot), va_P V.1 vwCl ws H → va_D A ws → va_S A s.heap H locs → lv_has ls c.maxLocals (wj_en 0 lv) → W p l e R s m args below meth c H locs nc ns Q (F0 m pc ls st)
/-- rows of these can be made -/
def wk_O (U : State) : Prop := va_AO "WordHedge$Slip" U ∧ va_AO "WordHedge$Sheet" U ∧ va_AO "java/lang/String" U
theorem wk_O.moved {u U : State} (hvm : u.vm.Alike U.vm) (h : wk_O u) : wk_O U := ⟨va_AO.moved hvm h.1, va_AO.moved hvm h.2.1, va_AO.moved hvm h.2.2⟩
theorem wk_acI {V : wj_V} {U : State} (hE : wj_E V U) {A : Array Value} : (Cond.arrayClass .int).before A U = true := by
  obtain ⟨h1, h2⟩ := hE.1.2 0 (V.2.1 0, .int) rfl
  obtain ⟨-, kA, hk, comp, hkind⟩ := h1 0 (fun _ => .int 0)
  have h3 : U.vm.findClass ("[" ++ FieldType.int.toString) = some (V.2.1 0) := h2
  have hk2 : U.vm.classes[V.2.1 0]? = some kA := hk
  simp only [Cond.before, Cond.holds, Cond.value]
  rw [h3]
  simp [hk2, hkind]
theorem wk_acB {V : wj_V} {U : State} (hE : wj_E V U) {A : Array Value} : (Cond.arrayClass .byte).before A U = true := by
  obtain ⟨h1, h2⟩ := hE.1.2 1 (V.2.1 1, .byte) rfl
  obtain ⟨-, kA, hk, comp, hkind⟩ := h1 0 (fun _ => .int 0)
  have h3 : U.vm.findClass ("[" ++ FieldType.byte.toString) = some (V.2.1 1) := h2
  have hk2 : U.vm.classes[V.2.1 1]? = some kA := hk
  simp only [Cond.before, Cond.holds, Cond.value]
  rw [h3]
  simp [hk2, hkind]
def wk_C (l : Launch) (V : wj_V) (X : wk_X) (cc : ByteArray) (nL : Nat) (own : String) (fr lo mk ms : Nat) : Prop := match X with
  | (p, _, R, s, m, _, _, _, c, _, A) => p.tables.exec = Jvm.exec ∧ c.code = cc ∧ c.maxLocals = nL ∧ s.vm.findClass own = some m.cls ∧ wj_E V s ∧ (wj_S V A s s.heap ∧ wk_O s) ∧ (∀ q : Nat, s.heap.size ≤ q → A q) ∧ fr ≤ R.frames ∧ lo ≤ R.locals ∧ mk ≤ R.cells ∧ ms ≤ R.slots
def wk_I (X : wk_X) (nm : String) : Prop := match X with
  | (_, _, _, _, _, _, _, meth, _, _, _) => meth.name = nm
def wk_B (V : wj_V) (sz : Nat) (ws : va_W) (U : State) : Prop := U.heap.size = sz ∧ va_P V.1 vwCl ws U.heap ∧ wj_E V U ∧ (wj_S V (va_A ws sz) U U.heap ∧ wk_O U) ∧ va_D (fun _ => True) ws
theorem wk_blind {V : wj_V} {sz : Nat} {ws : va_W} {av : List Value} : FrameBlind (va_Pc av (wk_B V sz ws)) := by
  intro a U g mk h
  obtain ⟨h0, h1, h2, h3, h4, h5⟩ := h
  exact ⟨h0, h1, h2, h3.calling g mk a, ⟨wj_S.moved (u := U) (U := U.calling g mk a) (Vm.Alike.refl U.vm) h4.1, wk_O.moved (u := U) (U := U.calling g mk a) (Vm.Alike.refl U.vm) h4.2⟩, h5⟩
def wk_QV (V : wj_V) (ws : va_W) (post : va_W → Prop) : Nat → Array Value → State → Outcome → State → Prop := fun sz => va_Qv post (fun u t => va_P V.1 vwCl u t.heap ∧ va_D (va_A ws sz) u) (va_A ws sz)
/-- a constructor's contract: from these cells it ends with those of post, having made mc cells of ms slots -/
def wk_M (l : Launch) (V : wj_V) (y : MethodName) (b : ByteArray) (n : Nat) (fr lo mc ms : Nat) (av : List Value) (ws : va_W) (post : va_W → Prop) : Prop :=
  ∀ sz, Met l y [.code y b n none] { frames := fr, cells := mc, slots := ms, locals := lo } (va_Pc av (wk_B V sz ws)) (wk_QV V ws post sz) mc ms (va_A ws sz)
theorem ko_i : wj_in (.instanceMethod Lib.objectInit) := wj_mem 89 (by decide +kernel) (by decide +kernel)
theorem ko_c : wj_in (.code Lib.objectInit ⟨#[0xb1]⟩ 1 none) := wj_mem 90 (by decide +kernel) (by decide +kernel)
section WK
variable {l : Launch} {V : wj_V} {X : wk_X} {cc : ByteArray} {nL : Nat} {own : String} {fr lo mk ms : Nat} {pc : Nat} {lv : List (Option Value)} {st : List Value} {ws : va_W} {nc ns : Nat}
theorem wk_to {ws' : va_W} (h : ws = ws') (kk : wk_J l V X pc lv st ws' nc ns) : wk_J l V X pc lv st ws nc ns := by rw [h]; exact kk
theorem wk_iconst {n : Int} {v : Int32} (C : wk_C l V X cc nL own fr lo mk ms) (hd : decode cc pc = .ok (.iconst n, 1)) (hv : Int32.ofInt n = v) (kk : wk_J l V X (pc + 1) lv (.int v :: st) ws nc ns) : wk_J l V X pc lv st ws nc ns := by
  obtain ⟨p, e, R, s, m, args, below, meth, c, Q, A⟩ := X
  obtain ⟨hx, hb, hn, hown, hE, hZ, hA, hf, hlo, hc, hsl⟩ := C
  intro H locs ls hP hD hS hl
  exact lv_iconst hx hb hd hv (kk H locs ls hP hD hS hl)
theorem wk_bipush {n : Int} {v : Int32} (C : wk_C l V X cc nL own fr lo mk ms) (hd : decode cc pc = .ok (.bipush n, 2)) (hv : (Int8.ofInt n).toInt32 = v) (kk : wk_J l V X (pc + 2) lv (.int v :: st) ws nc ns) : wk_J l V X pc lv st ws nc ns := by
  obtain ⟨p, e, R, s, m, args, below, meth, c, Q, A⟩ := X
  obtain ⟨hx, hb, hn, hown, hE, hZ, hA, hf, hlo, hc, hsl⟩ := C
  intro H locs ls hP hD hS hl
  exact lv_bipush hx hb hd hv (kk H locs ls hP hD hS hl)
theorem wk_sipush {n : Int} {v : Int32} (C : wk_C l V X cc nL own fr lo mk ms) (hd : decode cc pc = .ok (.sipush n, 3)) (hv : (Int16.ofInt n).toInt32 = v) (kk : wk_J l V X (pc + 3) lv (.int v :: st) ws nc ns) : wk_J l V X pc lv st ws nc ns := by
  obtain ⟨p, e, R, s, m, args, below, meth, c, Q, A⟩ := X
  obtain ⟨hx, hb, hn, hown, hE, hZ, hA, hf, hlo, hc, hsl⟩ := C
  intro H locs ls hP hD hS hl
  exact lv_sipush hx hb hd hv (kk H locs ls hP hD hS hl)
theorem wk_ldcS {idx : Nat} {tx : String} {i : Nat} (C : wk_C l V X cc nL own fr lo mk ms) (hd : decode cc pc = .ok (.ldc idx, 2)) (hw : (own, idx, tx, i) ∈ wj_L) (kk : wk_J l V X (pc + 2) lv (.ref (V.2.2.2.1 i) :: st) ws nc ns) : wk_J l V X pc lv st ws nc ns := by
  obtain ⟨p, e, R, s, m, args, below, meth, c, Q, A⟩ := X
  obtain ⟨hx, hb, hn, hown, hE, hZ, hA, hf, hlo, hc, hsl⟩ := C
  intro H locs ls hP hD hS hl
  exact va_ldcS hx hb hown (hE.2.2 _ hw) hd (kk H locs ls hP hD hS hl)
theorem wk_iload_n {k : Fin 4} {x : Int32} (C : wk_C l V X cc nL own fr lo mk ms) (i : Nat) (hd : decode cc pc = .ok (.iload_n k, 1)) (hi0 : (k : Nat) = i) (hv : lv[i]? = some (some (.int x))) (kk : wk_J l V X (pc + 1) lv (.int x :: st) ws nc ns) : wk_J l V X pc lv st ws nc ns := by
  obtain ⟨p, e, R, s, m, args, below, meth, c, Q, A⟩ := X
  obtain ⟨hx, hb, hn, hown, hE, hZ, hA, hf, hlo, hc, hsl⟩ := C
  intro H locs ls hP hD hS hl
  exact lv_iload_n hx hb hd hi0 (wj_ld hl hv) (kk H locs ls hP hD hS hl)
theorem wk_iload {i : Nat} {x : Int32} (C : wk_C l V X cc nL own fr lo mk ms) (hd : decode cc pc = .ok (.iload i, 2)) (hv : lv[i]? = some (some (.int x))) (kk : wk_J l V X (pc + 2) lv (.int x :: st) ws nc ns) : wk_J l V X pc lv st ws nc ns := by
  obtain ⟨p, e, R, s, m, args, below, meth, c, Q, A⟩ := X
  obtain ⟨hx, hb, hn, hown, hE, hZ, hA, hf, hlo, hc, hsl⟩ := C
  intro H locs ls hP hD hS hl
  exact lv_iload hx hb hd (wj_ld hl hv) (kk H locs ls hP hD hS hl)
theorem wk_aload_n {k : Fin 4} {x : Nat} (C : wk_C l V X cc nL own fr lo mk ms) (i : Nat) (hd : decode cc pc = .ok (.aload_n k, 1)) (hi0 : (k : Nat) = i) (hv : lv[i]? = some (some (.ref x))) (kk : wk_J l V X (pc + 1) lv (.ref x :: st) ws nc ns) : wk_J l V X pc lv st ws nc ns := by
  obtain ⟨p, e, R, s, m, args, below, meth, c, Q, A⟩ := X
  obtain ⟨hx, hb, hn, hown, hE, hZ, hA, hf, hlo, hc, hsl⟩ := C
  intro H locs ls hP hD hS hl
  exact lv_aload_n hx hb hd hi0 (wj_ld hl hv) (kk H locs ls hP hD hS hl)
theorem wk_aload {i : Nat} {x : Nat} (C : wk_C l V X cc nL own fr lo mk ms) (hd : decode cc pc = .ok (.aload i, 2)) (hv : lv[i]? = some (some (.ref x))) (kk : wk_J l V X (pc + 2) lv (.ref x :: st) ws nc ns) : wk_J l V X pc lv st ws nc ns := by
  obtain ⟨p, e, R, s, m, args, below, meth, c, Q, A⟩ := X
  obtain ⟨hx, hb, hn, hown, hE, hZ, hA, hf, hlo, hc, hsl⟩ := C
  intro H locs ls hP hD hS hl
  exact lv_aload hx hb hd (wj_ld hl hv) (kk H locs ls hP hD hS hl)
theorem wk_istore_n {k : Fin 4} {x : Int32} (C : wk_C l V X cc nL own fr lo mk ms) (i : Nat) (hd : decode cc pc = .ok (.istore_n k, 1)) (hi0 : (k : Nat) = i) (hin : i < nL) (hnl : wj_nl lv i = true) (kk : wk_J l V X (pc + 1) (lv.set i (some (.int x))) st ws nc ns) : wk_J l V X pc lv (.int x :: st) ws nc ns := by
  obtain ⟨p, e, R, s, m, args, below, meth, c, Q, A⟩ := X
  obtain ⟨hx, hb, hn, hown, hE, hZ, hA, hf, hlo, hc, hsl⟩ := C
  intro H locs ls hP hD hS hl
  exact lv_istore_n hx hb hd hi0 hl (by rw [hn]; exact hin) rfl (fun ls2 hl2 => kk H locs ls2 hP hD hS (wj_st1 hnl hl2))
theorem wk_istore {i : Nat} {x : Int32} (C : wk_C l V X cc nL own fr lo mk ms) (hd : decode cc pc = .ok (.istore i, 2)) (hin : i < nL) (hnl : wj_nl lv i = true) (kk : wk_J l V X (pc + 2) (lv.set i (some (.int x))) st ws nc ns) : wk_J l V X pc lv (.int x :: st) ws nc ns := by
  obtain ⟨p, e, R, s, m, args, below, meth, c, Q, A⟩ := X
  obtain ⟨hx, hb, hn, hown, hE, hZ, hA, hf, hlo, hc, hsl⟩ := C
  intro H locs ls hP hD hS hl
  exact lv_istore hx hb hd hl (by rw [hn]; exact hin) rfl (fun ls2 hl2 => kk H locs ls2 hP hD hS (wj_st1 hnl hl2))
theorem wk_astore_n {k : Fin 4} {x : Nat} (C : wk_C l V X cc nL own fr lo mk ms) (i : Nat) (hd : decode cc pc = .ok (.astore_n k, 1)) (hi0 : (k : Nat) = i) (hin : i < nL) (hnl : wj_nl lv i = true) (kk : wk_J l V X (pc + 1) (lv.set i (some (.ref x))) st ws nc ns) : wk_J l V X pc lv (.ref x :: st) ws nc ns := by
  obtain ⟨p, e, R, s, m, args, below, meth, c, Q, A⟩ := X
  obtain ⟨hx, hb, hn, hown, hE, hZ, hA, hf, hlo, hc, hsl⟩ := C
  intro H locs ls hP hD hS hl
  exact lv_astore_n hx hb hd hi0 hl (by rw [hn]; exact hin) rfl (fun ls2 hl2 => kk H locs ls2 hP hD hS (wj_st1 hnl hl2))
theorem wk_iinc {i : Nat} {n : Int} {x v : Int32} (C : wk_C l V X cc nL own fr lo mk ms) (hd : decode cc pc = .ok (.iinc i n, 3)) (hv : lv[i]? = some (some (.int x))) (hx0 : x + Int32.ofInt n = v) (hin : i < nL) (hnl : wj_nl lv i = true) (kk : wk_J l V X (pc + 3) (lv.set i (some (.int v))) st ws nc ns) : wk_J l V X pc lv st ws nc ns := by
  obtain ⟨p, e, R, s, m, args, below, meth, c, Q, A⟩ := X
  obtain ⟨hx, hb, hn, hown, hE, hZ, hA, hf, hlo, hc, hsl⟩ := C
  intro H locs ls hP hD hS hl
  obtain ⟨k9, hk9⟩ := wj_en_place hv
  exact lv_iinc hx hb hd hl hk9 hx0 (by rw [hn]; exact hin) rfl (fun ls2 hl2 => kk H locs ls2 hP hD hS (wj_st1 hnl hl2))
theorem wk_iadd {x y : Int32} (C : wk_C l V X cc nL own fr lo mk ms) (hd : decode cc pc = .ok (.iadd, 1)) (kk : wk_J l V X (pc + 1) lv (.int (x + y) :: st) ws nc ns) : wk_J l V X pc lv (.int y :: .int x :: st) ws nc ns := by
  obtain ⟨p, e, R, s, m, args, below, meth, c, Q, A⟩ := X
  obtain ⟨hx, hb, hn, hown, hE, hZ, hA, hf, hlo, hc, hsl⟩ := C
  intro H locs ls hP hD hS hl
  exact lv_iadd hx hb hd (kk H locs ls hP hD hS hl)
theorem wk_dup {v : Value} (C : wk_C l V X cc nL own fr lo mk ms) (hd : decode cc pc = .ok (.dup, 1)) (hv : v.category = 1) (kk : wk_J l V X (pc + 1) lv (v :: v :: st) ws nc ns) : wk_J l V X pc lv (v :: st) ws nc ns := by
  obtain ⟨p, e, R, s, m, args, below, meth, c, Q, A⟩ := X
  obtain ⟨hx, hb, hn, hown, hE, hZ, hA, hf, hlo, hc, hsl⟩ := C
  intro H locs ls hP hD hS hl
  exact lv_dup hx hb hd hv (kk H locs ls hP hD hS hl)
theorem wk_icmp_ge {x y : Int32} {off : Int} (C : wk_C l V X cc nL own fr lo mk ms) (tgt : Nat) (hd : decode cc pc = .ok (.if_icmp .ge off, 3)) (ht : (pc : Int) + off = (tgt : Int)) (kt : y ≤ x → wk_J l V X tgt lv st ws nc ns) (kf : ¬ y ≤ x → wk_J l V X (pc + 3) lv st ws nc ns) : wk_J l V X pc lv (.int y :: .int x :: st) ws nc ns := by
  obtain ⟨p, e, R, s, m, args, below, meth, c, Q, A⟩ := X
  obtain ⟨hx, hb, hn, hown, hE, hZ, hA, hf, hlo, hc, hsl⟩ := C
  intro H locs ls hP hD hS hl
  exact lv_icmp_ge hx hb hd ht (fun h => kt h H locs ls hP hD hS hl) (fun h => kf h H locs ls hP hD hS hl)
theorem wk_goto {off : Int} (C : wk_C l V X cc nL own fr lo mk ms) (tgt : Nat) (hd : decode cc pc = .ok (.goto off, 3)) (ht : (pc : Int) + off = (tgt : Int)) (kk : wk_J l V X tgt lv st ws nc ns) : wk_J l V X pc lv st ws nc ns := by
  obtain ⟨p, e, R, s, m, args, below, meth, c, Q, A⟩ := X
  obtain ⟨hx, hb, hn, hown, hE, hZ, hA, hf, hlo, hc, hsl⟩ := C
  intro H locs ls hP hD hS hl
  exact lv_goto hx hb hd ht (kk H locs ls hP hD hS hl)
theorem wk_obj {idx a : Nat} (C : wk_C l V X cc nL own fr lo mk ms) (hd : decode cc pc = .ok (.invokespecial idx, 3)) (hlk : wj_in (.methodLink own idx Lib.objectInit)) (h1 : 1 ≤ fr) (h2 : (st.map fun v => v.category).sum + 12 ≤ lo) (kk : wk_J l V X (pc + 3) lv st ws nc ns) : wk_J l V X pc lv (.ref a :: st) ws nc ns := by
  obtain ⟨p, e, R, s, m, args, below, meth, c, Q, A⟩ := X
  obtain ⟨hx, hb, hn, hown, hE, hZ, hA, hf, hlo, hc, hsl⟩ := C
  intro H locs ls hP hD hS hl
  exact W.objInit hx hb hown (hE.w hlk) (hE.w ko_i) (hE.w ko_c) rfl hl.1 rfl hd (Nat.le_trans h1 hf) (by show 2 * 0 + _ + 12 ≤ _; omega) (W.eq (g2 := F0 m (pc + 3) ls st) rfl (kk H locs ls hP hD hS hl))
theorem wk_new {idx ci N : Nat} {Cn : String} {T : u_T} {ty : Nat → FieldType} {fs : List Value} (C : wk_C l V X cc nL own fr lo mk ms) (hd : decode cc pc = .ok (.new idx, 3)) (hcl : wj_hi ci Cn T N) (hty : ∀ k, k < N → parseFieldDescriptor (T k).2.2.1 = some (ty k)) (hlk : wj_in (.classLink own idx Cn)) (hin : wj_in (.instantiable Cn N)) (hit : wj_in (.initialized Cn)) (hfs : ∀ j, j < N → defaultValue (ty j) = vp_V fs j) (h1 : nc + 1 ≤ mk) (h2 : ns + N ≤ ms) (kk : ∀ q : Nat, wk_J l V X (pc + 3) lv (.ref q :: st) (ws ++ [(q, .inr (ci, fs))]) (nc + 1) (ns + N)) : wk_J l V X pc lv st ws nc ns := by
  obtain ⟨p, e, R, s, m, args, below, meth, c, Q, A⟩ := X
  obtain ⟨hx, hb, hn, hown, hE, hZ, hA, hf, hlo, hc, hsl⟩ := C
  intro H locs ls hP hD hS hl
  exact va_new hx hb (wj_tb_h hE) (fun w hw => wj_tb_in (hcl.2 w hw)) ty hty hown (hE.w hlk) (hE.w hin) (hE.w hit) hE.1 hP hD hS hA hcl.1 hfs (Nat.le_trans h1 hc) (Nat.le_trans h2 hsl) hd (fun q H1 hP hD hS => kk q H1 locs ls hP hD hS hl)
theorem wk_newaI {N : Nat} {n : Int32} (C : wk_C l V X cc nL own fr lo mk ms) (hd : decode cc pc = .ok (.newarray .int, 2)) (hn0 : ¬ n < 0) (hN : n.toNatClampNeg = N) (hby : N ≤ 100000) (h1 : nc + 1 ≤ mk) (h2 : ns + N ≤ ms) (kk : ∀ q : Nat, wk_J l V X (pc + 2) lv (.ref q :: st) (ws ++ [(q, .inl (V.2.1 0, N, .inl (fun _ => 0)))]) (nc + 1) (ns + N)) : wk_J l V X pc lv (.int n :: st) ws nc ns := by
  obtain ⟨p, e, R, s, m, args, below, meth, c, Q, A⟩ := X
  obtain ⟨hx, hb, hn, hown, hE, hZ, hA, hf, hlo, hc, hsl⟩ := C
  intro H locs ls hP hD hS hl
  have hb4 : N * componentBytes .int ≤ 536870912 := by
    rw [show componentBytes .int = 4 from rfl]
    omega
  have hce : ∀ cA : ClassId, vp_cell cA (N, .inl (fun _ => 0)) = arrV cA N (fun _ => defaultValue .int) := fun cA => vp_cell_i cA N (fun _ => 0)
  have hac : (Cond.arrayClass (newarray.typeOf .int)).before args s = true := wk_acI hE
  have hty : newarray.typeOf .int = .int := rfl
  refine va_newa (atype := .int) (ty := .int) (a0 := (N, .inl (fun _ => 0))) (N' := N) hx hb hac hty hE.1 hP hD hS hA hce hn0 hN hb4 (Nat.le_trans h1 hc) (Nat.le_trans h2 hsl) hd (fun q cA H1 hK hP hD hS => ?_)
  have e : cA = V.2.1 0 := by
    have g1 := (hK.2 5 (cA, .int) rfl).2
    have g2 := (hE.1.2 0 (V.2.1 0, .int) rfl).2
    exact Option.some.inj (g1.symm.trans g2)
  subst e
  exact kk q H1 locs ls hP hD hS hl
theorem wk_newaB {N : Nat} {n : Int32} (C : wk_C l V X cc nL own fr lo mk ms) (hd : decode cc pc = .ok (.newarray .byte, 2)) (hn0 : ¬ n < 0) (hN : n.toNatClampNeg = N) (hby : N ≤ 100000) (h1 : nc + 1 ≤ mk) (h2 : ns + N ≤ ms) (kk : ∀ q : Nat, wk_J l V X (pc + 2) lv (.ref q :: st) (ws ++ [(q, .inl (V.2.1 1, N, .inl (fun _ => 0)))]) (nc + 1) (ns + N)) : wk_J l V X pc lv (.int n :: st) ws nc ns := by
  obtain ⟨p, e, R, s, m, args, below, meth, c, Q, A⟩ := X
  obtain ⟨hx, hb, hn, hown, hE, hZ, hA, hf, hlo, hc, hsl⟩ := C
  intro H locs ls hP hD hS hl
  have hb4 : N * componentBytes .byte ≤ 536870912 := by
    rw [show componentBytes .byte = 1 from rfl]
    omega
  have hce : ∀ cA : ClassId, vp_cell cA (N, .inl (fun _ => 0)) = arrV cA N (fun _ => defaultValue .byte) := fun cA => vp_cell_i cA N (fun _ => 0)
  have hac : (Cond.arrayClass (newarray.typeOf .byte)).before args s = true := wk_acB hE
  have hty : newarray.typeOf .byte = .byte := rfl
  refine va_newa (atype := .byte) (ty := .byte) (a0 := (N, .inl (fun _ => 0))) (N' := N) hx hb hac hty hE.1 hP hD hS hA hce hn0 hN hb4 (Nat.le_trans h1 hc) (Nat.le_trans h2 hsl) hd (fun q cA H1 hK hP hD hS => ?_)
  have e : cA = V.2.1 1 := by
    have g1 := (hK.2 5 (cA, .byte) rfl).2
    have g2 := (hE.1.2 1 (V.2.1 1, .byte) rfl).2
    exact Option.some.inj (g1.symm.trans g2)
  subst e
  exact kk q H1 locs ls hP hD hS hl
theorem wk_newq {idx N t : Nat} {n : Int32} {Cn : String} (C : wk_C l V X cc nL own fr lo mk ms) (hd : decode cc pc = .ok (.anewarray idx, 3)) (hlk : wj_in (.classLink own idx Cn)) (hao : ∀ U : State, wk_O U → va_AO Cn U) (ht : (wj_t V)[t]? = some (V.2.1 t, .object Cn)) (hn0 : ¬ n < 0) (hN : n.toNatClampNeg = N) (hby : N ≤ 100000) (h1 : nc + 1 ≤ mk) (h2 : ns + N ≤ ms) (kk : ∀ q : Nat, wk_J l V X (pc + 3) lv (.ref q :: st) (ws ++ [(q, .inl (V.2.1 t, N, .inr (.inr (.inr (.inr (fun _ => none))))))]) (nc + 1) (ns + N)) : wk_J l V X pc lv (.int n :: st) ws nc ns := by
  obtain ⟨p, e, R, s, m, args, below, meth, c, Q, A⟩ := X
  obtain ⟨hx, hb, hn, hown, hE, hZ, hA, hf, hlo, hc, hsl⟩ := C
  intro H locs ls hP hD hS hl
  refine va_newq hx hb hown (hE.w hlk) (hao s hZ.2) hE.1 hP hD hS hA hn0 hN (by omega) (Nat.le_trans h1 hc) (Nat.le_trans h2 hsl) hd (fun q cA H1 hK hP hD hS => ?_)
  have e : cA = V.2.1 t := by
    obtain ⟨-, -, -, -, -, g1⟩ := (hK.2 5 (cA, .object Cn) rfl).2
    obtain ⟨-, -, -, -, -, g2⟩ := (hE.1.2 t (V.2.1 t, .object Cn) ht).2
    exact Option.some.inj (g1.symm.trans g2)
  subst e
  exact kk q H1 locs ls hP hD hS hl
theorem wk_putf {idx ci N a : Nat} {Cn : String} {T : u_T} {ty0 : Nat → FieldType} {fs : List Value} {v : Value} (C : wk_C l V X cc nL own fr lo mk ms) (hd : decode cc pc = .ok (.putfield idx, 3)) (q0 : Nat) (he : ws[q0]? = some (a, .inr (ci, fs))) (hcl : wj_hi ci Cn T N) (hty : ∀ k, k < N → parseFieldDescriptor (T k).2.2.1 = some (ty0 k)) (hnm : ∀ a, a < N → ∀ b, b < N → a ≠ b → (T a).2.1 ≠ (T b).2.1) (j : Nat) (hj : j < N) (hlk : wj_in (.fieldLink own idx Cn (T j).2.1 (T j).2.2.1)) (hT : (T j).1 = Cn) (hfin : (T j).2.2.2 = false) {ty : FieldType} (hty2 : parseFieldDescriptor (T j).2.2.1 = some ty) (hn2 : narrow ty v = v) (hfit : fits ty v = true) (hlen : j < fs.length) (kk : wk_J l V X (pc + 3) lv st (ws.set q0 (a, .inr (ci, fs.set j v))) nc ns) : wk_J l V X pc lv (v :: .ref a :: st) ws nc ns := by
  obtain ⟨p, e, R, s, m, args, below, meth, c, Q, A⟩ := X
  obtain ⟨hx, hb, hn, hown, hE, hZ, hA, hf, hlo, hc, hsl⟩ := C
  intro H locs ls hP hD hS hl
  exact va_put hx hb (wj_tb_h hE) (fun w hw => wj_tb_in (hcl.2 w hw)) ty0 hty hnm hown hE.1 hP hD hS q0 he hcl.1 j hj (hE.w hlk) (fun x9 hx9 => by rw [hT] at hx9; exact hx9) hfin hty2 hn2 hfit hlen hd (fun H1 locs1 hP1 hD1 hS1 => kk H1 locs1 ls hP1 hD1 hS1 hl)
theorem wk_putF {idx ci N a : Nat} {Cn : String} {T : u_T} {ty0 : Nat → FieldType} {fs : List Value} {v : Value} (C : wk_C l V X cc nL own fr lo mk ms) (I : wk_I X "<init>") (hd : decode cc pc = .ok (.putfield idx, 3)) (q0 : Nat) (he : ws[q0]? = some (a, .inr (ci, fs))) (hcl : wj_hi ci Cn T N) (hty : ∀ k, k < N → parseFieldDescriptor (T k).2.2.1 = some (ty0 k)) (hnm : ∀ a, a < N → ∀ b, b < N → a ≠ b → (T a).2.1 ≠ (T b).2.1) (j : Nat) (hj : j < N) (hlk : wj_in (.fieldLink own idx Cn (T j).2.1 (T j).2.2.1)) (hT : (T j).1 = Cn) (hfin : (T j).2.2.2 = true) (hCo : Cn = own) {ty : FieldType} (hty2 : parseFieldDescriptor (T j).2.2.1 = some ty) (hn2 : narrow ty v = v) (hfit : fits ty v = true) (hlen : j < fs.length) (kk : wk_J l V X (pc + 3) lv st (ws.set q0 (a, .inr (ci, fs.set j v))) nc ns) : wk_J l V X pc lv (v :: .ref a :: st) ws nc ns := by
  obtain ⟨p, e, R, s, m, args, below, meth, c, Q, A⟩ := X
  obtain ⟨hx, hb, hn, hown, hE, hZ, hA, hf, hlo, hc, hsl⟩ := C
  intro H locs ls hP hD hS hl
  exact va_putF hx hb (wj_tb_h hE) (fun w hw => wj_tb_in (hcl.2 w hw)) ty0 hty hnm hown hE.1 hP hD hS q0 he hcl.1 j hj (hE.w hlk) (fun x9 hx9 => by rw [hT] at hx9; exact hx9) hfin I (hT.trans hCo) hty2 hn2 hfit hlen hd (fun H1 locs1 hP1 hD1 hS1 => kk H1 locs1 ls hP1 hD1 hS1 hl)
theorem wk_getf {idx ci N a : Nat} {Cn : String} {T : u_T} {fs : List Value} (C : wk_C l V X cc nL own fr lo mk ms) (hd : decode cc pc = .ok (.getfield idx, 3)) (q0 : Nat) (he : ws[q0]? = some (a, .inr (ci, fs))) (hcl : wj_hi ci Cn T N) (j : Nat) (hj : j < N) (hlk : wj_in (.fieldLink own idx Cn (T j).2.1 (T j).2.2.1)) (hT : (T j).1 = Cn) {v : Value} (hv : fs[j]? = some v) (kk : wk_J l V X (pc + 3) lv (v :: st) ws nc ns) : wk_J l V X pc lv (.ref a :: st) ws nc ns := by
  obtain ⟨p, e, R, s, m, args, below, meth, c, Q, A⟩ := X
  obtain ⟨hx, hb, hn, hown, hE, hZ, hA, hf, hlo, hc, hsl⟩ := C
  intro H locs ls hP hD hS hl
  exact va_get hx hb (wj_tb_h hE) (fun w hw => wj_tb_in (hcl.2 w hw)) hown hE.1 hP q0 he hcl.1 j hj (hE.w hlk) (fun x hx9 => by rw [hT] at hx9; exact hx9) hv hd (kk H locs ls hP hD hS hl)
theorem wk_iast {a n j : Nat} {f : Nat → Int32} {i x : Int32} (C : wk_C l V X cc nL own fr lo mk ms) (hd : decode cc pc = .ok (.iastore, 1)) (q0 : Nat) (he : ws[q0]? = some (a, .inl (V.2.1 0, n, .inl f))) (hin : vp_in i n) (hj : i.toNatClampNeg = j) (kk : wk_J l V X (pc + 1) lv st (ws.set q0 (a, .inl (V.2.1 0, n, .inl (upd f j x)))) nc ns) : wk_J l V X pc lv (.int x :: .int i :: .ref a :: st) ws nc ns := by
  subst hj
  obtain ⟨p, e, R, s, m, args, below, meth, c, Q, A⟩ := X
  obtain ⟨hx, hb, hn, hown, hE, hZ, hA, hf, hlo, hc, hsl⟩ := C
  intro H locs ls hP hD hS hl
  exact va_iast hx hb hE.1 hP hD hS q0 0 he rfl hin hd (fun H1 locs1 hP1 hD1 hS1 => kk H1 locs1 ls hP1 hD1 hS1 hl)
theorem wk_alen {a n : Nat} {f : Nat → Int32} {v : Int32} (C : wk_C l V X cc nL own fr lo mk ms) (hd : decode cc pc = .ok (.arraylength, 1)) (q0 : Nat) (he : ws[q0]? = some (a, .inl (V.2.1 0, n, .inl f))) (hv : Int32.ofNat n = v) (kk : wk_J l V X (pc + 1) lv (.int v :: st) ws nc ns) : wk_J l V X pc lv (.ref a :: st) ws nc ns := by
  obtain ⟨p, e, R, s, m, args, below, meth, c, Q, A⟩ := X
  obtain ⟨hx, hb, hn, hown, hE, hZ, hA, hf, hlo, hc, hsl⟩ := C
  intro H locs ls hP hD hS hl
  exact va_alen hx hb hE.1 hP q0 0 he rfl hv hd (kk H locs ls hP hD hS hl)
theorem wk_astq {a n t v j ci : Nat} {r : vw_C} {vs : List Value} {f : Nat → Option Nat} {i : Int32} (C : wk_C l V X cc nL own fr lo mk ms) (hd : decode cc pc = .ok (.aastore, 1)) (q0 qk : Nat) (he : ws[q0]? = some (a, .inl (V.2.1 t, n, .inr (.inr (.inr (.inr f)))))) (ht : (wj_t V)[t]? = some (V.2.1 t, .object r.1)) (hv : ws[qk]? = some (v, .inr (ci, vs))) (hc1 : vwCl[ci]? = some r) (hin : vp_in i n) (hj : i.toNatClampNeg = j) (kk : wk_J l V X (pc + 1) lv st (ws.set q0 (a, .inl (V.2.1 t, n, .inr (.inr (.inr (.inr (va_up f j (some v)))))))) nc ns) : wk_J l V X pc lv (.ref v :: .int i :: .ref a :: st) ws nc ns := by
  subst hj
  obtain ⟨p, e, R, s, m, args, below, meth, c, Q, A⟩ := X
  obtain ⟨hx, hb, hn, hown, hE, hZ, hA, hf, hlo, hc, hsl⟩ := C
  intro H locs ls hP hD hS hl
  exact va_astq hx hb hE.1 hP hD hS q0 t qk ci he ht hv hc1 hin hd (fun H1 locs1 hP1 hD1 hS1 => kk H1 locs1 ls hP1 hD1 hS1 hl)
theorem wk_astS {a n j b : Nat} {f : Nat → Option Nat} {i : Int32} (C : wk_C l V X cc nL own fr lo mk ms) (hd : decode cc pc = .ok (.aastore, 1)) (q0 : Nat) (he : ws[q0]? = some (a, .inl (V.2.1 4, n, .inr (.inr (.inr (.inr f)))))) (hb14 : b < 14) (hin : vp_in i n) (hj : i.toNatClampNeg = j) (kk : wk_J l V X (pc + 1) lv st (ws.set q0 (a, .inl (V.2.1 4, n, .inr (.inr (.inr (.inr (va_up f j (some (V.2.2.2.1 b))))))))) nc ns) : wk_J l V X pc lv (.ref (V.2.2.2.1 b) :: .int i :: .ref a :: st) ws nc ns := by
  subst hj
  obtain ⟨p, e, R, s, m, args, below, meth, c, Q, A⟩ := X
  obtain ⟨hx, hb, hn, hown, hE, hZ, hA, hf, hlo, hc, hsl⟩ := C
  intro H locs ls hP hD hS hl
  have hr : va_Any "java/lang/String" s H (V.2.2.2.1 b) := by
    obtain ⟨cell, h1, h2, h3⟩ := vk_recv hZ.1.1 hb14 hS
    obtain ⟨kC, hkC, -⟩ := Vm.findClass_spec h3
    refine ⟨cell, h1, h2, ⟨kC, hkC⟩, fun comp h => ?_⟩
    have e : comp = cell.cls := Option.some.inj (h.symm.trans h3)
    rw [e]
    exact va_asg _ _
  exact va_astqM hx hb hE.1 hP hD hS q0 4 he rfl hr hin hd (fun H1 locs1 hP1 hD1 hS1 => kk H1 locs1 ls hP1 hD1 hS1 hl)
theorem wk_fm {ws wc : va_W} {isC : List Nat} (hC : isC.map (fun i => ws[i]?) = wc.map some) : isC.filterMap (fun i => ws[i]?) = wc := by
  have h1 : (isC.map (fun i => ws[i]?)).filterMap id = (wc.map some).filterMap id := by rw [hC]
  rw [List.filterMap_map, List.filterMap_map] at h1
  have h2 : List.filterMap (id ∘ fun i => ws[i]?) isC = List.filterMap (fun i => ws[i]?) isC := rfl
  have h3 : List.filterMap (id ∘ some) wc = wc := by
    show List.filterMap some wc = wc
    exact List.filterMap_some
  rw [h2, h3] at h1
  exact h1
theorem wk_callB {A : Nat → Prop} {s : State} {H : Heap} {locs : List Loc} {ws wc : va_W} (hE : wj_E V s) (hZ : wj_S V A s s.heap ∧ wk_O s) (hP : va_P V.1 vwCl ws H) (hD : va_D A ws) (hS : va_S A s.heap H locs) (hF : ∀ q, va_A wc H.size q → A q) {isC : List Nat} (hC : isC.map (fun i => ws[i]?) = wc.map some) (hnd : va_nd isC = true) {av : List Value} (U : State) (hU : U.heap = H) (hW : s.WarmedH U.vm) : va_Pc av (wk_B V H.size wc) av.toArray U := by
  refine ⟨rfl, by rw [hU], by rw [hU]; exact hP.sub isC (wk_fm hC), hE.warm hW, ?_, (hD.sub isC hnd hC).weaken (fun _ _ _ _ => trivial)⟩
  rw [hU]
  exact ⟨wj_S.narrow (wj_S.moved hW.alike (wj_S.kept hZ.1 hS.2.1)) hF, wk_O.moved hW.alike hZ.2⟩
theorem wk_cI {idx a : Nat} {y : MethodName} {b : ByteArray} {n na fr2 lo2 mc2 ms2 : Nat} {As : List Value} {wc wr : va_W} {post : va_W → Prop} (C : wk_C l V X cc nL own fr lo mk ms) (hd : decode cc pc = .ok (.invokespecial idx, 3)) (hy : wj_cd y b n none na) (hnm : y.name = "<init>") (him : wj_in (.instanceMethod y)) (hlk : wj_in (.methodLink own idx y)) (M : wk_M l V y b n fr2 lo2 mc2 ms2 (.ref a :: As) wc post) {stk : List Value} (hst : stk = As.reverse ++ .ref a :: st) (hna : As.length = na) (isC isR : List Nat) (hC : isC.map (fun i => ws[i]?) = wc.map some) (hR : isR.map (fun i => ws[i]?) = wr.map some) (hn1 : va_nd isC = true) (hn2 : va_nd isR = true) (hdis : ∀ i ∈ isR, i ∉ isC) (hw : (st.map fun v => v.category).sum ≤ 8) (hr : fr2 + 1 ≤ fr ∧ 8 + (n + 11) + lo2 ≤ lo) (h1 : nc + mc2 ≤ mk) (h2 : ns + ms2 ≤ ms) (kk : ∀ u, post u → wk_J l V X (pc + 3) lv st (wr ++ u) (nc + mc2) (ns + ms2)) : wk_J l V X pc lv stk ws nc ns := by
  obtain ⟨p, e, R, s, m, args, below, meth, c, Q, A⟩ := X
  obtain ⟨hx, hb, hn, hown, hE, hZ, hA, hf, hlo, hc, hsl⟩ := C
  intro H locs ls hP hD hS hl
  obtain ⟨g1, g2, g3, g4, g5⟩ := hy
  have hF := va_free (wc := wc) hD hS hA isC hC
  subst hst
  refine va_callv (post := post) (B := fun u t => va_P V.1 vwCl u t.heap ∧ va_D (va_A wc H.size) u) (A1 := va_A wc H.size) (va_runI (As := As) (rest := st) (own := own) (Ts := []) (nL := nL) (n := na) (bytes := b) (maxL := n) ⟨hx, hb, hn, hown, fun _ h => by cases h⟩ (M H.size) ⟨⟨rfl, rfl, Nat.le_trans hr.1 hf, Nat.le_trans hr.2 hlo, ?_, List.mem_cons_self, hE.w g1, hE.w g2, ⟨g3, g4⟩, ?_, hE.w hlk⟩, hnm, hE.w him⟩ ⟨wk_blind, fun U hU hW => wk_callB hE hZ hP hD hS hF hC hn1 U hU hW⟩ rfl hna (by rw [← hn]; exact hl.1) rfl (lv_room hw) hd ⟨Nat.le_trans h1 hc, Nat.le_trans h2 hsl⟩) hS (fun q _ h => hF q h) hF (fun u t H1 locs1 ht hvm hp hB hz1 hk1 hS1 => ?_)
  · intro w hw9 a' U hW
    rw [List.mem_singleton] at hw9
    subst hw9
    exact (hE.warm hW).w g1
  · intro sig h9
    rw [h9] at g5
    exact (Option.some.inj g5).symm
  · obtain ⟨hP1, hD1⟩ := hB
    rw [ht] at hP1
    obtain ⟨hP2, hD2⟩ := va_join (wr := wr) (w1 := u) hP hD isC isR hC hR hn2 hdis hk1 hF hP1 hD1
    exact kk u hp H1 locs1 ls hP2 hD2 hS1 hl
theorem wk_cN {idx a : Nat} {host : String} {y : MethodName} {b : ByteArray} {n na fr2 lo2 mc2 ms2 : Nat} {As : List Value} {wc wr : va_W} {post : va_W → Prop} (C : wk_C l V X cc nL own fr lo mk ms) (hd : decode cc pc = .ok (.invokespecial idx, 3)) (hy : wj_cd y b n none na) (hnm : y.name = "<init>") (him : wj_in (.instanceMethod y)) (hlk : wj_in (.methodLinkNest own idx y host)) (M : wk_M l V y b n fr2 lo2 mc2 ms2 (.ref a :: As) wc post) {stk : List Value} (hst : stk = As.reverse ++ .ref a :: st) (hna : As.length = na) (isC isR : List Nat) (hC : isC.map (fun i => ws[i]?) = wc.map some) (hR : isR.map (fun i => ws[i]?) = wr.map some) (hn1 : va_nd isC = true) (hn2 : va_nd isR = true) (hdis : ∀ i ∈ isR, i ∉ isC) (hw : (st.map fun v => v.category).sum ≤ 8) (hr : fr2 + 1 ≤ fr ∧ 8 + (n + 11) + lo2 ≤ lo) (h1 : nc + mc2 ≤ mk) (h2 : ns + ms2 ≤ ms) (kk : ∀ u, post u → wk_J l V X (pc + 3) lv st (wr ++ u) (nc + mc2) (ns + ms2)) : wk_J l V X pc lv stk ws nc ns := by
  obtain ⟨p, e, R, s, m, args, below, meth, c, Q, A⟩ := X
  obtain ⟨hx, hb, hn, hown, hE, hZ, hA, hf, hlo, hc, hsl⟩ := C
  intro H locs ls hP hD hS hl
  obtain ⟨g1, g2, g3, g4, g5⟩ := hy
  have hF := va_free (wc := wc) hD hS hA isC hC
  subst hst
  refine va_callv (post := post) (B := fun u t => va_P V.1 vwCl u t.heap ∧ va_D (va_A wc H.size) u) (A1 := va_A wc H.size) (va_runIN (As := As) (rest := st) (own := own) (host := host) (Ts := []) (nL := nL) (n := na) (bytes := b) (maxL := n) ⟨hx, hb, hn, hown, fun _ h => by cases h⟩ (M H.size) ⟨⟨⟨rfl, rfl, Nat.le_trans hr.1 hf, Nat.le_trans hr.2 hlo, ?_, List.mem_cons_self⟩, hE.w g1, hE.w g2, ⟨g3, g4⟩, ?_, hE.w hlk⟩, hnm, hE.w him⟩ ⟨wk_blind, fun U hU hW => wk_callB hE hZ hP hD hS hF hC hn1 U hU hW⟩ rfl hna (by rw [← hn]; exact hl.1) rfl (lv_room hw) hd ⟨Nat.le_trans h1 hc, Nat.le_trans h2 hsl⟩) hS (fun q _ h => hF q h) hF (fun u t H1 locs1 ht hvm hp hB hz1 hk1 hS1 => ?_)
  · intro w hw9 a' U hW
    rw [List.mem_singleton] at hw9
    subst hw9
    exact (hE.warm hW).w g1
  · intro sig h9
    rw [h9] at g5
    exact (Option.some.inj g5).symm
  · obtain ⟨hP1, hD1⟩ := hB
    rw [ht] at hP1
    obtain ⟨hP2, hD2⟩ := va_join (wr := wr) (w1 := u) hP hD isC isR hC hR hn2 hdis hk1 hF hP1 hD1
    exact kk u hp H1 locs1 ls hP2 hD2 hS1 hl
theorem wk_cS {idx : Nat} {y : MethodName} {b : ByteArray} {n na fr2 lo2 mc2 ms2 : Nat} {As : List Value} {wc wr : va_W} {post : va_W → Prop} (C : wk_C l V X cc nL own fr lo mk ms) (hd : decode cc pc = .ok (.invokestatic idx, 3)) (hy : wj_ms y b n none na) (hlk : wj_in (.methodLink own idx y)) (M : wk_M l V y b n fr2 lo2 mc2 ms2 (As) wc post) {stk : List Value} (hst : stk = As.reverse ++ st) (hna : As.length = na) (isC isR : List Nat) (hC : isC.map (fun i => ws[i]?) = wc.map some) (hR : isR.map (fun i => ws[i]?) = wr.map some) (hn1 : va_nd isC = true) (hn2 : va_nd isR = true) (hdis : ∀ i ∈ isR, i ∉ isC) (hw : (st.map fun v => v.category).sum ≤ 8) (hr : fr2 + 1 ≤ fr ∧ 8 + (n + 11) + lo2 ≤ lo) (h1 : nc + mc2 ≤ mk) (h2 : ns + ms2 ≤ ms) (kk : ∀ u, post u → wk_J l V X (pc + 3) lv st (wr ++ u) (nc + mc2) (ns + ms2)) : wk_J l V X pc lv stk ws nc ns := by
  obtain ⟨p, e, R, s, m, args, below, meth, c, Q, A⟩ := X
  obtain ⟨hx, hb, hn, hown, hE, hZ, hA, hf, hlo, hc, hsl⟩ := C
  intro H locs ls hP hD hS hl
  obtain ⟨⟨g1, g2, g3, g4, g5⟩, g6⟩ := hy
  have hF := va_free (wc := wc) hD hS hA isC hC
  subst hst
  refine va_callv (post := post) (B := fun u t => va_P V.1 vwCl u t.heap ∧ va_D (va_A wc H.size) u) (A1 := va_A wc H.size) (va_runS (As := As) (rest := st) (own := own) (Ts := []) (nL := nL) (n := na) (bytes := b) (maxL := n) (ret := none) ⟨hx, hb, hn, hown, fun _ h => by cases h⟩ (M H.size) ⟨⟨rfl, rfl, Nat.le_trans hr.1 hf, Nat.le_trans hr.2 hlo, ?_, List.mem_cons_self, hE.w g1, hE.w g2, ⟨g3, g4⟩, ?_, hE.w hlk⟩, hE.w g6⟩ ⟨wk_blind, fun U hU hW => wk_callB hE hZ hP hD hS hF hC hn1 U hU hW⟩ rfl hna (by rw [← hn]; exact hl.1) rfl (lv_room hw) hd ⟨Nat.le_trans h1 hc, Nat.le_trans h2 hsl⟩) hS (fun q _ h => hF q h) hF (fun u t H1 locs1 ht hvm hp hB hz1 hk1 hS1 => ?_)
  · intro w hw9 a' U hW
    rw [List.mem_singleton] at hw9
    subst hw9
    exact (hE.warm hW).w g1
  · intro sig h9
    rw [h9] at g5
    exact (Option.some.inj g5).symm
  · obtain ⟨hP1, hD1⟩ := hB
    rw [ht] at hP1
    obtain ⟨hP2, hD2⟩ := va_join (wr := wr) (w1 := u) hP hD isC isR hC hR hn2 hdis hk1 hF hP1 hD1
    exact kk u hp H1 locs1 ls hP2 hD2 hS1 hl
end WK
def wk_RV (l : Launch) (V : wj_V) (X : wk_X) (cc : ByteArray) (post : va_W → Prop) (mc ms : Nat) : Prop := ∀ (pc : Nat) (lv : List (Option Value)) (u : va_W) (nc ns : Nat), decode cc pc = .ok (.return_, 1) → post u → nc ≤ mc → ns ≤ ms → wk_J l V X pc lv [] u nc ns
theorem wk_of {l : Launch} {V : wj_V} {y : MethodName} {cc : ByteArray} {n : Nat} {fr lo mc ms : Nat} {av : List Value} {ws : va_W} {own : String} {post : va_W → Prop} (lv0 : List (Option Value)) (hy : plainName y.cls = true) (ho : y.cls = own) (hlv : wj_en 0 lv0 = lv_args 0 av) (hln : (lg_sl av).length ≤ n)
    (body : ∀ X : wk_X, wk_C l V X cc n own fr lo mc ms → wk_I X y.name → wk_RV l V X cc post mc ms → wk_J l V X 0 lv0 [] ws 0 0) : wk_M l V y cc n fr lo mc ms av ws post := by
  intro sz
  refine Met.ofW (cc := cc) (maxL := n) (ret := none) (ws' := []) hy rfl ?_
  intro p e s m args below meth c s₁ B hml hv
  obtain ⟨rfl, hsz, hP, hE, hZ, hD⟩ := hv
  have hx := B.exec
  have hb := B.bytes
  have hr := B.returns
  have hown : s.vm.findClass own = some m.cls := ho ▸ findClass_of_methodNamed B.named
  have hlk := B.notSynchronized
  have hin : meth.name = y.name := (name_of_methodNamed B.named B.method).1
  subst hsz
  have hl := lv_entry av (n := n) hln
  rw [← hlv] at hl
  rw [lg_entry_eq]
  refine body (p, e, { frames := fr, cells := mc, slots := ms, locals := lo }, s, m, av.toArray, below, meth, c, MQ below (wk_QV V ws post s.heap.size) av.toArray s mc ms (va_A ws s.heap.size), va_A ws s.heap.size) ⟨hx, hb, hml, hown, hE, hZ, fun q h => Or.inr h, Nat.le_refl _, Nat.le_refl _, Nat.le_refl _, Nat.le_refl _⟩ hin ?_ s.heap [] _ hP hD.self va_S.rf (by rw [hml]; exact hl)
  intro pc lv u nc ns hd hp g1 g2 H locs ls hP hD hS hl
  refine W.widen g1 g2 ?_
  exact W.vret hx hb hr (fun t ht hW => ⟨⟨u, rfl, hp, by show va_P _ _ _ t.heap ∧ _; rw [ht]; exact ⟨hP, hD⟩⟩, hS.F ht⟩) hS.2.2 hd hlk
theorem wk_ofJ {l : Launch} {V : wj_V} {y : MethodName} {cc : ByteArray} {n : Nat} {fr lo mc ms : Nat} {av : List Value} {ws : va_W} {own : String} {post : va_W → Prop} (lv0 : List (Option Value)) (hy : plainFor y = true) (ho : y.cls = own) (hlv : wj_en 0 lv0 = lv_args 0 av) (hln : (lg_sl av).length ≤ n)
    (body : ∀ X : wk_X, wk_C l V X cc n own fr lo mc ms → wk_I X y.name → wk_RV l V X cc post mc ms → wk_J l V X 0 lv0 [] ws 0 0) : wk_M l V y cc n fr lo mc ms av ws post := by
  intro sz
  refine wj_metJ (cc := cc) (maxL := n) (ret := none) (ws' := []) hy rfl ?_
  intro p e s m args below meth c s₁ B hml hv
  obtain ⟨rfl, hsz, hP, hE, hZ, hD⟩ := hv
  have hx := B.exec
  have hb := B.bytes
  have hr := B.returns
  have hown : s.vm.findClass own = some m.cls := ho ▸ findClass_of_methodNamed B.named
  have hlk := B.notSynchronized
  have hin : meth.name = y.name := (name_of_methodNamed B.named B.method).1
  subst hsz
  have hl := lv_entry av (n := n) hln
  rw [← hlv] at hl
  rw [lg_entry_eq]
  refine body (p, e, { frames := fr, cells := mc, slots := ms, locals := lo }, s, m, av.toArray, below, meth, c, MQ below (wk_QV V ws post s.heap.size) av.toArray s mc ms (va_A ws s.heap.size), va_A ws s.heap.size) ⟨hx, hb, hml, hown, hE, hZ, fun q h => Or.inr h, Nat.le_refl _, Nat.le_refl _, Nat.le_refl _, Nat.le_refl _⟩ hin ?_ s.heap [] _ hP hD.self va_S.rf (by rw [hml]; exact hl)
  intro pc lv u nc ns hd hp g1 g2 H locs ls hP hD hS hl
  refine W.widen g1 g2 ?_
  exact W.vret hx hb hr (fun t ht hW => ⟨⟨u, rfl, hp, by show va_P _ _ _ t.heap ∧ _; rw [ht]; exact ⟨hP, hD⟩⟩, hS.F ht⟩) hS.2.2 hd hlk

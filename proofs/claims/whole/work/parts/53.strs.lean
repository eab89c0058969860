/-! rows of the written Strings -/
theorem wj_lnb : ∀ q, q < 14 → wj_ln.getD q 0 ≤ 8 := by decide +kernel
section WSTR
variable {l : Launch} {V : wj_V} {X : wj_X} {cc : ByteArray} {nL : Nat} {own : String} {fr lo : Nat} {pc : Nat} {lv : List (Option Value)} {st : List Value} {σ : wj_St}
theorem wj_ldcX {p : Program} {l : Launch} {e : Env} {R : Room} {s : State} {m : MethodId} {args : Array Value} {below : List Frame} {meth : Method} {c : Code} {T : State} {locs : List Loc} {cells slots : Nat}
    (X : Stand p l e R s m args below meth c T locs cells slots) (hexec : p.tables.exec = Jvm.exec) {own text : String} {index : Nat} {a : Addr} (hown : s.vm.findClass own = some m.cls)
    (hconst : (Cond.stringRef own index text).before args s = true) (hev : (Term.string own index).eval args s none [] s = some (.ref a)) {g : JFrame} (hg : g.method = m) (hdg : decode c.code g.pc = .ok (.ldc_w index, 3)) :
    ∀ target, Steps p.tables e below (T.setTop { g with pc := g.pc + 3, stack := .ref a :: g.stack }) target → Steps p.tables e below (T.setTop g) target := by
  obtain ⟨k, cf, i, a', hk, hcf, hcp, -, hr, hev'⟩ := Cond.stringRef_spec hown hconst
  cases hev.symm.trans hev'
  obtain ⟨k', hk', he⟩ := X.warmed.alike.2.2 _ _ hk
  have hr' : k'.resolved[index]? = some (some (.string a)) := by
    rcases X.warmed.entry hk hk' index with h | ⟨h, -⟩
    · rw [h]; exact hr
    · rw [hr] at h; cases h
  intro target hrest
  subst hg
  jvm_step X.here [hexec, hdg, Op.ldc_w.wp_string (e := e) (s := T) (f := g) X.here.top hk' (by rw [he]; exact hcf) hcp hr']
  exact hrest
theorem wj_ldcSW {idx : Nat} {tx : String} {i : Nat} (C : wj_C l V X cc nL own fr lo) (hd : decode cc pc = .ok (.ldc_w idx, 3)) (hw : (own, idx, tx, i) ∈ wj_L) (kk : wj_J l V X (pc + 3) lv (.ref (V.2.2.2.1 i) :: st) σ) : wj_J l V X pc lv st σ := by
  obtain ⟨p, e, R, s, m, args, below, meth, c, cells, slots, Q⟩ := X
  obtain ⟨hx, hb, hn, hown, hE, hZ, hi, hf, hlo, hc, hsl⟩ := C
  intro H locs ls hP hS hl
  intro T hT X
  obtain ⟨t, a1, b1⟩ := kk H locs ls hP hS hl T hT X
  have hz := hE.2.2 _ hw
  exact ⟨t, wj_ldcX X hx hown (text := tx) (a := V.2.2.2.1 i) hz.1 hz.2 (g := F0 m pc ls st) rfl (by rw [hb]; exact hd) t a1, b1⟩
theorem wj_rVs (C : wj_C l V X cc nL own fr lo) {idx : Nat} (hd : decode cc pc = .ok (.invokevirtual idx, 3)) {y : MethodName} {b : ByteArray} {n : Nat} {ret : Option FieldType} {na : Nat} (hy : wj_mv y b n ret na) (hlk : wj_in (.methodLink own idx y)) (hqc : y.cls = "java/lang/String") {q : Nat} (hq : q < 14) {fr2 lo2 : Nat} {As : List Value} {Qc : Nat → Array Value → State → Outcome → State → Prop} (M : wj_M l V y b n ret fr2 lo2 (.ref (V.2.2.2.1 q) :: As) σ Qc) {stk rest : List Value} (hna : As.length = na) (hst : stk = As.reverse ++ .ref (V.2.2.2.1 q) :: rest) (hw : (rest.map fun v => v.category).sum ≤ 8) (hr : fr2 + 1 ≤ fr ∧ 8 + (n + 11) + lo2 ≤ lo) : wj_run l V X pc lv stk rest σ Qc := by
  obtain ⟨p, e, R, s, m, args, below, meth, c, cells, slots, Q⟩ := X
  obtain ⟨hx, hb, hn, hown, hE, hZ, hi, hf, hlo, hc, hsl⟩ := C
  intro H locs ls hP hS hl
  obtain ⟨⟨h1, h2, h3, h4, h5⟩, h6, h7⟩ := hy
  refine ⟨_, va_runV (C := y.cls) (b := V.2.2.2.1 q) (As := As) (rest := rest) (own := own) (Ts := []) (nL := nL) (n := na) (bytes := b) (maxL := n) (ret := ret) ⟨hx, hb, hn, hown, fun _ h => by cases h⟩ (M H.size) ⟨⟨rfl, rfl, Nat.le_trans hr.1 hf, Nat.le_trans hr.2 hlo, ?_, List.mem_cons_self, hE.w h1, hE.w h2, ⟨h3, h4⟩, ?_, hE.w hlk⟩, hE.w h6, hE.w h7⟩ ⟨wj_blind, ?_, fun U hU hW => wj_callB hE hZ hi hP hS U hU hW⟩ rfl hna (by rw [← hn]; exact hl.1) hst (lv_room hw) hd ⟨hc, hsl⟩⟩
  · intro w hw9 a' U hW
    rw [List.mem_singleton] at hw9
    subst hw9
    exact (hE.warm hW).w h1
  · intro sig h9
    rw [h9] at h5
    exact (Option.some.inj h5).symm
  · have := vk_recv hZ.1 hq hS
    rw [← hqc] at this
    exact this
theorem wj_sval {q : Nat} (C : wj_C l V X cc nL RJ0 fr lo) (hd : decode cc pc = .ok (.getfield 9, 3)) (hq : q < 14) (kk : wj_J l V X (pc + 3) lv (.ref (V.2.2.2.2 q) :: st) σ) : wj_J l V X pc lv (.ref (V.2.2.2.1 q) :: st) σ := by
  obtain ⟨p, e, R, s, m, args, below, meth, c, cells, slots, Q⟩ := X
  obtain ⟨hx, hb, hn, hown, hE, hZ, hi, hf, hlo, hc, hsl⟩ := C
  intro H locs ls hP hS hl
  exact vk_getf (ref := "java/lang/String") hx hb (hZ.1.1 q hq).2.2.1 hS hown (hE.w (wj_mem 1302 (by decide +kernel) (by decide +kernel))) (fun x h => h) hd (kk H locs ls hP hS hl)
theorem wj_scod {q : Nat} (C : wj_C l V X cc nL RJ0 fr lo) (hd : decode cc pc = .ok (.getfield 15, 3)) (hq : q < 14) (kk : wj_J l V X (pc + 3) lv (.int 0 :: st) σ) : wj_J l V X pc lv (.ref (V.2.2.2.1 q) :: st) σ := by
  obtain ⟨p, e, R, s, m, args, below, meth, c, cells, slots, Q⟩ := X
  obtain ⟨hx, hb, hn, hown, hE, hZ, hi, hf, hlo, hc, hsl⟩ := C
  intro H locs ls hP hS hl
  exact vk_getf (ref := "java/lang/String") hx hb (hZ.1.1 q hq).2.1 hS hown (hE.w (wj_mem 1303 (by decide +kernel) (by decide +kernel))) (fun x h => h) hd (kk H locs ls hP hS hl)
theorem wj_cmps (C : wj_C l V X cc nL RJ0 fr lo) (hd : decode cc pc = .ok (.getstatic 38, 3)) (kk : wj_J l V X (pc + 3) lv (.int 1 :: st) σ) : wj_J l V X pc lv st σ := by
  obtain ⟨p, e, R, s, m, args, below, meth, c, cells, slots, Q⟩ := X
  obtain ⟨hx, hb, hn, hown, hE, hZ, hi, hf, hlo, hc, hsl⟩ := C
  intro H locs ls hP hS hl
  exact va_gets (ref := "java/lang/String") hx hb hZ.2.1 hS hown (hE.w (wj_mem 628 (by decide +kernel) (by decide +kernel))) (fun x h => h) hd (kk H locs ls hP hS hl)
theorem wj_sio (C : wj_C l V X cc nL RJ0 fr lo) (hd : decode cc pc = .ok (.getstatic 1053, 3)) (kn : wj_J l V X (pc + 3) lv (.null :: st) σ) (ks : ∀ t, wj_J l V X (pc + 3) lv (.ref t :: st) σ) : wj_J l V X pc lv st σ := by
  obtain ⟨p, e, R, s, m, args, below, meth, c, cells, slots, Q⟩ := X
  obtain ⟨hx, hb, hn, hown, hE, hZ, hi, hf, hlo, hc, hsl⟩ := C
  intro H locs ls hP hS hl
  rcases hZ.2.2 with hz | ⟨t, hz⟩
  · exact va_gets (ref := "jdk/internal/util/Preconditions") hx hb hz hS hown (hE.w (wj_mem 644 (by decide +kernel) (by decide +kernel))) (fun x h => h) hd (kn H locs ls hP hS hl)
  · exact va_gets (ref := "jdk/internal/util/Preconditions") hx hb hz hS hown (hE.w (wj_mem 644 (by decide +kernel) (by decide +kernel))) (fun x h => h) hd (ks t H locs ls hP hS hl)
theorem wj_slen {q : Nat} (C : wj_C l V X cc nL own fr lo) (hd : decode cc pc = .ok (.arraylength, 1)) (hq : q < 14) (kk : wj_J l V X (pc + 1) lv (.int (nI (wj_ln.getD q 0)) :: st) σ) : wj_J l V X pc lv (.ref (V.2.2.2.2 q) :: st) σ := by
  obtain ⟨p, e, R, s, m, args, below, meth, c, cells, slots, Q⟩ := X
  obtain ⟨hx, hb, hn, hown, hE, hZ, hi, hf, hlo, hc, hsl⟩ := C
  intro H locs ls hP hS hl
  exact va_tlen hx hb (hZ.1.1 q hq).2.2.2 hS rfl hd (kk H locs ls hP hS hl)
theorem wj_sbal {q k : Nat} (C : wj_C l V X cc nL own fr lo) (hd : decode cc pc = .ok (.baload, 1)) (hq : q < 14) (hk : k < wj_ln.getD q 0) (hk2 : k < 1000) (kk : wj_J l V X (pc + 1) lv (.int ((wj_by.getD q []).getD k 0) :: st) σ) : wj_J l V X pc lv (.int (nI k) :: .ref (V.2.2.2.2 q) :: st) σ := by
  obtain ⟨p, e, R, s, m, args, below, meth, c, cells, slots, Q⟩ := X
  obtain ⟨hx, hb, hn, hown, hE, hZ, hi, hf, hlo, hc, hsl⟩ := C
  intro H locs ls hP hS hl
  exact va_tb (v := .int ((wj_by.getD q []).getD k 0)) hx hb (hZ.1.1 q hq).2.2.2 hS (vp_in_nI hk (by have := wj_lnb q hq; omega)) (by rw [nI_clamp (show k < 2 ^ 31 by omega)]) hd (kk H locs ls hP hS hl)
end WSTR
theorem wj_lns : ∀ q, q < 14 → nI (wj_ln.getD q 0) >>> ((0 : Int32) &&& 31) = nI (wj_ln.getD q 0) := by decide +kernel
theorem wj_bys : ∀ q, q < 14 → ∀ k, k < wj_ln.getD q 0 → ((((wj_by.getD q []).getD k 0) &&& 255).toUInt32 % 65536).toInt32 = (wj_by.getD q []).getD k 0 := by decide +kernel
theorem wj_byn : ∀ q, q < 14 → ∀ k, k < wj_ln.getD q 0 → narrow .char (.int ((wj_by.getD q []).getD k 0)) = .int ((wj_by.getD q []).getD k 0) := by decide +kernel
/-- the char at k of text q -/
abbrev tx_ch (q k : Nat) : Int32 := (wj_by.getD q []).getD k 0
abbrev tx_ln (q : Nat) : Nat := wj_ln.getD q 0
set_option maxRecDepth 100000 in
set_option maxHeartbeats 4000000 in
theorem c_J0_coder_7d493 (l : Launch) (V : wj_V) {σ : wj_St} {q : Nat} (hq : q < 14) : wj_M l V yJ0_coder_7d493 cJ0_coder_7d493 1 (some .byte) 0 0 [.ref (V.2.2.2.1 q)] σ (wj_I V 0 σ) := by
  refine wj_ofByJ (own := RJ0) [some (.ref (V.2.2.2.1 q))] (by decide +kernel) rfl rfl (Nat.le_of_ble_eq_true rfl) (fun X C hR => ?_)
  refine wj_cmps C dJ0_coder_7d493_0 ?_
  refine wj_if_eq C 13 dJ0_coder_7d493_3 (by decide) (fun h3 => absurd h3 (by decide)) (fun h3 => ?_)
  refine wj_aload_n C 0 dJ0_coder_7d493_6 rfl rfl ?_
  refine wj_scod C dJ0_coder_7d493_7 hq ?_
  refine wj_goto C 14 dJ0_coder_7d493_10 (by decide) ?_
  exact hR _ _ _ _ _ dJ0_coder_7d493_14 ⟨by decide +kernel, rfl, rfl⟩ wj_rfl
set_option maxRecDepth 100000 in
set_option maxHeartbeats 4000000 in
theorem c_J0_isLatin1_aae02 (l : Launch) (V : wj_V) {σ : wj_St} {q : Nat} (hq : q < 14) : wj_M l V yJ0_isLatin1_aae02 cJ0_isLatin1_aae02 1 (some .boolean) 0 0 [.ref (V.2.2.2.1 q)] σ (wj_I V 1 σ) := by
  refine wj_ofZJ (own := RJ0) [some (.ref (V.2.2.2.1 q))] (by decide +kernel) rfl rfl (Nat.le_of_ble_eq_true rfl) (fun X C hR => ?_)
  refine wj_cmps C dJ0_isLatin1_aae02_0 ?_
  refine wj_if_eq C 17 dJ0_isLatin1_aae02_3 (by decide) (fun h3 => absurd h3 (by decide)) (fun h3 => ?_)
  refine wj_aload_n C 0 dJ0_isLatin1_aae02_6 rfl rfl ?_
  refine wj_scod C dJ0_isLatin1_aae02_7 hq ?_
  refine wj_if_ne C 17 dJ0_isLatin1_aae02_10 (by decide) (fun h10 => absurd h10 (fun z => z rfl)) (fun h10 => ?_)
  refine wj_iconst (v := 1) C dJ0_isLatin1_aae02_13 (by decide) ?_
  refine wj_goto C 18 dJ0_isLatin1_aae02_14 (by decide) ?_
  exact hR _ _ _ _ _ dJ0_isLatin1_aae02_18 ⟨by decide +kernel, rfl, rfl⟩ wj_rfl
set_option maxRecDepth 100000 in
set_option maxHeartbeats 4000000 in
theorem c_J0_length_8abf5 (l : Launch) (V : wj_V) {σ : wj_St} {q : Nat} (hq : q < 14) : wj_M l V yJ0_length_8abf5 cJ0_length_8abf5 1 (some .int) 1 20 [.ref (V.2.2.2.1 q)] σ (wj_I V (nI (tx_ln q)) σ) := by
  refine wj_ofIJ (own := RJ0) [some (.ref (V.2.2.2.1 q))] (by decide +kernel) rfl rfl (Nat.le_of_ble_eq_true rfl) (fun X C hR => ?_)
  refine wj_aload_n C 0 dJ0_length_8abf5_0 rfl rfl ?_
  refine wj_sval C dJ0_length_8abf5_1 hq ?_
  refine wj_slen C dJ0_length_8abf5_4 hq ?_
  refine wj_aload_n C 0 dJ0_length_8abf5_5 rfl rfl ?_
  refine wj_cif C (wj_rVs C dJ0_length_8abf5_6 km_J0_coder_7d493 kl_J0_335 rfl hq (c_J0_coder_7d493 l V hq) rfl rfl (Nat.le_of_ble_eq_true rfl) (by decide)) ?_
  refine wj_ishr C dJ0_length_8abf5_9 ?_
  exact hR _ _ _ _ _ dJ0_length_8abf5_10 ⟨wj_lns q hq, rfl⟩ wj_rfl
set_option maxRecDepth 100000 in
set_option maxHeartbeats 4000000 in
theorem c_J3_checkIndex_n (l : Launch) (V : wj_V) {σ : wj_St} {i n t : Nat} (hi : i < n) (hn : n < 1000) : wj_M l V yJ3_checkIndex_8e157 cJ3_checkIndex_8e157 3 (some .int) 0 0 [.int (nI i), .int (nI n), .null] σ (wj_I V (nI i) σ) := by
  refine wj_ofIJ (own := RJ3) [some (.int (nI i)), some (.int (nI n)), some (.null)] (by decide +kernel) rfl rfl (Nat.le_of_ble_eq_true rfl) (fun X C hR => ?_)
  refine wj_iload_n C 0 dJ3_checkIndex_8e157_0 rfl rfl ?_
  refine wj_if_lt C 9 dJ3_checkIndex_8e157_1 (by decide) (fun h1 => absurd h1 (nI_pos (by omega))) (fun h1 => ?_)
  refine wj_iload_n C 0 dJ3_checkIndex_8e157_4 rfl rfl ?_
  refine wj_iload_n C 1 dJ3_checkIndex_8e157_5 rfl rfl ?_
  refine wj_icmp_lt C 16 dJ3_checkIndex_8e157_6 (by decide) (fun h6 => ?_) (fun h6 => absurd (nI_lt hi (by omega)) h6)
  refine wj_iload_n C 0 dJ3_checkIndex_8e157_16 rfl rfl ?_
  exact hR _ _ _ _ _ dJ3_checkIndex_8e157_17 ⟨rfl, rfl⟩ wj_rfl
set_option maxRecDepth 100000 in
set_option maxHeartbeats 4000000 in
theorem c_J3_checkIndex_r (l : Launch) (V : wj_V) {σ : wj_St} {i n t : Nat} (hi : i < n) (hn : n < 1000) : wj_M l V yJ3_checkIndex_8e157 cJ3_checkIndex_8e157 3 (some .int) 0 0 [.int (nI i), .int (nI n), .ref t] σ (wj_I V (nI i) σ) := by
  refine wj_ofIJ (own := RJ3) [some (.int (nI i)), some (.int (nI n)), some (.ref t)] (by decide +kernel) rfl rfl (Nat.le_of_ble_eq_true rfl) (fun X C hR => ?_)
  refine wj_iload_n C 0 dJ3_checkIndex_8e157_0 rfl rfl ?_
  refine wj_if_lt C 9 dJ3_checkIndex_8e157_1 (by decide) (fun h1 => absurd h1 (nI_pos (by omega))) (fun h1 => ?_)
  refine wj_iload_n C 0 dJ3_checkIndex_8e157_4 rfl rfl ?_
  refine wj_iload_n C 1 dJ3_checkIndex_8e157_5 rfl rfl ?_
  refine wj_icmp_lt C 16 dJ3_checkIndex_8e157_6 (by decide) (fun h6 => ?_) (fun h6 => absurd (nI_lt hi (by omega)) h6)
  refine wj_iload_n C 0 dJ3_checkIndex_8e157_16 rfl rfl ?_
  exact hR _ _ _ _ _ dJ3_checkIndex_8e157_17 ⟨rfl, rfl⟩ wj_rfl
set_option maxRecDepth 100000 in
set_option maxHeartbeats 4000000 in
theorem c_J0_checkIndex_df160 (l : Launch) (V : wj_V) {σ : wj_St} {i n : Nat} (hi : i < n) (hn : n < 1000) : wj_M l V yJ0_checkIndex_df160 cJ0_checkIndex_df160 2 none 1 22 [.int (nI i), .int (nI n)] σ (wj_Vd V σ) := by
  refine wj_ofVJ (own := RJ0) [some (.int (nI i)), some (.int (nI n))] (by decide +kernel) rfl rfl (Nat.le_of_ble_eq_true rfl) (fun X C hR => ?_)
  refine wj_iload_n C 0 dJ0_checkIndex_df160_0 rfl rfl ?_
  refine wj_iload_n C 1 dJ0_checkIndex_df160_1 rfl rfl ?_
  refine wj_sio C dJ0_checkIndex_df160_2 ?_ (fun t => ?_)
  · refine wj_cif C (wj_rS C dJ0_checkIndex_df160_5 km_J3_checkIndex_8e157 kl_J0_1059 (c_J3_checkIndex_n l V (t := 0) hi hn) rfl rfl (Nat.le_of_ble_eq_true rfl) (by decide)) ?_
    refine wj_pop C dJ0_checkIndex_df160_8 rfl ?_
    exact hR _ _ _ _ dJ0_checkIndex_df160_9 rfl wj_rfl
  · refine wj_cif C (wj_rS C dJ0_checkIndex_df160_5 km_J3_checkIndex_8e157 kl_J0_1059 (c_J3_checkIndex_r l V (t := t) hi hn) rfl rfl (Nat.le_of_ble_eq_true rfl) (by decide)) ?_
    refine wj_pop C dJ0_checkIndex_df160_8 rfl ?_
    exact hR _ _ _ _ dJ0_checkIndex_df160_9 rfl wj_rfl
set_option maxRecDepth 100000 in
set_option maxHeartbeats 4000000 in
theorem c_J1_charAt_3b067 (l : Launch) (V : wj_V) {σ : wj_St} {q k : Nat} (hq : q < 14) (hk : k < tx_ln q) : wj_M l V yJ1_charAt_3b067 cJ1_charAt_3b067 2 (some .char) 2 43 [.ref (V.2.2.2.2 q), .int (nI k)] σ (wj_I V (tx_ch q k) σ) := by
  have hb9 := wj_lnb q hq
  have hk9 : k < 8 := Nat.lt_of_lt_of_le hk hb9
  refine wj_ofChJ (own := RJ1) [some (.ref (V.2.2.2.2 q)), some (.int (nI k))] (by decide +kernel) rfl rfl (Nat.le_of_ble_eq_true rfl) (fun X C hR => ?_)
  refine wj_iload_n C 1 dJ1_charAt_3b067_0 rfl rfl ?_
  refine wj_aload_n C 0 dJ1_charAt_3b067_1 rfl rfl ?_
  refine wj_slen C dJ1_charAt_3b067_2 hq ?_
  refine wj_cvf C (wj_rS C dJ1_charAt_3b067_3 km_J0_checkIndex_df160 kl_J1_9 (c_J0_checkIndex_df160 l V hk (by show wj_ln.getD q 0 < 1000; omega)) rfl rfl (Nat.le_of_ble_eq_true rfl) (by decide)) ?_
  refine wj_aload_n C 0 dJ1_charAt_3b067_6 rfl rfl ?_
  refine wj_iload_n C 1 dJ1_charAt_3b067_7 rfl rfl ?_
  refine wj_sbal C dJ1_charAt_3b067_8 hq hk (by omega) ?_
  refine wj_sipush (v := 255) C dJ1_charAt_3b067_9 (by decide) ?_
  refine wj_iand C dJ1_charAt_3b067_12 ?_
  refine wj_i2c C dJ1_charAt_3b067_13 ?_
  exact hR _ _ _ _ _ dJ1_charAt_3b067_14 ⟨(by rw [wj_bys q hq k hk]; exact wj_byn q hq k hk), wj_bys q hq k hk, rfl⟩ wj_rfl
set_option maxRecDepth 100000 in
set_option maxHeartbeats 4000000 in
theorem c_J0_charAt_5068e (l : Launch) (V : wj_V) {σ : wj_St} {q k : Nat} (hq : q < 14) (hk : k < tx_ln q) : wj_M l V yJ0_charAt_5068e cJ0_charAt_5068e 2 (some .char) 3 64 [.ref (V.2.2.2.1 q), .int (nI k)] σ (wj_I V (tx_ch q k) σ) := by
  refine wj_ofChJ (own := RJ0) [some (.ref (V.2.2.2.1 q)), some (.int (nI k))] (by decide +kernel) rfl rfl (Nat.le_of_ble_eq_true rfl) (fun X C hR => ?_)
  refine wj_aload_n C 0 dJ0_charAt_5068e_0 rfl rfl ?_
  refine wj_cif C (wj_rVs C dJ0_charAt_5068e_1 km_J0_isLatin1_aae02 kl_J0_492 rfl hq (c_J0_isLatin1_aae02 l V hq) rfl rfl (Nat.le_of_ble_eq_true rfl) (by decide)) ?_
  refine wj_if_eq C 16 dJ0_charAt_5068e_4 (by decide) (fun h4 => absurd h4 (by decide)) (fun h4 => ?_)
  refine wj_aload_n C 0 dJ0_charAt_5068e_7 rfl rfl ?_
  refine wj_sval C dJ0_charAt_5068e_8 hq ?_
  refine wj_iload_n C 1 dJ0_charAt_5068e_11 rfl rfl ?_
  refine wj_cif C (wj_rS C dJ0_charAt_5068e_12 km_J1_charAt_3b067 kl_J0_495 (c_J1_charAt_3b067 l V hq hk) rfl rfl (Nat.le_of_ble_eq_true rfl) (by decide)) ?_
  exact hR _ _ _ _ _ dJ0_charAt_5068e_15 ⟨wj_byn q hq k hk, rfl, rfl⟩ wj_rfl

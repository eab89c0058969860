/-! LANES THAT AGREE: year, number, hurdles, gaps made, the list, and the slips that there are -/
def sp_ag (s t : Nat → Int32) : Prop := ∀ f, f < 7 → s f = t f
theorem ag_rfl {s : Nat → Int32} : sp_ag s s := fun _ _ => rfl
theorem ag_sym {s t : Nat → Int32} (h : sp_ag s t) : sp_ag t s := fun f hf => (h f hf).symm
theorem ag_rea {s t : Nat → Int32} (h : sp_ag s t) : sp_rea s = sp_rea t := by simp only [sp_rea, h 0 (by decide), h 2 (by decide), h 5 (by decide)]
theorem ag_lo {s t : Nat → Int32} (h : sp_ag s t) : sp_lo s = sp_lo t := by simp only [sp_lo, ag_rea h, h 1 (by decide), h 4 (by decide)]
theorem ag_hi {s t : Nat → Int32} (h : sp_ag s t) : sp_hi s = sp_hi t := by simp only [sp_hi, ag_rea h, h 1 (by decide), h 4 (by decide)]
theorem ag_cov {s t : Nat → Int32} (h : sp_ag s t) : sp_cov s = sp_cov t := by simp only [sp_cov, ag_lo h, ag_hi h]
theorem ag_isc {s t : Nat → Int32} (h : sp_ag s t) (p : Int32) : sp_isc s p = sp_isc t p := by simp only [sp_isc, ag_rea h, h 1 (by decide), h 4 (by decide)]
theorem ag_pro {s t : Nat → Int32} (h : sp_ag s t) : sp_pro s = sp_pro t := by simp only [sp_pro, h 3 (by decide), h 4 (by decide)]
theorem ag_str {s t : Nat → Int32} (h : sp_ag s t) (y : Int32) : sp_str s y = sp_str t y := by simp only [sp_str, ag_pro h, h 0 (by decide), h 2 (by decide), h 3 (by decide), h 5 (by decide)]
theorem ag_gro {s t : Nat → Int32} (h : sp_ag s t) : sp_gro s = sp_gro t := by simp only [sp_gro, sp_gpr, h 0 (by decide), h 4 (by decide), h 5 (by decide)]
theorem ag_fil {s t : Nat → Int32} (h : sp_ag s t) : sp_fil s = sp_fil t := by simp only [sp_fil, sp_fpl, h 0 (by decide), h 4 (by decide)]
theorem ag_tra {s t : Nat → Int32} (h : sp_ag s t) (w y : Int32) : sp_tra s w y = sp_tra t w y := by simp only [sp_tra, ag_rea h, ag_cov h, ag_str h, ag_gro h, ag_fil h, h 0 (by decide), h 1 (by decide), h 2 (by decide), h 3 (by decide), h 4 (by decide), h 5 (by decide), h 6 (by decide)]
theorem ag_upd {s t : Nat → Int32} (h : sp_ag s t) (f : Nat) (x : Int32) : sp_ag (upd s f x) (upd t f x) := fun g hg => by
  simp only [upd]
  split
  · rfl
  · exact h g hg
theorem ag_giv {s t : Nat → Int32} (h : sp_ag s t) : sp_ag (sp_giv s) (sp_giv t) := by
  unfold sp_giv
  rw [h 2 (by decide), h 3 (by decide), h 6 (by decide)]
  exact ag_upd (ag_upd (ag_upd h _ _) _ _) _ _
theorem ag_grw {s t : Nat → Int32} (h : sp_ag s t) : sp_ag (sp_grw s) (sp_grw t) := by
  unfold sp_grw
  rw [ag_gro h, ag_fil h, h 2 (by decide), h 3 (by decide)]
  exact ag_upd (ag_upd h _ _) _ _
theorem ag_new {s t : Nat → Int32} (a b c : Int32) : sp_ag (sp_new s a b c) (sp_new t a b c) := by
  intro f hf
  rcases f with _ | _ | _ | _ | _ | _ | _ | f
  all_goals first | rfl | omega
theorem ag_gs {s t : Nat → Int32} (h : sp_ag s t) (g : sp_gs s) : sp_gs t := by
  unfold sp_gs at g ⊢
  rw [h 0 (by decide), h 1 (by decide), h 2 (by decide), h 3 (by decide), h 4 (by decide), h 5 (by decide), h 6 (by decide)] at g
  exact g
def sp_re (A B : sp_L) : Prop := A.1 = B.1 ∧ A.2.1 = B.2.1 ∧ A.2.2.1 = B.2.2.1 ∧ A.2.2.2.1 = B.2.2.2.1 ∧ (∀ i, i < 6 → sp_ls A i = sp_ls B i) ∧ ∀ i, i < sp_N A → sp_ag (sp_sl A i) (sp_sl B i)
theorem re_N {A B : sp_L} (h : sp_re A B) : sp_N A = sp_N B := by rw [sp_N, sp_N, h.2.1]
theorem re_rfl {A : sp_L} : sp_re A A := ⟨rfl, rfl, rfl, rfl, fun _ _ => rfl, fun _ _ => ag_rfl⟩
theorem re_sym {A B : sp_L} (h : sp_re A B) : sp_re B A := ⟨h.1.symm, h.2.1.symm, h.2.2.1.symm, h.2.2.2.1.symm, fun i hi => (h.2.2.2.2.1 i hi).symm, fun i hi => ag_sym (h.2.2.2.2.2 i (by rw [re_N h]; exact hi))⟩
theorem re_tr {A B D : sp_L} (h : sp_re A B) (g : sp_re B D) : sp_re A D := ⟨h.1.trans g.1, h.2.1.trans g.2.1, h.2.2.1.trans g.2.2.1, h.2.2.2.1.trans g.2.2.2.1, fun i hi => (h.2.2.2.2.1 i hi).trans (g.2.2.2.2.1 i hi), fun i hi f hf => (h.2.2.2.2.2 i hi f hf).trans (g.2.2.2.2.2 i (by rw [← re_N h]; exact hi) f hf)⟩
theorem re_s {A B : sp_L} (h : sp_re A B) {i : Nat} (hi : i < sp_N A) : sp_ag (sp_sl A i) (sp_sl B i) := h.2.2.2.2.2 i hi
theorem re_sg {A B : sp_L} (h : sp_re A B) (p : Int32) : ∀ m, m ≤ sp_N A → sp_sg A p m = sp_sg B p m
  | 0, _ => by rw [sp_sg, sp_sg, h.2.2.1]
  | m + 1, hm => by rw [sp_sg, sp_sg, re_sg h p m (by omega), ag_isc (re_s h (by omega)), ag_str (re_s h (by omega)), h.1]
theorem re_stg {A B : sp_L} (h : sp_re A B) (p : Int32) : sp_stg A p = sp_stg B p := by rw [sp_stg, sp_stg, re_sg h p _ (Nat.le_refl _), re_N h]
theorem re_si {A B : sp_L} (h : sp_re A B) (p : Int32) : ∀ m, m ≤ sp_N A → sp_si A p m = sp_si B p m
  | 0, _ => rfl
  | m + 1, hm => by rw [sp_si, sp_si, re_si h p m (by omega), re_s h (show m < sp_N A by omega) 1 (by decide)]
theorem re_co {A B : sp_L} (h : sp_re A B) (p : Int32) : ∀ m, m ≤ sp_N A → sp_co A p m = sp_co B p m
  | 0, _ => rfl
  | m + 1, hm => by rw [sp_co, sp_co, re_co h p m (by omega), ag_isc (re_s h (by omega))]
theorem re_un {A B : sp_L} (h : sp_re A B) : ∀ m, m ≤ sp_N A → sp_un A m = sp_un B m
  | 0, _ => h.2.2.1
  | m + 1, hm => by rw [sp_un, sp_un, re_un h m (by omega), ag_cov (re_s h (by omega))]
theorem re_gap {A B : sp_L} (h : sp_re A B) : sp_gap A = sp_gap B := by rw [sp_gap, sp_gap, re_un h _ (Nat.le_refl _), re_N h]
theorem re_wk {A B : sp_L} (h : sp_re A B) : ∀ m, sp_wk A m = sp_wk B m
  | 0 => rfl
  | m + 1 => by rw [sp_wk, sp_wk, re_wk h m, re_stg h, re_stg h]
theorem re_pb {A B : sp_L} (h : sp_re A B) (w : Int32) : ∀ m, sp_pb A w m = sp_pb B w m
  | 0 => rfl
  | m + 1 => by rw [sp_pb, sp_pb, re_pb h w m, re_stg h]
theorem re_sum {A B : sp_L} (h : sp_re A B) (w : Int32) : ∀ m, m ≤ sp_N A → sp_sum A w m = sp_sum B w m
  | 0, _ => rfl
  | m + 1, hm => by rw [sp_sum, sp_sum, re_sum h w m (by omega), ag_tra (re_s h (by omega)), h.1]
theorem re_wS {A B : sp_L} (h : sp_re A B) {g g' : Nat → Nat → Int32} (hg : ∀ i, i < sp_N A → sp_ag (g i) (g' i)) : sp_re (sp_wS A g) (sp_wS B g') := ⟨h.1, h.2.1, h.2.2.1, h.2.2.2.1, h.2.2.2.2.1, hg⟩
theorem re_wH {A B : sp_L} (h : sp_re A B) (x : Int32) : sp_re (sp_wH A x) (sp_wH B x) := ⟨h.1, h.2.1, rfl, h.2.2.2.1, h.2.2.2.2.1, h.2.2.2.2.2⟩
theorem re_wM {A B : sp_L} (h : sp_re A B) (x : Int32) : sp_re (sp_wM A x) (sp_wM B x) := ⟨h.1, h.2.1, h.2.2.1, rfl, h.2.2.2.2.1, h.2.2.2.2.2⟩
theorem re_wY {A B : sp_L} (h : sp_re A B) (x : Int32) : sp_re (sp_wY A x) (sp_wY B x) := ⟨rfl, h.2.1, h.2.2.1, h.2.2.2.1, h.2.2.2.2.1, h.2.2.2.2.2⟩
theorem re_wL {A B : sp_L} (h : sp_re A B) {g g' : Nat → Int32} (hg : ∀ i, i < 6 → g i = g' i) : sp_re (sp_wL A g) (sp_wL B g') := ⟨h.1, h.2.1, h.2.2.1, h.2.2.2.1, hg, h.2.2.2.2.2⟩
theorem re_gvN {A B : sp_L} (h : sp_re A B) (p : Int32) (m : Nat) : sp_re (sp_gvN A p m) (sp_gvN B p m) := re_wS h (fun i hi => by
  rw [ag_isc (re_s h hi)]
  split
  · exact ag_giv (re_s h hi)
  · exact re_s h hi)
theorem re_grN {A B : sp_L} (h : sp_re A B) (m : Nat) : sp_re (sp_grN A m) (sp_grN B m) := re_wS h (fun i hi => by
  split
  · exact ag_grw (re_s h hi)
  · exact re_s h hi)
theorem re_layN {A B : sp_L} (h : sp_re A B) (s : Int32) (m : Nat) : sp_re (sp_layN A s m) (sp_layN B s m) := re_wS h (fun i hi => by
  split
  · exact ag_upd (re_s h hi) _ _
  · exact re_s h hi)
theorem re_us {A B : sp_L} (h : sp_re A B) (i f : Nat) (x : Int32) : sp_re (sp_us A i f x) (sp_us B i f x) := re_wS h (fun a ha => by
  split
  · rename_i e; subst e; exact ag_upd (re_s h ha) _ _
  · exact re_s h ha)
theorem re_brk {A B : sp_L} (h : sp_re A B) (p : Int32) : sp_re (sp_brk A p) (sp_brk B p) := by
  unfold sp_brk
  rw [h.2.2.1, h.2.2.2.1, re_N h]
  exact re_wM (re_gvN (re_wH h _) p _) _
theorem re_le {A B : sp_L} (h : sp_re A B) {y : Nat} (hY : A.1 = nI y) (hy : y < 2 ^ 31) : sp_le A = sp_le B := by
  rw [sp_le_of hY hy, sp_le_of (h.1 ▸ hY) hy, h.2.2.2.2.1 _ (Nat.mod_lt _ (by decide))]
theorem re_lean {A B : sp_L} (h : sp_re A B) {y : Nat} (hY : A.1 = nI y) (hy : y < 2 ^ 31) : sp_re (sp_lean A) (sp_lean B) := by
  unfold sp_lean
  rw [re_le h hY hy, re_stg h]
  split
  · exact re_brk h _
  · exact h
theorem re_yr {A B : sp_L} (h : sp_re A B) {y : Nat} (hY : A.1 = nI y) (hy : y < 2 ^ 31) : sp_re (sp_yr A) (sp_yr B) := by
  unfold sp_yr
  rw [re_N h, h.1]
  exact re_wY (re_grN (re_lean h hY hy) _) _
theorem re_yrs {A B : sp_L} (h : sp_re A B) {y : Nat} (hY : A.1 = nI y) : ∀ m, y + m < 2 ^ 31 → sp_re (sp_yrs A m) (sp_yrs B m)
  | 0, _ => h
  | m + 1, hm => re_yr (re_yrs h hY m (by omega)) (sp_yrs_y hY m) (by omega)
theorem re_bec (T A : sp_L) : sp_re (sp_bec T A) A := ⟨rfl, rfl, rfl, rfl, fun _ _ => rfl, fun i hi => by
  have : sp_sl (sp_bec T A) i = sp_sl A i := if_pos hi
  rw [this]; exact ag_rfl⟩
theorem re_G {A B : sp_L} (h : sp_re A B) {N y : Nat} (g : sp_G A N y) : sp_G B N y := by
  obtain ⟨g1, g2, g3, g4, g5, g6⟩ := g
  refine ⟨h.2.1 ▸ g1, g2, h.1 ▸ g3, fun i hi => ag_gs (re_s h (by rw [sp_N_of g1 g2]; exact hi)) (g4 i hi), fun i hi => by rw [← h.2.2.2.2.1 i hi]; exact g5 i hi, ?_⟩
  rw [← h.2.2.2.1]; exact g6
theorem re_add {A B : sp_L} (h : sp_re A B) {N : Nat} (hN : A.2.1 = nI N) (h8 : N < 8) (a b c : Int32) : sp_re (sp_add A N a b c) (sp_add B N a b c) := by
  refine ⟨h.1, rfl, h.2.2.1, h.2.2.2.1, h.2.2.2.2.1, fun i hi => ?_⟩
  have hi2 : i < N + 1 := by
    have : sp_N (sp_add A N a b c) = N + 1 := sp_N_of (A := sp_add A N a b c) rfl (by omega)
    omega
  show sp_ag (if i = N then _ else _) (if i = N then _ else _)
  by_cases e : i = N
  · rw [if_pos e, if_pos e]; exact ag_new a b c
  · rw [if_neg e, if_neg e]; exact re_s h (by rw [sp_N_of hN (by omega)]; omega)
/-- what is seen of a lane in its cells -/
theorem re_put {σ : wj_St} {k : Nat} {A : sp_L} (hk : 1 ≤ k ∧ k < 4) {N : Nat} (hn : A.2.1 = nI N) (hN : N ≤ 8) : sp_re (sp_get (sp_put σ k A) k) A := by
  refine ⟨sp_put_5, sp_put_2, sp_put_3, sp_put_4, fun i _ => ?_, fun i hi => ?_⟩
  · show sp_put σ k A (k + 6) i = _
    rw [sp_put_l]
  · have : i < 8 := by
      have e : (sp_get (sp_put σ k A) k).2.1 = nI N := sp_put_2.trans hn
      rw [sp_N_of e hN] at hi
      omega
    show sp_ag (sp_put σ k A (2 + 8 * k + i)) _
    rw [sp_put_s hk this]
    exact ag_rfl
theorem re_get {σ τ : wj_St} {k : Nat} (hk : 1 ≤ k ∧ k < 4) (h1 : ∀ j, j < 6 → σ k j = τ k j) (h2 : ∀ j, j < 6 → σ (k + 6) j = τ (k + 6) j) (h3 : ∀ i f, i < 8 → f < 7 → σ (2 + 8 * k + i) f = τ (2 + 8 * k + i) f) {N : Nat} (hn : σ k 2 = nI N) (hN : N ≤ 8) : sp_re (sp_get σ k) (sp_get τ k) := by
  refine ⟨h1 5 (by decide), h1 2 (by decide), h1 3 (by decide), h1 4 (by decide), fun i hi => h2 i hi, fun i hi f hf => h3 i f ?_ hf⟩
  rw [sp_N_of (A := sp_get σ k) hn hN] at hi
  omega

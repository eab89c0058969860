/-! WHAT STANDS: A the lane, z the drawing number, sp the spots, tl what was told, m bytes bt, H the sheets; kf whether an image is kept: K, kz, ks -/
def ws_N (A : sp_L) : Prop := ∃ N, N ≤ 8 ∧ A.2.1 = nI N
def ws_1 (S : wj_St) (A : sp_L) : Prop := ws_N A ∧ sp_re A (sp_get S 1)
def ws_5 (S : wj_St) (m : Nat) (bt : Nat → Int32) : Prop := S 46 1 = nI m ∧ ∀ k, k < m → S 47 k = bt k
def ws_7 (S : wj_St) (kf : Bool) (K : sp_L) (kz : Int32) (ks : Nat → Int32) : Prop := (S 0 7 = if kf = true then 1 else 0) ∧ (kf = true → ws_N K ∧ sp_re K (sp_get S 3) ∧ S 0 6 = kz ∧ ∀ p, p < 10 → S 35 p = ks p)
/-- the class stands for it -/
def ws_C (S : wj_St) (A : sp_L) (z : Int32) (sp tl : Nat → Int32) (m : Nat) (bt : Nat → Int32) (H : sp_Sh) (kf : Bool) (K : sp_L) (kz : Int32) (ks : Nat → Int32) : Prop :=
  ws_1 S A ∧ S 0 3 = z ∧ (∀ p, p < 10 → S 34 p = sp p) ∧ (∀ w, w < 7 → S 36 w = tl w) ∧ ws_5 S m bt ∧ sp_she H (sp_shC S) ∧ ws_7 S kf K kz ks
/-- the reference stands for it -/
def ws_M (S : wj_St) (A : sp_L) (z : Int32) (sp tl : Nat → Int32) (m : Nat) (bt : Nat → Int32) (H : sp_Sh) (kf : Bool) (K : sp_L) (kz : Int32) (ks : Nat → Int32) : Prop :=
  sp_re A (sp_mg (S 49)) ∧ (S 49 2 = z ∧ ∀ p, p < 10 → S 49 (11 + p) = sp p) ∧ ((∀ w, w < 7 → S 52 (w + 1) = tl w) ∧ S 52 0 = sp_tot tl 7) ∧ (S 48 7 = nI m ∧ tx_tg (S 53) bt m) ∧ sp_she H (sp_shM S) ∧ S 48 5 = 0 ∧ (S 48 3 = if kf = true then 1 else 0) ∧ (kf = true → sp_re K (sp_mg (S 50)) ∧ S 50 2 = kz ∧ ∀ p, p < 10 → S 50 (11 + p) = ks p)
/-- it is as the document has it, after c calls -/
def ws_K (c : Nat) (A : sp_L) (sp : Nat → Int32) (m : Nat) (H : sp_Sh) (kf : Bool) (K : sp_L) (ks : Nat → Int32) : Prop :=
  ∃ N y, sp_G A N y ∧ y ≤ 60 * c ∧ sp_spok sp N ∧ m ≤ 120 ∧ sp_shok H ∧ (kf = true → ∃ Nk yk, sp_G K Nk yk ∧ yk ≤ 60 * c ∧ sp_spok ks Nk)
def ws_A (c : Nat) (S : wj_St) : Prop := ∃ A z sp tl m bt H kf K kz ks, ws_C S A z sp tl m bt H kf K kz ks ∧ ws_M S A z sp tl m bt H kf K kz ks ∧ ws_K c A sp m H kf K ks
def tl_a (tl : Nat → Int32) : Sum Nat Int32 → Nat → Int32
  | .inl w => upd tl w (tl w + 1)
  | .inr _ => tl
def lt7 (a : Sum Nat Int32) : Prop := ∀ w, a = .inl w → w < 7
theorem she_sym {H K : sp_Sh} (e : sp_she H K) : sp_she K H := fun s hs => ⟨(e s hs).1.symm, (e s hs).2.1.symm, fun k hk => ((e s hs).2.2 k hk).symm⟩
theorem she_tr {H K J : sp_Sh} (e : sp_she H K) (f : sp_she K J) : sp_she H J := fun s hs => ⟨(e s hs).1.trans (f s hs).1, (e s hs).2.1.trans (f s hs).2.1, fun k hk => ((e s hs).2.2 k hk).trans ((f s hs).2.2 k hk)⟩
theorem she_rfl {H : sp_Sh} : sp_she H H := fun _ _ => ⟨rfl, rfl, fun _ _ => rfl⟩
theorem ws_1_f {S T : wj_St} {A : sp_L} (h : ws_1 S A) (e1 : T 1 = S 1) (e2 : T 7 = S 7) (e3 : ∀ i, i < 8 → T (10 + i) = S (10 + i)) : ws_1 T A := by
  obtain ⟨⟨N, h8, hN⟩, hr⟩ := h
  refine ⟨⟨N, h8, hN⟩, re_tr hr (re_get (N := N) (by decide) (fun j _ => by rw [e1]) (fun j _ => by show S 7 j = T 7 j; rw [e2]) (fun i f hi _ => by show S (10 + i) f = T (10 + i) f; rw [e3 i hi]) ?_ h8)⟩
  have := hr.2.1
  exact this.symm.trans hN
theorem ws_5_f {S T : wj_St} {m : Nat} {bt : Nat → Int32} (h : ws_5 S m bt) (e1 : T 46 1 = S 46 1) (e2 : T 47 = S 47) : ws_5 T m bt := ⟨e1.trans h.1, fun k hk => by rw [e2]; exact h.2 k hk⟩
theorem ws_6_f {S T : wj_St} {H : sp_Sh} (h : sp_she H (sp_shC S)) (e : ∀ q, 38 ≤ q → q < 46 → T q = S q) : sp_she H (sp_shC T) := by
  refine she_tr h (fun s hs => ⟨?_, ?_, fun k _ => ?_⟩)
  · show S (38 + s) 1 = T (38 + s) 1; rw [e _ (by omega) (by omega)]
  · show S (38 + s) 2 = T (38 + s) 2; rw [e _ (by omega) (by omega)]
  · show S (42 + s) k = T (42 + s) k; rw [e _ (by omega) (by omega)]
theorem ws_7_f {S T : wj_St} {kf : Bool} {K : sp_L} {kz : Int32} {ks : Nat → Int32} (h : ws_7 S kf K kz ks) (e0 : T 0 6 = S 0 6) (e7 : T 0 7 = S 0 7) (e1 : T 3 = S 3) (e2 : T 9 = S 9) (e3 : ∀ i, i < 8 → T (26 + i) = S (26 + i)) (e4 : T 35 = S 35) : ws_7 T kf K kz ks := by
  refine ⟨e7.trans h.1, fun q => ?_⟩
  obtain ⟨⟨N, h8, hN⟩, hr, h6, h35⟩ := h.2 q
  refine ⟨⟨N, h8, hN⟩, re_tr hr (re_get (N := N) (by decide) (fun j _ => by rw [e1]) (fun j _ => by show S 9 j = T 9 j; rw [e2]) (fun i f hi _ => by show S (26 + i) f = T (26 + i) f; rw [e3 i hi]) (hr.2.1.symm.trans hN) h8), e0.trans h6, fun p hp => by rw [e4]; exact h35 p hp⟩
/-- the class's cells but those of the lane on trial -/
theorem wc_f {S T : wj_St} {A K : sp_L} {z kz : Int32} {sp tl ks : Nat → Int32} {m : Nat} {bt : Nat → Int32} {H : sp_Sh} {kf : Bool} (h : ws_C S A z sp tl m bt H kf K kz ks) (e : ∀ q, q < 48 → q ≠ 2 → q ≠ 8 → ¬ (18 ≤ q ∧ q < 26) → T q = S q) : ws_C T A z sp tl m bt H kf K kz ks := by
  obtain ⟨h1, h2, h3, h4, h5, h6, h7⟩ := h
  refine ⟨ws_1_f h1 (e _ (by decide) (by decide) (by decide) (by decide)) (e _ (by decide) (by decide) (by decide) (by decide)) (fun i hi => e _ (by omega) (by omega) (by omega) (by omega)), ?_, fun p hp => ?_, fun w hw => ?_, ws_5_f h5 ?_ (e _ (by decide) (by decide) (by decide) (by decide)), ws_6_f h6 (fun q _ _ => e _ (by omega) (by omega) (by omega) (by omega)), ws_7_f h7 ?_ ?_ (e _ (by decide) (by decide) (by decide) (by decide)) (e _ (by decide) (by decide) (by decide) (by decide)) (fun i hi => e _ (by omega) (by omega) (by omega) (by omega)) (e _ (by decide) (by decide) (by decide) (by decide))⟩
  · rw [e 0 (by decide) (by decide) (by decide) (by decide)]; exact h2
  · rw [e 34 (by decide) (by decide) (by decide) (by decide)]; exact h3 p hp
  · rw [e 36 (by decide) (by decide) (by decide) (by decide)]; exact h4 w hw
  · rw [e 46 (by decide) (by decide) (by decide) (by decide)]
  · rw [e 0 (by decide) (by decide) (by decide) (by decide)]
  · rw [e 0 (by decide) (by decide) (by decide) (by decide)]
theorem wm_f {S T : wj_St} {A K : sp_L} {z kz : Int32} {sp tl ks : Nat → Int32} {m : Nat} {bt : Nat → Int32} {H : sp_Sh} {kf : Bool} (h : ws_M S A z sp tl m bt H kf K kz ks) (e : ∀ q, 48 ≤ q → q ≠ 51 → q ≠ 54 → q ≠ 58 → T q = S q) : ws_M T A z sp tl m bt H kf K kz ks := by
  obtain ⟨h1, h2, h3, h4, h5, h6, h7, h8⟩ := h
  have e48 := e 48 (by decide) (by decide) (by decide) (by decide)
  have e49 := e 49 (by decide) (by decide) (by decide) (by decide)
  have e50 := e 50 (by decide) (by decide) (by decide) (by decide)
  have e52 := e 52 (by decide) (by decide) (by decide) (by decide)
  have e53 := e 53 (by decide) (by decide) (by decide) (by decide)
  have e55 := e 55 (by decide) (by decide) (by decide) (by decide)
  have e56 := e 56 (by decide) (by decide) (by decide) (by decide)
  have e57 := e 57 (by decide) (by decide) (by decide) (by decide)
  refine ⟨by rw [e49]; exact h1, by rw [e49]; exact h2, by rw [e52]; exact h3, by rw [e48, e53]; exact h4, ?_, by rw [e48]; exact h6, by rw [e48]; exact h7, by rw [e50]; exact h8⟩
  have : sp_shM T = sp_shM S := by unfold sp_shM; rw [e55, e56, e57]
  rw [this]; exact h5
theorem sp_tw_o {S : wj_St} {a : Sum Nat Int32} {q : Nat} (h : q ≠ 36) : sp_tw S a q = S q := by
  cases a with
  | inl w => exact wj_u_ne h
  | inr v => rfl
theorem sp_fw_o {S : wj_St} {a : Sum Nat Int32} {q : Nat} (h : q ≠ 52) : sp_fw S a q = S q := by
  cases a with
  | inl w => show wj_u (wj_u S 52 _ _) 52 _ _ q = S q; rw [wj_u_ne h, wj_u_ne h]
  | inr v => rfl
/-- told, and the lane is another -/
theorem wc_plain {S : wj_St} {a : Sum Nat Int32} {A2 B2 : sp_L} {A K : sp_L} {z kz : Int32} {sp tl ks : Nat → Int32} {m : Nat} {bt : Nat → Int32} {H : sp_Sh} {kf : Bool} (h : ws_C S A z sp tl m bt H kf K kz ks) (hN : ws_N A2) (hr : sp_re A2 B2) : ws_C (sp_put (sp_tw S a) 1 B2) A2 z sp (tl_a tl a) m bt H kf K kz ks := by
  obtain ⟨h1, h2, h3, h4, h5, h6, h7⟩ := h
  have o : ∀ q, q ≠ 1 → q ≠ 7 → (q < 10 ∨ 18 ≤ q) → q ≠ 36 → sp_put (sp_tw S a) 1 B2 q = S q := fun q q1 q7 q10 q36 => by
    rw [sp_put_o ⟨q1, q7, q10⟩, sp_tw_o q36]
  obtain ⟨N, n8, hn⟩ := hN
  refine ⟨⟨⟨N, n8, hn⟩, re_tr hr (re_sym (re_put (by decide) (hr.2.1.symm.trans hn) n8))⟩, ?_, fun p hp => ?_, fun w hw => ?_, ws_5_f h5 ?_ (o _ (by decide) (by decide) (by decide) (by decide)), ws_6_f h6 (fun q _ _ => o _ (by omega) (by omega) (by omega) (by omega)), ws_7_f h7 ?_ ?_ (o _ (by decide) (by decide) (by decide) (by decide)) (o _ (by decide) (by decide) (by decide) (by decide)) (fun i hi => o _ (by omega) (by omega) (by omega) (by omega)) (o _ (by decide) (by decide) (by decide) (by decide))⟩
  · rw [o 0 (by decide) (by decide) (by decide) (by decide)]; exact h2
  · rw [o 34 (by decide) (by decide) (by decide) (by decide)]; exact h3 p hp
  · rw [sp_put_o (by decide)]
    cases a with
    | inl v =>
      show wj_u S 36 v (S 36 v + 1) 36 w = upd tl v (tl v + 1) w
      rw [wj_u_same]
      simp only [upd]
      split
      · rename_i e; subst e; rw [h4 w hw]
      · exact h4 w hw
    | inr v => exact h4 w hw
  · rw [o 46 (by decide) (by decide) (by decide) (by decide)]
  · rw [o 0 (by decide) (by decide) (by decide) (by decide)]
  · rw [o 0 (by decide) (by decide) (by decide) (by decide)]
/-- told, the lane on trial is another -/
theorem wc_think {S : wj_St} {a : Sum Nat Int32} {T2 : sp_L} {A K : sp_L} {z kz : Int32} {sp tl ks : Nat → Int32} {m : Nat} {bt : Nat → Int32} {H : sp_Sh} {kf : Bool} (h : ws_C S A z sp tl m bt H kf K kz ks) : ws_C (sp_put (sp_put (sp_tw S a) 1 (sp_get S 1)) 2 T2) A z sp (tl_a tl a) m bt H kf K kz ks :=
  wc_f (wc_plain h h.1.1 h.1.2) (fun q _ q2 q8 q18 => sp_put_o ⟨q2, q8, by omega⟩)
theorem tl_tot {tl : Nat → Int32} {w : Nat} (hw : w < 7) : sp_tot (upd tl w (tl w + 1)) 7 = sp_tot tl 7 + 1 := by
  have e : ∀ n, n ≤ w → sp_tot (upd tl w (tl w + 1)) n = sp_tot tl n := fun n hn => sp_tot_c n (fun p hp => by simp only [upd]; rw [if_neg (by omega)])
  have g : ∀ k, sp_tot (upd tl w (tl w + 1)) (w + 1 + k) = sp_tot tl (w + 1 + k) + 1 := by
    intro k
    induction k with
    | zero =>
      show sp_tot _ w + upd tl w (tl w + 1) w = sp_tot tl w + tl w + 1
      rw [e w (Nat.le_refl _)]
      simp only [upd, if_true]
      rw [Int32.add_assoc]
    | succ k ih =>
      show sp_tot _ (w + 1 + k) + upd tl w (tl w + 1) (w + 1 + k) = sp_tot tl (w + 1 + k) + tl (w + 1 + k) + 1
      rw [ih]
      simp only [upd]
      rw [if_neg (by omega), Int32.add_assoc, Int32.add_comm 1, ← Int32.add_assoc]
  have := g (6 - w)
  rw [show w + 1 + (6 - w) = 7 by omega] at this
  exact this
theorem ws_mr (f : Nat → Int32) (A : sp_L) (hN : ws_N A) : sp_re A (sp_mg (sp_mr f A)) := by
  obtain ⟨N, h8, hn⟩ := hN
  refine ⟨by simp [sp_mg, sp_mr], by simp [sp_mg, sp_mr], by simp [sp_mg, sp_mr], by simp [sp_mg, sp_mr], fun i hi => ?_, fun i hi j hj => ?_⟩
  · show A.2.2.2.2.1 i = sp_mr f A (5 + i)
    simp only [sp_mr]
    rw [if_neg (by omega), if_neg (by omega), if_neg (by omega), if_neg (by omega), if_pos (by omega), show 5 + i - 5 = i by omega]
  · rw [sp_N_of hn h8] at hi
    show A.2.2.2.2.2 i j = sp_mr f A (21 + 7 * i + j)
    simp only [sp_mr]
    rw [if_neg (by omega), if_neg (by omega), if_neg (by omega), if_neg (by omega), if_neg (by omega), if_pos (by omega), show (21 + 7 * i + j - 21) / 7 = i by omega, show (21 + 7 * i + j - 21) % 7 = j by omega]
/-- the reference: told, and the lane is another -/
theorem wm_plain {S : wj_St} {a : Sum Nat Int32} {g : Nat → Int32} {A2 B2 : sp_L} {A K : sp_L} {z kz : Int32} {sp tl ks : Nat → Int32} {m : Nat} {bt : Nat → Int32} {H : sp_Sh} {kf : Bool} (h : ws_M S A z sp tl m bt H kf K kz ks) (ha : lt7 a) (hN : ws_N A2) (hr : sp_re A2 B2) : ws_M (sp_mq (wj_r (sp_fw S a) 51 g) B2) A2 z sp (tl_a tl a) m bt H kf K kz ks := by
  obtain ⟨h1, h2, h3, h4, h5, h6, h7, h8⟩ := h
  have o : ∀ q, q ≠ 49 → q ≠ 51 → q ≠ 52 → sp_mq (wj_r (sp_fw S a) 51 g) B2 q = S q := fun q q1 q7 q10 => by
    rw [sp_mq_o q1, wj_r_ne q7, sp_fw_o q10]
  have o9 : sp_mq (wj_r (sp_fw S a) 51 g) B2 49 = sp_mr (S 49) B2 := by rw [sp_mq_49, wj_r_ne (by decide), sp_fw_o (by decide)]
  refine ⟨?_, ?_, ?_, ?_, ?_, ?_, ?_, ?_⟩
  · rw [o9]; exact re_tr hr (ws_mr _ _ (by obtain ⟨N, n8, hn⟩ := hN; exact ⟨N, n8, hr.2.1.symm.trans hn⟩))
  · rw [o9]
    refine ⟨?_, fun p hp => ?_⟩
    · rw [← h2.1]; simp [sp_mr]
    · rw [← h2.2 p hp]
      simp only [sp_mr]
      rw [if_neg (by omega), if_neg (by omega), if_neg (by omega), if_neg (by omega), if_neg (by omega), if_neg (by omega)]
  · rw [sp_mq_o (by decide), wj_r_ne (by decide)]
    cases a with
    | inl v =>
      have hv := ha v rfl
      refine ⟨fun w hw => ?_, ?_⟩
      · show wj_u (wj_u S 52 (v + 1) (S 52 (v + 1) + 1)) 52 0 (S 52 0 + 1) 52 (w + 1) = upd tl v (tl v + 1) w
        rw [wj_u_same, wj_u_same]
        simp only [upd]
        rw [if_neg (by omega)]
        by_cases e : w = v
        · subst e; rw [if_pos rfl, if_pos rfl, h3.1 w hw]
        · rw [if_neg (by omega), if_neg e]; exact h3.1 w hw
      · show wj_u (wj_u S 52 (v + 1) (S 52 (v + 1) + 1)) 52 0 (S 52 0 + 1) 52 0 = sp_tot (upd tl v (tl v + 1)) 7
        rw [wj_u_same, tl_tot hv, ← h3.2]
        simp [upd]
    | inr v => exact h3
  · rw [o 48 (by decide) (by decide) (by decide), o 53 (by decide) (by decide) (by decide)]; exact h4
  · have : sp_shM (sp_mq (wj_r (sp_fw S a) 51 g) B2) = sp_shM S := by unfold sp_shM; rw [o 55 (by decide) (by decide) (by decide), o 56 (by decide) (by decide) (by decide), o 57 (by decide) (by decide) (by decide)]
    rw [this]; exact h5
  · rw [o 48 (by decide) (by decide) (by decide)]; exact h6
  · rw [o 48 (by decide) (by decide) (by decide)]; exact h7
  · rw [o 50 (by decide) (by decide) (by decide)]; exact h8

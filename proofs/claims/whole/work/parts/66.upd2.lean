def m_feed (m : Nat) (n : Int32) : Nat := if (1 ≤ n ∧ n ≤ 4) ∧ m + n.toNatClampNeg ≤ 120 then m + n.toNatClampNeg else m
def b_feed (bt : Nat → Int32) (m : Nat) (b n : Int32) : Nat → Int32 := if (1 ≤ n ∧ n ≤ 4) ∧ m + n.toNatClampNeg ≤ 120 then sp_fb bt b m n.toNatClampNeg n.toNatClampNeg else bt
theorem wc_feed {S : wj_St} {b n : Int32} {A K : sp_L} {z kz : Int32} {sp tl ks : Nat → Int32} {m : Nat} {bt : Nat → Int32} {H : sp_Sh} {kf : Bool} (h : ws_C S A z sp tl m bt H kf K kz ks) : ws_C (n_feed S m b n) A z sp tl (m_feed m n) (b_feed bt m b n) H kf K kz ks := by
  unfold n_feed m_feed b_feed
  by_cases q : (1 ≤ n ∧ n ≤ 4) ∧ m + n.toNatClampNeg ≤ 120
  · rw [if_pos q, if_pos q, if_pos q]
    refine wc_tape h (fun j h1 h2 => by rw [sp_fed, wj_u_ne h1, wj_r_ne h2]) ⟨?_, fun k hk => ?_⟩
    · rw [sp_fed, wj_u_same]; simp [upd]
    · rw [sp_fed, wj_u_ne (by decide), wj_r_same]
      simp only [sp_fb]
      by_cases c : m ≤ k ∧ k < m + n.toNatClampNeg
      · rw [if_pos c, if_pos c]
      · rw [if_neg c, if_neg c]; exact h.2.2.2.2.1.2 k (by omega)
  · rw [if_neg q, if_neg q, if_neg q]; exact h
theorem wm_feed {S : wj_St} {b n : Int32} {A K : sp_L} {z kz : Int32} {sp tl ks : Nat → Int32} {m : Nat} {bt : Nat → Int32} {H : sp_Sh} {kf : Bool} (h : ws_M S A z sp tl m bt H kf K kz ks) : ws_M (n_feedM S m b n) A z sp tl (m_feed m n) (b_feed bt m b n) H kf K kz ks := by
  unfold n_feedM m_feed b_feed
  by_cases q : (1 ≤ n ∧ n ≤ 4) ∧ m + n.toNatClampNeg ≤ 120
  · rw [if_pos q, if_pos q, if_pos q]
    refine wm_tape h (fun j h1 h2 _ => by rw [sp_fedM, wj_u_ne (by omega), wj_r_ne h2]) ?_ ?_ ?_ ?_
    · rw [sp_fedM, wj_u_same, wj_r_ne (by decide)]; simp [upd]
    · rw [sp_fedM, wj_u_same, wj_r_ne (by decide)]; simp [upd]
    · rw [sp_fedM, wj_u_same]; simp [upd]
    · rw [sp_fedM, wj_u_ne (by decide), wj_r_same]; exact ws_feed h.2.2.2.1.2
  · rw [if_neg q, if_neg q, if_neg q]; exact h
theorem m_feed_le {m : Nat} {n : Int32} (h : m ≤ 120) : m_feed m n ≤ 120 := by
  unfold m_feed
  split
  · rename_i q; exact q.2
  · exact h
theorem nf_o {S : wj_St} {m q : Nat} {b n : Int32} (h1 : q ≠ 46) (h2 : q ≠ 47) : n_feed S m b n q = S q := by
  unfold n_feed
  split
  · rw [sp_fed, wj_u_ne h1, wj_r_ne h2]
  · rfl
theorem nfM_o {S : wj_St} {m q : Nat} {b n : Int32} (h1 : q ≠ 48) (h2 : q ≠ 53) : n_feedM S m b n q = S q := by
  unfold n_feedM
  split
  · rw [sp_fedM, wj_u_ne h1, wj_r_ne h2]
  · rfl
def s_hold (sp : Nat → Int32) (A : sp_L) (p x : Int32) : Nat → Int32 := if (0 ≤ p ∧ p ≤ 9) ∧ (x = -1 ∨ sp_rg A x) then upd sp p.toNatClampNeg x else sp
theorem wc_holds {S : wj_St} {B : sp_L} {p x : Int32} {A K : sp_L} {z kz : Int32} {sp tl ks : Nat → Int32} {m : Nat} {bt : Nat → Int32} {H : sp_Sh} {kf : Bool} (h : ws_C S A z sp tl m bt H kf K kz ks) (hr : sp_re A B) : ws_C (n_hold S B p x) A z (s_hold sp A p x) tl m bt H kf K kz ks := by
  have hi : ((0 ≤ p ∧ p ≤ 9) ∧ (x = -1 ∨ sp_rg B x)) ↔ ((0 ≤ p ∧ p ≤ 9) ∧ (x = -1 ∨ sp_rg A x)) := by rw [re_rg hr]
  unfold n_hold s_hold
  by_cases q : (0 ≤ p ∧ p ≤ 9) ∧ (x = -1 ∨ sp_rg A x)
  · rw [if_pos q, if_pos (hi.mpr q)]; exact wc_hold h
  · rw [if_neg q, if_neg (fun z => q (hi.mp z))]; exact h
theorem wm_holds {S : wj_St} {B : sp_L} {p x : Int32} {A K : sp_L} {z kz : Int32} {sp tl ks : Nat → Int32} {m : Nat} {bt : Nat → Int32} {H : sp_Sh} {kf : Bool} (h : ws_M S A z sp tl m bt H kf K kz ks) (hN : ws_N A) (hr : sp_re A B) : ws_M (n_holdM S B p x) A z (s_hold sp A p x) tl m bt H kf K kz ks := by
  have hi : ((0 ≤ p ∧ p ≤ 9) ∧ (x = -1 ∨ sp_rg B x)) ↔ ((0 ≤ p ∧ p ≤ 9) ∧ (x = -1 ∨ sp_rg A x)) := by rw [re_rg hr]
  unfold n_holdM s_hold
  by_cases q : (0 ≤ p ∧ p ≤ 9) ∧ (x = -1 ∨ sp_rg A x)
  · rw [if_pos q, if_pos (hi.mpr q)]
    obtain ⟨t, ht, rfl⟩ := wj_natC (N := 9) q.1
    rw [nI_clamp (by omega)]
    exact wm_hold h (by omega) hN
  · rw [if_neg q, if_neg (fun z => q (hi.mp z))]; exact h
theorem kp_hold {A : sp_L} {N y : Nat} {sp : Nat → Int32} (g : sp_G A N y) (h : sp_spok sp N) (p x : Int32) : sp_spok (s_hold sp A p x) N := by
  unfold s_hold
  split
  · rename_i q
    intro j hj
    simp only [upd]
    split
    · rcases q.2 with e | e
      · exact Or.inl e
      · have e2 : sp_rg A x := e
        rw [sp_rg, g.1] at e2
        obtain ⟨i, hi, rfl⟩ := wj_natB e2 (by have := g.2.1; omega)
        exact Or.inr ⟨i, hi, rfl⟩
    · exact h j hj
  · exact h
theorem nh_o {S : wj_St} {A : sp_L} {q : Nat} {p x : Int32} (h1 : q ≠ 34) : n_hold S A p x q = S q := by
  unfold n_hold; split
  · exact wj_u_ne h1
  · rfl
theorem nhM_o {S : wj_St} {A : sp_L} {q : Nat} {p x : Int32} (h1 : q ≠ 49) : n_holdM S A p x q = S q := by
  unfold n_holdM; split
  · exact wj_u_ne h1
  · rfl
theorem ns_o {S : wj_St} {q : Nat} {s b n : Int32} (h : q < 38 ∨ 46 ≤ q) : n_sheet S s b n q = S q := by
  unfold n_sheet
  by_cases c : sp_ok6 s b n = true
  · rw [if_pos c]
    have q2 := of_decide_eq_true c
    obtain ⟨t, ht, rfl⟩ := wj_natC (N := 3) q2.1.1
    rw [nI_clamp (by omega), sp_ren, wj_u_ne (by omega), wj_u_ne (by omega), wj_r_ne (by omega)]
  · rw [if_neg c]
theorem nsM_o {S : wj_St} {q : Nat} {s b n : Int32} (h1 : q ≠ 55) (h2 : q ≠ 56) (h3 : q ≠ 57) : n_sheetM S s b n q = S q := by
  unfold n_sheetM; split
  · rw [sp_renM, wj_r_ne h3, wj_u_ne h2, wj_u_ne h1]
  · rfl
theorem nw_o {S : wj_St} {q : Nat} {s i v : Int32} (h : q < 38 ∨ 46 ≤ q) : n_write S s i v q = S q := by
  unfold n_write
  by_cases c : sp_wok (sp_shC S) s i
  · rw [if_pos c]
    obtain ⟨t, ht, rfl⟩ := wj_natC (N := 3) c.1
    rw [nI_clamp (by omega), wj_u_ne (by omega)]
  · rw [if_neg c]
theorem nwM_o {S : wj_St} {q : Nat} {s i v : Int32} (h3 : q ≠ 57) : n_writeM S s i v q = S q := by
  unfold n_writeM; split
  · exact wj_u_ne h3
  · rfl
theorem nc_o {S : wj_St} {q : Nat} {s f t u n : Int32} (h : q < 38 ∨ 46 ≤ q) : n_copy S s f t u n q = S q := by
  unfold n_copy
  by_cases c : sp_cok (sp_shC S) s f t u n
  · rw [if_pos c]
    obtain ⟨b, hb, rfl⟩ := wj_natC (N := 3) c.1.2
    rw [nI_clamp (show b < 2 ^ 31 by omega), wj_r_ne (by omega)]
  · rw [if_neg c]
theorem ncM_o {S : wj_St} {q : Nat} {s f t u n : Int32} (h3 : q ≠ 57) (h4 : q ≠ 58) : n_copyM S s f t u n q = S q := by
  unfold n_copyM; split
  · rw [sp_cpM, wj_r_ne h3, wj_r_ne h4]
  · rfl
theorem spok_mono {f : Nat → Int32} {N M : Nat} (h : sp_spok f N) (hm : N ≤ M) : sp_spok f M := fun p hp => (h p hp).imp id (fun ⟨j, h1, h2⟩ => ⟨j, by omega, h2⟩)
/-- a call's step: the class answers v, then the reference answers v, and all stands again -/
def ws_S (l : Launch) (V : wj_V) (y1 : MethodName) (b1 : ByteArray) (n1 fr1 lo1 : Nat) (y2 : MethodName) (b2 : ByteArray) (n2 fr2 lo2 : Nat) (av : List Value) (S : wj_St) (c : Nat) : Prop :=
  ∃ (v : Int32) (P : wj_St → Prop) (Q1 : Int32 → wj_St → Prop), wj_M l V y1 b1 n1 (some .int) fr1 lo1 (.ref (V.2.2.1 0) :: av) S (wj_QI V Q1) ∧ (∀ r u, Q1 r u → r = v ∧ P u) ∧ ∀ u, P u → ∃ Q2 : Int32 → wj_St → Prop, wj_M l V y2 b2 n2 (some .int) fr2 lo2 (.ref (V.2.2.1 48) :: av) u (wj_QI V Q2) ∧ ∀ r u2, Q2 r u2 → r = v ∧ ws_A (c + 1) u2
def ws_SL (l : Launch) (V : wj_V) (y1 : MethodName) (b1 : ByteArray) (n1 fr1 lo1 : Nat) (y2 : MethodName) (b2 : ByteArray) (n2 fr2 lo2 : Nat) (av : List Value) (S : wj_St) (c : Nat) : Prop :=
  ∃ (v : Int64) (P : wj_St → Prop) (Q1 : Int64 → wj_St → Prop), wj_M l V y1 b1 n1 (some .long) fr1 lo1 (.ref (V.2.2.1 0) :: av) S (wj_QL V Q1) ∧ (∀ r u, Q1 r u → r = v ∧ P u) ∧ ∀ u, P u → ∃ Q2 : Int64 → wj_St → Prop, wj_M l V y2 b2 n2 (some .long) fr2 lo2 (.ref (V.2.2.1 48) :: av) u (wj_QL V Q2) ∧ ∀ r u2, Q2 r u2 → r = v ∧ ws_A (c + 1) u2
def sL : Sum Nat Int64 → Sum Nat Int32
  | .inl w => .inl w
  | .inr _ => .inr 0
theorem sp_twL_e {S : wj_St} {a : Sum Nat Int64} : sp_twL S a = sp_tw S (sL a) := by cases a <;> rfl
theorem sp_fwL_e {S : wj_St} {a : Sum Nat Int64} : sp_fwL S a = sp_fw S (sL a) := by cases a <;> rfl
theorem lt7_odds (A : sp_L) (w n t : Int32) : lt7 (sL (a_odds A w n t)) := by
  unfold a_odds
  split
  · exact lt7_r
  · exact lt7_l (by decide)

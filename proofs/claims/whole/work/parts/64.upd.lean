theorem ws_g13 {σ : wj_St} {A B : sp_L} {N : Nat} (hn : A.2.1 = nI N) (n8 : N ≤ 8) : sp_re A (sp_get (sp_put (sp_put σ 1 A) 3 B) 1) := by
  refine re_tr (re_sym (re_put (σ := σ) (k := 1) (by decide) hn n8)) (re_get (N := N) (by decide) (fun j _ => by rw [sp_put_o (k := 3) (q := 1) (by decide)]) (fun j _ => by rw [sp_put_o (k := 3) (q := 1 + 6) (by decide)]) (fun i f hi _ => by rw [sp_put_o (k := 3) (q := 2 + 8 * 1 + i) (by omega)]) ?_ n8)
  rw [sp_put_2]; exact hn
theorem ws_g31 {σ : wj_St} {A B : sp_L} {N : Nat} (hn : B.2.1 = nI N) (n8 : N ≤ 8) : sp_re B (sp_get (sp_put (sp_put σ 3 B) 1 A) 3) := by
  refine re_tr (re_sym (re_put (σ := σ) (k := 3) (by decide) hn n8)) (re_get (N := N) (by decide) (fun j _ => by rw [sp_put_o (k := 1) (q := 3) (by decide)]) (fun j _ => by rw [sp_put_o (k := 1) (q := 3 + 6) (by decide)]) (fun i f hi _ => by rw [sp_put_o (k := 1) (q := 2 + 8 * 3 + i) (by omega)]) ?_ n8)
  rw [sp_put_2]; exact hn
theorem wc_z {S : wj_St} {x : Int32} {A K : sp_L} {z kz : Int32} {sp tl ks : Nat → Int32} {m : Nat} {bt : Nat → Int32} {H : sp_Sh} {kf : Bool} (h : ws_C S A z sp tl m bt H kf K kz ks) : ws_C (wj_u S 0 3 x) A x sp tl m bt H kf K kz ks := by
  obtain ⟨h1, h2, h3, h4, h5, h6, h7⟩ := h
  have o : ∀ q, q ≠ 0 → wj_u S 0 3 x q = S q := fun q h => wj_u_ne h
  refine ⟨ws_1_f h1 (o _ (by decide)) (o _ (by decide)) (fun i _ => o _ (by omega)), ?_, ?_, ?_, ws_5_f h5 (by rw [o _ (by decide)]) (o _ (by decide)), ws_6_f h6 (fun q _ _ => o _ (by omega)), ws_7_f h7 ?_ ?_ (o _ (by decide)) (o _ (by decide)) (fun i _ => o _ (by omega)) (o _ (by decide))⟩
  · rw [wj_u_same]; simp [upd]
  · rw [o _ (by decide)]; exact h3
  · rw [o _ (by decide)]; exact h4
  · rw [wj_u_same]; simp [upd]
  · rw [wj_u_same]; simp [upd]
theorem wc_hold {S : wj_St} {p : Nat} {x : Int32} {A K : sp_L} {z kz : Int32} {sp tl ks : Nat → Int32} {m : Nat} {bt : Nat → Int32} {H : sp_Sh} {kf : Bool} (h : ws_C S A z sp tl m bt H kf K kz ks) : ws_C (wj_u S 34 p x) A z (upd sp p x) tl m bt H kf K kz ks := by
  obtain ⟨h1, h2, h3, h4, h5, h6, h7⟩ := h
  have o : ∀ q, q ≠ 34 → wj_u S 34 p x q = S q := fun q h => wj_u_ne h
  refine ⟨ws_1_f h1 (o _ (by decide)) (o _ (by decide)) (fun i _ => o _ (by omega)), ?_, fun j hj => ?_, ?_, ws_5_f h5 (by rw [o _ (by decide)]) (o _ (by decide)), ws_6_f h6 (fun q _ _ => o _ (by omega)), ws_7_f h7 (by rw [o _ (by decide)]) (by rw [o _ (by decide)]) (o _ (by decide)) (o _ (by decide)) (fun i _ => o _ (by omega)) (o _ (by decide))⟩
  · rw [o _ (by decide)]; exact h2
  · rw [wj_u_same]; simp only [upd]; split
    · rfl
    · exact h3 j hj
  · rw [o _ (by decide)]; exact h4
theorem wc_tape {S T : wj_St} {m2 : Nat} {bt2 : Nat → Int32} {A K : sp_L} {z kz : Int32} {sp tl ks : Nat → Int32} {m : Nat} {bt : Nat → Int32} {H : sp_Sh} {kf : Bool} (h : ws_C S A z sp tl m bt H kf K kz ks) (e : ∀ q, q ≠ 46 → q ≠ 47 → T q = S q) (e2 : ws_5 T m2 bt2) : ws_C T A z sp tl m2 bt2 H kf K kz ks := by
  obtain ⟨h1, h2, h3, h4, h5, h6, h7⟩ := h
  have o := e
  refine ⟨ws_1_f h1 (o _ (by decide) (by decide)) (o _ (by decide) (by decide)) (fun i _ => o _ (by omega) (by omega)), ?_, ?_, ?_, e2, ws_6_f h6 (fun q _ _ => o _ (by omega) (by omega)), ws_7_f h7 (by rw [o _ (by decide) (by decide)]) (by rw [o _ (by decide) (by decide)]) (o _ (by decide) (by decide)) (o _ (by decide) (by decide)) (fun i _ => o _ (by omega) (by omega)) (o _ (by decide) (by decide))⟩
  · rw [o _ (by decide) (by decide)]; exact h2
  · rw [o _ (by decide) (by decide)]; exact h3
  · rw [o _ (by decide) (by decide)]; exact h4
theorem wc_sh {S T : wj_St} {H2 : sp_Sh} {A K : sp_L} {z kz : Int32} {sp tl ks : Nat → Int32} {m : Nat} {bt : Nat → Int32} {H : sp_Sh} {kf : Bool} (h : ws_C S A z sp tl m bt H kf K kz ks) (e : ∀ q, q < 38 ∨ 46 ≤ q → T q = S q) (e2 : sp_she H2 (sp_shC T)) : ws_C T A z sp tl m bt H2 kf K kz ks := by
  obtain ⟨h1, h2, h3, h4, h5, h6, h7⟩ := h
  have o := e
  refine ⟨ws_1_f h1 (o _ (by decide)) (o _ (by decide)) (fun i _ => o _ (by omega)), ?_, ?_, ?_, ws_5_f h5 (by rw [o _ (by decide)]) (o _ (by decide)), e2, ws_7_f h7 (by rw [o _ (by decide)]) (by rw [o _ (by decide)]) (o _ (by decide)) (o _ (by decide)) (fun i _ => o _ (by omega)) (o _ (by decide))⟩
  · rw [o _ (by decide)]; exact h2
  · rw [o _ (by decide)]; exact h3
  · rw [o _ (by decide)]; exact h4
theorem wc_tear {S : wj_St} {A K : sp_L} {z kz : Int32} {sp tl ks : Nat → Int32} {m : Nat} {bt : Nat → Int32} {H : sp_Sh} {kf : Bool} (h : ws_C S A z sp tl m bt H kf K kz ks) : ws_C (wj_u S 0 7 0) A z sp tl m bt H false K kz ks := by
  obtain ⟨h1, h2, h3, h4, h5, h6, h7⟩ := h
  have o : ∀ q, q ≠ 0 → wj_u S 0 7 0 q = S q := fun q h => wj_u_ne h
  refine ⟨ws_1_f h1 (o _ (by decide)) (o _ (by decide)) (fun i _ => o _ (by omega)), ?_, ?_, ?_, ws_5_f h5 (by rw [o _ (by decide)]) (o _ (by decide)), ws_6_f h6 (fun q _ _ => o _ (by omega)), ?_, fun q => by cases q⟩
  · rw [wj_u_same]; simp only [upd]; exact h2
  · rw [o _ (by decide)]; exact h3
  · rw [o _ (by decide)]; exact h4
  · rw [wj_u_same]; simp [upd]
theorem wc_image {S : wj_St} {K3 : sp_L} {A K : sp_L} {z kz : Int32} {sp tl ks : Nat → Int32} {m : Nat} {bt : Nat → Int32} {H : sp_Sh} {kf : Bool} (h : ws_C S A z sp tl m bt H kf K kz ks) : ws_C (sp_put (sp_put (sp_img S) 1 (sp_get S 1)) 3 (sp_bec K3 (sp_get S 1))) A z sp tl m bt H true A z sp := by
  obtain ⟨h1, h2, h3, h4, h5, h6, h7⟩ := h
  obtain ⟨⟨N, n8, hn⟩, hr⟩ := h1
  have hn1 : (sp_get S 1).2.1 = nI N := hr.2.1.symm.trans hn
  have o : ∀ q, q ≠ 0 → q ≠ 35 → q ≠ 3 → q ≠ 9 → (q < 26 ∨ 34 ≤ q) → q ≠ 1 → q ≠ 7 → (q < 10 ∨ 18 ≤ q) → sp_put (sp_put (sp_img S) 1 (sp_get S 1)) 3 (sp_bec K3 (sp_get S 1)) q = S q := fun q a1 a2 a3 a4 a5 a6 a7 a8 => by
    rw [sp_put_o ⟨a3, a4, by omega⟩, sp_put_o ⟨a6, a7, by omega⟩, sp_img, wj_u_ne a1, wj_u_ne a1, wj_r_ne a2]
  have e0 : sp_put (sp_put (sp_img S) 1 (sp_get S 1)) 3 (sp_bec K3 (sp_get S 1)) 0 = upd (upd (S 0) 6 (S 0 3)) 7 1 := by
    rw [sp_put_o (by decide), sp_put_o (by decide), sp_img, wj_u_same, wj_u_same, wj_r_ne (by decide)]
  have e35 : sp_put (sp_put (sp_img S) 1 (sp_get S 1)) 3 (sp_bec K3 (sp_get S 1)) 35 = va_cpy (S 34) (S 35) 0 0 10 := by
    rw [sp_put_o (by decide), sp_put_o (by decide), sp_img, wj_u_ne (by decide), wj_u_ne (by decide), wj_r_same]
  have eN : ∀ B : sp_L, sp_re A B → ws_N B := fun B hb => ⟨N, n8, hb.2.1.symm.trans hn⟩
  have r1 : sp_re A (sp_get (sp_put (sp_put (sp_img S) 1 (sp_get S 1)) 3 (sp_bec K3 (sp_get S 1))) 1) := by
    exact re_tr hr (ws_g13 hn1 n8)
  have r3 : sp_re A (sp_get (sp_put (sp_put (sp_img S) 1 (sp_get S 1)) 3 (sp_bec K3 (sp_get S 1))) 3) := re_tr hr (re_tr (re_sym (re_bec K3 _)) (re_sym (re_put (by decide) (N := N) hn1 n8)))
  refine ⟨⟨⟨N, n8, hn⟩, r1⟩, ?_, ?_, ?_, ws_5_f h5 (by rw [o _ (by decide) (by decide) (by decide) (by decide) (by decide) (by decide) (by decide) (by decide)]) (o _ (by decide) (by decide) (by decide) (by decide) (by decide) (by decide) (by decide) (by decide)), ws_6_f h6 (fun q _ _ => o _ (by omega) (by omega) (by omega) (by omega) (by omega) (by omega) (by omega) (by omega)), ?_, fun _ => ⟨⟨N, n8, hn⟩, r3, ?_, fun p hp => ?_⟩⟩
  · rw [e0]; simp only [upd]; exact h2
  · rw [o _ (by decide) (by decide) (by decide) (by decide) (by decide) (by decide) (by decide) (by decide)]; exact h3
  · rw [o _ (by decide) (by decide) (by decide) (by decide) (by decide) (by decide) (by decide) (by decide)]; exact h4
  · rw [e0]; simp [upd]
  · rw [e0]; simp [upd]; exact h2
  · rw [e35, va_cpy, if_pos (by omega), show 0 + (p - 0) = p by omega]; exact h3 p hp
theorem wc_undo {S : wj_St} {A K : sp_L} {z kz : Int32} {sp tl ks : Nat → Int32} {m : Nat} {bt : Nat → Int32} {H : sp_Sh} {kf : Bool} (h : ws_C S A z sp tl m bt H kf K kz ks) (hk : kf = true) : ws_C (sp_put (sp_put (sp_und S) 3 (sp_get S 3)) 1 (sp_bec (sp_get S 1) (sp_get S 3))) K kz ks tl m bt H kf K kz ks := by
  obtain ⟨h1, h2, h3, h4, h5, h6, h7⟩ := h
  obtain ⟨⟨N, n8, hn⟩, hr, hz, hs⟩ := h7.2 hk
  have hn3 : (sp_get S 3).2.1 = nI N := hr.2.1.symm.trans hn
  have o : ∀ q, q ≠ 0 → q ≠ 34 → q ≠ 3 → q ≠ 9 → (q < 26 ∨ 34 ≤ q) → q ≠ 1 → q ≠ 7 → (q < 10 ∨ 18 ≤ q) → sp_put (sp_put (sp_und S) 3 (sp_get S 3)) 1 (sp_bec (sp_get S 1) (sp_get S 3)) q = S q := fun q a1 a2 a3 a4 a5 a6 a7 a8 => by
    rw [sp_put_o ⟨a6, a7, by omega⟩, sp_put_o ⟨a3, a4, by omega⟩, sp_und, wj_u_ne a1, wj_r_ne a2]
  have e0 : sp_put (sp_put (sp_und S) 3 (sp_get S 3)) 1 (sp_bec (sp_get S 1) (sp_get S 3)) 0 = upd (S 0) 3 (S 0 6) := by
    rw [sp_put_o (by decide), sp_put_o (by decide), sp_und, wj_u_same, wj_r_ne (by decide)]
  have e34 : sp_put (sp_put (sp_und S) 3 (sp_get S 3)) 1 (sp_bec (sp_get S 1) (sp_get S 3)) 34 = va_cpy (S 35) (S 34) 0 0 10 := by
    rw [sp_put_o (by decide), sp_put_o (by decide), sp_und, wj_u_ne (by decide), wj_r_same]
  have e35 : sp_put (sp_put (sp_und S) 3 (sp_get S 3)) 1 (sp_bec (sp_get S 1) (sp_get S 3)) 35 = S 35 := by
    rw [sp_put_o (by decide), sp_put_o (by decide), sp_und, wj_u_ne (by decide), wj_r_ne (by decide)]
  have r1 : sp_re K (sp_get (sp_put (sp_put (sp_und S) 3 (sp_get S 3)) 1 (sp_bec (sp_get S 1) (sp_get S 3))) 1) := re_tr hr (re_tr (re_sym (re_bec (sp_get S 1) _)) (re_sym (re_put (by decide) (N := N) hn3 n8)))
  have r3 : sp_re K (sp_get (sp_put (sp_put (sp_und S) 3 (sp_get S 3)) 1 (sp_bec (sp_get S 1) (sp_get S 3))) 3) := by
    exact re_tr hr (ws_g31 hn3 n8)
  refine ⟨⟨⟨N, n8, hn⟩, r1⟩, ?_, fun p hp => ?_, ?_, ws_5_f h5 (by rw [o _ (by decide) (by decide) (by decide) (by decide) (by decide) (by decide) (by decide) (by decide)]) (o _ (by decide) (by decide) (by decide) (by decide) (by decide) (by decide) (by decide) (by decide)), ws_6_f h6 (fun q _ _ => o _ (by omega) (by omega) (by omega) (by omega) (by omega) (by omega) (by omega) (by omega)), ?_, fun _ => ⟨⟨N, n8, hn⟩, r3, ?_, fun p hp => ?_⟩⟩
  · rw [e0]; simp [upd]; exact hz
  · rw [e34, va_cpy, if_pos (by omega), show 0 + (p - 0) = p by omega]; exact hs p hp
  · rw [o _ (by decide) (by decide) (by decide) (by decide) (by decide) (by decide) (by decide) (by decide)]; exact h4
  · rw [e0]; simp only [upd]; exact h7.1
  · rw [e0]; simp only [upd]; exact hz
  · rw [e35]; exact hs p hp
/-! the reference -/
theorem wm_z {S : wj_St} {x : Int32} {A K : sp_L} {z kz : Int32} {sp tl ks : Nat → Int32} {m : Nat} {bt : Nat → Int32} {H : sp_Sh} {kf : Bool} (h : ws_M S A z sp tl m bt H kf K kz ks) : ws_M (wj_u S 49 2 x) A x sp tl m bt H kf K kz ks := by
  obtain ⟨h1, h2, h3, h4, h5, h6, h7, h8⟩ := h
  have o : ∀ q, q ≠ 49 → wj_u S 49 2 x q = S q := fun q h => wj_u_ne h
  have es : sp_shM (wj_u S 49 2 x) = sp_shM S := by unfold sp_shM; rw [o _ (by decide), o _ (by decide), o _ (by decide)]
  refine ⟨?_, ⟨?_, fun p hp => ?_⟩, by rw [o _ (by decide)]; exact h3, by rw [o _ (by decide), o _ (by decide)]; exact h4, by rw [es]; exact h5, by rw [o _ (by decide)]; exact h6, by rw [o _ (by decide)]; exact h7, by rw [o _ (by decide)]; exact h8⟩
  · rw [wj_u_same, show sp_mg (upd (S 49) 2 x) = sp_mg (S 49) from ?_]
    · exact h1
    · simp only [sp_mg, upd]
      refine Prod.ext (by simp) (Prod.ext (by simp) (Prod.ext (by simp) (Prod.ext (by simp) (Prod.ext ?_ ?_))))
      · funext i; exact if_neg (by omega)
      · funext i f; exact if_neg (by omega)
  · rw [wj_u_same]; simp [upd]
  · rw [wj_u_same]; simp only [upd]; rw [if_neg (by omega)]; exact h2.2 p hp
theorem wm_hold {S : wj_St} {p : Nat} {x : Int32} {A K : sp_L} {z kz : Int32} {sp tl ks : Nat → Int32} {m : Nat} {bt : Nat → Int32} {H : sp_Sh} {kf : Bool} (h : ws_M S A z sp tl m bt H kf K kz ks) (hp : p < 10) (hN : ws_N A) : ws_M (wj_u S 49 (11 + p) x) A z (upd sp p x) tl m bt H kf K kz ks := by
  obtain ⟨h1, h2, h3, h4, h5, h6, h7, h8⟩ := h
  have o : ∀ q, q ≠ 49 → wj_u S 49 (11 + p) x q = S q := fun q h => wj_u_ne h
  have es : sp_shM (wj_u S 49 (11 + p) x) = sp_shM S := by unfold sp_shM; rw [o _ (by decide), o _ (by decide), o _ (by decide)]
  obtain ⟨N, n8, hn⟩ := hN
  refine ⟨?_, ⟨?_, fun q hq => ?_⟩, by rw [o _ (by decide)]; exact h3, by rw [o _ (by decide), o _ (by decide)]; exact h4, by rw [es]; exact h5, by rw [o _ (by decide)]; exact h6, by rw [o _ (by decide)]; exact h7, by rw [o _ (by decide)]; exact h8⟩
  · rw [wj_u_same]
    refine re_tr h1 ⟨?_, ?_, ?_, ?_, fun i hi => ?_, fun i hi f hf => ?_⟩
    · show S 49 0 = upd (S 49) (11 + p) x 0; simp only [upd]; rw [if_neg (by omega)]
    · show S 49 1 = upd (S 49) (11 + p) x 1; simp only [upd]; rw [if_neg (by omega)]
    · show S 49 3 = upd (S 49) (11 + p) x 3; simp only [upd]; rw [if_neg (by omega)]
    · show S 49 4 = upd (S 49) (11 + p) x 4; simp only [upd]; rw [if_neg (by omega)]
    · show S 49 (5 + i) = upd (S 49) (11 + p) x (5 + i); simp only [upd]; rw [if_neg (by omega)]
    · show S 49 (21 + 7 * i + f) = upd (S 49) (11 + p) x (21 + 7 * i + f); simp only [upd]; rw [if_neg (by omega)]
  · rw [wj_u_same]; simp only [upd]; rw [if_neg (by omega)]; exact h2.1
  · rw [wj_u_same]; simp only [upd]
    by_cases e : q = p
    · subst e; rw [if_pos rfl, if_pos rfl]
    · rw [if_neg (by omega), if_neg e]; exact h2.2 q hq
theorem wm_tape {S T : wj_St} {m2 : Nat} {bt2 : Nat → Int32} {A K : sp_L} {z kz : Int32} {sp tl ks : Nat → Int32} {m : Nat} {bt : Nat → Int32} {H : sp_Sh} {kf : Bool} (h : ws_M S A z sp tl m bt H kf K kz ks) (e : ∀ q, 48 < q → q ≠ 53 → q ≠ 54 → T q = S q) (e5 : T 48 5 = S 48 5) (e3 : T 48 3 = S 48 3) (e2 : T 48 7 = nI m2) (e4 : tx_tg (T 53) bt2 m2) : ws_M T A z sp tl m2 bt2 H kf K kz ks := by
  obtain ⟨h1, h2, h3, h4, h5, h6, h7, h8⟩ := h
  have es : sp_shM T = sp_shM S := by unfold sp_shM; rw [e _ (by decide) (by decide) (by decide), e _ (by decide) (by decide) (by decide), e _ (by decide) (by decide) (by decide)]
  exact ⟨by rw [e _ (by decide) (by decide) (by decide)]; exact h1, by rw [e _ (by decide) (by decide) (by decide)]; exact h2, by rw [e _ (by decide) (by decide) (by decide)]; exact h3, ⟨e2, e4⟩, by rw [es]; exact h5, e5.trans h6, e3.trans h7, by rw [e _ (by decide) (by decide) (by decide)]; exact h8⟩
theorem wm_sh {S T : wj_St} {H2 : sp_Sh} {A K : sp_L} {z kz : Int32} {sp tl ks : Nat → Int32} {m : Nat} {bt : Nat → Int32} {H : sp_Sh} {kf : Bool} (h : ws_M S A z sp tl m bt H kf K kz ks) (e : ∀ q, q ≠ 55 → q ≠ 56 → q ≠ 57 → q ≠ 58 → T q = S q) (e2 : sp_she H2 (sp_shM T)) : ws_M T A z sp tl m bt H2 kf K kz ks := by
  obtain ⟨h1, h2, h3, h4, h5, h6, h7, h8⟩ := h
  have e48 := e 48 (by decide) (by decide) (by decide) (by decide)
  have e49 := e 49 (by decide) (by decide) (by decide) (by decide)
  have e50 := e 50 (by decide) (by decide) (by decide) (by decide)
  have e52 := e 52 (by decide) (by decide) (by decide) (by decide)
  have e53 := e 53 (by decide) (by decide) (by decide) (by decide)
  exact ⟨by rw [e49]; exact h1, by rw [e49]; exact h2, by rw [e52]; exact h3, by rw [e48, e53]; exact h4, e2, by rw [e48]; exact h6, by rw [e48]; exact h7, by rw [e50]; exact h8⟩
theorem wm_tear {S : wj_St} {A K : sp_L} {z kz : Int32} {sp tl ks : Nat → Int32} {m : Nat} {bt : Nat → Int32} {H : sp_Sh} {kf : Bool} (h : ws_M S A z sp tl m bt H kf K kz ks) : ws_M (wj_u S 48 3 0) A z sp tl m bt H false K kz ks := by
  obtain ⟨h1, h2, h3, h4, h5, h6, h7, h8⟩ := h
  have o : ∀ q, q ≠ 48 → wj_u S 48 3 0 q = S q := fun q h => wj_u_ne h
  have es : sp_shM (wj_u S 48 3 0) = sp_shM S := by unfold sp_shM; rw [o _ (by decide), o _ (by decide), o _ (by decide)]
  refine ⟨by rw [o _ (by decide)]; exact h1, by rw [o _ (by decide)]; exact h2, by rw [o _ (by decide)]; exact h3, ⟨?_, by rw [o _ (by decide)]; exact h4.2⟩, by rw [es]; exact h5, ?_, ?_, fun q => by cases q⟩
  · rw [wj_u_same]; simp only [upd]; exact h4.1
  · rw [wj_u_same]; simp only [upd]; exact h6
  · rw [wj_u_same]; simp [upd]
theorem wm_image {S : wj_St} {A K : sp_L} {z kz : Int32} {sp tl ks : Nat → Int32} {m : Nat} {bt : Nat → Int32} {H : sp_Sh} {kf : Bool} (h : ws_M S A z sp tl m bt H kf K kz ks) : ws_M (sp_mq (wj_u (wj_r S 50 (sp_mr (S 49) (sp_mg (S 49)))) 48 3 1) (sp_mg (S 49))) A z sp tl m bt H true A z sp := by
  obtain ⟨h1, h2, h3, h4, h5, h6, h7, h8⟩ := h
  rw [sp_mr_id]
  have e9 : sp_mq (wj_u (wj_r S 50 (S 49)) 48 3 1) (sp_mg (S 49)) = wj_u (wj_r S 50 (S 49)) 48 3 1 := by
    have e : (wj_u (wj_r S 50 (S 49)) 48 3 1) 49 = S 49 := by rw [wj_u_ne (by decide), wj_r_ne (by decide)]
    have := sp_mq_id (wj_u (wj_r S 50 (S 49)) 48 3 1)
    rw [e] at this
    exact this
  rw [e9]
  have o : ∀ q, q ≠ 48 → q ≠ 50 → wj_u (wj_r S 50 (S 49)) 48 3 1 q = S q := fun q h h2 => by rw [wj_u_ne h, wj_r_ne h2]
  have e50 : wj_u (wj_r S 50 (S 49)) 48 3 1 50 = S 49 := by rw [wj_u_ne (by decide), wj_r_same]
  have e48 : wj_u (wj_r S 50 (S 49)) 48 3 1 48 = upd (S 48) 3 1 := by rw [wj_u_same, wj_r_ne (by decide)]
  have es : sp_shM (wj_u (wj_r S 50 (S 49)) 48 3 1) = sp_shM S := by unfold sp_shM; rw [o _ (by decide) (by decide), o _ (by decide) (by decide), o _ (by decide) (by decide)]
  refine ⟨by rw [o _ (by decide) (by decide)]; exact h1, by rw [o _ (by decide) (by decide)]; exact h2, by rw [o _ (by decide) (by decide)]; exact h3, ⟨?_, by rw [o _ (by decide) (by decide)]; exact h4.2⟩, by rw [es]; exact h5, ?_, ?_, fun _ => by rw [e50]; exact ⟨h1, h2.1, h2.2⟩⟩
  · rw [e48]; simp only [upd]; exact h4.1
  · rw [e48]; simp only [upd]; exact h6
  · rw [e48]; simp [upd]
theorem wm_undo {S : wj_St} {A K : sp_L} {z kz : Int32} {sp tl ks : Nat → Int32} {m : Nat} {bt : Nat → Int32} {H : sp_Sh} {kf : Bool} (h : ws_M S A z sp tl m bt H kf K kz ks) (hk : kf = true) : ws_M (wj_r S 49 (S 50)) K kz ks tl m bt H kf K kz ks := by
  obtain ⟨h1, h2, h3, h4, h5, h6, h7, h8⟩ := h
  obtain ⟨g1, g2, g3⟩ := h8 hk
  have o : ∀ q, q ≠ 49 → wj_r S 49 (S 50) q = S q := fun q h => wj_r_ne h
  have es : sp_shM (wj_r S 49 (S 50)) = sp_shM S := by unfold sp_shM; rw [o _ (by decide), o _ (by decide), o _ (by decide)]
  exact ⟨by rw [wj_r_same]; exact g1, by rw [wj_r_same]; exact ⟨g2, g3⟩, by rw [o _ (by decide)]; exact h3, by rw [o _ (by decide), o _ (by decide)]; exact h4, by rw [es]; exact h5, by rw [o _ (by decide)]; exact h6, by rw [o _ (by decide)]; exact h7, by rw [o _ (by decide)]; exact h8⟩
/-! bytes -/
theorem ws_byte (x : Int32) : (∃ t, t < 128 ∧ x &&& 255 = nI t ∧ x.toInt8.toInt32 = nI t) ∨ (∃ t, 128 ≤ t ∧ t < 256 ∧ x &&& 255 = nI t ∧ x.toInt8.toInt32 < 0) := by
  obtain ⟨t, ht, e⟩ := pk_andE x (m := 255) 8 (by decide)
  have e8 : x.toInt8 = (nI t).toInt8 := by
    rw [← e, Int32.toInt8_and, show (255 : Int32).toInt8 = -1 by decide, Int8.and_neg_one]
  have d : ∀ t, t < 256 → (t < 128 → (nI t).toInt8.toInt32 = nI t) ∧ (128 ≤ t → (nI t).toInt8.toInt32 < 0) := by decide +kernel
  rw [e8]
  rcases Nat.lt_or_ge t 128 with q | q
  · exact Or.inl ⟨t, q, e, (d t ht).1 q⟩
  · exact Or.inr ⟨t, q, ht, e, (d t ht).2 q⟩
theorem ws_feed {g bt : Nat → Int32} {b : Int32} {m n : Nat} (h : tx_tg g bt m) : tx_tg (sp_fbM g b m n n) (sp_fb bt b m n n) (m + n) := by
  intro k hk
  by_cases q : k < m
  · rw [sp_fbM, sp_fb, if_neg (by omega), if_neg (by omega)]; exact h k q
  · rw [sp_fbM, sp_fb, if_pos (by omega), if_pos (by omega)]; exact ws_byte _

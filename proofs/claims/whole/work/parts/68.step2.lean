theorem ws_pg {S : wj_St} {a : Sum Nat Int32} : sp_put (sp_tw S a) 1 (sp_get S 1) = sp_tw S a := by
  funext q
  by_cases h1 : q = 1
  · subst h1
    have e : sp_tw S a 1 = S 1 := sp_tw_o (by decide)
    funext j
    simp only [sp_put, if_true, sp_get, e]
    by_cases j5 : j = 5
    · simp [j5]
    · by_cases j2 : j = 2
      · simp [j2]
      · by_cases j3 : j = 3
        · simp [j3]
        · by_cases j4 : j = 4
          · simp [j4]
          · simp [j5, j2, j3, j4]
  · by_cases h7 : q = 7
    · subst h7
      rw [sp_tw_o (by decide)]
      simp [sp_put, sp_get]
    · by_cases hs : 10 ≤ q ∧ q < 18
      · rw [sp_tw_o (by omega), show q = 2 + 8 * 1 + (q - 10) by omega, sp_put_s (by decide) (by omega)]
        rfl
      · rw [sp_put_o ⟨h1, h7, by omega⟩]
theorem ws_tm {u : wj_St} {f : Nat → Int32} {m0 c i n : Nat} {w : Int32} {h : Nat → Int32} {A K : sp_L} {z kz : Int32} {sp tl ks : Nat → Int32} {m : Nat} {bt : Nat → Int32} {H : sp_Sh} {kf : Bool} (hM : ws_M u A z sp tl m bt H kf K kz ks) : ws_M (tm f m0 (wj_u u 48 7 0) c w i n h) A z sp tl 0 bt H kf K kz ks := by
  refine wm_tape hM (fun q h1 h2 h3 => by rw [tm_o (by omega) h3, wj_u_ne (by omega)]) ?_ ?_ ?_ (fun k hk => absurd hk (by omega))
  · rw [tm, ty_P, wj_r_same, wj_u_same]; simp [upd]
  · rw [tm, ty_P, wj_r_same, wj_u_same]; simp [upd]
  · rw [tm_7, wj_u_same]; simp [upd]; rfl
set_option maxRecDepth 100000 in
set_option maxHeartbeats 1000000 in
theorem st_odds (l : Launch) (V : wj_V) {S : wj_St} {c : Nat} (h : ws_A c S) (hc : c < 1000) (x1 x2 x3 : Int32) : ws_SL l V yX4_odds cX4_odds 6 4 89 yX5_odds cX5_odds 10 5 115 [.int x1, .int x2, .int x3] S c := by
  obtain ⟨A, z, sp, tl, m, bt, H, kf, K, kz, ks, hC, hM, N, y, hG, hy, hsp, hm, hH, hk⟩ := h
  have hr := hC.1.2
  have hy9 : y < 90000 := by omega
  have hk2 : kf = true → ∃ Nk yk, sp_G K Nk yk ∧ yk ≤ 60 * (c + 1) ∧ sp_spok ks Nk := fun q => by obtain ⟨a, b, g1, g2, g3⟩ := hk q; exact ⟨a, b, g1, by omega, g3⟩
  have k1 := c_X4_odds l V (σ := S) (A := sp_get S 1) (w := x1) (nn := x2) (tt := x3) (re_G hr hG) hy9
  rw [sp_put_get] at k1
  refine ⟨sp_vL (a_odds A x1 x2 x3), fun u => ws_C u A z sp (tl_a tl (sL (a_odds A x1 x2 x3))) m bt H kf K kz ks ∧ ws_M u A z sp tl m bt H kf K kz ks, _, k1, ?_, ?_⟩
  · rintro r u ⟨h1, rfl⟩
    have e := re_a_odds hr x1 x2 x3
    refine ⟨by rw [h1, e], ?_, ?_⟩
    · rw [← e, sp_twL_e]
      exact wc_plain hC hC.1.1 hr
    · exact wm_f hM (fun q h48 _ _ _ => by rw [sp_put_o (by omega), sp_twL_e, sp_tw_o (by omega)])
  · rintro u ⟨hC2, hM2⟩
    have hr2 := hM2.1
    have k2 := c_X5_odds l V (σ := u) (A := sp_mg (u 49)) (w := x1) (nn := x2) (tt := x3) (re_G hr2 hG) hy9
    rw [sp_mq_id] at k2
    refine ⟨_, k2, ?_⟩
    rintro r u2 ⟨h1, g, rfl⟩
    have e := re_a_odds hr2 x1 x2 x3
    refine ⟨by rw [h1, e], A, z, sp, (tl_a tl (sL (a_odds A x1 x2 x3))), m, bt, H, kf, K, kz, ks, ?_, ?_, ⟨N, y, hG, by omega, hsp, hm, hH, hk2⟩⟩
    · exact wc_f hC2 (fun q h48 _ _ _ => by rw [sp_mq_o (by omega), wj_r_ne (by omega), sp_fwL_e, sp_fw_o (by omega)])
    · rw [← e, sp_fwL_e]
      exact wm_plain hM2 (lt7_odds _ _ _ _) hC.1.1 hr2
set_option maxRecDepth 100000 in
set_option maxHeartbeats 1000000 in
theorem st_image (l : Launch) (V : wj_V) {S : wj_St} {c : Nat} (h : ws_A c S) (hc : c < 1000) : ws_S l V yX4_image cX4_image 1 2 48 yX5_image cX5_image 1 1 22 [] S c := by
  obtain ⟨A, z, sp, tl, m, bt, H, kf, K, kz, ks, hC, hM, N, y, hG, hy, hsp, hm, hH, hk⟩ := h
  have hr := hC.1.2
  have hy9 : y < 90000 := by omega
  have hk2 : kf = true → ∃ Nk yk, sp_G K Nk yk ∧ yk ≤ 60 * (c + 1) ∧ sp_spok ks Nk := fun q => by obtain ⟨a, b, g1, g2, g3⟩ := hk q; exact ⟨a, b, g1, by omega, g3⟩
  have k1 := c_X4_image l V (σ := S) (A := sp_get S 1) (K := sp_get S 3) (re_G hr hG) hy9
  rw [sp_put_get, sp_put_get] at k1
  refine ⟨1, fun u => ws_C u A z sp tl m bt H true A z sp ∧ ws_M u A z sp tl m bt H kf K kz ks, _, k1, ?_, ?_⟩
  · rintro r u ⟨h1, rfl⟩
    refine ⟨h1, wc_image hC, wm_f hM (fun q h48 _ _ _ => by rw [sp_put_o (by omega), sp_put_o (by omega), sp_img, wj_u_ne (by omega), wj_u_ne (by omega), wj_r_ne (by omega)])⟩
  · rintro u ⟨hC2, hM2⟩
    have hr2 := hM2.1
    have k2 := c_X5_image l V (σ := u) (A := sp_mg (u 49)) (re_G hr2 hG) hy9
    rw [sp_mq_id] at k2
    refine ⟨_, k2, ?_⟩
    rintro r u2 ⟨h1, rfl⟩
    exact ⟨h1, A, z, sp, tl, m, bt, H, true, A, z, sp, wc_f hC2 (fun q h48 _ _ _ => by rw [sp_mq_o (by omega), wj_u_ne (by omega), wj_r_ne (by omega)]), wm_image hM2, ⟨N, y, hG, by omega, hsp, hm, hH, fun _ => ⟨N, y, hG, by omega, hsp⟩⟩⟩
set_option maxRecDepth 100000 in
set_option maxHeartbeats 1000000 in
theorem st_undo (l : Launch) (V : wj_V) {S : wj_St} {c : Nat} (h : ws_A c S) (hc : c < 1000) : ws_S l V yX4_undo cX4_undo 1 2 48 yX5_undo cX5_undo 1 1 22 [] S c := by
  obtain ⟨A, z, sp, tl, m, bt, H, kf, K, kz, ks, hC, hM, N, y, hG, hy, hsp, hm, hH, hk⟩ := h
  have hr := hC.1.2
  have hy9 : y < 90000 := by omega
  have hk2 : kf = true → ∃ Nk yk, sp_G K Nk yk ∧ yk ≤ 60 * (c + 1) ∧ sp_spok ks Nk := fun q => by obtain ⟨a, b, g1, g2, g3⟩ := hk q; exact ⟨a, b, g1, by omega, g3⟩
  cases kf with
  | true =>
    obtain ⟨Nk, yk, hGk, hyk, hsk⟩ := hk2 rfl
    have h7 := hC.2.2.2.2.2.2
    have hr3 := (h7.2 rfl).2.1
    have k1 := c_X4_undo l V (σ := S) (A := sp_get S 1) (K := sp_get S 3) (re_G hr3 hGk) (by rw [h7.1]; decide)
    rw [sp_put_get, sp_put_get] at k1
    refine ⟨K.1, fun u => ws_C u K kz ks tl m bt H true K kz ks ∧ ws_M u A z sp tl m bt H true K kz ks, _, k1, ?_, ?_⟩
    · rintro r u ⟨h1, rfl⟩
      exact ⟨h1.trans hr3.1.symm, wc_undo hC rfl, wm_f hM (fun q h48 _ _ _ => by rw [sp_put_o (by omega), sp_put_o (by omega), sp_und, wj_u_ne (by omega), wj_r_ne (by omega)])⟩
    · rintro u ⟨hC2, hM2⟩
      have k2 := c_X5_undo l V (σ := u) (by rw [hM2.2.2.2.2.2.2.1]; rfl)
      refine ⟨_, k2, ?_⟩
      rintro r u2 ⟨h1, rfl⟩
      have hr4 := (hM2.2.2.2.2.2.2.2 rfl).1
      exact ⟨h1.trans hr4.1.symm, K, kz, ks, tl, m, bt, H, true, K, kz, ks, wc_f hC2 (fun q h48 _ _ _ => wj_r_ne (by omega)), wm_undo hM2 rfl, ⟨Nk, yk, hGk, hyk, hsk, hm, hH, fun _ => ⟨Nk, yk, hGk, hyk, hsk⟩⟩⟩
  | false =>
    have h7 := hC.2.2.2.2.2.2
    have k1 := c_X4_undo_no l V (σ := S) (by rw [h7.1]; rfl)
    refine ⟨-1000004, fun u => ws_C u A z sp (tl_a tl (.inl 3)) m bt H false K kz ks ∧ ws_M u A z sp tl m bt H false K kz ks, _, k1, ?_, ?_⟩
    · rintro r u ⟨h1, rfl⟩
      refine ⟨h1, ?_, wm_f hM (fun q h48 _ _ _ => wj_u_ne (by omega))⟩
      have := wc_plain (a := .inl 3) (B2 := sp_get S 1) hC hC.1.1 hr
      refine wc_f this (fun q h48 _ _ _ => ?_)
      show sp_tl S 3 q = sp_put (sp_tw S (.inl 3)) 1 (sp_get S 1) q
      rw [ws_pg]
      rfl
    · rintro u ⟨hC2, hM2⟩
      have k2 := c_X5_undo_no l V (σ := u) (by rw [hM2.2.2.2.2.2.2.1]; rfl)
      refine ⟨_, k2, ?_⟩
      rintro r u2 ⟨h1, rfl⟩
      refine ⟨h1, A, z, sp, (tl_a tl (.inl 3)), m, bt, H, false, K, kz, ks, wc_f hC2 (fun q h48 _ _ _ => by show wj_u (wj_u u 52 _ _) 52 _ _ q = u q; rw [wj_u_ne (by omega), wj_u_ne (by omega)]), ?_, ⟨N, y, hG, by omega, hsp, hm, hH, hk2⟩⟩
      have := wm_plain (a := .inl 3) (g := u 51) (B2 := sp_mg (u 49)) hM2 (lt7_l (by decide)) hC.1.1 hM2.1
      have e : sp_mq (wj_r (sp_fw u (.inl 3)) 51 (u 51)) (sp_mg (u 49)) = sp_fd u 3 := by
        have e51 : (sp_fd u 3) 51 = u 51 := by show wj_u (wj_u u 52 _ _) 52 _ _ 51 = u 51; rw [wj_u_ne (by decide), wj_u_ne (by decide)]
        have e49 : (sp_fd u 3) 49 = u 49 := by show wj_u (wj_u u 52 _ _) 52 _ _ 49 = u 49; rw [wj_u_ne (by decide), wj_u_ne (by decide)]
        show sp_mq (wj_r (sp_fd u 3) 51 (u 51)) (sp_mg (u 49)) = sp_fd u 3
        rw [← e51, wj_r_id, ← e49, sp_mq_id]
      rw [e] at this
      exact this
set_option maxRecDepth 100000 in
set_option maxHeartbeats 1000000 in
theorem st_text (l : Launch) (V : wj_V) {S : wj_St} {c : Nat} (h : ws_A c S) (hc : c < 1000) : ws_S l V yX4_text cX4_text 2 9 200 yX5_text cX5_text 2 8 178 [] S c := by
  obtain ⟨A, z, sp, tl, m, bt, H, kf, K, kz, ks, hC, hM, N, y, hG, hy, hsp, hm, hH, hk⟩ := h
  have hr := hC.1.2
  have hy9 : y < 90000 := by omega
  have hk2 : kf = true → ∃ Nk yk, sp_G K Nk yk ∧ yk ≤ 60 * (c + 1) ∧ sp_spok ks Nk := fun q => by obtain ⟨a, b, g1, g2, g3⟩ := hk q; exact ⟨a, b, g1, by omega, g3⟩
  have hf0 : ∀ u, ws_M u A z sp tl m bt H kf K kz ks → tx_tg (u 53) (S 47) m := fun u hu k hk3 => by
    rw [hC.2.2.2.2.1.2 k hk3]; exact hu.2.2.2.1.2 k hk3
  have hG1 := re_G hr hG
  have o9 : ∀ q c1, q ≠ 46 → q ≠ 47 → wj_u (tx_C (S 47) m S c1) 46 1 0 q = S q := fun q c1 h1 _ => by rw [wj_u_ne h1, tx_C_o h1]
  have o5 : ∀ c1, ws_5 (wj_u (tx_C (S 47) m S c1) 46 1 0) 0 bt := fun c1 => ⟨by rw [wj_u_same]; simp [upd]; rfl, fun k hk => absurd hk (by omega)⟩
  rcases ht : tx_tx (S 47) m 120 N 0 with d | l1
  · have hd := tx_tx_lb 120 N 0 d (Nat.zero_le _) ht
    have k1 := c_X4_text_l l V (σ := S) (A := sp_get S 1) (T := sp_get S 2) rfl hC.2.2.2.2.1.1 hm hG1 ht hd
    rw [sp_put_get, sp_put_get] at k1
    refine ⟨-1 - nI (tx_b (S 47) m d), fun u => ws_C u A z sp tl 0 bt H kf K kz ks ∧ ws_M u A z sp tl m bt H kf K kz ks, _, k1, ?_, ?_⟩
    · rintro r u ⟨h1, T2, rfl⟩
      refine ⟨h1, ?_, wm_f hM (fun q h48 _ _ _ => by rw [sp_put_o (by omega), sp_put_o (by omega), o9 q d (by omega) (by omega)])⟩
      have := wc_plain (a := .inr 0) (B2 := sp_get S 1) (wc_tape hC (fun q h1 h2 => o9 q d h1 h2) (o5 d)) hC.1.1 hr
      exact wc_f this (fun q _ q2 q8 q18 => sp_put_o ⟨q2, q8, by omega⟩)
    · rintro u ⟨hC2, hM2⟩
      have hr2 := hM2.1
      have k2 := c_X5_text_l l V (σ := u) (B := sp_mg (u 49)) (g := u 53) (f := S 47) (m := m) rfl hM2.2.2.2.1.1 hm (hf0 u hM2) (hr2.2.1.symm.trans hG.1) hG.2.1 hd ht
      rw [sp_mq_id] at k2
      refine ⟨_, k2, ?_⟩
      rintro r u2 ⟨h1, i2, n2, h2, rfl⟩
      refine ⟨h1, A, z, sp, tl, 0, bt, H, kf, K, kz, ks, wc_f hC2 (fun q h48 _ _ _ => by rw [sp_mq_o (by omega), tm_o (by omega) (by omega), wj_u_ne (by omega)]), ?_, ⟨N, y, hG, by omega, hsp, Nat.zero_le _, hH, hk2⟩⟩
      have e := ws_tm (w := 1) (c := d) (i := i2) (n := n2) (h := h2) (f := S 47) (m := m) (m0 := m) hM2
      have := wm_plain (a := .inr 0) (g := tm (S 47) m (wj_u u 48 7 0) d 1 i2 n2 h2 51) (B2 := sp_mg (u 49)) e lt7_r hC.1.1 hr2
      show ws_M (sp_mq (tm (S 47) m (wj_u u 48 7 0) d 1 i2 n2 h2) (sp_mg (u 49))) A z sp tl 0 bt H kf K kz ks
      have e2 : wj_r (sp_fw (tm (S 47) m (wj_u u 48 7 0) d 1 i2 n2 h2) (.inr 0)) 51 (tm (S 47) m (wj_u u 48 7 0) d 1 i2 n2 h2 51) = tm (S 47) m (wj_u u 48 7 0) d 1 i2 n2 h2 := wj_r_id _ 51
      rw [e2] at this
      exact this
  · have hok := tx_tx_ok 120 N 0 l1 (Nat.zero_le _) ht
    obtain ⟨M9, hM9, hG9⟩ := kp_aps hG hok
    have hrB : sp_re A (sp_bec (sp_get S 2) (sp_get S 1)) := re_tr hr (re_sym (re_bec _ _))
    have hrT : sp_re (tx_aps A l1) (tx_aps (sp_bec (sp_get S 2) (sp_get S 1)) l1) := re_aps hrB hG.1 hG.2.1 hok
    have k1 := c_X4_text_r l V (σ := S) (A := sp_get S 1) (T := sp_get S 2) (N2 := M9) rfl hC.2.2.2.2.1.1 hm hG1 ht (hrT.2.1.symm.trans hG9.1) hG9.2.1
    rw [sp_put_get, sp_put_get] at k1
    refine ⟨nI l1.length, fun u => ws_C u (tx_aps A l1) z sp tl 0 bt H kf K kz ks ∧ ws_M u A z sp tl m bt H kf K kz ks, _, k1, ?_, ?_⟩
    · rintro r u ⟨h1, c1, T2, rfl⟩
      refine ⟨h1, ?_, wm_f hM (fun q h48 _ _ _ => by rw [sp_put_o (by omega), sp_put_o (by omega), o9 q c1 (by omega) (by omega)])⟩
      have := wc_plain (a := .inr 0) (A2 := tx_aps A l1) (B2 := sp_bec (sp_get S 1) (tx_aps (sp_bec (sp_get S 2) (sp_get S 1)) l1)) (wc_tape hC (fun q h1 h2 => o9 q c1 h1 h2) (o5 c1)) ⟨M9, hG9.2.1, hG9.1⟩ (re_tr hrT (re_sym (re_bec _ _)))
      exact wc_f this (fun q _ q2 q8 q18 => sp_put_o ⟨q2, q8, by omega⟩)
    · rintro u ⟨hC2, hM2⟩
      have hr2 := hM2.1
      have k2 := c_X5_text_r l V (σ := u) (B := sp_mg (u 49)) (g := u 53) (f := S 47) (m := m) rfl hM2.2.2.2.1.1 hm (hf0 u hM2) (hr2.2.1.symm.trans hG.1) hG.2.1 ht
      rw [sp_mq_id] at k2
      refine ⟨_, k2, ?_⟩
      rintro r u2 ⟨h1, c2, n2, h2, rfl⟩
      refine ⟨h1, tx_aps A l1, z, sp, tl, 0, bt, H, kf, K, kz, ks, wc_f hC2 (fun q h48 _ _ _ => by rw [sp_mq_o (by omega), tm_o (by omega) (by omega), wj_u_ne (by omega)]), ?_, ⟨M9, y, hG9, by omega, spok_mono hsp hM9, Nat.zero_le _, hH, hk2⟩⟩
      have e := ws_tm (w := 0) (c := c2) (i := l1.length) (n := n2) (h := h2) (f := S 47) (m := m) (m0 := m) hM2
      have := wm_plain (a := .inr 0) (g := tm (S 47) m (wj_u u 48 7 0) c2 0 l1.length n2 h2 51) (A2 := tx_aps A l1) (B2 := tx_aps (sp_mg (u 49)) l1) e lt7_r ⟨M9, hG9.2.1, hG9.1⟩ (re_aps hr2 hG.1 hG.2.1 hok)
      have e2 : wj_r (sp_fw (tm (S 47) m (wj_u u 48 7 0) c2 0 l1.length n2 h2) (.inr 0)) 51 (tm (S 47) m (wj_u u 48 7 0) c2 0 l1.length n2 h2 51) = tm (S 47) m (wj_u u 48 7 0) c2 0 l1.length n2 h2 := wj_r_id _ 51
      rw [e2] at this
      exact this

set_option maxRecDepth 100000 in
set_option maxHeartbeats 1000000 in
theorem st_hurdles (l : Launch) (V : wj_V) {S : wj_St} {c : Nat} (h : ws_A c S) (hc : c < 1000) (x1 : Int32) : ws_S l V yX4_hurdles cX4_hurdles 3 2 44 yX5_hurdles cX5_hurdles 2 1 23 [.int x1] S c := by
  obtain ⟨A, z, sp, tl, m, bt, H, kf, K, kz, ks, hC, hM, N, y, hG, hy, hsp, hm, hH, hk⟩ := h
  have hr := hC.1.2
  have hy9 : y < 90000 := by omega
  have hk2 : kf = true → ∃ Nk yk, sp_G K Nk yk ∧ yk ≤ 60 * (c + 1) ∧ sp_spok ks Nk := fun q => by obtain ⟨a, b, g1, g2, g3⟩ := hk q; exact ⟨a, b, g1, by omega, g3⟩
  have k1 := c_X4_hurdles l V (σ := S) (A := sp_get S 1) (x := x1) (re_G hr hG) hy9
  rw [sp_put_get] at k1
  refine ⟨sp_v (a_hurdles A x1), fun u => ws_C u (n_hurdles A x1) z sp (tl_a tl (a_hurdles A x1)) m bt H kf K kz ks ∧ ws_M u A z sp tl m bt H kf K kz ks, _, k1, ?_, ?_⟩
  · rintro r u ⟨h1, rfl⟩
    have e := (re_a_hurdles hr x1)
    refine ⟨by rw [h1, e.1], ?_, ?_⟩
    · rw [← e.1]
      exact wc_plain hC ⟨N, (kp_hurdles hG x1).2.1, (kp_hurdles hG x1).1⟩ e.2
    · exact wm_f hM (fun q h48 _ _ _ => by rw [sp_put_o (by omega), sp_tw_o (by omega)])
  · rintro u ⟨hC2, hM2⟩
    have hr2 := hM2.1
    have k2 := c_X5_hurdles l V (σ := u) (A := sp_mg (u 49)) (x := x1) (re_G hr2 hG) hy9
    rw [sp_mq_id] at k2
    refine ⟨_, k2, ?_⟩
    rintro r u2 ⟨h1, g, rfl⟩
    have e := (re_a_hurdles hr2 x1)
    refine ⟨by rw [h1, e.1], (n_hurdles A x1), z, sp, (tl_a tl (a_hurdles A x1)), m, bt, H, kf, K, kz, ks, ?_, ?_, ⟨N, y, kp_hurdles hG x1, by omega, hsp, hm, hH, hk2⟩⟩
    · exact wc_f hC2 (fun q h48 _ _ _ => by rw [sp_mq_o (by omega), wj_r_ne (by omega), sp_fw_o (by omega)])
    · rw [← e.1]
      exact wm_plain hM2 (lt7_hurdles _ _) ⟨N, (kp_hurdles hG x1).2.1, (kp_hurdles hG x1).1⟩ e.2
set_option maxRecDepth 100000 in
set_option maxHeartbeats 1000000 in
theorem st_place (l : Launch) (V : wj_V) {S : wj_St} {c : Nat} (h : ws_A c S) (hc : c < 1000) (x1 x2 : Int32) : ws_S l V yX4_place cX4_place 3 4 86 yX5_place cX5_place 3 5 115 [.int x1, .int x2] S c := by
  obtain ⟨A, z, sp, tl, m, bt, H, kf, K, kz, ks, hC, hM, N, y, hG, hy, hsp, hm, hH, hk⟩ := h
  have hr := hC.1.2
  have hy9 : y < 90000 := by omega
  have hk2 : kf = true → ∃ Nk yk, sp_G K Nk yk ∧ yk ≤ 60 * (c + 1) ∧ sp_spok ks Nk := fun q => by obtain ⟨a, b, g1, g2, g3⟩ := hk q; exact ⟨a, b, g1, by omega, g3⟩
  have k1 := c_X4_place l V (σ := S) (A := sp_get S 1) (p := x1) (w := x2) (re_G hr hG) hy9
  rw [sp_put_get] at k1
  refine ⟨sp_v (a_place A x1 x2), fun u => ws_C u A z sp (tl_a tl (a_place A x1 x2)) m bt H kf K kz ks ∧ ws_M u A z sp tl m bt H kf K kz ks, _, k1, ?_, ?_⟩
  · rintro r u ⟨h1, rfl⟩
    have e := (re_a_place hr x1 x2)
    refine ⟨by rw [h1, e], ?_, ?_⟩
    · rw [← e]
      exact wc_plain hC hC.1.1 hr
    · exact wm_f hM (fun q h48 _ _ _ => by rw [sp_put_o (by omega), sp_tw_o (by omega)])
  · rintro u ⟨hC2, hM2⟩
    have hr2 := hM2.1
    have k2 := c_X5_place l V (σ := u) (A := sp_mg (u 49)) (x := x1) (w := x2) (re_G hr2 hG) hy9
    rw [sp_mq_id] at k2
    refine ⟨_, k2, ?_⟩
    rintro r u2 ⟨h1, g, rfl⟩
    have e := (re_a_place hr2 x1 x2)
    refine ⟨by rw [h1, e], A, z, sp, (tl_a tl (a_place A x1 x2)), m, bt, H, kf, K, kz, ks, ?_, ?_, ⟨N, y, hG, by omega, hsp, hm, hH, hk2⟩⟩
    · exact wc_f hC2 (fun q h48 _ _ _ => by rw [sp_mq_o (by omega), wj_r_ne (by omega), sp_fw_o (by omega)])
    · rw [← e]
      exact wm_plain hM2 (lt7_place _ _ _) hC.1.1 hr2
set_option maxRecDepth 100000 in
set_option maxHeartbeats 1000000 in
theorem st_lean (l : Launch) (V : wj_V) {S : wj_St} {c : Nat} (h : ws_A c S) (hc : c < 1000) (x1 x2 x3 : Int32) : ws_S l V yX4_lean cX4_lean 5 2 44 yX5_lean cX5_lean 5 2 42 [.int x1, .int x2, .int x3] S c := by
  obtain ⟨A, z, sp, tl, m, bt, H, kf, K, kz, ks, hC, hM, N, y, hG, hy, hsp, hm, hH, hk⟩ := h
  have hr := hC.1.2
  have hy9 : y < 90000 := by omega
  have hk2 : kf = true → ∃ Nk yk, sp_G K Nk yk ∧ yk ≤ 60 * (c + 1) ∧ sp_spok ks Nk := fun q => by obtain ⟨a, b, g1, g2, g3⟩ := hk q; exact ⟨a, b, g1, by omega, g3⟩
  have k1 := c_X4_lean l V (σ := S) (A := sp_get S 1) (x := x1) (p := x2) (w := x3) (re_G hr hG) hy9
  rw [sp_put_get] at k1
  refine ⟨sp_v (a_lean A x1 x2 x3), fun u => ws_C u (n_lean A x1 x2 x3) z sp (tl_a tl (a_lean A x1 x2 x3)) m bt H kf K kz ks ∧ ws_M u A z sp tl m bt H kf K kz ks, _, k1, ?_, ?_⟩
  · rintro r u ⟨h1, rfl⟩
    have e := (re_a_lean hr x1 x2 x3)
    refine ⟨by rw [h1, e.1], ?_, ?_⟩
    · rw [← e.1]
      exact wc_plain hC ⟨N, (kp_lean hG x1 x2 x3).2.1, (kp_lean hG x1 x2 x3).1⟩ e.2
    · exact wm_f hM (fun q h48 _ _ _ => by rw [sp_put_o (by omega), sp_tw_o (by omega)])
  · rintro u ⟨hC2, hM2⟩
    have hr2 := hM2.1
    have k2 := c_X5_lean l V (σ := u) (A := sp_mg (u 49)) (x := x1) (p := x2) (w := x3) (re_G hr2 hG) hy9
    rw [sp_mq_id] at k2
    refine ⟨_, k2, ?_⟩
    rintro r u2 ⟨h1, g, rfl⟩
    have e := (re_a_lean hr2 x1 x2 x3)
    refine ⟨by rw [h1, e.1], (n_lean A x1 x2 x3), z, sp, (tl_a tl (a_lean A x1 x2 x3)), m, bt, H, kf, K, kz, ks, ?_, ?_, ⟨N, y, kp_lean hG x1 x2 x3, by omega, hsp, hm, hH, hk2⟩⟩
    · exact wc_f hC2 (fun q h48 _ _ _ => by rw [sp_mq_o (by omega), wj_r_ne (by omega), sp_fw_o (by omega)])
    · rw [← e.1]
      exact wm_plain hM2 (lt7_lean _ _ _ _) ⟨N, (kp_lean hG x1 x2 x3).2.1, (kp_lean hG x1 x2 x3).1⟩ e.2
set_option maxRecDepth 100000 in
set_option maxHeartbeats 1000000 in
theorem st_leaning (l : Launch) (V : wj_V) {S : wj_St} {c : Nat} (h : ws_A c S) (hc : c < 1000) (x1 : Int32) : ws_S l V yX4_leaning cX4_leaning 2 2 44 yX5_leaning cX5_leaning 2 2 42 [.int x1] S c := by
  obtain ⟨A, z, sp, tl, m, bt, H, kf, K, kz, ks, hC, hM, N, y, hG, hy, hsp, hm, hH, hk⟩ := h
  have hr := hC.1.2
  have hy9 : y < 90000 := by omega
  have hk2 : kf = true → ∃ Nk yk, sp_G K Nk yk ∧ yk ≤ 60 * (c + 1) ∧ sp_spok ks Nk := fun q => by obtain ⟨a, b, g1, g2, g3⟩ := hk q; exact ⟨a, b, g1, by omega, g3⟩
  have k1 := c_X4_leaning l V (σ := S) (A := sp_get S 1) (x := x1) (re_G hr hG) hy9
  rw [sp_put_get] at k1
  refine ⟨sp_v (a_leaning A x1), fun u => ws_C u A z sp (tl_a tl (a_leaning A x1)) m bt H kf K kz ks ∧ ws_M u A z sp tl m bt H kf K kz ks, _, k1, ?_, ?_⟩
  · rintro r u ⟨h1, rfl⟩
    have e := (re_a_leaning hr x1)
    refine ⟨by rw [h1, e], ?_, ?_⟩
    · rw [← e]
      exact wc_plain hC hC.1.1 hr
    · exact wm_f hM (fun q h48 _ _ _ => by rw [sp_put_o (by omega), sp_tw_o (by omega)])
  · rintro u ⟨hC2, hM2⟩
    have hr2 := hM2.1
    have k2 := c_X5_leaning l V (σ := u) (A := sp_mg (u 49)) (x := x1) (re_G hr2 hG) hy9
    rw [sp_mq_id] at k2
    refine ⟨_, k2, ?_⟩
    rintro r u2 ⟨h1, g, rfl⟩
    have e := (re_a_leaning hr2 x1)
    refine ⟨by rw [h1, e], A, z, sp, (tl_a tl (a_leaning A x1)), m, bt, H, kf, K, kz, ks, ?_, ?_, ⟨N, y, hG, by omega, hsp, hm, hH, hk2⟩⟩
    · exact wc_f hC2 (fun q h48 _ _ _ => by rw [sp_mq_o (by omega), wj_r_ne (by omega), sp_fw_o (by omega)])
    · rw [← e]
      exact wm_plain hM2 (lt7_leaning _ _) hC.1.1 hr2
set_option maxRecDepth 100000 in
set_option maxHeartbeats 1000000 in
theorem st_slip (l : Launch) (V : wj_V) {S : wj_St} {c : Nat} (h : ws_A c S) (hc : c < 1000) (x1 x2 x3 : Int32) : ws_S l V yX4_slip cX4_slip 5 2 47 yX5_slip cX5_slip 4 2 45 [.int x1, .int x2, .int x3] S c := by
  obtain ⟨A, z, sp, tl, m, bt, H, kf, K, kz, ks, hC, hM, N, y, hG, hy, hsp, hm, hH, hk⟩ := h
  have hr := hC.1.2
  have hy9 : y < 90000 := by omega
  have hk2 : kf = true → ∃ Nk yk, sp_G K Nk yk ∧ yk ≤ 60 * (c + 1) ∧ sp_spok ks Nk := fun q => by obtain ⟨a, b, g1, g2, g3⟩ := hk q; exact ⟨a, b, g1, by omega, g3⟩
  obtain ⟨M9, hM9, hG9⟩ := kp_slip hG x1 x2 x3
  have k1 := c_X4_slip l V (σ := S) (A := sp_get S 1) (k := x1) (p := x2) (w := x3) (re_G hr hG) hy9
  rw [sp_put_get] at k1
  refine ⟨sp_v (a_slip A x1 x2 x3), fun u => ws_C u (n_slip A x1 x2 x3) z sp (tl_a tl (a_slip A x1 x2 x3)) m bt H kf K kz ks ∧ ws_M u A z sp tl m bt H kf K kz ks, _, k1, ?_, ?_⟩
  · rintro r u ⟨h1, rfl⟩
    have e := (re_a_slip hr hG x1 x2 x3)
    refine ⟨by rw [h1, e.1], ?_, ?_⟩
    · rw [← e.1]
      exact wc_plain hC ⟨M9, hG9.2.1, hG9.1⟩ e.2
    · exact wm_f hM (fun q h48 _ _ _ => by rw [sp_put_o (by omega), sp_tw_o (by omega)])
  · rintro u ⟨hC2, hM2⟩
    have hr2 := hM2.1
    have k2 := c_X5_slip l V (σ := u) (A := sp_mg (u 49)) (k := x1) (p := x2) (w := x3) (re_G hr2 hG) hy9
    rw [sp_mq_id] at k2
    refine ⟨_, k2, ?_⟩
    rintro r u2 ⟨h1, g, rfl⟩
    have e := (re_a_slip hr2 hG x1 x2 x3)
    refine ⟨by rw [h1, e.1], (n_slip A x1 x2 x3), z, sp, (tl_a tl (a_slip A x1 x2 x3)), m, bt, H, kf, K, kz, ks, ?_, ?_, ⟨M9, y, hG9, by omega, spok_mono hsp hM9, hm, hH, hk2⟩⟩
    · exact wc_f hC2 (fun q h48 _ _ _ => by rw [sp_mq_o (by omega), wj_r_ne (by omega), sp_fw_o (by omega)])
    · rw [← e.1]
      exact wm_plain hM2 (lt7_slip _ _ _ _) ⟨M9, hG9.2.1, hG9.1⟩ e.2
set_option maxRecDepth 100000 in
set_option maxHeartbeats 1000000 in
theorem st_of (l : Launch) (V : wj_V) {S : wj_St} {c : Nat} (h : ws_A c S) (hc : c < 1000) (x1 x2 : Int32) : ws_S l V yX4_of cX4_of 4 3 65 yX5_of cX5_of 3 5 114 [.int x1, .int x2] S c := by
  obtain ⟨A, z, sp, tl, m, bt, H, kf, K, kz, ks, hC, hM, N, y, hG, hy, hsp, hm, hH, hk⟩ := h
  have hr := hC.1.2
  have hy9 : y < 90000 := by omega
  have hk2 : kf = true → ∃ Nk yk, sp_G K Nk yk ∧ yk ≤ 60 * (c + 1) ∧ sp_spok ks Nk := fun q => by obtain ⟨a, b, g1, g2, g3⟩ := hk q; exact ⟨a, b, g1, by omega, g3⟩
  have k1 := c_X4_of l V (σ := S) (A := sp_get S 1) (x := x1) (w := x2) (re_G hr hG) hy9
  rw [sp_put_get] at k1
  refine ⟨sp_v (a_of A x1 x2), fun u => ws_C u A z sp (tl_a tl (a_of A x1 x2)) m bt H kf K kz ks ∧ ws_M u A z sp tl m bt H kf K kz ks, _, k1, ?_, ?_⟩
  · rintro r u ⟨h1, rfl⟩
    have e := (re_a_of hr hG x1 x2)
    refine ⟨by rw [h1, e], ?_, ?_⟩
    · rw [← e]
      exact wc_plain hC hC.1.1 hr
    · exact wm_f hM (fun q h48 _ _ _ => by rw [sp_put_o (by omega), sp_tw_o (by omega)])
  · rintro u ⟨hC2, hM2⟩
    have hr2 := hM2.1
    have k2 := c_X5_of l V (σ := u) (A := sp_mg (u 49)) (x := x1) (w := x2) (re_G hr2 hG) hy9
    rw [sp_mq_id] at k2
    refine ⟨_, k2, ?_⟩
    rintro r u2 ⟨h1, g, rfl⟩
    have e := (re_a_of hr2 hG x1 x2)
    refine ⟨by rw [h1, e], A, z, sp, (tl_a tl (a_of A x1 x2)), m, bt, H, kf, K, kz, ks, ?_, ?_, ⟨N, y, hG, by omega, hsp, hm, hH, hk2⟩⟩
    · exact wc_f hC2 (fun q h48 _ _ _ => by rw [sp_mq_o (by omega), wj_r_ne (by omega), sp_fw_o (by omega)])
    · rw [← e]
      exact wm_plain hM2 (lt7_of _ _ _) hC.1.1 hr2
set_option maxRecDepth 100000 in
set_option maxHeartbeats 1000000 in
theorem st_change (l : Launch) (V : wj_V) {S : wj_St} {c : Nat} (h : ws_A c S) (hc : c < 1000) (x1 x2 x3 : Int32) : ws_S l V yX4_change cX4_change 6 3 65 yX5_change cX5_change 4 3 63 [.int x1, .int x2, .int x3] S c := by
  obtain ⟨A, z, sp, tl, m, bt, H, kf, K, kz, ks, hC, hM, N, y, hG, hy, hsp, hm, hH, hk⟩ := h
  have hr := hC.1.2
  have hy9 : y < 90000 := by omega
  have hk2 : kf = true → ∃ Nk yk, sp_G K Nk yk ∧ yk ≤ 60 * (c + 1) ∧ sp_spok ks Nk := fun q => by obtain ⟨a, b, g1, g2, g3⟩ := hk q; exact ⟨a, b, g1, by omega, g3⟩
  have k1 := c_X4_change l V (σ := S) (A := sp_get S 1) (x := x1) (w := x2) (v := x3) (re_G hr hG) hy9
  rw [sp_put_get] at k1
  refine ⟨sp_v (a_change A x1 x2 x3), fun u => ws_C u (n_change A x1 x2 x3) z sp (tl_a tl (a_change A x1 x2 x3)) m bt H kf K kz ks ∧ ws_M u A z sp tl m bt H kf K kz ks, _, k1, ?_, ?_⟩
  · rintro r u ⟨h1, rfl⟩
    have e := (re_a_change hr hG x1 x2 x3)
    refine ⟨by rw [h1, e.1], ?_, ?_⟩
    · rw [← e.1]
      exact wc_plain hC ⟨N, (kp_change hG x1 x2 x3).2.1, (kp_change hG x1 x2 x3).1⟩ e.2
    · exact wm_f hM (fun q h48 _ _ _ => by rw [sp_put_o (by omega), sp_tw_o (by omega)])
  · rintro u ⟨hC2, hM2⟩
    have hr2 := hM2.1
    have k2 := c_X5_change l V (σ := u) (A := sp_mg (u 49)) (x := x1) (w := x2) (v := x3) (re_G hr2 hG) hy9
    rw [sp_mq_id] at k2
    refine ⟨_, k2, ?_⟩
    rintro r u2 ⟨h1, g, rfl⟩
    have e := (re_a_change hr2 hG x1 x2 x3)
    refine ⟨by rw [h1, e.1], (n_change A x1 x2 x3), z, sp, (tl_a tl (a_change A x1 x2 x3)), m, bt, H, kf, K, kz, ks, ?_, ?_, ⟨N, y, kp_change hG x1 x2 x3, by omega, hsp, hm, hH, hk2⟩⟩
    · exact wc_f hC2 (fun q h48 _ _ _ => by rw [sp_mq_o (by omega), wj_r_ne (by omega), sp_fw_o (by omega)])
    · rw [← e.1]
      exact wm_plain hM2 (lt7_change _ _ _ _) ⟨N, (kp_change hG x1 x2 x3).2.1, (kp_change hG x1 x2 x3).1⟩ e.2
set_option maxRecDepth 100000 in
set_option maxHeartbeats 1000000 in
theorem st_cut (l : Launch) (V : wj_V) {S : wj_St} {c : Nat} (h : ws_A c S) (hc : c < 1000) (x1 x2 : Int32) : ws_S l V yX4_cut cX4_cut 5 2 44 yX5_cut cX5_cut 4 2 43 [.int x1, .int x2] S c := by
  obtain ⟨A, z, sp, tl, m, bt, H, kf, K, kz, ks, hC, hM, N, y, hG, hy, hsp, hm, hH, hk⟩ := h
  have hr := hC.1.2
  have hy9 : y < 90000 := by omega
  have hk2 : kf = true → ∃ Nk yk, sp_G K Nk yk ∧ yk ≤ 60 * (c + 1) ∧ sp_spok ks Nk := fun q => by obtain ⟨a, b, g1, g2, g3⟩ := hk q; exact ⟨a, b, g1, by omega, g3⟩
  have k1 := c_X4_cut l V (σ := S) (A := sp_get S 1) (x := x1) (v := x2) (re_G hr hG) hy9
  rw [sp_put_get] at k1
  refine ⟨sp_v (a_cut A x1 x2), fun u => ws_C u (n_cut A x1 x2) z sp (tl_a tl (a_cut A x1 x2)) m bt H kf K kz ks ∧ ws_M u A z sp tl m bt H kf K kz ks, _, k1, ?_, ?_⟩
  · rintro r u ⟨h1, rfl⟩
    have e := (re_a_cut hr hG x1 x2)
    refine ⟨by rw [h1, e.1], ?_, ?_⟩
    · rw [← e.1]
      exact wc_plain hC ⟨N, (kp_cut hG x1 x2).2.1, (kp_cut hG x1 x2).1⟩ e.2
    · exact wm_f hM (fun q h48 _ _ _ => by rw [sp_put_o (by omega), sp_tw_o (by omega)])
  · rintro u ⟨hC2, hM2⟩
    have hr2 := hM2.1
    have k2 := c_X5_cut l V (σ := u) (A := sp_mg (u 49)) (x := x1) (v := x2) (re_G hr2 hG) hy9
    rw [sp_mq_id] at k2
    refine ⟨_, k2, ?_⟩
    rintro r u2 ⟨h1, g, rfl⟩
    have e := (re_a_cut hr2 hG x1 x2)
    refine ⟨by rw [h1, e.1], (n_cut A x1 x2), z, sp, (tl_a tl (a_cut A x1 x2)), m, bt, H, kf, K, kz, ks, ?_, ?_, ⟨N, y, kp_cut hG x1 x2, by omega, hsp, hm, hH, hk2⟩⟩
    · exact wc_f hC2 (fun q h48 _ _ _ => by rw [sp_mq_o (by omega), wj_r_ne (by omega), sp_fw_o (by omega)])
    · rw [← e.1]
      exact wm_plain hM2 (lt7_cut _ _ _) ⟨N, (kp_cut hG x1 x2).2.1, (kp_cut hG x1 x2).1⟩ e.2
set_option maxRecDepth 100000 in
set_option maxHeartbeats 1000000 in
theorem st_go (l : Launch) (V : wj_V) {S : wj_St} {c : Nat} (h : ws_A c S) (hc : c < 1000) (x1 : Int32) : ws_S l V yX4_go cX4_go 2 5 111 yX5_go cX5_go 2 8 182 [.int x1] S c := by
  obtain ⟨A, z, sp, tl, m, bt, H, kf, K, kz, ks, hC, hM, N, y, hG, hy, hsp, hm, hH, hk⟩ := h
  have hr := hC.1.2
  have hy9 : y < 90000 := by omega
  have hk2 : kf = true → ∃ Nk yk, sp_G K Nk yk ∧ yk ≤ 60 * (c + 1) ∧ sp_spok ks Nk := fun q => by obtain ⟨a, b, g1, g2, g3⟩ := hk q; exact ⟨a, b, g1, by omega, g3⟩
  obtain ⟨M9, hM9, hG9⟩ := kp_go hG x1
  have k1 := c_X4_go l V (σ := S) (A := sp_get S 1) (n := x1) (re_G hr hG) hy9
  rw [sp_put_get] at k1
  refine ⟨sp_v (a_go A x1), fun u => ws_C u (n_go A x1) z sp (tl_a tl (a_go A x1)) m bt H kf K kz ks ∧ ws_M u A z sp tl m bt H kf K kz ks, _, k1, ?_, ?_⟩
  · rintro r u ⟨h1, rfl⟩
    have e := (And.intro (re_a_go hr hG hy9 x1) (re_n_go hr hG hy9 x1))
    refine ⟨by rw [h1, e.1], ?_, ?_⟩
    · rw [← e.1]
      exact wc_plain hC ⟨N, hG9.2.1, hG9.1⟩ e.2
    · exact wm_f hM (fun q h48 _ _ _ => by rw [sp_put_o (by omega), sp_tw_o (by omega)])
  · rintro u ⟨hC2, hM2⟩
    have hr2 := hM2.1
    have k2 := c_X5_go l V (σ := u) (A := sp_mg (u 49)) (nn := x1) (re_G hr2 hG) hy9 hM2.2.2.2.2.2.1
    rw [sp_mq_id] at k2
    refine ⟨_, k2, ?_⟩
    rintro r u2 ⟨h1, g, rfl⟩
    have e := (And.intro (re_a_go hr2 hG hy9 x1) (re_n_go hr2 hG hy9 x1))
    refine ⟨by rw [h1, e.1], (n_go A x1), z, sp, (tl_a tl (a_go A x1)), m, bt, H, kf, K, kz, ks, ?_, ?_, ⟨N, y + M9, hG9, by omega, hsp, hm, hH, hk2⟩⟩
    · exact wc_f hC2 (fun q h48 _ _ _ => by rw [sp_mq_o (by omega), wj_r_ne (by omega), sp_fw_o (by omega)])
    · rw [← e.1]
      exact wm_plain hM2 (lt7_go _ _) ⟨N, hG9.2.1, hG9.1⟩ e.2
set_option maxRecDepth 100000 in
set_option maxHeartbeats 1000000 in
theorem st_now (l : Launch) (V : wj_V) {S : wj_St} {c : Nat} (h : ws_A c S) (hc : c < 1000) (x1 : Int32) : ws_S l V yX4_now cX4_now 2 4 88 yX5_now cX5_now 2 6 139 [.int x1] S c := by
  obtain ⟨A, z, sp, tl, m, bt, H, kf, K, kz, ks, hC, hM, N, y, hG, hy, hsp, hm, hH, hk⟩ := h
  have hr := hC.1.2
  have hy9 : y < 90000 := by omega
  have hk2 : kf = true → ∃ Nk yk, sp_G K Nk yk ∧ yk ≤ 60 * (c + 1) ∧ sp_spok ks Nk := fun q => by obtain ⟨a, b, g1, g2, g3⟩ := hk q; exact ⟨a, b, g1, by omega, g3⟩
  have k1 := c_X4_now l V (σ := S) (A := sp_get S 1) (w := x1) (re_G hr hG) hy9
  rw [sp_put_get] at k1
  refine ⟨sp_v (a_now A x1), fun u => ws_C u A z sp (tl_a tl (a_now A x1)) m bt H kf K kz ks ∧ ws_M u A z sp tl m bt H kf K kz ks, _, k1, ?_, ?_⟩
  · rintro r u ⟨h1, rfl⟩
    have e := (re_a_now hr x1)
    refine ⟨by rw [h1, e], ?_, ?_⟩
    · rw [← e]
      exact wc_plain hC hC.1.1 hr
    · exact wm_f hM (fun q h48 _ _ _ => by rw [sp_put_o (by omega), sp_tw_o (by omega)])
  · rintro u ⟨hC2, hM2⟩
    have hr2 := hM2.1
    have k2 := c_X5_now l V (σ := u) (A := sp_mg (u 49)) (w := x1) (re_G hr2 hG) hy9
    rw [sp_mq_id] at k2
    refine ⟨_, k2, ?_⟩
    rintro r u2 ⟨h1, g, rfl⟩
    have e := (re_a_now hr2 x1)
    refine ⟨by rw [h1, e], A, z, sp, (tl_a tl (a_now A x1)), m, bt, H, kf, K, kz, ks, ?_, ?_, ⟨N, y, hG, by omega, hsp, hm, hH, hk2⟩⟩
    · exact wc_f hC2 (fun q h48 _ _ _ => by rw [sp_mq_o (by omega), wj_r_ne (by omega), sp_fw_o (by omega)])
    · rw [← e]
      exact wm_plain hM2 (lt7_now _ _) hC.1.1 hr2
set_option maxRecDepth 100000 in
set_option maxHeartbeats 1000000 in
theorem st_ahead (l : Launch) (V : wj_V) {S : wj_St} {c : Nat} (h : ws_A c S) (hc : c < 1000) (x1 x2 x3 : Int32) : ws_S l V yX4_ahead cX4_ahead 5 5 111 yX5_ahead cX5_ahead 5 8 182 [.int x1, .int x2, .int x3] S c := by
  obtain ⟨A, z, sp, tl, m, bt, H, kf, K, kz, ks, hC, hM, N, y, hG, hy, hsp, hm, hH, hk⟩ := h
  have hr := hC.1.2
  have hy9 : y < 90000 := by omega
  have hk2 : kf = true → ∃ Nk yk, sp_G K Nk yk ∧ yk ≤ 60 * (c + 1) ∧ sp_spok ks Nk := fun q => by obtain ⟨a, b, g1, g2, g3⟩ := hk q; exact ⟨a, b, g1, by omega, g3⟩
  have k1 := c_X4_ahead l V (σ := S) (A := sp_get S 1) (T := sp_get S 2) (x := x1) (w := x2) (n := x3) (re_G hr hG) hy9
  rw [sp_put_get, sp_put_get] at k1
  refine ⟨sp_v (a_ahead A x1 x2 x3), fun u => ws_C u A z sp (tl_a tl (a_ahead A x1 x2 x3)) m bt H kf K kz ks ∧ ws_M u A z sp tl m bt H kf K kz ks, _, k1, ?_, ?_⟩
  · rintro r u ⟨h1, T2, rfl⟩
    have e := (re_a_ahead hr hG hy9 x1 x2 x3)
    refine ⟨by rw [h1, e], ?_, ?_⟩
    · rw [← e]
      exact wc_think hC
    · exact wm_f hM (fun q h48 _ _ _ => by rw [sp_put_o (by omega), sp_put_o (by omega), sp_tw_o (by omega)])
  · rintro u ⟨hC2, hM2⟩
    have hr2 := hM2.1
    have k2 := c_X5_ahead l V (σ := u) (A := sp_mg (u 49)) (x := x1) (w := x2) (nn := x3) (re_G hr2 hG) hy9 hM2.2.2.2.2.2.1
    rw [sp_mq_id] at k2
    refine ⟨_, k2, ?_⟩
    rintro r u2 ⟨h1, g, rfl⟩
    have e := (re_a_ahead hr2 hG hy9 x1 x2 x3)
    refine ⟨by rw [h1, e], A, z, sp, (tl_a tl (a_ahead A x1 x2 x3)), m, bt, H, kf, K, kz, ks, ?_, ?_, ⟨N, y, hG, by omega, hsp, hm, hH, hk2⟩⟩
    · exact wc_f hC2 (fun q h48 _ _ _ => by rw [sp_mq_o (by omega), wj_r_ne (by omega), sp_fw_o (by omega)])
    · rw [← e]
      exact wm_plain hM2 (lt7_ahead _ _ _ _) hC.1.1 hr2
set_option maxRecDepth 100000 in
set_option maxHeartbeats 1000000 in
theorem st_strong (l : Launch) (V : wj_V) {S : wj_St} {c : Nat} (h : ws_A c S) (hc : c < 1000) (x1 x2 : Int32) : ws_S l V yX4_strong cX4_strong 3 5 111 yX5_strong cX5_strong 3 9 204 [.int x1, .int x2] S c := by
  obtain ⟨A, z, sp, tl, m, bt, H, kf, K, kz, ks, hC, hM, N, y, hG, hy, hsp, hm, hH, hk⟩ := h
  have hr := hC.1.2
  have hy9 : y < 90000 := by omega
  have hk2 : kf = true → ∃ Nk yk, sp_G K Nk yk ∧ yk ≤ 60 * (c + 1) ∧ sp_spok ks Nk := fun q => by obtain ⟨a, b, g1, g2, g3⟩ := hk q; exact ⟨a, b, g1, by omega, g3⟩
  have k1 := c_X4_strong l V (σ := S) (A := sp_get S 1) (T := sp_get S 2) (p := x1) (n := x2) (re_G hr hG) hy9
  rw [sp_put_get, sp_put_get] at k1
  refine ⟨sp_v (a_strong A x1 x2), fun u => ws_C u A z sp (tl_a tl (a_strong A x1 x2)) m bt H kf K kz ks ∧ ws_M u A z sp tl m bt H kf K kz ks, _, k1, ?_, ?_⟩
  · rintro r u ⟨h1, T2, rfl⟩
    have e := (re_a_strong hr hG hy9 x1 x2)
    refine ⟨by rw [h1, e], ?_, ?_⟩
    · rw [← e]
      exact wc_think hC
    · exact wm_f hM (fun q h48 _ _ _ => by rw [sp_put_o (by omega), sp_put_o (by omega), sp_tw_o (by omega)])
  · rintro u ⟨hC2, hM2⟩
    have hr2 := hM2.1
    have k2 := c_X5_strong l V (σ := u) (A := sp_mg (u 49)) (x := x1) (nn := x2) (re_G hr2 hG) hy9 hM2.2.2.2.2.2.1
    rw [sp_mq_id] at k2
    refine ⟨_, k2, ?_⟩
    rintro r u2 ⟨h1, g, rfl⟩
    have e := (re_a_strong hr2 hG hy9 x1 x2)
    refine ⟨by rw [h1, e], A, z, sp, (tl_a tl (a_strong A x1 x2)), m, bt, H, kf, K, kz, ks, ?_, ?_, ⟨N, y, hG, by omega, hsp, hm, hH, hk2⟩⟩
    · exact wc_f hC2 (fun q h48 _ _ _ => by rw [sp_mq_o (by omega), wj_r_ne (by omega), sp_fw_o (by omega)])
    · rw [← e]
      exact wm_plain hM2 (lt7_strong _ _ _) hC.1.1 hr2
set_option maxRecDepth 100000 in
set_option maxHeartbeats 1000000 in
theorem st_closed (l : Launch) (V : wj_V) {S : wj_St} {c : Nat} (h : ws_A c S) (hc : c < 1000) (x1 : Int32) : ws_S l V yX4_closed cX4_closed 2 5 111 yX5_closed cX5_closed 2 8 182 [.int x1] S c := by
  obtain ⟨A, z, sp, tl, m, bt, H, kf, K, kz, ks, hC, hM, N, y, hG, hy, hsp, hm, hH, hk⟩ := h
  have hr := hC.1.2
  have hy9 : y < 90000 := by omega
  have hk2 : kf = true → ∃ Nk yk, sp_G K Nk yk ∧ yk ≤ 60 * (c + 1) ∧ sp_spok ks Nk := fun q => by obtain ⟨a, b, g1, g2, g3⟩ := hk q; exact ⟨a, b, g1, by omega, g3⟩
  have k1 := c_X4_closed l V (σ := S) (A := sp_get S 1) (T := sp_get S 2) (p := x1) (re_G hr hG) hy9
  rw [sp_put_get, sp_put_get] at k1
  refine ⟨sp_v (a_closed A x1), fun u => ws_C u A z sp (tl_a tl (a_closed A x1)) m bt H kf K kz ks ∧ ws_M u A z sp tl m bt H kf K kz ks, _, k1, ?_, ?_⟩
  · rintro r u ⟨h1, T2, rfl⟩
    have e := (re_a_closed hr hG hy9 x1)
    refine ⟨by rw [h1, e], ?_, ?_⟩
    · rw [← e]
      exact wc_think hC
    · exact wm_f hM (fun q h48 _ _ _ => by rw [sp_put_o (by omega), sp_put_o (by omega), sp_tw_o (by omega)])
  · rintro u ⟨hC2, hM2⟩
    have hr2 := hM2.1
    have k2 := c_X5_closed l V (σ := u) (A := sp_mg (u 49)) (p := x1) (re_G hr2 hG) hy9 hM2.2.2.2.2.2.1
    rw [sp_mq_id] at k2
    refine ⟨_, k2, ?_⟩
    rintro r u2 ⟨h1, g, rfl⟩
    have e := (re_a_closed hr2 hG hy9 x1)
    refine ⟨by rw [h1, e], A, z, sp, (tl_a tl (a_closed A x1)), m, bt, H, kf, K, kz, ks, ?_, ?_, ⟨N, y, hG, by omega, hsp, hm, hH, hk2⟩⟩
    · exact wc_f hC2 (fun q h48 _ _ _ => by rw [sp_mq_o (by omega), wj_r_ne (by omega), sp_fw_o (by omega)])
    · rw [← e]
      exact wm_plain hM2 (lt7_closed _ _) hC.1.1 hr2
set_option maxRecDepth 100000 in
set_option maxHeartbeats 1000000 in
theorem st_whole (l : Launch) (V : wj_V) {S : wj_St} {c : Nat} (h : ws_A c S) (hc : c < 1000) : ws_S l V yX4_whole cX4_whole 1 5 111 yX5_whole cX5_whole 1 8 182 [] S c := by
  obtain ⟨A, z, sp, tl, m, bt, H, kf, K, kz, ks, hC, hM, N, y, hG, hy, hsp, hm, hH, hk⟩ := h
  have hr := hC.1.2
  have hy9 : y < 90000 := by omega
  have hk2 : kf = true → ∃ Nk yk, sp_G K Nk yk ∧ yk ≤ 60 * (c + 1) ∧ sp_spok ks Nk := fun q => by obtain ⟨a, b, g1, g2, g3⟩ := hk q; exact ⟨a, b, g1, by omega, g3⟩
  have k1 := c_X4_whole l V (σ := S) (A := sp_get S 1) (T := sp_get S 2) (re_G hr hG) hy9
  rw [sp_put_get, sp_put_get] at k1
  refine ⟨sp_v (a_whole A), fun u => ws_C u A z sp (tl_a tl (a_whole A)) m bt H kf K kz ks ∧ ws_M u A z sp tl m bt H kf K kz ks, _, k1, ?_, ?_⟩
  · rintro r u ⟨h1, T2, rfl⟩
    have e := (re_a_whole hr hG hy9)
    refine ⟨by rw [h1, e], ?_, ?_⟩
    · rw [← e]
      exact wc_think hC
    · exact wm_f hM (fun q h48 _ _ _ => by rw [sp_put_o (by omega), sp_put_o (by omega), sp_tw_o (by omega)])
  · rintro u ⟨hC2, hM2⟩
    have hr2 := hM2.1
    have k2 := c_X5_whole l V (σ := u) (A := sp_mg (u 49)) (re_G hr2 hG) hy9 hM2.2.2.2.2.2.1
    rw [sp_mq_id] at k2
    refine ⟨_, k2, ?_⟩
    rintro r u2 ⟨h1, g, rfl⟩
    have e := (re_a_whole hr2 hG hy9)
    refine ⟨by rw [h1, e], A, z, sp, (tl_a tl (a_whole A)), m, bt, H, kf, K, kz, ks, ?_, ?_, ⟨N, y, hG, by omega, hsp, hm, hH, hk2⟩⟩
    · exact wc_f hC2 (fun q h48 _ _ _ => by rw [sp_mq_o (by omega), wj_r_ne (by omega), sp_fw_o (by omega)])
    · rw [← e]
      exact wm_plain hM2 (lt7_whole _) hC.1.1 hr2
set_option maxRecDepth 100000 in
set_option maxHeartbeats 1000000 in
theorem st_breaks (l : Launch) (V : wj_V) {S : wj_St} {c : Nat} (h : ws_A c S) (hc : c < 1000) (x1 : Int32) : ws_S l V yX4_breaks cX4_breaks 5 4 89 yX5_breaks cX5_breaks 4 7 160 [.int x1] S c := by
  obtain ⟨A, z, sp, tl, m, bt, H, kf, K, kz, ks, hC, hM, N, y, hG, hy, hsp, hm, hH, hk⟩ := h
  have hr := hC.1.2
  have hy9 : y < 90000 := by omega
  have hk2 : kf = true → ∃ Nk yk, sp_G K Nk yk ∧ yk ≤ 60 * (c + 1) ∧ sp_spok ks Nk := fun q => by obtain ⟨a, b, g1, g2, g3⟩ := hk q; exact ⟨a, b, g1, by omega, g3⟩
  have k1 := c_X4_breaks l V (σ := S) (A := sp_get S 1) (T := sp_get S 2) (x := x1) (re_G hr hG) hy9
  rw [sp_put_get, sp_put_get] at k1
  refine ⟨sp_v (a_breaks A x1), fun u => ws_C u A z sp (tl_a tl (a_breaks A x1)) m bt H kf K kz ks ∧ ws_M u A z sp tl m bt H kf K kz ks, _, k1, ?_, ?_⟩
  · rintro r u ⟨h1, T2, rfl⟩
    have e := (re_a_breaks hr hG hy9 x1)
    refine ⟨by rw [h1, e], ?_, ?_⟩
    · rw [← e]
      exact wc_think hC
    · exact wm_f hM (fun q h48 _ _ _ => by rw [sp_put_o (by omega), sp_put_o (by omega), sp_tw_o (by omega)])
  · rintro u ⟨hC2, hM2⟩
    have hr2 := hM2.1
    have k2 := c_X5_breaks l V (σ := u) (A := sp_mg (u 49)) (x := x1) (re_G hr2 hG) hy9 hM2.2.2.2.2.2.1
    rw [sp_mq_id] at k2
    refine ⟨_, k2, ?_⟩
    rintro r u2 ⟨h1, g, rfl⟩
    have e := (re_a_breaks hr2 hG hy9 x1)
    refine ⟨by rw [h1, e], A, z, sp, (tl_a tl (a_breaks A x1)), m, bt, H, kf, K, kz, ks, ?_, ?_, ⟨N, y, hG, by omega, hsp, hm, hH, hk2⟩⟩
    · exact wc_f hC2 (fun q h48 _ _ _ => by rw [sp_mq_o (by omega), wj_r_ne (by omega), sp_fw_o (by omega)])
    · rw [← e]
      exact wm_plain hM2 (lt7_breaks _ _) hC.1.1 hr2
set_option maxRecDepth 100000 in
set_option maxHeartbeats 1000000 in
theorem st_lay (l : Launch) (V : wj_V) {S : wj_St} {c : Nat} (h : ws_A c S) (hc : c < 1000) (x1 x2 : Int32) : ws_S l V yX4_lay cX4_lay 3 6 138 yX5_lay cX5_lay 3 10 231 [.int x1, .int x2] S c := by
  obtain ⟨A, z, sp, tl, m, bt, H, kf, K, kz, ks, hC, hM, N, y, hG, hy, hsp, hm, hH, hk⟩ := h
  have hr := hC.1.2
  have hy9 : y < 90000 := by omega
  have hk2 : kf = true → ∃ Nk yk, sp_G K Nk yk ∧ yk ≤ 60 * (c + 1) ∧ sp_spok ks Nk := fun q => by obtain ⟨a, b, g1, g2, g3⟩ := hk q; exact ⟨a, b, g1, by omega, g3⟩
  have k1 := c_X4_lay l V (σ := S) (A := sp_get S 1) (T := sp_get S 2) (x := x1) (n := x2) (re_G hr hG) hy9
  rw [sp_put_get, sp_put_get] at k1
  refine ⟨sp_v (a_few A x1 4 2 x2), fun u => ws_C u A z sp (tl_a tl (a_few A x1 4 2 x2)) m bt H kf K kz ks ∧ ws_M u A z sp tl m bt H kf K kz ks, _, k1, ?_, ?_⟩
  · rintro r u ⟨h1, T2, rfl⟩
    have e := (re_a_few hr hG hy9 x1 4 2 x2)
    refine ⟨by rw [h1, e], ?_, ?_⟩
    · rw [← e]
      exact wc_think hC
    · exact wm_f hM (fun q h48 _ _ _ => by rw [sp_put_o (by omega), sp_put_o (by omega), sp_tw_o (by omega)])
  · rintro u ⟨hC2, hM2⟩
    have hr2 := hM2.1
    have k2 := c_X5_lay l V (σ := u) (A := sp_mg (u 49)) (x := x1) (nn := x2) (re_G hr2 hG) hy9 hM2.2.2.2.2.2.1
    rw [sp_mq_id] at k2
    refine ⟨_, k2, ?_⟩
    rintro r u2 ⟨h1, g, rfl⟩
    have e := (re_a_few hr2 hG hy9 x1 4 2 x2)
    refine ⟨by rw [h1, e], A, z, sp, (tl_a tl (a_few A x1 4 2 x2)), m, bt, H, kf, K, kz, ks, ?_, ?_, ⟨N, y, hG, by omega, hsp, hm, hH, hk2⟩⟩
    · exact wc_f hC2 (fun q h48 _ _ _ => by rw [sp_mq_o (by omega), wj_r_ne (by omega), sp_fw_o (by omega)])
    · rw [← e]
      exact wm_plain hM2 (lt7_few _ _ _ _ _) hC.1.1 hr2
set_option maxRecDepth 100000 in
set_option maxHeartbeats 1000000 in
theorem st_plant (l : Launch) (V : wj_V) {S : wj_St} {c : Nat} (h : ws_A c S) (hc : c < 1000) (x1 x2 : Int32) : ws_S l V yX4_plant cX4_plant 3 6 138 yX5_plant cX5_plant 3 10 231 [.int x1, .int x2] S c := by
  obtain ⟨A, z, sp, tl, m, bt, H, kf, K, kz, ks, hC, hM, N, y, hG, hy, hsp, hm, hH, hk⟩ := h
  have hr := hC.1.2
  have hy9 : y < 90000 := by omega
  have hk2 : kf = true → ∃ Nk yk, sp_G K Nk yk ∧ yk ≤ 60 * (c + 1) ∧ sp_spok ks Nk := fun q => by obtain ⟨a, b, g1, g2, g3⟩ := hk q; exact ⟨a, b, g1, by omega, g3⟩
  have k1 := c_X4_plant l V (σ := S) (A := sp_get S 1) (T := sp_get S 2) (x := x1) (n := x2) (re_G hr hG) hy9
  rw [sp_put_get, sp_put_get] at k1
  refine ⟨sp_v (a_few A x1 1 15 x2), fun u => ws_C u A z sp (tl_a tl (a_few A x1 1 15 x2)) m bt H kf K kz ks ∧ ws_M u A z sp tl m bt H kf K kz ks, _, k1, ?_, ?_⟩
  · rintro r u ⟨h1, T2, rfl⟩
    have e := (re_a_few hr hG hy9 x1 1 15 x2)
    refine ⟨by rw [h1, e], ?_, ?_⟩
    · rw [← e]
      exact wc_think hC
    · exact wm_f hM (fun q h48 _ _ _ => by rw [sp_put_o (by omega), sp_put_o (by omega), sp_tw_o (by omega)])
  · rintro u ⟨hC2, hM2⟩
    have hr2 := hM2.1
    have k2 := c_X5_plant l V (σ := u) (A := sp_mg (u 49)) (x := x1) (nn := x2) (re_G hr2 hG) hy9 hM2.2.2.2.2.2.1
    rw [sp_mq_id] at k2
    refine ⟨_, k2, ?_⟩
    rintro r u2 ⟨h1, g, rfl⟩
    have e := (re_a_few hr2 hG hy9 x1 1 15 x2)
    refine ⟨by rw [h1, e], A, z, sp, (tl_a tl (a_few A x1 1 15 x2)), m, bt, H, kf, K, kz, ks, ?_, ?_, ⟨N, y, hG, by omega, hsp, hm, hH, hk2⟩⟩
    · exact wc_f hC2 (fun q h48 _ _ _ => by rw [sp_mq_o (by omega), wj_r_ne (by omega), sp_fw_o (by omega)])
    · rw [← e]
      exact wm_plain hM2 (lt7_few _ _ _ _ _) hC.1.1 hr2
set_option maxRecDepth 100000 in
set_option maxHeartbeats 1000000 in
theorem st_kindFor (l : Launch) (V : wj_V) {S : wj_St} {c : Nat} (h : ws_A c S) (hc : c < 1000) (x1 x2 : Int32) : ws_S l V yX4_kindFor cX4_kindFor 8 5 111 yX5_kindFor cX5_kindFor 9 9 204 [.int x1, .int x2] S c := by
  obtain ⟨A, z, sp, tl, m, bt, H, kf, K, kz, ks, hC, hM, N, y, hG, hy, hsp, hm, hH, hk⟩ := h
  have hr := hC.1.2
  have hy9 : y < 90000 := by omega
  have hk2 : kf = true → ∃ Nk yk, sp_G K Nk yk ∧ yk ≤ 60 * (c + 1) ∧ sp_spok ks Nk := fun q => by obtain ⟨a, b, g1, g2, g3⟩ := hk q; exact ⟨a, b, g1, by omega, g3⟩
  have k1 := c_X4_kindFor l V (σ := S) (A := sp_get S 1) (T := sp_get S 2) (x := x1) (nn := x2) (re_G hr hG) hy9
  rw [sp_put_get, sp_put_get] at k1
  refine ⟨sp_v (a_kindFor A x1 x2), fun u => ws_C u A z sp (tl_a tl (a_kindFor A x1 x2)) m bt H kf K kz ks ∧ ws_M u A z sp tl m bt H kf K kz ks, _, k1, ?_, ?_⟩
  · rintro r u ⟨h1, T2, rfl⟩
    have e := (re_a_kindFor hr hG hy9 x1 x2)
    refine ⟨by rw [h1, e], ?_, ?_⟩
    · rw [← e]
      exact wc_think hC
    · exact wm_f hM (fun q h48 _ _ _ => by rw [sp_put_o (by omega), sp_put_o (by omega), sp_tw_o (by omega)])
  · rintro u ⟨hC2, hM2⟩
    have hr2 := hM2.1
    have k2 := c_X5_kindFor l V (σ := u) (A := sp_mg (u 49)) (x := x1) (nn := x2) (re_G hr2 hG) hy9 hM2.2.2.2.2.2.1
    rw [sp_mq_id] at k2
    refine ⟨_, k2, ?_⟩
    rintro r u2 ⟨h1, g, rfl⟩
    have e := (re_a_kindFor hr2 hG hy9 x1 x2)
    refine ⟨by rw [h1, e], A, z, sp, (tl_a tl (a_kindFor A x1 x2)), m, bt, H, kf, K, kz, ks, ?_, ?_, ⟨N, y, hG, by omega, hsp, hm, hH, hk2⟩⟩
    · exact wc_f hC2 (fun q h48 _ _ _ => by rw [sp_mq_o (by omega), wj_r_ne (by omega), sp_fw_o (by omega)])
    · rw [← e]
      exact wm_plain hM2 (lt7_kindFor _ _ _) hC.1.1 hr2
set_option maxRecDepth 100000 in
set_option maxHeartbeats 1000000 in
theorem st_weightFor (l : Launch) (V : wj_V) {S : wj_St} {c : Nat} (h : ws_A c S) (hc : c < 1000) (x1 x2 : Int32) : ws_S l V yX4_weightFor cX4_weightFor 5 5 112 yX5_weightFor cX5_weightFor 5 9 203 [.int x1, .int x2] S c := by
  obtain ⟨A, z, sp, tl, m, bt, H, kf, K, kz, ks, hC, hM, N, y, hG, hy, hsp, hm, hH, hk⟩ := h
  have hr := hC.1.2
  have hy9 : y < 90000 := by omega
  have hk2 : kf = true → ∃ Nk yk, sp_G K Nk yk ∧ yk ≤ 60 * (c + 1) ∧ sp_spok ks Nk := fun q => by obtain ⟨a, b, g1, g2, g3⟩ := hk q; exact ⟨a, b, g1, by omega, g3⟩
  have k1 := c_X4_weightFor l V (σ := S) (A := sp_get S 1) (T := sp_get S 2) (x := x1) (nn := x2) (re_G hr hG) hy9
  rw [sp_put_get, sp_put_get] at k1
  refine ⟨sp_v (a_weightFor A x1 x2), fun u => ws_C u A z sp (tl_a tl (a_weightFor A x1 x2)) m bt H kf K kz ks ∧ ws_M u A z sp tl m bt H kf K kz ks, _, k1, ?_, ?_⟩
  · rintro r u ⟨h1, T2, rfl⟩
    have e := (re_a_weightFor hr hG hy9 x1 x2)
    refine ⟨by rw [h1, e], ?_, ?_⟩
    · rw [← e]
      exact wc_think hC
    · exact wm_f hM (fun q h48 _ _ _ => by rw [sp_put_o (by omega), sp_put_o (by omega), sp_tw_o (by omega)])
  · rintro u ⟨hC2, hM2⟩
    have hr2 := hM2.1
    have k2 := c_X5_weightFor l V (σ := u) (A := sp_mg (u 49)) (x := x1) (nn := x2) (re_G hr2 hG) hy9 hM2.2.2.2.2.2.1
    rw [sp_mq_id] at k2
    refine ⟨_, k2, ?_⟩
    rintro r u2 ⟨h1, g, rfl⟩
    have e := (re_a_weightFor hr2 hG hy9 x1 x2)
    refine ⟨by rw [h1, e], A, z, sp, (tl_a tl (a_weightFor A x1 x2)), m, bt, H, kf, K, kz, ks, ?_, ?_, ⟨N, y, hG, by omega, hsp, hm, hH, hk2⟩⟩
    · exact wc_f hC2 (fun q h48 _ _ _ => by rw [sp_mq_o (by omega), wj_r_ne (by omega), sp_fw_o (by omega)])
    · rw [← e]
      exact wm_plain hM2 (lt7_weightFor _ _ _) hC.1.1 hr2
set_option maxRecDepth 100000 in
set_option maxHeartbeats 1000000 in
theorem st_layAll (l : Launch) (V : wj_V) {S : wj_St} {c : Nat} (h : ws_A c S) (hc : c < 1000) (x1 : Int32) : ws_S l V yX4_layAll cX4_layAll 5 5 111 yX5_layAll cX5_layAll 4 9 205 [.int x1] S c := by
  obtain ⟨A, z, sp, tl, m, bt, H, kf, K, kz, ks, hC, hM, N, y, hG, hy, hsp, hm, hH, hk⟩ := h
  have hr := hC.1.2
  have hy9 : y < 90000 := by omega
  have hk2 : kf = true → ∃ Nk yk, sp_G K Nk yk ∧ yk ≤ 60 * (c + 1) ∧ sp_spok ks Nk := fun q => by obtain ⟨a, b, g1, g2, g3⟩ := hk q; exact ⟨a, b, g1, by omega, g3⟩
  have k1 := c_X4_layAll l V (σ := S) (A := sp_get S 1) (T := sp_get S 2) (nn := x1) (re_G hr hG) hy9
  rw [sp_put_get, sp_put_get] at k1
  refine ⟨sp_v (a_layAll A x1), fun u => ws_C u A z sp (tl_a tl (a_layAll A x1)) m bt H kf K kz ks ∧ ws_M u A z sp tl m bt H kf K kz ks, _, k1, ?_, ?_⟩
  · rintro r u ⟨h1, T2, rfl⟩
    have e := (re_a_layAll hr hG hy9 x1)
    refine ⟨by rw [h1, e], ?_, ?_⟩
    · rw [← e]
      exact wc_think hC
    · exact wm_f hM (fun q h48 _ _ _ => by rw [sp_put_o (by omega), sp_put_o (by omega), sp_tw_o (by omega)])
  · rintro u ⟨hC2, hM2⟩
    have hr2 := hM2.1
    have k2 := c_X5_layAll l V (σ := u) (A := sp_mg (u 49)) (nn := x1) (re_G hr2 hG) hy9 hM2.2.2.2.2.2.1
    rw [sp_mq_id] at k2
    refine ⟨_, k2, ?_⟩
    rintro r u2 ⟨h1, g, rfl⟩
    have e := (re_a_layAll hr2 hG hy9 x1)
    refine ⟨by rw [h1, e], A, z, sp, (tl_a tl (a_layAll A x1)), m, bt, H, kf, K, kz, ks, ?_, ?_, ⟨N, y, hG, by omega, hsp, hm, hH, hk2⟩⟩
    · exact wc_f hC2 (fun q h48 _ _ _ => by rw [sp_mq_o (by omega), wj_r_ne (by omega), sp_fw_o (by omega)])
    · rw [← e]
      exact wm_plain hM2 (lt7_layAll _ _) hC.1.1 hr2
set_option maxRecDepth 100000 in
set_option maxHeartbeats 1000000 in
theorem st_hurdlesFor (l : Launch) (V : wj_V) {S : wj_St} {c : Nat} (h : ws_A c S) (hc : c < 1000) (x1 : Int32) : ws_S l V yX4_hurdlesFor cX4_hurdlesFor 2 5 111 yX5_hurdlesFor cX5_hurdlesFor 4 9 203 [.int x1] S c := by
  obtain ⟨A, z, sp, tl, m, bt, H, kf, K, kz, ks, hC, hM, N, y, hG, hy, hsp, hm, hH, hk⟩ := h
  have hr := hC.1.2
  have hy9 : y < 90000 := by omega
  have hk2 : kf = true → ∃ Nk yk, sp_G K Nk yk ∧ yk ≤ 60 * (c + 1) ∧ sp_spok ks Nk := fun q => by obtain ⟨a, b, g1, g2, g3⟩ := hk q; exact ⟨a, b, g1, by omega, g3⟩
  have k1 := c_X4_hurdlesFor l V (σ := S) (A := sp_get S 1) (T := sp_get S 2) (nn := x1) (re_G hr hG) hy9
  rw [sp_put_get, sp_put_get] at k1
  refine ⟨sp_v (a_hurdlesFor A x1), fun u => ws_C u A z sp (tl_a tl (a_hurdlesFor A x1)) m bt H kf K kz ks ∧ ws_M u A z sp tl m bt H kf K kz ks, _, k1, ?_, ?_⟩
  · rintro r u ⟨h1, T2, rfl⟩
    have e := (re_a_hurdlesFor hr x1)
    refine ⟨by rw [h1, e], ?_, ?_⟩
    · rw [← e]
      exact wc_think hC
    · exact wm_f hM (fun q h48 _ _ _ => by rw [sp_put_o (by omega), sp_put_o (by omega), sp_tw_o (by omega)])
  · rintro u ⟨hC2, hM2⟩
    have hr2 := hM2.1
    have k2 := c_X5_hurdlesFor l V (σ := u) (A := sp_mg (u 49)) (nn := x1) (re_G hr2 hG) hy9 hM2.2.2.2.2.2.1
    rw [sp_mq_id] at k2
    refine ⟨_, k2, ?_⟩
    rintro r u2 ⟨h1, g, rfl⟩
    have e := (re_a_hurdlesFor hr2 x1)
    refine ⟨by rw [h1, e], A, z, sp, (tl_a tl (a_hurdlesFor A x1)), m, bt, H, kf, K, kz, ks, ?_, ?_, ⟨N, y, hG, by omega, hsp, hm, hH, hk2⟩⟩
    · exact wc_f hC2 (fun q h48 _ _ _ => by rw [sp_mq_o (by omega), wj_r_ne (by omega), sp_fw_o (by omega)])
    · rw [← e]
      exact wm_plain hM2 (lt7_hurdlesFor _ _) hC.1.1 hr2
set_option maxRecDepth 100000 in
set_option maxHeartbeats 1000000 in
theorem st_words (l : Launch) (V : wj_V) {S : wj_St} {c : Nat} (h : ws_A c S) (hc : c < 1000) (x1 x2 : Int32) : ws_S l V yX4_words cX4_words 3 6 139 yX5_words cX5_words 4 9 214 [.int x1, .int x2] S c := by
  obtain ⟨A, z, sp, tl, m, bt, H, kf, K, kz, ks, hC, hM, N, y, hG, hy, hsp, hm, hH, hk⟩ := h
  have hr := hC.1.2
  have hy9 : y < 90000 := by omega
  have hk2 : kf = true → ∃ Nk yk, sp_G K Nk yk ∧ yk ≤ 60 * (c + 1) ∧ sp_spok ks Nk := fun q => by obtain ⟨a, b, g1, g2, g3⟩ := hk q; exact ⟨a, b, g1, by omega, g3⟩
  have k1 := c_X4_words l V (σ := S) (A := sp_get S 1) (T := sp_get S 2) (s := x1) (x := x2) (re_G hr hG) hy9 (she_ok hC.2.2.2.2.2.1 hH)
  rw [sp_put_get, sp_put_get] at k1
  refine ⟨sp_v (a_cb H A x1 x2 5 1 12), fun u => ws_C u A z sp (tl_a tl (a_cb H A x1 x2 5 1 12)) m bt H kf K kz ks ∧ ws_M u A z sp tl m bt H kf K kz ks, _, k1, ?_, ?_⟩
  · rintro r u ⟨h1, T2, rfl⟩
    have e := (she_cb hr hG hy9 hC.2.2.2.2.2.1 hH x1 x2 5 1 12)
    refine ⟨by rw [h1, e], ?_, ?_⟩
    · rw [← e]
      exact wc_think hC
    · exact wm_f hM (fun q h48 _ _ _ => by rw [sp_put_o (by omega), sp_put_o (by omega), sp_tw_o (by omega)])
  · rintro u ⟨hC2, hM2⟩
    have hr2 := hM2.1
    have k2 := c_X5_words l V (σ := u) (A := sp_mg (u 49)) (s := x1) (x := x2) (re_G hr2 hG) hy9 hM2.2.2.2.2.2.1 (she_ok hM2.2.2.2.2.1 hH)
    rw [sp_mq_id] at k2
    refine ⟨_, k2, ?_⟩
    rintro r u2 ⟨h1, g, rfl⟩
    have e := (she_cb hr2 hG hy9 hM2.2.2.2.2.1 hH x1 x2 5 1 12)
    refine ⟨by rw [h1, e], A, z, sp, (tl_a tl (a_cb H A x1 x2 5 1 12)), m, bt, H, kf, K, kz, ks, ?_, ?_, ⟨N, y, hG, by omega, hsp, hm, hH, hk2⟩⟩
    · exact wc_f hC2 (fun q h48 _ _ _ => by rw [sp_mq_o (by omega), wj_r_ne (by omega), sp_fw_o (by omega)])
    · rw [← e]
      exact wm_plain hM2 (lt7_cb _ _ _ _ _ _ _) hC.1.1 hr2
set_option maxRecDepth 100000 in
set_option maxHeartbeats 1000000 in
theorem st_kinds (l : Launch) (V : wj_V) {S : wj_St} {c : Nat} (h : ws_A c S) (hc : c < 1000) (x1 x2 : Int32) : ws_S l V yX4_kinds cX4_kinds 3 6 139 yX5_kinds cX5_kinds 4 9 214 [.int x1, .int x2] S c := by
  obtain ⟨A, z, sp, tl, m, bt, H, kf, K, kz, ks, hC, hM, N, y, hG, hy, hsp, hm, hH, hk⟩ := h
  have hr := hC.1.2
  have hy9 : y < 90000 := by omega
  have hk2 : kf = true → ∃ Nk yk, sp_G K Nk yk ∧ yk ≤ 60 * (c + 1) ∧ sp_spok ks Nk := fun q => by obtain ⟨a, b, g1, g2, g3⟩ := hk q; exact ⟨a, b, g1, by omega, g3⟩
  have k1 := c_X4_kinds l V (σ := S) (A := sp_get S 1) (T := sp_get S 2) (s := x1) (x := x2) (re_G hr hG) hy9 (she_ok hC.2.2.2.2.2.1 hH)
  rw [sp_put_get, sp_put_get] at k1
  refine ⟨sp_v (a_cb H A x1 x2 0 0 6), fun u => ws_C u A z sp (tl_a tl (a_cb H A x1 x2 0 0 6)) m bt H kf K kz ks ∧ ws_M u A z sp tl m bt H kf K kz ks, _, k1, ?_, ?_⟩
  · rintro r u ⟨h1, T2, rfl⟩
    have e := (she_cb hr hG hy9 hC.2.2.2.2.2.1 hH x1 x2 0 0 6)
    refine ⟨by rw [h1, e], ?_, ?_⟩
    · rw [← e]
      exact wc_think hC
    · exact wm_f hM (fun q h48 _ _ _ => by rw [sp_put_o (by omega), sp_put_o (by omega), sp_tw_o (by omega)])
  · rintro u ⟨hC2, hM2⟩
    have hr2 := hM2.1
    have k2 := c_X5_kinds l V (σ := u) (A := sp_mg (u 49)) (s := x1) (x := x2) (re_G hr2 hG) hy9 hM2.2.2.2.2.2.1 (she_ok hM2.2.2.2.2.1 hH)
    rw [sp_mq_id] at k2
    refine ⟨_, k2, ?_⟩
    rintro r u2 ⟨h1, g, rfl⟩
    have e := (she_cb hr2 hG hy9 hM2.2.2.2.2.1 hH x1 x2 0 0 6)
    refine ⟨by rw [h1, e], A, z, sp, (tl_a tl (a_cb H A x1 x2 0 0 6)), m, bt, H, kf, K, kz, ks, ?_, ?_, ⟨N, y, hG, by omega, hsp, hm, hH, hk2⟩⟩
    · exact wc_f hC2 (fun q h48 _ _ _ => by rw [sp_mq_o (by omega), wj_r_ne (by omega), sp_fw_o (by omega)])
    · rw [← e]
      exact wm_plain hM2 (lt7_cb _ _ _ _ _ _ _) hC.1.1 hr2
set_option maxRecDepth 100000 in
set_option maxHeartbeats 1000000 in
theorem st_fits (l : Launch) (V : wj_V) {S : wj_St} {c : Nat} (h : ws_A c S) (hc : c < 1000) (x1 x2 : Int32) : ws_S l V yX4_fits cX4_fits 6 4 88 yX5_fits cX5_fits 8 6 139 [.int x1, .int x2] S c := by
  obtain ⟨A, z, sp, tl, m, bt, H, kf, K, kz, ks, hC, hM, N, y, hG, hy, hsp, hm, hH, hk⟩ := h
  have hr := hC.1.2
  have hy9 : y < 90000 := by omega
  have hk2 : kf = true → ∃ Nk yk, sp_G K Nk yk ∧ yk ≤ 60 * (c + 1) ∧ sp_spok ks Nk := fun q => by obtain ⟨a, b, g1, g2, g3⟩ := hk q; exact ⟨a, b, g1, by omega, g3⟩
  have k1 := c_X4_fits l V (σ := S) (A := sp_get S 1) (T := sp_get S 2) (s := x1) (x := x2) (re_G hr hG) hy9 (she_ok hC.2.2.2.2.2.1 hH)
  rw [sp_put_get, sp_put_get] at k1
  refine ⟨sp_v (a_fits H A x1 x2), fun u => ws_C u A z sp (tl_a tl (a_fits H A x1 x2)) m bt H kf K kz ks ∧ ws_M u A z sp tl m bt H kf K kz ks, _, k1, ?_, ?_⟩
  · rintro r u ⟨h1, T2, rfl⟩
    have e := (she_fits hr hG hy9 hC.2.2.2.2.2.1 hH x1 x2)
    refine ⟨by rw [h1, e], ?_, ?_⟩
    · rw [← e]
      exact wc_think hC
    · exact wm_f hM (fun q h48 _ _ _ => by rw [sp_put_o (by omega), sp_put_o (by omega), sp_tw_o (by omega)])
  · rintro u ⟨hC2, hM2⟩
    have hr2 := hM2.1
    have k2 := c_X5_fits l V (σ := u) (A := sp_mg (u 49)) (s := x1) (x := x2) (re_G hr2 hG) hy9 (she_ok hM2.2.2.2.2.1 hH)
    rw [sp_mq_id] at k2
    refine ⟨_, k2, ?_⟩
    rintro r u2 ⟨h1, g, rfl⟩
    have e := (she_fits hr2 hG hy9 hM2.2.2.2.2.1 hH x1 x2)
    refine ⟨by rw [h1, e], A, z, sp, (tl_a tl (a_fits H A x1 x2)), m, bt, H, kf, K, kz, ks, ?_, ?_, ⟨N, y, hG, by omega, hsp, hm, hH, hk2⟩⟩
    · exact wc_f hC2 (fun q h48 _ _ _ => by rw [sp_mq_o (by omega), wj_r_ne (by omega), sp_fw_o (by omega)])
    · rw [← e]
      exact wm_plain hM2 (lt7_fits _ _ _ _) hC.1.1 hr2
set_option maxRecDepth 100000 in
set_option maxHeartbeats 1000000 in
theorem st_leans (l : Launch) (V : wj_V) {S : wj_St} {c : Nat} (h : ws_A c S) (hc : c < 1000) (x1 : Int32) : ws_S l V yX4_leans cX4_leans 5 4 89 yX5_leans cX5_leans 4 7 160 [.int x1] S c := by
  obtain ⟨A, z, sp, tl, m, bt, H, kf, K, kz, ks, hC, hM, N, y, hG, hy, hsp, hm, hH, hk⟩ := h
  have hr := hC.1.2
  have hy9 : y < 90000 := by omega
  have hk2 : kf = true → ∃ Nk yk, sp_G K Nk yk ∧ yk ≤ 60 * (c + 1) ∧ sp_spok ks Nk := fun q => by obtain ⟨a, b, g1, g2, g3⟩ := hk q; exact ⟨a, b, g1, by omega, g3⟩
  obtain ⟨M9, hM9, hG9⟩ := kp_leans hG z x1
  have k1 := c_X4_leans l V (σ := S) (A := sp_get S 1) (nn := x1) (re_G hr hG) hy9
  rw [sp_put_get] at k1
  rw [hC.2.1] at k1
  refine ⟨sp_v (a_leans z A x1), fun u => ws_C u (n_leans z A x1) (z_leans z A x1) sp (tl_a tl (a_leans z A x1)) m bt H kf K kz ks ∧ ws_M u A z sp tl m bt H kf K kz ks, _, k1, ?_, ?_⟩
  · rintro r u ⟨h1, rfl⟩
    have e := (re_a_leans hr hG hy9 z x1)
    refine ⟨by rw [h1, e.1], ?_, ?_⟩
    · rw [← e.1, ← e.2.1]
      exact wc_plain (wc_z hC) ⟨N, hG9.2.1, hG9.1⟩ e.2.2
    · exact wm_f hM (fun q h48 _ _ _ => by rw [sp_put_o (by omega), sp_tw_o (by omega), wj_u_ne (by omega)])
  · rintro u ⟨hC2, hM2⟩
    have hr2 := hM2.1
    have k2 := c_X5_leans l V (σ := u) (A := sp_mg (u 49)) (nn := x1) (re_G hr2 hG) hy9 hM2.2.2.2.2.2.1
    rw [sp_mq_id] at k2
    rw [hM2.2.1.1] at k2
    refine ⟨_, k2, ?_⟩
    rintro r u2 ⟨h1, g, rfl⟩
    have e := (re_a_leans hr2 hG hy9 z x1)
    refine ⟨by rw [h1, e.1], (n_leans z A x1), (z_leans z A x1), sp, (tl_a tl (a_leans z A x1)), m, bt, H, kf, K, kz, ks, ?_, ?_, ⟨N, y + M9, hG9, by omega, hsp, hm, hH, hk2⟩⟩
    · exact wc_f hC2 (fun q h48 _ _ _ => by rw [sp_mq_o (by omega), wj_r_ne (by omega), sp_fw_o (by omega), wj_u_ne (by omega)])
    · rw [← e.1, ← e.2.1]
      exact wm_plain (wm_z hM2) (lt7_leans _ _ _) ⟨N, hG9.2.1, hG9.1⟩ e.2.2
set_option maxRecDepth 100000 in
set_option maxHeartbeats 1000000 in
theorem st_seed (l : Launch) (V : wj_V) {S : wj_St} {c : Nat} (h : ws_A c S) (hc : c < 1000) (x1 : Int32) : ws_S l V yX4_seed cX4_seed 3 0 0 yX5_seed cX5_seed 2 1 23 [.int x1] S c := by
  obtain ⟨A, z, sp, tl, m, bt, H, kf, K, kz, ks, hC, hM, N, y, hG, hy, hsp, hm, hH, hk⟩ := h
  have hr := hC.1.2
  have hy9 : y < 90000 := by omega
  have hk2 : kf = true → ∃ Nk yk, sp_G K Nk yk ∧ yk ≤ 60 * (c + 1) ∧ sp_spok ks Nk := fun q => by obtain ⟨a, b, g1, g2, g3⟩ := hk q; exact ⟨a, b, g1, by omega, g3⟩
  have k1 := c_X4_seed l V (σ := S) (A := sp_get S 1) (x := x1) (re_G hr hG) hy9
  rw [sp_put_get] at k1
  rw [hC.2.1] at k1
  refine ⟨sp_v (Sum.inr z), fun u => ws_C u A x1 sp (tl_a tl (Sum.inr z)) m bt H kf K kz ks ∧ ws_M u A z sp tl m bt H kf K kz ks, _, k1, ?_, ?_⟩
  · rintro r u ⟨h1, rfl⟩
    refine ⟨h1, ?_, ?_⟩
    · skip
      exact wc_plain (wc_z hC) hC.1.1 hr
    · exact wm_f hM (fun q h48 _ _ _ => by rw [sp_put_o (by omega), sp_tw_o (by omega), wj_u_ne (by omega)])
  · rintro u ⟨hC2, hM2⟩
    have hr2 := hM2.1
    have k2 := c_X5_seed l V (σ := u) (A := sp_mg (u 49)) (x := x1) (re_G hr2 hG) hy9
    rw [sp_mq_id] at k2
    rw [hM2.2.1.1] at k2
    refine ⟨_, k2, ?_⟩
    rintro r u2 ⟨h1, g, rfl⟩
    refine ⟨h1, A, x1, sp, (tl_a tl (Sum.inr z)), m, bt, H, kf, K, kz, ks, ?_, ?_, ⟨N, y, hG, by omega, hsp, hm, hH, hk2⟩⟩
    · exact wc_f hC2 (fun q h48 _ _ _ => by rw [sp_mq_o (by omega), wj_r_ne (by omega), sp_fw_o (by omega), wj_u_ne (by omega)])
    · skip
      exact wm_plain (wm_z hM2) (lt7_r) hC.1.1 hr2
set_option maxRecDepth 100000 in
set_option maxHeartbeats 1000000 in
theorem st_feed (l : Launch) (V : wj_V) {S : wj_St} {c : Nat} (h : ws_A c S) (hc : c < 1000) (x1 x2 : Int32) : ws_S l V yX4_feed cX4_feed 4 2 44 yX5_feed cX5_feed 4 1 22 [.int x1, .int x2] S c := by
  obtain ⟨A, z, sp, tl, m, bt, H, kf, K, kz, ks, hC, hM, N, y, hG, hy, hsp, hm, hH, hk⟩ := h
  have hr := hC.1.2
  have hy9 : y < 90000 := by omega
  have hk2 : kf = true → ∃ Nk yk, sp_G K Nk yk ∧ yk ≤ 60 * (c + 1) ∧ sp_spok ks Nk := fun q => by obtain ⟨a, b, g1, g2, g3⟩ := hk q; exact ⟨a, b, g1, by omega, g3⟩
  have k1 := c_X4_feed l V (σ := S) (A := sp_get S 1) (b := x1) (nn := x2) (re_G hr hG) hy9 hC.2.2.2.2.1.1 hm
  rw [sp_put_get] at k1
  refine ⟨sp_v (a_feed m x2), fun u => ws_C u A z sp (tl_a tl (a_feed m x2)) (m_feed m x2) (b_feed bt m x1 x2) H kf K kz ks ∧ ws_M u A z sp tl m bt H kf K kz ks, _, k1, ?_, ?_⟩
  · rintro r u ⟨h1, rfl⟩
    refine ⟨h1, ?_, ?_⟩
    · skip
      exact wc_plain (wc_feed hC) hC.1.1 hr
    · exact wm_f hM (fun q h48 _ _ _ => by rw [sp_put_o (by omega), sp_tw_o (by omega), nf_o (by omega) (by omega)])
  · rintro u ⟨hC2, hM2⟩
    have hr2 := hM2.1
    have k2 := c_X5_feed l V (σ := u) (A := sp_mg (u 49)) (b := x1) (nn := x2) (re_G hr2 hG) hy9 hM2.2.2.2.1.1 hm
    rw [sp_mq_id] at k2
    refine ⟨_, k2, ?_⟩
    rintro r u2 ⟨h1, g, rfl⟩
    refine ⟨h1, A, z, sp, (tl_a tl (a_feed m x2)), (m_feed m x2), (b_feed bt m x1 x2), H, kf, K, kz, ks, ?_, ?_, ⟨N, y, hG, by omega, hsp, m_feed_le hm, hH, hk2⟩⟩
    · exact wc_f hC2 (fun q h48 _ _ _ => by rw [sp_mq_o (by omega), wj_r_ne (by omega), sp_fw_o (by omega), nfM_o (by omega) (by omega)])
    · skip
      exact wm_plain (wm_feed hM2) (lt7_feed _ _) hC.1.1 hr2
set_option maxRecDepth 100000 in
set_option maxHeartbeats 1000000 in
theorem st_wipe (l : Launch) (V : wj_V) {S : wj_St} {c : Nat} (h : ws_A c S) (hc : c < 1000) : ws_S l V yX4_wipe cX4_wipe 2 0 0 yX5_wipe cX5_wipe 2 0 0 [] S c := by
  obtain ⟨A, z, sp, tl, m, bt, H, kf, K, kz, ks, hC, hM, N, y, hG, hy, hsp, hm, hH, hk⟩ := h
  have hr := hC.1.2
  have hy9 : y < 90000 := by omega
  have hk2 : kf = true → ∃ Nk yk, sp_G K Nk yk ∧ yk ≤ 60 * (c + 1) ∧ sp_spok ks Nk := fun q => by obtain ⟨a, b, g1, g2, g3⟩ := hk q; exact ⟨a, b, g1, by omega, g3⟩
  have k1 := c_X4_wipe l V (σ := S) (A := sp_get S 1) (re_G hr hG) hy9
  rw [sp_put_get] at k1
  rw [hC.2.2.2.2.1.1] at k1
  refine ⟨sp_v (Sum.inr (nI m)), fun u => ws_C u A z sp (tl_a tl (Sum.inr (nI m))) 0 bt H kf K kz ks ∧ ws_M u A z sp tl m bt H kf K kz ks, _, k1, ?_, ?_⟩
  · rintro r u ⟨h1, rfl⟩
    refine ⟨h1, ?_, ?_⟩
    · skip
      exact wc_plain (wc_tape hC (fun q h1 h2 => wj_u_ne h1) ⟨by rw [wj_u_same]; simp [upd]; rfl, fun k hk => absurd hk (by omega)⟩) hC.1.1 hr
    · exact wm_f hM (fun q h48 _ _ _ => by rw [sp_put_o (by omega), sp_tw_o (by omega), wj_u_ne (by omega)])
  · rintro u ⟨hC2, hM2⟩
    have hr2 := hM2.1
    have k2 := c_X5_wipe l V (σ := u) (A := sp_mg (u 49)) (re_G hr2 hG) hy9
    rw [sp_mq_id] at k2
    rw [hM2.2.2.2.1.1] at k2
    refine ⟨_, k2, ?_⟩
    rintro r u2 ⟨h1, g, rfl⟩
    refine ⟨h1, A, z, sp, (tl_a tl (Sum.inr (nI m))), 0, bt, H, kf, K, kz, ks, ?_, ?_, ⟨N, y, hG, by omega, hsp, Nat.zero_le _, hH, hk2⟩⟩
    · exact wc_f hC2 (fun q h48 _ _ _ => by rw [sp_mq_o (by omega), wj_r_ne (by omega), sp_fw_o (by omega), wj_u_ne (by omega)])
    · skip
      exact wm_plain (wm_tape hM2 (fun q h1 h2 h3 => wj_u_ne (by omega)) (by rw [wj_u_same]; simp [upd]) (by rw [wj_u_same]; simp [upd]) (by rw [wj_u_same]; simp [upd]; rfl) (fun k hk => absurd hk (by omega))) (lt7_r) hC.1.1 hr2
set_option maxRecDepth 100000 in
set_option maxHeartbeats 1000000 in
theorem st_hold (l : Launch) (V : wj_V) {S : wj_St} {c : Nat} (h : ws_A c S) (hc : c < 1000) (x1 x2 : Int32) : ws_S l V yX4_hold cX4_hold 3 2 44 yX5_hold cX5_hold 3 2 43 [.int x1, .int x2] S c := by
  obtain ⟨A, z, sp, tl, m, bt, H, kf, K, kz, ks, hC, hM, N, y, hG, hy, hsp, hm, hH, hk⟩ := h
  have hr := hC.1.2
  have hy9 : y < 90000 := by omega
  have hk2 : kf = true → ∃ Nk yk, sp_G K Nk yk ∧ yk ≤ 60 * (c + 1) ∧ sp_spok ks Nk := fun q => by obtain ⟨a, b, g1, g2, g3⟩ := hk q; exact ⟨a, b, g1, by omega, g3⟩
  have k1 := c_X4_hold l V (σ := S) (A := sp_get S 1) (p := x1) (x := x2) (re_G hr hG) hy9
  rw [sp_put_get] at k1
  refine ⟨sp_v (a_hold A x1 x2), fun u => ws_C u A z (s_hold sp A x1 x2) (tl_a tl (a_hold A x1 x2)) m bt H kf K kz ks ∧ ws_M u A z sp tl m bt H kf K kz ks, _, k1, ?_, ?_⟩
  · rintro r u ⟨h1, rfl⟩
    have e := (re_a_hold hr x1 x2)
    refine ⟨by rw [h1, e], ?_, ?_⟩
    · rw [← e]
      exact wc_plain (wc_holds hC hr) hC.1.1 hr
    · exact wm_f hM (fun q h48 _ _ _ => by rw [sp_put_o (by omega), sp_tw_o (by omega), nh_o (by omega)])
  · rintro u ⟨hC2, hM2⟩
    have hr2 := hM2.1
    have k2 := c_X5_hold l V (σ := u) (A := sp_mg (u 49)) (p := x1) (x := x2) (re_G hr2 hG) hy9
    rw [sp_mq_id] at k2
    refine ⟨_, k2, ?_⟩
    rintro r u2 ⟨h1, g, rfl⟩
    have e := (re_a_hold hr2 x1 x2)
    refine ⟨by rw [h1, e], A, z, (s_hold sp A x1 x2), (tl_a tl (a_hold A x1 x2)), m, bt, H, kf, K, kz, ks, ?_, ?_, ⟨N, y, hG, by omega, kp_hold hG hsp x1 x2, hm, hH, hk2⟩⟩
    · exact wc_f hC2 (fun q h48 _ _ _ => by rw [sp_mq_o (by omega), wj_r_ne (by omega), sp_fw_o (by omega), nhM_o (by omega)])
    · rw [← e]
      exact wm_plain (wm_holds hM2 hC.1.1 hr2) (lt7_hold _ _ _) hC.1.1 hr2
set_option maxRecDepth 100000 in
set_option maxHeartbeats 1000000 in
theorem st_as (l : Launch) (V : wj_V) {S : wj_St} {c : Nat} (h : ws_A c S) (hc : c < 1000) (x1 x2 : Int32) : ws_S l V yX4_as cX4_as 4 2 44 yX5_as cX5_as 4 2 43 [.int x1, .int x2] S c := by
  obtain ⟨A, z, sp, tl, m, bt, H, kf, K, kz, ks, hC, hM, N, y, hG, hy, hsp, hm, hH, hk⟩ := h
  have hr := hC.1.2
  have hy9 : y < 90000 := by omega
  have hk2 : kf = true → ∃ Nk yk, sp_G K Nk yk ∧ yk ≤ 60 * (c + 1) ∧ sp_spok ks Nk := fun q => by obtain ⟨a, b, g1, g2, g3⟩ := hk q; exact ⟨a, b, g1, by omega, g3⟩
  have k1 := c_X4_as l V (σ := S) (A := sp_get S 1) (p := x1) (k := x2) (re_G hr hG) hy9
  rw [sp_put_get] at k1
  refine ⟨sp_v (a_as sp A x1 x2), fun u => ws_C u A z sp (tl_a tl (a_as sp A x1 x2)) m bt H kf K kz ks ∧ ws_M u A z sp tl m bt H kf K kz ks, _, k1, ?_, ?_⟩
  · rintro r u ⟨h1, rfl⟩
    have e := (re_a_as hr hG (fun p hp => (hC.2.2.1 p hp).symm) x1 x2)
    refine ⟨by rw [h1, e], ?_, ?_⟩
    · rw [← e]
      exact wc_plain hC hC.1.1 hr
    · exact wm_f hM (fun q h48 _ _ _ => by rw [sp_put_o (by omega), sp_tw_o (by omega)])
  · rintro u ⟨hC2, hM2⟩
    have hr2 := hM2.1
    have k2 := c_X5_as l V (σ := u) (A := sp_mg (u 49)) (p := x1) (k := x2) (re_G hr2 hG) hy9 (fun p hp => by show u 49 (11 + p) = -1 ∨ ∃ j, j < N ∧ u 49 (11 + p) = nI j; rw [hM2.2.1.2 p hp]; exact hsp p hp)
    rw [sp_mq_id] at k2
    refine ⟨_, k2, ?_⟩
    rintro r u2 ⟨h1, g, rfl⟩
    have e := (re_a_as hr2 hG (f2 := sp_spM u) (fun p hp => (hM2.2.1.2 p hp).symm) x1 x2)
    refine ⟨by rw [h1, e], A, z, sp, (tl_a tl (a_as sp A x1 x2)), m, bt, H, kf, K, kz, ks, ?_, ?_, ⟨N, y, hG, by omega, hsp, hm, hH, hk2⟩⟩
    · exact wc_f hC2 (fun q h48 _ _ _ => by rw [sp_mq_o (by omega), wj_r_ne (by omega), sp_fw_o (by omega)])
    · rw [← e]
      exact wm_plain hM2 (lt7_as _ _ _ _) hC.1.1 hr2
set_option maxRecDepth 100000 in
set_option maxHeartbeats 1000000 in
theorem st_sheet (l : Launch) (V : wj_V) {S : wj_St} {c : Nat} (h : ws_A c S) (hc : c < 1000) (x1 x2 x3 : Int32) : ws_S l V yX4_sheet cX4_sheet 5 2 45 yX5_sheet cX5_sheet 5 2 42 [.int x1, .int x2, .int x3] S c := by
  obtain ⟨A, z, sp, tl, m, bt, H, kf, K, kz, ks, hC, hM, N, y, hG, hy, hsp, hm, hH, hk⟩ := h
  have hr := hC.1.2
  have hy9 : y < 90000 := by omega
  have hk2 : kf = true → ∃ Nk yk, sp_G K Nk yk ∧ yk ≤ 60 * (c + 1) ∧ sp_spok ks Nk := fun q => by obtain ⟨a, b, g1, g2, g3⟩ := hk q; exact ⟨a, b, g1, by omega, g3⟩
  have k1 := c_X4_sheet l V (σ := S) (A := sp_get S 1) (s := x1) (b := x2) (nn := x3) (re_G hr hG) hy9
  rw [sp_put_get] at k1
  refine ⟨sp_v (a_sheet x1 x2 x3), fun u => ws_C u A z sp (tl_a tl (a_sheet x1 x2 x3)) m bt (sp_shC (n_sheet S x1 x2 x3)) kf K kz ks ∧ ws_M u A z sp tl m bt H kf K kz ks, _, k1, ?_, ?_⟩
  · rintro r u ⟨h1, rfl⟩
    refine ⟨h1, ?_, ?_⟩
    · skip
      exact wc_plain (wc_sh hC (fun q h => ns_o h) she_rfl) hC.1.1 hr
    · exact wm_f hM (fun q h48 _ _ _ => by rw [sp_put_o (by omega), sp_tw_o (by omega), ns_o (by omega)])
  · rintro u ⟨hC2, hM2⟩
    have hr2 := hM2.1
    have k2 := c_X5_sheet l V (σ := u) (A := sp_mg (u 49)) (s := x1) (b := x2) (nn := x3) (re_G hr2 hG) hy9
    rw [sp_mq_id] at k2
    refine ⟨_, k2, ?_⟩
    rintro r u2 ⟨h1, g, rfl⟩
    refine ⟨h1, A, z, sp, (tl_a tl (a_sheet x1 x2 x3)), m, bt, (sp_shC (n_sheet S x1 x2 x3)), kf, K, kz, ks, ?_, ?_, ⟨N, y, hG, by omega, hsp, hm, kp_sheet (she_ok hC.2.2.2.2.2.1 hH) x1 x2 x3, hk2⟩⟩
    · exact wc_f hC2 (fun q h48 _ _ _ => by rw [sp_mq_o (by omega), wj_r_ne (by omega), sp_fw_o (by omega), nsM_o (by omega) (by omega) (by omega)])
    · skip
      exact wm_plain (wm_sh hM2 (fun q h1 h2 h3 _ => nsM_o h1 h2 h3) (ag_sheet (she_tr (she_sym hC.2.2.2.2.2.1) hM2.2.2.2.2.1) x1 x2 x3)) (lt7_sheet _ _ _) hC.1.1 hr2
set_option maxRecDepth 100000 in
set_option maxHeartbeats 1000000 in
theorem st_write (l : Launch) (V : wj_V) {S : wj_St} {c : Nat} (h : ws_A c S) (hc : c < 1000) (x1 x2 x3 : Int32) : ws_S l V yX4_write cX4_write 5 2 44 yX5_write cX5_write 4 2 42 [.int x1, .int x2, .int x3] S c := by
  obtain ⟨A, z, sp, tl, m, bt, H, kf, K, kz, ks, hC, hM, N, y, hG, hy, hsp, hm, hH, hk⟩ := h
  have hr := hC.1.2
  have hy9 : y < 90000 := by omega
  have hk2 : kf = true → ∃ Nk yk, sp_G K Nk yk ∧ yk ≤ 60 * (c + 1) ∧ sp_spok ks Nk := fun q => by obtain ⟨a, b, g1, g2, g3⟩ := hk q; exact ⟨a, b, g1, by omega, g3⟩
  have k1 := c_X4_write l V (σ := S) (A := sp_get S 1) (s := x1) (x := x2) (v := x3) (re_G hr hG) hy9 (she_ok hC.2.2.2.2.2.1 hH)
  rw [sp_put_get] at k1
  refine ⟨sp_v (a_write H x1 x2), fun u => ws_C u A z sp (tl_a tl (a_write H x1 x2)) m bt (sp_shC (n_write S x1 x2 x3)) kf K kz ks ∧ ws_M u A z sp tl m bt H kf K kz ks, _, k1, ?_, ?_⟩
  · rintro r u ⟨h1, rfl⟩
    have e := (she_write hC.2.2.2.2.2.1 x1 x2)
    refine ⟨by rw [h1, e], ?_, ?_⟩
    · rw [← e]
      exact wc_plain (wc_sh hC (fun q h => nw_o h) she_rfl) hC.1.1 hr
    · exact wm_f hM (fun q h48 _ _ _ => by rw [sp_put_o (by omega), sp_tw_o (by omega), nw_o (by omega)])
  · rintro u ⟨hC2, hM2⟩
    have hr2 := hM2.1
    have k2 := c_X5_write l V (σ := u) (A := sp_mg (u 49)) (s := x1) (x := x2) (v := x3) (re_G hr2 hG) hy9 (she_ok hM2.2.2.2.2.1 hH)
    rw [sp_mq_id] at k2
    refine ⟨_, k2, ?_⟩
    rintro r u2 ⟨h1, g, rfl⟩
    have e := (she_write hM2.2.2.2.2.1 x1 x2)
    refine ⟨by rw [h1, e], A, z, sp, (tl_a tl (a_write H x1 x2)), m, bt, (sp_shC (n_write S x1 x2 x3)), kf, K, kz, ks, ?_, ?_, ⟨N, y, hG, by omega, hsp, hm, kp_write (she_ok hC.2.2.2.2.2.1 hH) x1 x2 x3, hk2⟩⟩
    · exact wc_f hC2 (fun q h48 _ _ _ => by rw [sp_mq_o (by omega), wj_r_ne (by omega), sp_fw_o (by omega), nwM_o (by omega)])
    · rw [← e]
      exact wm_plain (wm_sh hM2 (fun q _ _ h3 _ => nwM_o h3) (ag_write (she_tr (she_sym hC.2.2.2.2.2.1) hM2.2.2.2.2.1) (she_ok hC.2.2.2.2.2.1 hH) x1 x2 x3)) (lt7_write _ _ _) hC.1.1 hr2
set_option maxRecDepth 100000 in
set_option maxHeartbeats 1000000 in
theorem st_copy (l : Launch) (V : wj_V) {S : wj_St} {c : Nat} (h : ws_A c S) (hc : c < 1000) (x1 x2 x3 x4 x5 : Int32) : ws_S l V yX4_copy cX4_copy 8 2 44 yX5_copy cX5_copy 7 2 42 [.int x1, .int x2, .int x3, .int x4, .int x5] S c := by
  obtain ⟨A, z, sp, tl, m, bt, H, kf, K, kz, ks, hC, hM, N, y, hG, hy, hsp, hm, hH, hk⟩ := h
  have hr := hC.1.2
  have hy9 : y < 90000 := by omega
  have hk2 : kf = true → ∃ Nk yk, sp_G K Nk yk ∧ yk ≤ 60 * (c + 1) ∧ sp_spok ks Nk := fun q => by obtain ⟨a, b, g1, g2, g3⟩ := hk q; exact ⟨a, b, g1, by omega, g3⟩
  have k1 := c_X4_copy l V (σ := S) (A := sp_get S 1) (s := x1) (f := x2) (t := x3) (o9 := x4) (nn := x5) (re_G hr hG) hy9 (she_ok hC.2.2.2.2.2.1 hH)
  rw [sp_put_get] at k1
  refine ⟨sp_v (a_copy H x1 x2 x3 x4 x5), fun u => ws_C u A z sp (tl_a tl (a_copy H x1 x2 x3 x4 x5)) m bt (sp_shC (n_copy S x1 x2 x3 x4 x5)) kf K kz ks ∧ ws_M u A z sp tl m bt H kf K kz ks, _, k1, ?_, ?_⟩
  · rintro r u ⟨h1, rfl⟩
    have e := (she_copy hC.2.2.2.2.2.1 x1 x2 x3 x4 x5)
    refine ⟨by rw [h1, e], ?_, ?_⟩
    · rw [← e]
      exact wc_plain (wc_sh hC (fun q h => nc_o h) she_rfl) hC.1.1 hr
    · exact wm_f hM (fun q h48 _ _ _ => by rw [sp_put_o (by omega), sp_tw_o (by omega), nc_o (by omega)])
  · rintro u ⟨hC2, hM2⟩
    have hr2 := hM2.1
    have k2 := c_X5_copy l V (σ := u) (A := sp_mg (u 49)) (s := x1) (f := x2) (t := x3) (o9 := x4) (nn := x5) (re_G hr2 hG) hy9 (she_ok hM2.2.2.2.2.1 hH)
    rw [sp_mq_id] at k2
    refine ⟨_, k2, ?_⟩
    rintro r u2 ⟨h1, g, rfl⟩
    have e := (she_copy hM2.2.2.2.2.1 x1 x2 x3 x4 x5)
    refine ⟨by rw [h1, e], A, z, sp, (tl_a tl (a_copy H x1 x2 x3 x4 x5)), m, bt, (sp_shC (n_copy S x1 x2 x3 x4 x5)), kf, K, kz, ks, ?_, ?_, ⟨N, y, hG, by omega, hsp, hm, kp_copy (she_ok hC.2.2.2.2.2.1 hH) x1 x2 x3 x4 x5, hk2⟩⟩
    · exact wc_f hC2 (fun q h48 _ _ _ => by rw [sp_mq_o (by omega), wj_r_ne (by omega), sp_fw_o (by omega), ncM_o (by omega) (by omega)])
    · rw [← e]
      exact wm_plain (wm_sh hM2 (fun q _ _ h3 h4 => ncM_o h3 h4) (ag_copy (she_tr (she_sym hC.2.2.2.2.2.1) hM2.2.2.2.2.1) (she_ok hC.2.2.2.2.2.1 hH) x1 x2 x3 x4 x5)) (lt7_copy _ _ _ _ _ _) hC.1.1 hr2
set_option maxRecDepth 100000 in
set_option maxHeartbeats 1000000 in
theorem st_load (l : Launch) (V : wj_V) {S : wj_St} {c : Nat} (h : ws_A c S) (hc : c < 1000) (x1 : Int32) : ws_S l V yX4_load cX4_load 4 2 44 yX5_load cX5_load 3 3 64 [.int x1] S c := by
  obtain ⟨A, z, sp, tl, m, bt, H, kf, K, kz, ks, hC, hM, N, y, hG, hy, hsp, hm, hH, hk⟩ := h
  have hr := hC.1.2
  have hy9 : y < 90000 := by omega
  have hk2 : kf = true → ∃ Nk yk, sp_G K Nk yk ∧ yk ≤ 60 * (c + 1) ∧ sp_spok ks Nk := fun q => by obtain ⟨a, b, g1, g2, g3⟩ := hk q; exact ⟨a, b, g1, by omega, g3⟩
  have k1 := c_X4_load l V (σ := S) (A := sp_get S 1) (s := x1) (re_G hr hG) hy9 (she_ok hC.2.2.2.2.2.1 hH)
  rw [sp_put_get] at k1
  refine ⟨sp_v (a_load H x1), fun u => ws_C u (n_load H A x1) z sp (tl_a tl (a_load H x1)) m bt H kf K kz ks ∧ ws_M u A z sp tl m bt H kf K kz ks, _, k1, ?_, ?_⟩
  · rintro r u ⟨h1, rfl⟩
    have e := (she_load hr hC.2.2.2.2.2.1 hH x1)
    refine ⟨by rw [h1, e.1], ?_, ?_⟩
    · rw [← e.1]
      exact wc_plain hC ⟨N, (kp_load hG H x1).2.1, (kp_load hG H x1).1⟩ e.2
    · exact wm_f hM (fun q h48 _ _ _ => by rw [sp_put_o (by omega), sp_tw_o (by omega)])
  · rintro u ⟨hC2, hM2⟩
    have hr2 := hM2.1
    have k2 := c_X5_load l V (σ := u) (A := sp_mg (u 49)) (s := x1) (re_G hr2 hG) hy9 (she_ok hM2.2.2.2.2.1 hH)
    rw [sp_mq_id] at k2
    refine ⟨_, k2, ?_⟩
    rintro r u2 ⟨h1, g, rfl⟩
    have e := (she_load hr2 hM2.2.2.2.2.1 hH x1)
    refine ⟨by rw [h1, e.1], (n_load H A x1), z, sp, (tl_a tl (a_load H x1)), m, bt, H, kf, K, kz, ks, ?_, ?_, ⟨N, y, kp_load hG H x1, by omega, hsp, hm, hH, hk2⟩⟩
    · exact wc_f hC2 (fun q h48 _ _ _ => by rw [sp_mq_o (by omega), wj_r_ne (by omega), sp_fw_o (by omega)])
    · rw [← e.1]
      exact wm_plain hM2 (lt7_load _ _) ⟨N, (kp_load hG H x1).2.1, (kp_load hG H x1).1⟩ e.2
set_option maxRecDepth 100000 in
set_option maxHeartbeats 1000000 in
theorem st_judge (l : Launch) (V : wj_V) {S : wj_St} {c : Nat} (h : ws_A c S) (hc : c < 1000) (x1 : Int32) : ws_S l V yX4_judge cX4_judge 5 2 44 yX5_judge cX5_judge 3 3 64 [.int x1] S c := by
  obtain ⟨A, z, sp, tl, m, bt, H, kf, K, kz, ks, hC, hM, N, y, hG, hy, hsp, hm, hH, hk⟩ := h
  have hr := hC.1.2
  have hy9 : y < 90000 := by omega
  have hk2 : kf = true → ∃ Nk yk, sp_G K Nk yk ∧ yk ≤ 60 * (c + 1) ∧ sp_spok ks Nk := fun q => by obtain ⟨a, b, g1, g2, g3⟩ := hk q; exact ⟨a, b, g1, by omega, g3⟩
  have k1 := c_X4_judge l V (σ := S) (A := sp_get S 1) (s := x1) (re_G hr hG) hy9 (she_ok hC.2.2.2.2.2.1 hH)
  rw [sp_put_get] at k1
  refine ⟨sp_v (a_judge H A x1), fun u => ws_C u A z sp (tl_a tl (a_judge H A x1)) m bt H kf K kz ks ∧ ws_M u A z sp tl m bt H kf K kz ks, _, k1, ?_, ?_⟩
  · rintro r u ⟨h1, rfl⟩
    have e := (she_judge hr hG hy9 hC.2.2.2.2.2.1 hH x1)
    refine ⟨by rw [h1, e], ?_, ?_⟩
    · rw [← e]
      exact wc_plain hC hC.1.1 hr
    · exact wm_f hM (fun q h48 _ _ _ => by rw [sp_put_o (by omega), sp_tw_o (by omega)])
  · rintro u ⟨hC2, hM2⟩
    have hr2 := hM2.1
    have k2 := c_X5_judge l V (σ := u) (A := sp_mg (u 49)) (s := x1) (re_G hr2 hG) hy9 (she_ok hM2.2.2.2.2.1 hH)
    rw [sp_mq_id] at k2
    refine ⟨_, k2, ?_⟩
    rintro r u2 ⟨h1, g, rfl⟩
    have e := (she_judge hr2 hG hy9 hM2.2.2.2.2.1 hH x1)
    refine ⟨by rw [h1, e], A, z, sp, (tl_a tl (a_judge H A x1)), m, bt, H, kf, K, kz, ks, ?_, ?_, ⟨N, y, hG, by omega, hsp, hm, hH, hk2⟩⟩
    · exact wc_f hC2 (fun q h48 _ _ _ => by rw [sp_mq_o (by omega), wj_r_ne (by omega), sp_fw_o (by omega)])
    · rw [← e]
      exact wm_plain hM2 (lt7_judge _ _ _) hC.1.1 hr2
set_option maxRecDepth 100000 in
set_option maxHeartbeats 1000000 in
theorem st_tear (l : Launch) (V : wj_V) {S : wj_St} {c : Nat} (h : ws_A c S) (hc : c < 1000) : ws_S l V yX4_tear cX4_tear 2 0 0 yX5_tear cX5_tear 2 0 0 [] S c := by
  obtain ⟨A, z, sp, tl, m, bt, H, kf, K, kz, ks, hC, hM, N, y, hG, hy, hsp, hm, hH, hk⟩ := h
  have hr := hC.1.2
  have hy9 : y < 90000 := by omega
  have hk2 : kf = true → ∃ Nk yk, sp_G K Nk yk ∧ yk ≤ 60 * (c + 1) ∧ sp_spok ks Nk := fun q => by obtain ⟨a, b, g1, g2, g3⟩ := hk q; exact ⟨a, b, g1, by omega, g3⟩
  have k1 := c_X4_tear l V (σ := S) (A := sp_get S 1) (re_G hr hG) hy9
  rw [sp_put_get] at k1
  rw [hC.2.2.2.2.2.2.1] at k1
  refine ⟨sp_v (Sum.inr (if (if kf = true then (1 : Int32) else 0) = 0 then 0 else 1)), fun u => ws_C u A z sp (tl_a tl (Sum.inr (if (if kf = true then (1 : Int32) else 0) = 0 then 0 else 1))) m bt H false K kz ks ∧ ws_M u A z sp tl m bt H kf K kz ks, _, k1, ?_, ?_⟩
  · rintro r u ⟨h1, rfl⟩
    refine ⟨h1, ?_, ?_⟩
    · skip
      exact wc_plain (wc_tear hC) hC.1.1 hr
    · exact wm_f hM (fun q h48 _ _ _ => by rw [sp_put_o (by omega), sp_tw_o (by omega), wj_u_ne (by omega)])
  · rintro u ⟨hC2, hM2⟩
    have hr2 := hM2.1
    have k2 := c_X5_tear l V (σ := u) (A := sp_mg (u 49)) (re_G hr2 hG) hy9
    rw [sp_mq_id] at k2
    rw [hM2.2.2.2.2.2.2.1] at k2
    refine ⟨_, k2, ?_⟩
    rintro r u2 ⟨h1, g, rfl⟩
    refine ⟨h1, A, z, sp, (tl_a tl (Sum.inr (if (if kf = true then (1 : Int32) else 0) = 0 then 0 else 1))), m, bt, H, false, K, kz, ks, ?_, ?_, ⟨N, y, hG, by omega, hsp, hm, hH, fun q => by cases q⟩⟩
    · exact wc_f hC2 (fun q h48 _ _ _ => by rw [sp_mq_o (by omega), wj_r_ne (by omega), sp_fw_o (by omega), wj_u_ne (by omega)])
    · skip
      exact wm_plain (wm_tear hM2) (lt7_r) hC.1.1 hr2
set_option maxRecDepth 100000 in
set_option maxHeartbeats 1000000 in
theorem st_count (l : Launch) (V : wj_V) {S : wj_St} {c : Nat} (h : ws_A c S) (hc : c < 1000) (x1 : Int32) : ws_S l V yX4_count cX4_count 2 4 88 yX5_count cX5_count 4 5 114 [.int x1] S c := by
  obtain ⟨A, z, sp, tl, m, bt, H, kf, K, kz, ks, hC, hM, N, y, hG, hy, hsp, hm, hH, hk⟩ := h
  have hr := hC.1.2
  have hy9 : y < 90000 := by omega
  have hk2 : kf = true → ∃ Nk yk, sp_G K Nk yk ∧ yk ≤ 60 * (c + 1) ∧ sp_spok ks Nk := fun q => by obtain ⟨a, b, g1, g2, g3⟩ := hk q; exact ⟨a, b, g1, by omega, g3⟩
  have k1 := c_X4_count l V (σ := S) (A := sp_get S 1) (w := x1) (re_G hr hG) hy9
  rw [sp_put_get] at k1
  refine ⟨sp_v (a_count A (nI m) z (sp_use sp 10) x1), fun u => ws_C u A z sp (tl_a tl (a_count A (nI m) z (sp_use sp 10) x1)) m bt H kf K kz ks ∧ ws_M u A z sp tl m bt H kf K kz ks, _, k1, ?_, ?_⟩
  · rintro r u ⟨h1, rfl⟩
    have e := (re_a_count hr hC.2.2.2.2.1.1.symm hC.2.1.symm (sp_use_c 10 (fun p hp => (hC.2.2.1 p hp).symm)) x1)
    refine ⟨by rw [h1, e], ?_, ?_⟩
    · rw [← e]
      exact wc_plain hC hC.1.1 hr
    · exact wm_f hM (fun q h48 _ _ _ => by rw [sp_put_o (by omega), sp_tw_o (by omega)])
  · rintro u ⟨hC2, hM2⟩
    have hr2 := hM2.1
    have k2 := c_X5_count l V (σ := u) (A := sp_mg (u 49)) (w := x1) (re_G hr2 hG) hy9 (fun p hp => by show u 49 (11 + p) = -1 ∨ ∃ j, j < N ∧ u 49 (11 + p) = nI j; rw [hM2.2.1.2 p hp]; exact hsp p hp)
    rw [sp_mq_id] at k2
    refine ⟨_, k2, ?_⟩
    rintro r u2 ⟨h1, g, rfl⟩
    have e := (re_a_count hr2 hM2.2.2.2.1.1.symm hM2.2.1.1.symm (sp_use_c (f2 := sp_spM u) 10 (fun p hp => (hM2.2.1.2 p hp).symm)) x1)
    refine ⟨by rw [h1, e], A, z, sp, (tl_a tl (a_count A (nI m) z (sp_use sp 10) x1)), m, bt, H, kf, K, kz, ks, ?_, ?_, ⟨N, y, hG, by omega, hsp, hm, hH, hk2⟩⟩
    · exact wc_f hC2 (fun q h48 _ _ _ => by rw [sp_mq_o (by omega), wj_r_ne (by omega), sp_fw_o (by omega)])
    · rw [← e]
      exact wm_plain hM2 (lt7_count _ _ _ _ _) hC.1.1 hr2
set_option maxRecDepth 100000 in
set_option maxHeartbeats 1000000 in
theorem st_status (l : Launch) (V : wj_V) {S : wj_St} {c : Nat} (h : ws_A c S) (hc : c < 1000) (x1 : Int32) : ws_S l V yX4_status cX4_status 2 2 44 yX5_status cX5_status 2 1 22 [.int x1] S c := by
  obtain ⟨A, z, sp, tl, m, bt, H, kf, K, kz, ks, hC, hM, N, y, hG, hy, hsp, hm, hH, hk⟩ := h
  have hr := hC.1.2
  have hy9 : y < 90000 := by omega
  have hk2 : kf = true → ∃ Nk yk, sp_G K Nk yk ∧ yk ≤ 60 * (c + 1) ∧ sp_spok ks Nk := fun q => by obtain ⟨a, b, g1, g2, g3⟩ := hk q; exact ⟨a, b, g1, by omega, g3⟩
  have k1 := c_X4_status l V (σ := S) (A := sp_get S 1) (w := x1) (re_G hr hG) hy9
  rw [sp_put_get] at k1
  refine ⟨sp_v (a_status tl x1), fun u => ws_C u A z sp (tl_a tl (a_status tl x1)) m bt H kf K kz ks ∧ ws_M u A z sp tl m bt H kf K kz ks, _, k1, ?_, ?_⟩
  · rintro r u ⟨h1, rfl⟩
    have e := (st_c hC.2.2.2.1 x1).symm
    refine ⟨by rw [h1, e], ?_, ?_⟩
    · rw [← e]
      exact wc_plain hC hC.1.1 hr
    · exact wm_f hM (fun q h48 _ _ _ => by rw [sp_put_o (by omega), sp_tw_o (by omega)])
  · rintro u ⟨hC2, hM2⟩
    have hr2 := hM2.1
    have k2 := c_X5_status l V (σ := u) (A := sp_mg (u 49)) (w := x1) (re_G hr2 hG) hy9
    rw [sp_mq_id] at k2
    refine ⟨_, k2, ?_⟩
    rintro r u2 ⟨h1, g, rfl⟩
    have e := re_a_status hM2.2.2.1.2 (fun w hw => (hM2.2.2.1.1 w hw).symm) x1
    refine ⟨by rw [h1, e], A, z, sp, (tl_a tl (a_status tl x1)), m, bt, H, kf, K, kz, ks, ?_, ?_, ⟨N, y, hG, by omega, hsp, hm, hH, hk2⟩⟩
    · exact wc_f hC2 (fun q h48 _ _ _ => by rw [sp_mq_o (by omega), wj_r_ne (by omega), sp_fw_o (by omega)])
    · rw [← e]
      exact wm_plain hM2 (lt7_status _ _) hC.1.1 hr2

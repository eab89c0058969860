theorem sp_wS_i (A : sp_L) (i : Nat) (s : Nat → Int32) (g : Nat → Nat → Int32) : sp_sl (sp_wS A (fun a => if a = i then s else g a)) i = s := by simp [sp_wS, sp_sl]
theorem sp_gs_uh {s : Nat → Int32} (h : sp_gs s) : sp_gs (upd s 2 (if s 2 + sp_gro s < 199 then s 2 + sp_gro s else 199)) := by
  obtain ⟨q, hq, e⟩ := sp_gs_h h
  rw [e]
  exact sp_gs_u2 h hq
theorem sp_new_u (s : Nat → Int32) (k p w : Int32) : upd (upd (upd (upd (upd (upd (upd s 0 k) 1 p) 2 20) 3 5) 4 0) 5 w) 6 0 = sp_new s k p w := by
  funext j
  rcases j with _ | _ | _ | _ | _ | _ | _ | j <;> simp [upd, sp_new]
theorem sp_mq_u2 {σ : wj_St} {A : sp_L} {x : Int32} : wj_u (sp_mq σ A) 49 2 x = sp_mq (wj_u σ 49 2 x) A := by
  rw [sp_mq_u, sp_mq, wj_u_r, wj_rr2, wj_r_same]
  congr 1
  funext j
  by_cases h : j = 2
  · subst h; rw [sp_mr_o _ _ (Or.inl rfl)]; simp [upd]
  · simp [upd, sp_mr, h]
/-- a finding is counted -/
def sp_fd (σ : wj_St) (w : Nat) : wj_St := wj_u (wj_u σ 52 (w + 1) (σ 52 (w + 1) + 1)) 52 0 (σ 52 0 + 1)
theorem sp_u0 {f : Nat → Int32} {k : Nat} {x : Int32} : upd f (k + 1) x 0 = f 0 := by simp [upd]
theorem sp_fd_ix : ∀ w, w < 7 → ((-1000001 : Int32) - (-1000001 - nI w) + 1) = nI (w + 1) := by decide +kernel
set_option maxRecDepth 100000 in
set_option maxHeartbeats 4000000 in
theorem c_X5_leansNow (l : Launch) (V : wj_V) {σ : wj_St} {A : sp_L} {N y : Nat} {c : Bool} (hG : sp_G A N y) (hc : σ 48 5 = if c = true then 1 else 0) (hy : y < 2 ^ 31) : wj_M l V yX5_leansNow cX5_leansNow 5 none 5 115 [.ref (V.2.2.1 48)] (sp_mq σ A) (wj_Vd V (sp_mq σ (if c = true then A else sp_lean A))) := by
  refine wj_ofV (own := RX5) [some (.ref (V.2.2.1 48)), none, none, none, none] (by decide) rfl rfl (Nat.le_of_ble_eq_true rfl) (fun X C hR => ?_)
  have hN := hG.2.1
  obtain ⟨e, he16, he⟩ := sp_G_le hG hy
  have hd : nI e / 100 = nI (e / 100) := pk_div (by omega) (by decide) (by decide)
  have lp : c = false → sp_lean A = sp_brk A (nI (e / 100)) → ∀ n i, i ≤ N → N - i < n → wj_J l V X 85 [some (.ref (V.2.2.1 48)), some (.int (nI e)), some (.int (nI (e / 100))), some (.int (sp_co A (nI (e / 100)) N)), some (.int (nI i))] [] (sp_mq σ (sp_gvN (sp_wM (sp_wH A (A.2.2.1 &&& (((1 : Int32) <<< (nI (e / 100) &&& 31)) ^^^ (-1)))) (if A.2.2.2.1 + 1 < 9999 then A.2.2.2.1 + 1 else 9999)) (nI (e / 100)) i)) := by
    intro hcc e8 n
    induction n with
    | zero => intro i _ h; omega
    | succ n ih =>
      intro i hi hm
      refine wj_iload C dX5_leansNow_85 rfl ?_
      refine wj_aload_n C 0 dX5_leansNow_87 rfl rfl ?_
      refine wg_X5_9 C dX5_leansNow_88 ?_
      refine wj_iconst (v := 1) C dX5_leansNow_91 (by decide) ?_
      refine wj_ialdN C dX5_leansNow_92 ar_now ⟨by decide, by decide⟩ ?_
      rw [sp_mq_49, sp_mr_1]
      refine wj_icmp_ge C 178 dX5_leansNow_93 (by decide) (fun h93 => ?_) (fun h93 => ?_)
      · rw [show (sp_gvN (sp_wM (sp_wH A (A.2.2.1 &&& (((1 : Int32) <<< (nI (e / 100) &&& 31)) ^^^ (-1)))) (if A.2.2.2.1 + 1 < 9999 then A.2.2.2.1 + 1 else 9999)) (nI (e / 100)) i).2.1 = nI N from hG.1] at h93
        have e9 := wj_ge (N := N) (by omega) hi h93
        subst e9
        exact hR _ _ _ _ dX5_leansNow_178 rfl (by rw [hcc]; simp only [Bool.false_eq_true, if_false]; rw [e8, sp_brk, sp_N_of hG.1 hG.2.1]; exact wj_rfl)
      · rw [show (sp_gvN (sp_wM (sp_wH A (A.2.2.1 &&& (((1 : Int32) <<< (nI (e / 100) &&& 31)) ^^^ (-1)))) (if A.2.2.2.1 + 1 < 9999 then A.2.2.2.1 + 1 else 9999)) (nI (e / 100)) i).2.1 = nI N from hG.1] at h93
        have hlt := wj_nge (N := N) (by omega) hi h93
        refine wj_iload_n C 3 dX5_leansNow_96 rfl rfl ?_
        refine wj_iload C dX5_leansNow_97 rfl ?_
        refine wj_cif C (wj_rS C dX5_leansNow_99 km_X5_hasBit kl_X5_103 (c_X5_hasBit l V) rfl rfl (Nat.le_of_ble_eq_true rfl) (by decide)) ?_
        rw [sp_co_hur A _ hlt hN]
        refine wj_if_eq C 172 dX5_leansNow_102 (by decide) (fun h102 => ?_) (fun h102 => ?_)
        · have hc9 := wj_b0 h102
          refine wj_iinc C (v := nI (i + 1)) dX5_leansNow_172 rfl (wj_i1 i) (by decide) rfl ?_
          dsimp only [List.set]
          refine wj_goto C 85 dX5_leansNow_175 (by decide) ?_
          exact (by have hh := ih (i + 1) (by omega) (by omega); first | (rw [← sp_gv_n (sp_wM (sp_wH A (A.2.2.1 &&& (((1 : Int32) <<< (nI (e / 100) &&& 31)) ^^^ (-1)))) (if A.2.2.2.1 + 1 < 9999 then A.2.2.2.1 + 1 else 9999)) _ _ hc9] at hh; exact hh) | (rw [← sp_gv_s (sp_wM (sp_wH A (A.2.2.1 &&& (((1 : Int32) <<< (nI (e / 100) &&& 31)) ^^^ (-1)))) (if A.2.2.2.1 + 1 < 9999 then A.2.2.2.1 + 1 else 9999)) _ _ hc9] at hh; exact hh))
        · have hc9 := wj_b1 h102
          refine wj_aload_n C 0 dX5_leansNow_105 rfl rfl ?_
          refine wg_X5_9 C dX5_leansNow_106 ?_
          refine wj_iload C dX5_leansNow_109 rfl ?_
          refine wj_iconst (v := 2) C dX5_leansNow_111 (by decide) ?_
          refine wj_cif C (wj_rS C dX5_leansNow_112 km_X5_slipAt kl_X5_79 (c_X5_slipAt (f := 2) l V) rfl rfl (Nat.le_of_ble_eq_true rfl) (by decide)) ?_
          refine wj_dup2 C dX5_leansNow_115 rfl rfl ?_
          refine wj_ialdN C dX5_leansNow_116 ar_now ⟨by omega, by decide⟩ ?_
          rw [sp_mq_49, sp_mr_s _ _ (by omega) (by decide), sp_gv_i]
          refine wj_iconst (v := 2) C dX5_leansNow_117 (by decide) ?_
          refine wj_idiv C dX5_leansNow_118 (by decide) ?_
          refine wj_iastN C dX5_leansNow_119 ar_now ⟨by omega, by decide⟩ ?_
          rw [sp_mq_us (by omega) (by decide)]
          refine wj_aload_n C 0 dX5_leansNow_120 rfl rfl ?_
          refine wg_X5_9 C dX5_leansNow_121 ?_
          refine wj_iload C dX5_leansNow_124 rfl ?_
          refine wj_iconst (v := 3) C dX5_leansNow_126 (by decide) ?_
          refine wj_cif C (wj_rS C dX5_leansNow_127 km_X5_slipAt kl_X5_79 (c_X5_slipAt (f := 3) l V) rfl rfl (Nat.le_of_ble_eq_true rfl) (by decide)) ?_
          refine wj_iconst (v := 0) C dX5_leansNow_130 (by decide) ?_
          refine wj_aload_n C 0 dX5_leansNow_131 rfl rfl ?_
          refine wj_iload C dX5_leansNow_132 rfl ?_
          refine wj_iconst (v := 3) C dX5_leansNow_134 (by decide) ?_
          refine wj_cif C (wj_rV C dX5_leansNow_135 km_X5_slipIs kl_X5_82 is_X5 rfl rfl (c_X5_slipIs (f := 3) l V (by omega) (by decide)) rfl rfl (Nat.le_of_ble_eq_true rfl) (by decide)) ?_
          rw [sp_us_same, pk_un (by decide), sp_gv_i]
          refine wj_iconst (v := 5) C dX5_leansNow_138 (by decide) ?_
          refine wj_isub C dX5_leansNow_139 ?_
          refine wj_max C dX5_leansNow_140 kx_X5_85 (by decide) (Nat.le_of_ble_eq_true rfl) ?_
          refine wj_iastN C dX5_leansNow_143 ar_now ⟨by omega, by decide⟩ ?_
          rw [sp_mq_us (by omega) (by decide), sp_us_us]
          refine wj_aload_n C 0 dX5_leansNow_144 rfl rfl ?_
          refine wg_X5_9 C dX5_leansNow_145 ?_
          refine wj_iload C dX5_leansNow_148 rfl ?_
          refine wj_bipush (v := 6) C dX5_leansNow_150 (by decide) ?_
          refine wj_cif C (wj_rS C dX5_leansNow_152 km_X5_slipAt kl_X5_79 (c_X5_slipAt (f := 6) l V) rfl rfl (Nat.le_of_ble_eq_true rfl) (by decide)) ?_
          refine wj_sipush (v := 9999) C dX5_leansNow_155 (by decide) ?_
          refine wj_aload_n C 0 dX5_leansNow_158 rfl rfl ?_
          refine wj_iload C dX5_leansNow_159 rfl ?_
          refine wj_bipush (v := 6) C dX5_leansNow_161 (by decide) ?_
          refine wj_cif C (wj_rV C dX5_leansNow_163 km_X5_slipIs kl_X5_82 is_X5 rfl rfl (c_X5_slipIs (f := 6) l V (by omega) (by decide)) rfl rfl (Nat.le_of_ble_eq_true rfl) (by decide)) ?_
          rw [sp_wS_i, pk_un (by decide), pk_un (by decide), sp_gv_i]
          refine wj_iconst (v := 1) C dX5_leansNow_166 (by decide) ?_
          refine wj_iadd C dX5_leansNow_167 ?_
          refine wj_min C dX5_leansNow_168 kx_X5_97 (by decide) (Nat.le_of_ble_eq_true rfl) ?_
          refine wj_iastN C dX5_leansNow_171 ar_now ⟨by omega, by decide⟩ ?_
          rw [sp_mq_us (by omega) (by decide), sp_wS_us]
          refine wj_iinc C (v := nI (i + 1)) dX5_leansNow_172 rfl (wj_i1 i) (by decide) rfl ?_
          dsimp only [List.set]
          refine wj_goto C 85 dX5_leansNow_175 (by decide) ?_
          exact (by have hh := ih (i + 1) (by omega) (by omega); first | (rw [← sp_gv_n (sp_wM (sp_wH A (A.2.2.1 &&& (((1 : Int32) <<< (nI (e / 100) &&& 31)) ^^^ (-1)))) (if A.2.2.2.1 + 1 < 9999 then A.2.2.2.1 + 1 else 9999)) _ _ hc9] at hh; exact hh) | (rw [← sp_gv_s (sp_wM (sp_wH A (A.2.2.1 &&& (((1 : Int32) <<< (nI (e / 100) &&& 31)) ^^^ (-1)))) (if A.2.2.2.1 + 1 < 9999 then A.2.2.2.1 + 1 else 9999)) _ _ hc9] at hh; exact hh))
  refine wj_aload_n C 0 dX5_leansNow_0 rfl rfl ?_
  refine wg_X5_9 C dX5_leansNow_1 ?_
  refine wj_iconst (v := 5) C dX5_leansNow_4 (by decide) ?_
  refine wj_aload_n C 0 dX5_leansNow_5 rfl rfl ?_
  refine wg_X5_9 C dX5_leansNow_6 ?_
  refine wj_iconst (v := 0) C dX5_leansNow_9 (by decide) ?_
  refine wj_ialdN C dX5_leansNow_10 ar_now ⟨by decide, by decide⟩ ?_
  rw [sp_mq_49, sp_mr_0, hG.2.2.1]
  refine wj_bipush (v := 6) C dX5_leansNow_11 (by decide) ?_
  refine wj_irem C dX5_leansNow_13 (by decide) ?_
  refine wj_iadd C dX5_leansNow_14 ?_
  refine wj_top (y := nI (5 + y % 6)) (by rw [show (6 : Int32) = nI 6 from rfl, pk_rem hy (by decide) (by decide), show (5 : Int32) = nI 5 from rfl, nI_add]) ?_
  refine wj_ialdN C dX5_leansNow_15 ar_now ⟨by omega, by decide⟩ ?_
  rw [sp_mq_49, sp_mr_l _ _ (Nat.mod_lt _ (by decide)), ← sp_le_of hG.2.2.1 hy, he]
  refine wj_istore_n C 1 dX5_leansNow_16 rfl (by decide) rfl ?_
  dsimp only [List.set]
  refine wj_iload_n C 1 dX5_leansNow_17 rfl rfl ?_
  refine wj_bipush (v := 100) C dX5_leansNow_18 (by decide) ?_
  refine wj_idiv C dX5_leansNow_20 (by decide) ?_
  refine wj_top (y := nI (e / 100)) hd ?_
  refine wj_istore_n C 2 dX5_leansNow_21 rfl (by decide) rfl ?_
  dsimp only [List.set]
  refine wj_aload_n C 0 dX5_leansNow_22 rfl rfl ?_
  refine wg_X5_155 C dX5_leansNow_23 ?_
  rw [sp_mq_o (by decide), hc]
  refine wj_if_ne C 41 dX5_leansNow_26 (by decide) (fun h26 => ?_) (fun h26 => ?_)
  · have hcc := wj_b1 h26
    exact hR _ _ _ _ dX5_leansNow_41 rfl (by first | (rw [hcc, if_pos rfl]; exact wj_rfl) | (rw [hcc, if_neg (by decide), e8]; exact wj_rfl))
  · have hcc := wj_b0 h26
    refine wj_iload_n C 1 dX5_leansNow_29 rfl rfl ?_
    refine wj_bipush (v := 100) C dX5_leansNow_30 (by decide) ?_
    refine wj_irem C dX5_leansNow_32 (by decide) ?_
    refine wj_aload_n C 0 dX5_leansNow_33 rfl rfl ?_
    refine wj_iload_n C 2 dX5_leansNow_34 rfl rfl ?_
    refine wj_cif C (wj_rV C dX5_leansNow_35 km_X5_strength kl_X5_113 is_X5 rfl rfl (c_X5_strength (p := e / 100) l V hG (by omega)) rfl rfl (Nat.le_of_ble_eq_true rfl) (by decide)) ?_
    refine wj_icmp_gt C 42 dX5_leansNow_38 (by decide) (fun h38 => ?_) (fun h38 => ?_)
    · rw [hd] at h38
      have e8 : sp_lean A = sp_brk A (nI (e / 100)) := by rw [sp_lean, he, hd, if_pos h38]
      refine wj_aload_n C 0 dX5_leansNow_42 rfl rfl ?_
      refine wj_iload_n C 2 dX5_leansNow_43 rfl rfl ?_
      refine wj_cif C (wj_rV C dX5_leansNow_44 km_X5_covering kl_X5_119 is_X5 rfl rfl (c_X5_covering (p := e / 100) l V hG (by omega)) rfl rfl (Nat.le_of_ble_eq_true rfl) (by decide)) ?_
      rw [sp_N_of hG.1 hG.2.1]
      refine wj_istore_n C 3 dX5_leansNow_47 rfl (by decide) rfl ?_
      dsimp only [List.set]
      refine wj_aload_n C 0 dX5_leansNow_48 rfl rfl ?_
      refine wg_X5_9 C dX5_leansNow_49 ?_
      refine wj_iconst (v := 3) C dX5_leansNow_52 (by decide) ?_
      refine wj_dup2 C dX5_leansNow_53 rfl rfl ?_
      refine wj_ialdN C dX5_leansNow_54 ar_now ⟨by decide, by decide⟩ ?_
      rw [sp_mq_49, sp_mr_3]
      refine wj_iconst (v := 1) C dX5_leansNow_55 (by decide) ?_
      refine wj_iload_n C 2 dX5_leansNow_56 rfl rfl ?_
      refine wj_ishl C dX5_leansNow_57 ?_
      refine wj_iconst (v := -1) C dX5_leansNow_58 (by decide) ?_
      refine wj_ixor C dX5_leansNow_59 ?_
      refine wj_iand C dX5_leansNow_60 ?_
      refine wj_iastN C dX5_leansNow_61 ar_now ⟨by decide, by decide⟩ ?_
      rw [sp_mq_u3]
      refine wj_aload_n C 0 dX5_leansNow_62 rfl rfl ?_
      refine wg_X5_9 C dX5_leansNow_63 ?_
      refine wj_iconst (v := 4) C dX5_leansNow_66 (by decide) ?_
      refine wj_sipush (v := 9999) C dX5_leansNow_67 (by decide) ?_
      refine wj_aload_n C 0 dX5_leansNow_70 rfl rfl ?_
      refine wg_X5_9 C dX5_leansNow_71 ?_
      refine wj_iconst (v := 4) C dX5_leansNow_74 (by decide) ?_
      refine wj_ialdN C dX5_leansNow_75 ar_now ⟨by decide, by decide⟩ ?_
      rw [sp_mq_49, sp_mr_4]
      refine wj_iconst (v := 1) C dX5_leansNow_76 (by decide) ?_
      refine wj_iadd C dX5_leansNow_77 ?_
      refine wj_min C dX5_leansNow_78 kx_X5_97 (by decide) (Nat.le_of_ble_eq_true rfl) ?_
      refine wj_iastN C dX5_leansNow_81 ar_now ⟨by decide, by decide⟩ ?_
      rw [sp_mq_u4]
      refine wj_iconst (v := 0) C dX5_leansNow_82 (by decide) ?_
      refine wj_istore C dX5_leansNow_83 (by decide) rfl ?_
      dsimp only [List.set]
      exact (by have hh := lp hcc e8 (N + 1) 0 (by omega) (by omega); rw [sp_gv0] at hh; exact hh)
    · rw [hd] at h38
      have e8 : sp_lean A = A := by rw [sp_lean, he, hd, if_neg h38]
      exact hR _ _ _ _ dX5_leansNow_41 rfl (by first | (rw [hcc, if_pos rfl]; exact wj_rfl) | (rw [hcc, if_neg (by decide), e8]; exact wj_rfl))
set_option maxRecDepth 100000 in
set_option maxHeartbeats 4000000 in
theorem c_X5_year (l : Launch) (V : wj_V) {σ : wj_St} {A : sp_L} {N y : Nat} {c : Bool} (hG : sp_G A N y) (hc : σ 48 5 = if c = true then 1 else 0) (hy : y < 2 ^ 31) : wj_M l V yX5_year cX5_year 2 none 6 139 [.ref (V.2.2.1 48)] (sp_mq σ A) (wj_Vd V (sp_mq σ (sp_yx c A))) := by
  refine wj_ofV (own := RX5) [some (.ref (V.2.2.1 48)), none] (by decide) rfl rfl (Nat.le_of_ble_eq_true rfl) (fun X C hR => ?_)
  have hN := hG.2.1
  obtain ⟨B, hBd⟩ : ∃ B, B = (if c = true then A else sp_lean A) := ⟨_, rfl⟩
  have hB : sp_G B N y := by
    rw [hBd]
    split
    · exact hG
    · exact sp_G_lean hG
  have hB1 : B.1 = A.1 := by
    rw [hBd]
    split
    · rfl
    · exact sp_lean_y A
  have lp : ∀ n i, i ≤ N → N - i < n → wj_J l V X 6 [some (.ref (V.2.2.1 48)), some (.int (nI i))] [] (sp_mq σ (sp_grN B i)) := by
    intro n
    induction n with
    | zero => intro i _ h; omega
    | succ n ih =>
      intro i hi hm
      refine wj_iload_n C 1 dX5_year_6 rfl rfl ?_
      refine wj_aload_n C 0 dX5_year_7 rfl rfl ?_
      refine wg_X5_9 C dX5_year_8 ?_
      refine wj_iconst (v := 1) C dX5_year_11 (by decide) ?_
      refine wj_ialdN C dX5_year_12 ar_now ⟨by decide, by decide⟩ ?_
      rw [sp_mq_49, sp_mr_1]
      refine wj_icmp_ge C 77 dX5_year_13 (by decide) (fun h13 => ?_) (fun h13 => ?_)
      · rw [show (sp_grN B i).2.1 = nI N from hB.1] at h13
        have e9 := wj_ge (N := N) (by omega) hi h13
        subst e9
        refine wj_aload_n C 0 dX5_year_77 rfl rfl ?_
        refine wg_X5_9 C dX5_year_78 ?_
        refine wj_iconst (v := 0) C dX5_year_81 (by decide) ?_
        refine wj_dup2 C dX5_year_82 rfl rfl ?_
        refine wj_ialdN C dX5_year_83 ar_now ⟨by decide, by decide⟩ ?_
        rw [sp_mq_49, sp_mr_0, show (sp_grN B i).1 = A.1 from hB1]
        refine wj_iconst (v := 1) C dX5_year_84 (by decide) ?_
        refine wj_iadd C dX5_year_85 ?_
        refine wj_iastN C dX5_year_86 ar_now ⟨by decide, by decide⟩ ?_
        rw [sp_mq_u0]
        exact hR _ _ _ _ dX5_year_87 (by show _ = _; rw [sp_yx, sp_N_of hG.1 hG.2.1, ← hBd]) wj_rfl
      · rw [show (sp_grN B i).2.1 = nI N from hB.1] at h13
        have hlt := wj_nge (N := N) (by omega) hi h13
        refine wj_aload_n C 0 dX5_year_16 rfl rfl ?_
        refine wg_X5_9 C dX5_year_17 ?_
        refine wj_iload_n C 1 dX5_year_20 rfl rfl ?_
        refine wj_iconst (v := 2) C dX5_year_21 (by decide) ?_
        refine wj_cif C (wj_rS C dX5_year_22 km_X5_slipAt kl_X5_79 (c_X5_slipAt (f := 2) l V) rfl rfl (Nat.le_of_ble_eq_true rfl) (by decide)) ?_
        refine wj_sipush (v := 199) C dX5_year_25 (by decide) ?_
        refine wj_aload_n C 0 dX5_year_28 rfl rfl ?_
        refine wj_iload_n C 1 dX5_year_29 rfl rfl ?_
        refine wj_iconst (v := 2) C dX5_year_30 (by decide) ?_
        refine wj_cif C (wj_rV C dX5_year_31 km_X5_slipIs kl_X5_82 is_X5 rfl rfl (c_X5_slipIs (f := 2) l V (by omega) (by decide)) rfl rfl (Nat.le_of_ble_eq_true rfl) (by decide)) ?_
        rw [sp_gr_i]
        refine wj_aload_n C 0 dX5_year_34 rfl rfl ?_
        refine wj_iload_n C 1 dX5_year_35 rfl rfl ?_
        refine wj_cif C (wj_rV C dX5_year_36 km_X5_grows kl_X5_140 is_X5 rfl rfl (c_X5_grows l V (by omega) (by rw [sp_gr_i]; exact hB.2.2.2.1 i hlt)) rfl rfl (Nat.le_of_ble_eq_true rfl) (by decide)) ?_
        rw [sp_gr_i]
        refine wj_iadd C dX5_year_39 ?_
        refine wj_min C dX5_year_40 kx_X5_97 (by decide) (Nat.le_of_ble_eq_true rfl) ?_
        refine wj_iastN C dX5_year_43 ar_now ⟨by omega, by decide⟩ ?_
        rw [sp_mq_us (by omega) (by decide)]
        refine wj_aload_n C 0 dX5_year_44 rfl rfl ?_
        refine wg_X5_9 C dX5_year_45 ?_
        refine wj_iload_n C 1 dX5_year_48 rfl rfl ?_
        refine wj_iconst (v := 3) C dX5_year_49 (by decide) ?_
        refine wj_cif C (wj_rS C dX5_year_50 km_X5_slipAt kl_X5_79 (c_X5_slipAt (f := 3) l V) rfl rfl (Nat.le_of_ble_eq_true rfl) (by decide)) ?_
        refine wj_bipush (v := 99) C dX5_year_53 (by decide) ?_
        refine wj_aload_n C 0 dX5_year_55 rfl rfl ?_
        refine wj_iload_n C 1 dX5_year_56 rfl rfl ?_
        refine wj_iconst (v := 3) C dX5_year_57 (by decide) ?_
        refine wj_cif C (wj_rV C dX5_year_58 km_X5_slipIs kl_X5_82 is_X5 rfl rfl (c_X5_slipIs (f := 3) l V (by omega) (by decide)) rfl rfl (Nat.le_of_ble_eq_true rfl) (by decide)) ?_
        rw [sp_us_same, pk_un (by decide), sp_gr_i]
        refine wj_aload_n C 0 dX5_year_61 rfl rfl ?_
        refine wj_iload_n C 1 dX5_year_62 rfl rfl ?_
        refine wj_cif C (wj_rV C dX5_year_63 km_X5_fills kl_X5_143 is_X5 rfl rfl (c_X5_fills l V (by omega) (by rw [sp_us_same, sp_gr_i]; exact sp_gs_uh (hB.2.2.2.1 i hlt))) rfl rfl (Nat.le_of_ble_eq_true rfl) (by decide)) ?_
        rw [sp_us_same, sp_gr_i, sp_fil_u]
        refine wj_iadd C dX5_year_66 ?_
        refine wj_min C dX5_year_67 kx_X5_97 (by decide) (Nat.le_of_ble_eq_true rfl) ?_
        refine wj_iastN C dX5_year_70 ar_now ⟨by omega, by decide⟩ ?_
        rw [sp_mq_us (by omega) (by decide), sp_us_us, sp_gr_i]
        refine wj_iinc C (v := nI (i + 1)) dX5_year_71 rfl (wj_i1 i) (by decide) rfl ?_
        dsimp only [List.set]
        refine wj_goto C 6 dX5_year_74 (by decide) ?_
        exact (by have hh := ih (i + 1) (by omega) (by omega); rw [← sp_gr_s] at hh; exact hh)
  refine wj_aload_n C 0 dX5_year_0 rfl rfl ?_
  refine wj_cvf C (wj_rV C dX5_year_1 km_X5_leansNow kl_X5_159 is_X5 rfl rfl (c_X5_leansNow l V hG hc hy) rfl rfl (Nat.le_of_ble_eq_true rfl) (by decide)) ?_
  rw [← hBd]
  refine wj_iconst (v := 0) C dX5_year_4 (by decide) ?_
  refine wj_istore_n C 1 dX5_year_5 rfl (by decide) rfl ?_
  dsimp only [List.set]
  exact (by have hh := lp (N + 1) 0 (by omega) (by omega); rw [sp_gr0] at hh; exact hh)
set_option maxRecDepth 100000 in
set_option maxHeartbeats 4000000 in
theorem c_X5_yearsGo (l : Launch) (V : wj_V) {σ : wj_St} {A : sp_L} {N y : Nat} {c : Bool} {M : Nat} (hG : sp_G A N y) (hc : σ 48 5 = if c = true then 1 else 0) (hy : y + M < 2 ^ 30) : wj_M l V yX5_yearsGo cX5_yearsGo 3 none 7 160 [.ref (V.2.2.1 48), .int (nI M)] (sp_mq σ A) (wj_Vd V (sp_mq σ (sp_yxs c A M))) := by
  refine wj_ofV (own := RX5) [some (.ref (V.2.2.1 48)), some (.int (nI M)), none] (by decide) rfl rfl (Nat.le_of_ble_eq_true rfl) (fun X C hR => ?_)
  have lp : ∀ n i, i ≤ M → M - i < n → wj_J l V X 2 [some (.ref (V.2.2.1 48)), some (.int (nI M)), some (.int (nI i))] [] (sp_mq σ (sp_yxs c A i)) := by
    intro n
    induction n with
    | zero => intro i _ h; omega
    | succ n ih =>
      intro i hi hm
      refine wj_iload_n C 2 dX5_yearsGo_2 rfl rfl ?_
      refine wj_iload_n C 1 dX5_yearsGo_3 rfl rfl ?_
      refine wj_icmp_ge C 17 dX5_yearsGo_4 (by decide) (fun h4 => ?_) (fun h4 => ?_)
      · have e9 := wj_ge (N := M) (by omega) hi h4
        subst e9
        exact hR _ _ _ _ dX5_yearsGo_17 rfl wj_rfl
      · have hlt := wj_nge (N := M) (by omega) hi h4
        refine wj_aload_n C 0 dX5_yearsGo_7 rfl rfl ?_
        refine wj_cvf C (wj_rV C dX5_yearsGo_8 km_X5_year kl_X5_162 is_X5 rfl rfl (c_X5_year l V (sp_G_yxs hG i) hc (by omega)) rfl rfl (Nat.le_of_ble_eq_true rfl) (by decide)) ?_
        refine wj_iinc C (v := nI (i + 1)) dX5_yearsGo_11 rfl (wj_i1 i) (by decide) rfl ?_
        dsimp only [List.set]
        refine wj_goto C 2 dX5_yearsGo_14 (by decide) ?_
        exact ih (i + 1) (by omega) (by omega)
  refine wj_iconst (v := 0) C dX5_yearsGo_0 (by decide) ?_
  refine wj_istore_n C 2 dX5_yearsGo_1 rfl (by decide) rfl ?_
  dsimp only [List.set]
  exact lp (M + 1) 0 (by omega) (by omega)
set_option maxRecDepth 100000 in
set_option maxHeartbeats 4000000 in
theorem c_X5_comes (l : Launch) (V : wj_V) {σ : wj_St} {A : sp_L} {N : Nat} {a b d : Int32} (hn : A.2.1 = nI N) (h8 : N < 8) : wj_M l V yX5_comes cX5_comes 5 (some .int) 1 21 [.ref (V.2.2.1 48), .int a, .int b, .int d] (sp_mq σ A) (wj_I V (nI N) (sp_mq σ (sp_add A N a b d))) := by
  refine wj_ofI (own := RX5) [some (.ref (V.2.2.1 48)), some (.int a), some (.int b), some (.int d), none] (by decide) rfl rfl (Nat.le_of_ble_eq_true rfl) (fun X C hR => ?_)
  refine wj_aload_n C 0 dX5_comes_0 rfl rfl ?_
  refine wg_X5_9 C dX5_comes_1 ?_
  refine wj_iconst (v := 1) C dX5_comes_4 (by decide) ?_
  refine wj_ialdN C dX5_comes_5 ar_now ⟨by decide, by decide⟩ ?_
  rw [sp_mq_49, sp_mr_1, hn]
  refine wj_istore C dX5_comes_6 (by decide) rfl ?_
  dsimp only [List.set]
  refine wj_aload_n C 0 dX5_comes_8 rfl rfl ?_
  refine wg_X5_9 C dX5_comes_9 ?_
  refine wj_iload C dX5_comes_12 rfl ?_
  refine wj_iconst (v := 0) C dX5_comes_14 (by decide) ?_
  refine wj_cif C (wj_rS C dX5_comes_15 km_X5_slipAt kl_X5_79 (c_X5_slipAt (f := 0) l V) rfl rfl (Nat.le_of_ble_eq_true rfl) (by decide)) ?_
  refine wj_iload_n C 1 dX5_comes_18 rfl rfl ?_
  refine wj_iastN C dX5_comes_19 ar_now ⟨by omega, by decide⟩ ?_
  rw [sp_mq_us (by omega) (by decide)]
  refine wj_aload_n C 0 dX5_comes_20 rfl rfl ?_
  refine wg_X5_9 C dX5_comes_21 ?_
  refine wj_iload C dX5_comes_24 rfl ?_
  refine wj_iconst (v := 1) C dX5_comes_26 (by decide) ?_
  refine wj_cif C (wj_rS C dX5_comes_27 km_X5_slipAt kl_X5_79 (c_X5_slipAt (f := 1) l V) rfl rfl (Nat.le_of_ble_eq_true rfl) (by decide)) ?_
  refine wj_iload_n C 2 dX5_comes_30 rfl rfl ?_
  refine wj_iastN C dX5_comes_31 ar_now ⟨by omega, by decide⟩ ?_
  rw [sp_mq_us (by omega) (by decide), sp_us_us]
  refine wj_aload_n C 0 dX5_comes_32 rfl rfl ?_
  refine wg_X5_9 C dX5_comes_33 ?_
  refine wj_iload C dX5_comes_36 rfl ?_
  refine wj_iconst (v := 2) C dX5_comes_38 (by decide) ?_
  refine wj_cif C (wj_rS C dX5_comes_39 km_X5_slipAt kl_X5_79 (c_X5_slipAt (f := 2) l V) rfl rfl (Nat.le_of_ble_eq_true rfl) (by decide)) ?_
  refine wj_bipush (v := 20) C dX5_comes_42 (by decide) ?_
  refine wj_iastN C dX5_comes_44 ar_now ⟨by omega, by decide⟩ ?_
  rw [sp_mq_us (by omega) (by decide), sp_wS_us]
  refine wj_aload_n C 0 dX5_comes_45 rfl rfl ?_
  refine wg_X5_9 C dX5_comes_46 ?_
  refine wj_iload C dX5_comes_49 rfl ?_
  refine wj_iconst (v := 3) C dX5_comes_51 (by decide) ?_
  refine wj_cif C (wj_rS C dX5_comes_52 km_X5_slipAt kl_X5_79 (c_X5_slipAt (f := 3) l V) rfl rfl (Nat.le_of_ble_eq_true rfl) (by decide)) ?_
  refine wj_iconst (v := 5) C dX5_comes_55 (by decide) ?_
  refine wj_iastN C dX5_comes_56 ar_now ⟨by omega, by decide⟩ ?_
  rw [sp_mq_us (by omega) (by decide), sp_wS_us]
  refine wj_aload_n C 0 dX5_comes_57 rfl rfl ?_
  refine wg_X5_9 C dX5_comes_58 ?_
  refine wj_iload C dX5_comes_61 rfl ?_
  refine wj_iconst (v := 4) C dX5_comes_63 (by decide) ?_
  refine wj_cif C (wj_rS C dX5_comes_64 km_X5_slipAt kl_X5_79 (c_X5_slipAt (f := 4) l V) rfl rfl (Nat.le_of_ble_eq_true rfl) (by decide)) ?_
  refine wj_iconst (v := 0) C dX5_comes_67 (by decide) ?_
  refine wj_iastN C dX5_comes_68 ar_now ⟨by omega, by decide⟩ ?_
  rw [sp_mq_us (by omega) (by decide), sp_wS_us]
  refine wj_aload_n C 0 dX5_comes_69 rfl rfl ?_
  refine wg_X5_9 C dX5_comes_70 ?_
  refine wj_iload C dX5_comes_73 rfl ?_
  refine wj_iconst (v := 5) C dX5_comes_75 (by decide) ?_
  refine wj_cif C (wj_rS C dX5_comes_76 km_X5_slipAt kl_X5_79 (c_X5_slipAt (f := 5) l V) rfl rfl (Nat.le_of_ble_eq_true rfl) (by decide)) ?_
  refine wj_iload_n C 3 dX5_comes_79 rfl rfl ?_
  refine wj_iastN C dX5_comes_80 ar_now ⟨by omega, by decide⟩ ?_
  rw [sp_mq_us (by omega) (by decide), sp_wS_us]
  refine wj_aload_n C 0 dX5_comes_81 rfl rfl ?_
  refine wg_X5_9 C dX5_comes_82 ?_
  refine wj_iload C dX5_comes_85 rfl ?_
  refine wj_bipush (v := 6) C dX5_comes_87 (by decide) ?_
  refine wj_cif C (wj_rS C dX5_comes_89 km_X5_slipAt kl_X5_79 (c_X5_slipAt (f := 6) l V) rfl rfl (Nat.le_of_ble_eq_true rfl) (by decide)) ?_
  refine wj_iconst (v := 0) C dX5_comes_92 (by decide) ?_
  refine wj_iastN C dX5_comes_93 ar_now ⟨by omega, by decide⟩ ?_
  rw [sp_mq_us (by omega) (by decide), sp_wS_us]
  rw [sp_new_u]
  refine wj_aload_n C 0 dX5_comes_94 rfl rfl ?_
  refine wg_X5_9 C dX5_comes_95 ?_
  refine wj_iconst (v := 1) C dX5_comes_98 (by decide) ?_
  refine wj_dup2 C dX5_comes_99 rfl rfl ?_
  refine wj_ialdN C dX5_comes_100 ar_now ⟨by decide, by decide⟩ ?_
  rw [sp_mq_49, sp_mr_1, show (sp_wS A (fun a_1 => if a_1 = N then sp_new (sp_sl A N) a b d else sp_sl A a_1)).2.1 = nI N from hn]
  refine wj_iconst (v := 1) C dX5_comes_101 (by decide) ?_
  refine wj_iadd C dX5_comes_102 ?_
  refine wj_iastN C dX5_comes_103 ar_now ⟨by decide, by decide⟩ ?_
  rw [nI_1, sp_mq_u1]
  refine wj_iload C dX5_comes_104 rfl ?_
  exact hR _ _ _ _ _ dX5_comes_106 ⟨rfl, rfl⟩ wj_rfl
set_option maxRecDepth 100000 in
set_option maxHeartbeats 4000000 in
theorem c_X5_become (l : Launch) (V : wj_V) {σ : wj_St} {j : Nat} {v : Int32} (hj : j < 77) : wj_M l V yX5_become cX5_become 4 (some .int) 0 0 [.ref (V.2.2.1 48), .int (nI j), .int v] σ (wj_I V (σ 49 j) (wj_u σ 49 j v)) := by
  refine wj_ofI (own := RX5) [some (.ref (V.2.2.1 48)), some (.int (nI j)), some (.int v), none] (by decide) rfl rfl (Nat.le_of_ble_eq_true rfl) (fun X C hR => ?_)
  refine wj_aload_n C 0 dX5_become_0 rfl rfl ?_
  refine wg_X5_9 C dX5_become_1 ?_
  refine wj_iload_n C 1 dX5_become_4 rfl rfl ?_
  refine wj_ialdN C dX5_become_5 ar_now ⟨hj, by decide⟩ ?_
  refine wj_istore_n C 3 dX5_become_6 rfl (by decide) rfl ?_
  dsimp only [List.set]
  refine wj_aload_n C 0 dX5_become_7 rfl rfl ?_
  refine wg_X5_9 C dX5_become_8 ?_
  refine wj_iload_n C 1 dX5_become_11 rfl rfl ?_
  refine wj_iload_n C 2 dX5_become_12 rfl rfl ?_
  refine wj_iastN C dX5_become_13 ar_now ⟨hj, by decide⟩ ?_
  refine wj_iload_n C 3 dX5_become_14 rfl rfl ?_
  exact hR _ _ _ _ _ dX5_become_15 ⟨rfl, rfl⟩ wj_rfl
set_option maxRecDepth 100000 in
set_option maxHeartbeats 4000000 in
theorem c_X5_finding (l : Launch) (V : wj_V) {σ : wj_St} {w : Nat} {x : Int32} (hw : w < 7) (hx : x = -1000001 - nI w) : wj_M l V yX5_finding cX5_finding 2 (some .int) 0 0 [.ref (V.2.2.1 48), .int x] σ (wj_I V x (sp_fd σ w)) := by
  refine wj_ofI (own := RX5) [some (.ref (V.2.2.1 48)), some (.int x)] (by decide) rfl rfl (Nat.le_of_ble_eq_true rfl) (fun X C hR => ?_)
  refine wj_aload_n C 0 dX5_finding_0 rfl rfl ?_
  refine wg_X5_19 C dX5_finding_1 ?_
  refine wj_ldc C dX5_finding_4 kc_X5_60 ?_
  refine wj_iload_n C 1 dX5_finding_6 rfl rfl ?_
  refine wj_isub C dX5_finding_7 ?_
  refine wj_iconst (v := 1) C dX5_finding_8 (by decide) ?_
  refine wj_iadd C dX5_finding_9 ?_
  refine wj_top (y := nI (w + 1)) (by rw [hx]; exact sp_fd_ix w hw) ?_
  refine wj_dup2 C dX5_finding_10 rfl rfl ?_
  refine wj_ialdN C dX5_finding_11 ar_found ⟨by omega, by decide⟩ ?_
  refine wj_iconst (v := 1) C dX5_finding_12 (by decide) ?_
  refine wj_iadd C dX5_finding_13 ?_
  refine wj_iastN C dX5_finding_14 ar_found ⟨by omega, by decide⟩ ?_
  refine wj_aload_n C 0 dX5_finding_15 rfl rfl ?_
  refine wg_X5_19 C dX5_finding_16 ?_
  refine wj_iconst (v := 0) C dX5_finding_19 (by decide) ?_
  refine wj_dup2 C dX5_finding_20 rfl rfl ?_
  refine wj_ialdN C dX5_finding_21 ar_found ⟨by decide, by decide⟩ ?_
  rw [wj_u_same, sp_u0]
  refine wj_iconst (v := 1) C dX5_finding_22 (by decide) ?_
  refine wj_iadd C dX5_finding_23 ?_
  refine wj_iastN C dX5_finding_24 ar_found ⟨by decide, by decide⟩ ?_
  refine wj_iload_n C 1 dX5_finding_25 rfl rfl ?_
  exact hR _ _ _ _ _ dX5_finding_26 ⟨rfl, rfl⟩ wj_rfl
set_option maxRecDepth 100000 in
set_option maxHeartbeats 4000000 in
theorem c_X5_orNone (l : Launch) (V : wj_V) {σ : wj_St} {j : Nat} (hj : j < 2 ^ 31) : wj_M l V yX5_orNone cX5_orNone 2 (some .int) 1 21 [.ref (V.2.2.1 48), .int (nI j)] σ (wj_I V (nI j) σ) := by
  refine wj_ofI (own := RX5) [some (.ref (V.2.2.1 48)), some (.int (nI j))] (by decide) rfl rfl (Nat.le_of_ble_eq_true rfl) (fun X C hR => ?_)
  refine wj_iload_n C 1 dX5_orNone_0 rfl rfl ?_
  refine wj_if_ge C 13 dX5_orNone_1 (by decide) (fun h1 => ?_) (fun h1 => absurd (nI_pos' hj) h1)
  refine wj_iload_n C 1 dX5_orNone_13 rfl rfl ?_
  exact hR _ _ _ _ _ dX5_orNone_14 ⟨rfl, rfl⟩ wj_rfl
set_option maxRecDepth 100000 in
set_option maxHeartbeats 4000000 in
theorem c_X5_orNone_no (l : Launch) (V : wj_V) {σ : wj_St}  : wj_M l V yX5_orNone cX5_orNone 2 (some .int) 1 21 [.ref (V.2.2.1 48), .int (-1)] σ (wj_I V (-1000004) (sp_fd σ 3)) := by
  refine wj_ofI (own := RX5) [some (.ref (V.2.2.1 48)), some (.int (-1))] (by decide) rfl rfl (Nat.le_of_ble_eq_true rfl) (fun X C hR => ?_)
  refine wj_iload_n C 1 dX5_orNone_0 rfl rfl ?_
  refine wj_if_ge C 13 dX5_orNone_1 (by decide) (fun h1 => absurd h1 (by decide)) (fun h1 => ?_)
  refine wj_aload_n C 0 dX5_orNone_4 rfl rfl ?_
  refine wj_ldc C dX5_orNone_5 kc_X5_65 ?_
  refine wj_cif C (wj_rV C dX5_orNone_7 km_X5_finding kl_X5_66 is_X5 rfl rfl (c_X5_finding (w := 3) l V (by decide) (by decide)) rfl rfl (Nat.le_of_ble_eq_true rfl) (by decide)) ?_
  refine wj_goto C 14 dX5_orNone_10 (by decide) ?_
  exact hR _ _ _ _ _ dX5_orNone_14 ⟨rfl, rfl⟩ wj_rfl
set_option maxRecDepth 100000 in
set_option maxHeartbeats 4000000 in
theorem c_X5_isSlip (l : Launch) (V : wj_V) {σ : wj_St} {A : sp_L} {N : Nat} {x : Int32} (hn : A.2.1 = nI N) : wj_M l V yX5_isSlip cX5_isSlip 2 (some .boolean) 1 22 [.ref (V.2.2.1 48), .int x] (sp_mq σ A) (wj_I V (if 0 ≤ x ∧ x ≤ nI N - 1 then 1 else 0) (sp_mq σ A)) := by
  refine wj_ofZ (own := RX5) [some (.ref (V.2.2.1 48)), some (.int x)] (by decide) rfl rfl (Nat.le_of_ble_eq_true rfl) (fun X C hR => ?_)
  refine wj_iload_n C 1 dX5_isSlip_0 rfl rfl ?_
  refine wj_iconst (v := 0) C dX5_isSlip_1 (by decide) ?_
  refine wj_aload_n C 0 dX5_isSlip_2 rfl rfl ?_
  refine wg_X5_9 C dX5_isSlip_3 ?_
  refine wj_iconst (v := 1) C dX5_isSlip_6 (by decide) ?_
  refine wj_ialdN C dX5_isSlip_7 ar_now ⟨by decide, by decide⟩ ?_
  rw [sp_mq_49, sp_mr_1, hn]
  refine wj_iconst (v := 1) C dX5_isSlip_8 (by decide) ?_
  refine wj_isub C dX5_isSlip_9 ?_
  refine wj_cif C (wj_rS C dX5_isSlip_10 km_X5_within kl_X5_70 (c_X5_within l V) rfl rfl (Nat.le_of_ble_eq_true rfl) (by decide)) ?_
  exact hR _ _ _ _ _ dX5_isSlip_13 ⟨wj_nzi, rfl, rfl⟩ wj_rfl
set_option maxRecDepth 100000 in
set_option maxHeartbeats 4000000 in
theorem c_X5_drawn (l : Launch) (V : wj_V) {σ : wj_St} : wj_M l V yX5_drawn cX5_drawn 1 (some .int) 0 0 [.ref (V.2.2.1 48)] σ (wj_I V ((σ 49 2 * 1103515245 + 12345).toUInt32 >>> ((8 : Int32).toUInt32 &&& Int32.toUInt32 31)).toInt32 (wj_u σ 49 2 (σ 49 2 * 1103515245 + 12345))) := by
  refine wj_ofI (own := RX5) [some (.ref (V.2.2.1 48))] (by decide) rfl rfl (Nat.le_of_ble_eq_true rfl) (fun X C hR => ?_)
  refine wj_aload_n C 0 dX5_drawn_0 rfl rfl ?_
  refine wg_X5_9 C dX5_drawn_1 ?_
  refine wj_iconst (v := 2) C dX5_drawn_4 (by decide) ?_
  refine wj_aload_n C 0 dX5_drawn_5 rfl rfl ?_
  refine wg_X5_9 C dX5_drawn_6 ?_
  refine wj_iconst (v := 2) C dX5_drawn_9 (by decide) ?_
  refine wj_iald C dX5_drawn_10 ar_now (by first | exact vp_in_iff.mpr (by decide) | assumption | exact vp_in_nI (by omega) (by omega)) ?_
  refine wj_ldc C dX5_drawn_11 kc_X5_225 ?_
  refine wj_imul C dX5_drawn_13 ?_
  refine wj_sipush (v := 12345) C dX5_drawn_14 (by decide) ?_
  refine wj_iadd C dX5_drawn_17 ?_
  refine wj_iast C dX5_drawn_18 ar_now (by first | exact vp_in_iff.mpr (by decide) | assumption | exact vp_in_nI (by omega) (by omega)) ?_
  refine wj_aload_n C 0 dX5_drawn_19 rfl rfl ?_
  refine wg_X5_9 C dX5_drawn_20 ?_
  refine wj_iconst (v := 2) C dX5_drawn_23 (by decide) ?_
  refine wj_iald C dX5_drawn_24 ar_now (by first | exact vp_in_iff.mpr (by decide) | assumption | exact vp_in_nI (by omega) (by omega)) ?_
  refine wj_bipush (v := 8) C dX5_drawn_25 (by decide) ?_
  refine wj_iushr C dX5_drawn_27 ?_
  exact hR _ _ _ _ _ dX5_drawn_28 ⟨rfl, rfl⟩ wj_rfl
def sp_ab (k : Int32) : Int32 := if k = 0 then -1 else if k = 3 then 2 else if k = 4 then 3 else if k = 6 then 1 else 0
set_option maxRecDepth 100000 in
set_option maxHeartbeats 4000000 in
theorem c_X5_above (l : Launch) (V : wj_V) {σ : wj_St} {k : Int32} : wj_M l V yX5_above cX5_above 1 (some .int) 0 0 [.int k] σ (wj_I V (sp_ab k) σ) := by
  refine wj_ofI (own := RX5) [some (.int k)] (by decide) rfl rfl (Nat.le_of_ble_eq_true rfl) (fun X C hR => ?_)
  refine wj_iload_n C 0 dX5_above_0 rfl rfl ?_
  refine wj_if_ne C 8 dX5_above_1 (by decide) (fun h1 => ?_) (fun h1 => ?_)
  · refine wj_iload_n C 0 dX5_above_8 rfl rfl ?_
    refine wj_iconst (v := 3) C dX5_above_9 (by decide) ?_
    refine wj_icmp_ne C 17 dX5_above_10 (by decide) (fun h10 => ?_) (fun h10 => ?_)
    · refine wj_iload_n C 0 dX5_above_17 rfl rfl ?_
      refine wj_iconst (v := 4) C dX5_above_18 (by decide) ?_
      refine wj_icmp_ne C 26 dX5_above_19 (by decide) (fun h19 => ?_) (fun h19 => ?_)
      · refine wj_iload_n C 0 dX5_above_26 rfl rfl ?_
        refine wj_bipush (v := 6) C dX5_above_27 (by decide) ?_
        refine wj_icmp_ne C 36 dX5_above_29 (by decide) (fun h29 => ?_) (fun h29 => ?_)
        · refine wj_iconst (v := 0) C dX5_above_36 (by decide) ?_
          exact hR _ _ _ _ _ dX5_above_37 ⟨(by simp [sp_ab, *]), rfl⟩ wj_rfl
        · refine wj_iconst (v := 1) C dX5_above_32 (by decide) ?_
          refine wj_goto C 37 dX5_above_33 (by decide) ?_
          exact hR _ _ _ _ _ dX5_above_37 ⟨(by simp [sp_ab, *]), rfl⟩ wj_rfl
      · refine wj_iconst (v := 3) C dX5_above_22 (by decide) ?_
        refine wj_goto C 37 dX5_above_23 (by decide) ?_
        exact hR _ _ _ _ _ dX5_above_37 ⟨(by simp [sp_ab, *]), rfl⟩ wj_rfl
    · refine wj_iconst (v := 2) C dX5_above_13 (by decide) ?_
      refine wj_goto C 37 dX5_above_14 (by decide) ?_
      exact hR _ _ _ _ _ dX5_above_37 ⟨(by simp [sp_ab, *]), rfl⟩ wj_rfl
  · refine wj_iconst (v := -1) C dX5_above_4 (by decide) ?_
    refine wj_goto C 37 dX5_above_5 (by decide) ?_
    exact hR _ _ _ _ _ dX5_above_37 ⟨(by simp [sp_ab, *]), rfl⟩ wj_rfl
set_option maxRecDepth 100000 in
set_option maxHeartbeats 4000000 in
theorem c_X5_cutTo (l : Launch) (V : wj_V) {σ : wj_St} {v b : Int32} : wj_M l V yX5_cutTo cX5_cutTo 2 (some .int) 0 0 [.int v, .int b] σ (wj_I V (if b = 8 then v.toInt8.toInt32 else if b = 16 then v.toInt16.toInt32 else v) σ) := by
  refine wj_ofI (own := RX5) [some (.int v), some (.int b)] (by decide) rfl rfl (Nat.le_of_ble_eq_true rfl) (fun X C hR => ?_)
  refine wj_iload_n C 1 dX5_cutTo_0 rfl rfl ?_
  refine wj_bipush (v := 8) C dX5_cutTo_1 (by decide) ?_
  refine wj_icmp_ne C 11 dX5_cutTo_3 (by decide) (fun h3 => ?_) (fun h3 => ?_)
  · refine wj_iload_n C 1 dX5_cutTo_11 rfl rfl ?_
    refine wj_bipush (v := 16) C dX5_cutTo_12 (by decide) ?_
    refine wj_icmp_ne C 22 dX5_cutTo_14 (by decide) (fun h14 => ?_) (fun h14 => ?_)
    · refine wj_iload_n C 0 dX5_cutTo_22 rfl rfl ?_
      exact hR _ _ _ _ _ dX5_cutTo_23 ⟨(by simp [*]), rfl⟩ wj_rfl
    · refine wj_iload_n C 0 dX5_cutTo_17 rfl rfl ?_
      refine wj_i2s C dX5_cutTo_18 ?_
      refine wj_goto C 23 dX5_cutTo_19 (by decide) ?_
      exact hR _ _ _ _ _ dX5_cutTo_23 ⟨(by simp [*]), rfl⟩ wj_rfl
  · refine wj_iload_n C 0 dX5_cutTo_6 rfl rfl ?_
    refine wj_i2b C dX5_cutTo_7 ?_
    refine wj_goto C 23 dX5_cutTo_8 (by decide) ?_
    exact hR _ _ _ _ _ dX5_cutTo_23 ⟨(by simp [*]), rfl⟩ wj_rfl

/-! the tape as it stands: the token's kind, where it begins, where it ends -/
def tx_P (σ : wj_St) (s : Int32) (b e : Nat) : wj_St := wj_r σ 46 (fun j => if j = 2 then s else if j = 3 then nI b else if j = 4 then nI e else σ 46 j)
def tx_C (f : Nat → Int32) (m : Nat) (σ : wj_St) (c : Nat) : wj_St := tx_P σ (nI (tx_s f m c)) (tx_b f m c) (tx_e f m c)
theorem tx_P_1 {σ : wj_St} {s : Int32} {b e : Nat} : tx_P σ s b e 46 1 = σ 46 1 := by simp [tx_P, wj_r]
theorem tx_P_2 {σ : wj_St} {s : Int32} {b e : Nat} : tx_P σ s b e 46 2 = s := by simp [tx_P, wj_r]
theorem tx_P_3 {σ : wj_St} {s : Int32} {b e : Nat} : tx_P σ s b e 46 3 = nI b := by simp [tx_P, wj_r]
theorem tx_P_4 {σ : wj_St} {s : Int32} {b e : Nat} : tx_P σ s b e 46 4 = nI e := by simp [tx_P, wj_r]
theorem tx_P_o {σ : wj_St} {s : Int32} {b e q : Nat} (h : q ≠ 46) : tx_P σ s b e q = σ q := wj_r_ne h
theorem tx_P_u2 {σ : wj_St} {s x : Int32} {b e : Nat} : wj_u (tx_P σ s b e) 46 2 x = tx_P σ x b e := by
  rw [tx_P, wj_uu, tx_P]
  congr 1
  funext j
  simp only [upd]
  by_cases h : j = 2 <;> simp [h]
theorem tx_P_u3 {σ : wj_St} {s : Int32} {b e x : Nat} : wj_u (tx_P σ s b e) 46 3 (nI x) = tx_P σ s x e := by
  rw [tx_P, wj_uu, tx_P]
  congr 1
  funext j
  simp only [upd]
  by_cases h : j = 3
  · simp [h]
  · simp [h]
theorem tx_P_u4 {σ : wj_St} {s : Int32} {b e x : Nat} : wj_u (tx_P σ s b e) 46 4 (nI x) = tx_P σ s b x := by
  rw [tx_P, wj_uu, tx_P]
  congr 1
  funext j
  simp only [upd]
  by_cases h : j = 4
  · simp [h]
  · simp [h]
theorem tx_P_i {σ : wj_St} {c : Nat} (h : σ 46 4 = nI c) : wj_u σ 46 3 (nI c) = tx_P σ (σ 46 2) c c := by
  rw [wj_u_r, tx_P]
  congr 1
  funext j
  simp only [upd]
  by_cases h3 : j = 3
  · simp [h3]
  · by_cases h2 : j = 2
    · simp [h2]
    · by_cases h4 : j = 4
      · simp [h4, h]
      · simp [h3, h2, h4]
theorem tx_P_P {σ : wj_St} {s t : Int32} {b e b2 e2 : Nat} : tx_P (tx_P σ s b e) t b2 e2 = tx_P σ t b2 e2 := by
  rw [tx_P, tx_P, wj_rr2, tx_P]
  congr 1
  funext j
  by_cases h2 : j = 2
  · simp [h2]
  · by_cases h3 : j = 3
    · simp [h3]
    · by_cases h4 : j = 4
      · simp [h4]
      · simp [h2, h3, h4, wj_r]
theorem tx_C_C {f : Nat → Int32} {m : Nat} {σ : wj_St} {c d : Nat} : tx_C f m (tx_C f m σ c) d = tx_C f m σ d := tx_P_P
theorem tx_C_o {f : Nat → Int32} {m : Nat} {σ : wj_St} {c q : Nat} (h : q ≠ 46) : tx_C f m σ c q = σ q := wj_r_ne h
theorem tx_C_1 {f : Nat → Int32} {m : Nat} {σ : wj_St} {c : Nat} : tx_C f m σ c 46 1 = σ 46 1 := tx_P_1
theorem tx_C_2 {f : Nat → Int32} {m : Nat} {σ : wj_St} {c : Nat} : tx_C f m σ c 46 2 = nI (tx_s f m c) := tx_P_2
theorem tx_C_3 {f : Nat → Int32} {m : Nat} {σ : wj_St} {c : Nat} : tx_C f m σ c 46 3 = nI (tx_b f m c) := tx_P_3
theorem tx_C_4 {f : Nat → Int32} {m : Nat} {σ : wj_St} {c : Nat} : tx_C f m σ c 46 4 = nI (tx_e f m c) := tx_P_4
theorem tx_spt {f : Nat → Int32} {k : Nat} (h : f k = 32) : tx_sp f k = true := decide_eq_true h
theorem tx_spf {f : Nat → Int32} {k : Nat} (h : ¬ f k = 32) : tx_sp f k = false := decide_eq_false h
theorem tx_alt {f : Nat → Int32} {k : Nat} (h1 : ¬ f k < 97) (h2 : ¬ 122 < f k) : tx_al f k = true := decide_eq_true ⟨Int32.not_lt.mp h1, Int32.not_lt.mp h2⟩
theorem tx_alf1 {f : Nat → Int32} {k : Nat} (h1 : f k < 97) : tx_al f k = false := decide_eq_false (fun z => absurd z.1 (Int32.not_le.mpr h1))
theorem tx_alf2 {f : Nat → Int32} {k : Nat} (h1 : 122 < f k) : tx_al f k = false := decide_eq_false (fun z => absurd z.2 (Int32.not_le.mpr h1))
theorem tx_dgt {f : Nat → Int32} {k : Nat} (h1 : ¬ f k < 48) (h2 : ¬ 57 < f k) : tx_dg f k = true := decide_eq_true ⟨Int32.not_lt.mp h1, Int32.not_lt.mp h2⟩
theorem tx_dgf1 {f : Nat → Int32} {k : Nat} (h1 : f k < 48) : tx_dg f k = false := decide_eq_false (fun z => absurd z.1 (Int32.not_le.mpr h1))
theorem tx_dgf2 {f : Nat → Int32} {k : Nat} (h1 : 57 < f k) : tx_dg f k = false := decide_eq_false (fun z => absurd z.2 (Int32.not_le.mpr h1))
set_option maxRecDepth 100000 in
set_option maxHeartbeats 4000000 in
theorem c_X3_step (l : Launch) (V : wj_V) {σ : wj_St} {f : Nat → Int32} {m c : Nat} (hf : σ 47 = f) (hm : σ 46 1 = nI m) (h120 : m ≤ 120) (hc : c ≤ m) (h4 : σ 46 4 = nI c) : wj_M l V yX3_step cX3_step 1 none 0 0 [.ref (V.2.2.1 46)] σ (wj_Vd V (tx_C f m σ c)) := by
  refine wj_ofV (own := RX3) [some (.ref (V.2.2.1 46))] (by decide) rfl rfl (Nat.le_of_ble_eq_true rfl) (fun X C hR => ?_)
  have hB := tx_b_le (f := f) hc
  have hA : tx_run (tx_al f) m (tx_b f m c) ≤ m := tx_run_le hB
  have hD : tx_run (tx_dg f) m (tx_b f m c) ≤ m := tx_run_le hB
  have t180 : tx_run (tx_al f) m (tx_b f m c) ≤ tx_b f m c → wj_J l V X 180 [some (.ref (V.2.2.1 46))] [] (tx_P σ 2 (tx_b f m c) (tx_run (tx_dg f) m (tx_b f m c))) := by
    intro h0
    refine wj_aload_n C 0 dX3_step_180 rfl rfl ?_
    refine wg_X3_25 C dX3_step_181 ?_
    rw [tx_P_4]
    refine wj_aload_n C 0 dX3_step_184 rfl rfl ?_
    refine wg_X3_22 C dX3_step_185 ?_
    rw [tx_P_3]
    refine wj_icmp_le C 192 dX3_step_188 (by decide) (fun h188 => ?_) (fun h188 => ?_)
    · have hd0 : tx_run (tx_dg f) m (tx_b f m c) ≤ tx_b f m c := (nI_leI (by omega) (by omega)).mp h188
      rw [show tx_run (tx_dg f) m (tx_b f m c) = tx_b f m c from Nat.le_antisymm hd0 tx_run_ge]
      refine wj_aload_n C 0 dX3_step_192 rfl rfl ?_
      refine wj_iconst (v := 0) C dX3_step_193 (by decide) ?_
      refine wp_X3_19 C dX3_step_194 ?_
      rw [tx_P_u2]
      refine wj_aload_n C 0 dX3_step_197 rfl rfl ?_
      refine wg_X3_25 C dX3_step_198 ?_
      rw [tx_P_4]
      refine wj_aload_n C 0 dX3_step_201 rfl rfl ?_
      refine wg_X3_15 C dX3_step_202 ?_
      rw [tx_P_1, hm]
      refine wj_icmp_lt C 209 dX3_step_205 (by decide) (fun h205 => ?_) (fun h205 => ?_)
      · have hlt : tx_b f m c < m := (nI_ltI (by omega) (by omega)).mp h205
        obtain ⟨k1, k2⟩ := tx_k3 hlt h0 hd0
        refine wj_aload_n C 0 dX3_step_209 rfl rfl ?_
        refine wj_aload_n C 0 dX3_step_210 rfl rfl ?_
        refine wg_X3_9 C dX3_step_211 ?_
        refine wj_aload_n C 0 dX3_step_214 rfl rfl ?_
        refine wg_X3_25 C dX3_step_215 ?_
        rw [tx_P_4]
        refine wj_baldN C dX3_step_218 ar_bytes ⟨by omega, by decide⟩ ?_
        rw [tx_P_o (by decide), hf]
        refine wj_bipush (v := 59) C dX3_step_219 (by decide) ?_
        refine wj_icmp_ne C 228 dX3_step_221 (by decide) (fun h221 => ?_) (fun h221 => ?_)
        · rw [if_neg h221] at k1
          refine wj_iconst (v := 4) C dX3_step_228 (by decide) ?_
          refine wp_X3_19 C dX3_step_229 ?_
          rw [tx_P_u2]
          refine wj_aload_n C 0 dX3_step_232 rfl rfl ?_
          refine wj_dup C dX3_step_233 rfl ?_
          refine wg_X3_25 C dX3_step_234 ?_
          rw [tx_P_4]
          refine wj_iconst (v := 1) C dX3_step_237 (by decide) ?_
          refine wj_iadd C dX3_step_238 ?_
          rw [nI_1]
          refine wp_X3_25 C dX3_step_239 ?_
          rw [tx_P_u4]
          exact hR _ _ _ _ dX3_step_242 rfl (by rw [tx_C, k1, k2]; exact wj_rfl)
        · rw [if_pos h221] at k1
          refine wj_iconst (v := 3) C dX3_step_224 (by decide) ?_
          refine wj_goto C 229 dX3_step_225 (by decide) ?_
          refine wp_X3_19 C dX3_step_229 ?_
          rw [tx_P_u2]
          refine wj_aload_n C 0 dX3_step_232 rfl rfl ?_
          refine wj_dup C dX3_step_233 rfl ?_
          refine wg_X3_25 C dX3_step_234 ?_
          rw [tx_P_4]
          refine wj_iconst (v := 1) C dX3_step_237 (by decide) ?_
          refine wj_iadd C dX3_step_238 ?_
          rw [nI_1]
          refine wp_X3_25 C dX3_step_239 ?_
          rw [tx_P_u4]
          exact hR _ _ _ _ dX3_step_242 rfl (by rw [tx_C, k1, k2]; exact wj_rfl)
      · have hx : m ≤ tx_b f m c := (nI_leI (by omega) (by omega)).mp (Int32.not_lt.mp h205)
        obtain ⟨k1, k2⟩ := tx_k0 hx
        exact hR _ _ _ _ dX3_step_208 rfl (by rw [tx_C, k1, k2]; exact wj_rfl)
    · have hgt : tx_b f m c < tx_run (tx_dg f) m (tx_b f m c) := by
        rcases Nat.lt_or_ge (tx_b f m c) (tx_run (tx_dg f) m (tx_b f m c)) with q | q
        · exact q
        · exact absurd (nI_le q (by omega)) h188
      obtain ⟨k1, k2⟩ := tx_k2 h0 hgt
      exact hR _ _ _ _ dX3_step_191 rfl (by rw [tx_C, k1, k2]; exact wj_rfl)
  have l3 : tx_run (tx_al f) m (tx_b f m c) ≤ tx_b f m c → ∀ n e, tx_b f m c ≤ e → e ≤ m → tx_run (tx_dg f) m e = tx_run (tx_dg f) m (tx_b f m c) → m - e < n → wj_J l V X 128 [some (.ref (V.2.2.1 46))] [] (tx_P σ 2 (tx_b f m c) e) := by
    intro h0 n
    induction n with
    | zero => intro e _ _ _ h; omega
    | succ n ih =>
      intro e hlo hle hr hlt9
      refine wj_aload_n C 0 dX3_step_128 rfl rfl ?_
      refine wg_X3_25 C dX3_step_129 ?_
      rw [tx_P_4]
      refine wj_aload_n C 0 dX3_step_132 rfl rfl ?_
      refine wg_X3_15 C dX3_step_133 ?_
      rw [tx_P_1, hm]
      refine wj_icmp_ge C 180 dX3_step_136 (by decide) (fun h136 => ?_) (fun h136 => ?_)
      · have hx : m ≤ e := (nI_leI (by omega) (by omega)).mp h136
        have ex : tx_run (tx_dg f) m (tx_b f m c) = e := by rw [← hr, tx_run_m hx]
        rw [← ex]
        exact t180 h0
      · have hlt : e < m := by
          rcases Nat.lt_or_ge e m with q | q
          · exact q
          · exact absurd (nI_le q (by omega)) h136
        refine wj_aload_n C 0 dX3_step_139 rfl rfl ?_
        refine wg_X3_9 C dX3_step_140 ?_
        refine wj_aload_n C 0 dX3_step_143 rfl rfl ?_
        refine wg_X3_25 C dX3_step_144 ?_
        rw [tx_P_4]
        refine wj_baldN C dX3_step_147 ar_bytes ⟨by omega, by decide⟩ ?_
        rw [tx_P_o (by decide), hf]
        refine wj_bipush (v := 48) C dX3_step_148 (by decide) ?_
        refine wj_icmp_lt C 180 dX3_step_150 (by decide) (fun h150 => ?_) (fun h150 => ?_)
        · have ex : tx_run (tx_dg f) m (tx_b f m c) = e := by rw [← hr, tx_run_x hlt (tx_dgf1 h150)]
          rw [← ex]
          exact t180 h0
        · refine wj_aload_n C 0 dX3_step_153 rfl rfl ?_
          refine wg_X3_9 C dX3_step_154 ?_
          refine wj_aload_n C 0 dX3_step_157 rfl rfl ?_
          refine wg_X3_25 C dX3_step_158 ?_
          rw [tx_P_4]
          refine wj_baldN C dX3_step_161 ar_bytes ⟨by omega, by decide⟩ ?_
          rw [tx_P_o (by decide), hf]
          refine wj_bipush (v := 57) C dX3_step_162 (by decide) ?_
          refine wj_icmp_gt C 180 dX3_step_164 (by decide) (fun h164 => ?_) (fun h164 => ?_)
          · have ex : tx_run (tx_dg f) m (tx_b f m c) = e := by rw [← hr, tx_run_x hlt (tx_dgf2 h164)]
            rw [← ex]
            exact t180 h0
          · have hr2 : tx_run (tx_dg f) m (e + 1) = tx_run (tx_dg f) m (tx_b f m c) := by rw [tx_run_s hlt (tx_dgt h150 h164)]; exact hr
            refine wj_aload_n C 0 dX3_step_167 rfl rfl ?_
            refine wj_dup C dX3_step_168 rfl ?_
            refine wg_X3_25 C dX3_step_169 ?_
            rw [tx_P_4]
            refine wj_iconst (v := 1) C dX3_step_172 (by decide) ?_
            refine wj_iadd C dX3_step_173 ?_
            rw [nI_1]
            refine wp_X3_25 C dX3_step_174 ?_
            rw [tx_P_u4]
            refine wj_goto C 128 dX3_step_177 (by decide) ?_
            exact ih (e + 1) (by omega) (by omega) hr2 (by omega)
  have t111 : wj_J l V X 111 [some (.ref (V.2.2.1 46))] [] (tx_P σ 1 (tx_b f m c) (tx_run (tx_al f) m (tx_b f m c))) := by
    refine wj_aload_n C 0 dX3_step_111 rfl rfl ?_
    refine wg_X3_25 C dX3_step_112 ?_
    rw [tx_P_4]
    refine wj_aload_n C 0 dX3_step_115 rfl rfl ?_
    refine wg_X3_22 C dX3_step_116 ?_
    rw [tx_P_3]
    refine wj_icmp_le C 123 dX3_step_119 (by decide) (fun h119 => ?_) (fun h119 => ?_)
    · have h0 : tx_run (tx_al f) m (tx_b f m c) ≤ tx_b f m c := (nI_leI (by omega) (by omega)).mp h119
      refine wj_aload_n C 0 dX3_step_123 rfl rfl ?_
      refine wj_iconst (v := 2) C dX3_step_124 (by decide) ?_
      refine wp_X3_19 C dX3_step_125 ?_
      rw [tx_P_u2]
      rw [show tx_run (tx_al f) m (tx_b f m c) = tx_b f m c from Nat.le_antisymm h0 tx_run_ge]
      exact l3 h0 (m + 1) _ (Nat.le_refl _) hB rfl (by omega)
    · have hgt : tx_b f m c < tx_run (tx_al f) m (tx_b f m c) := by
        rcases Nat.lt_or_ge (tx_b f m c) (tx_run (tx_al f) m (tx_b f m c)) with q | q
        · exact q
        · exact absurd (nI_le q (by omega)) h119
      obtain ⟨k1, k2⟩ := tx_k1 hgt
      exact hR _ _ _ _ dX3_step_122 rfl (by rw [tx_C, k1, k2]; exact wj_rfl)
  have l2 : ∀ n e, tx_b f m c ≤ e → e ≤ m → tx_run (tx_al f) m e = tx_run (tx_al f) m (tx_b f m c) → m - e < n → wj_J l V X 59 [some (.ref (V.2.2.1 46))] [] (tx_P σ 1 (tx_b f m c) e) := by
    intro n
    induction n with
    | zero => intro e _ _ _ h; omega
    | succ n ih =>
      intro e hlo hle hr hlt9
      refine wj_aload_n C 0 dX3_step_59 rfl rfl ?_
      refine wg_X3_25 C dX3_step_60 ?_
      rw [tx_P_4]
      refine wj_aload_n C 0 dX3_step_63 rfl rfl ?_
      refine wg_X3_15 C dX3_step_64 ?_
      rw [tx_P_1, hm]
      refine wj_icmp_ge C 111 dX3_step_67 (by decide) (fun h67 => ?_) (fun h67 => ?_)
      · have hx : m ≤ e := (nI_leI (by omega) (by omega)).mp h67
        have ex : tx_run (tx_al f) m (tx_b f m c) = e := by rw [← hr, tx_run_m hx]
        rw [← ex]
        exact t111
      · have hlt : e < m := by
          rcases Nat.lt_or_ge e m with q | q
          · exact q
          · exact absurd (nI_le q (by omega)) h67
        refine wj_aload_n C 0 dX3_step_70 rfl rfl ?_
        refine wg_X3_9 C dX3_step_71 ?_
        refine wj_aload_n C 0 dX3_step_74 rfl rfl ?_
        refine wg_X3_25 C dX3_step_75 ?_
        rw [tx_P_4]
        refine wj_baldN C dX3_step_78 ar_bytes ⟨by omega, by decide⟩ ?_
        rw [tx_P_o (by decide), hf]
        refine wj_bipush (v := 97) C dX3_step_79 (by decide) ?_
        refine wj_icmp_lt C 111 dX3_step_81 (by decide) (fun h81 => ?_) (fun h81 => ?_)
        · have ex : tx_run (tx_al f) m (tx_b f m c) = e := by rw [← hr, tx_run_x hlt (tx_alf1 h81)]
          rw [← ex]
          exact t111
        · refine wj_aload_n C 0 dX3_step_84 rfl rfl ?_
          refine wg_X3_9 C dX3_step_85 ?_
          refine wj_aload_n C 0 dX3_step_88 rfl rfl ?_
          refine wg_X3_25 C dX3_step_89 ?_
          rw [tx_P_4]
          refine wj_baldN C dX3_step_92 ar_bytes ⟨by omega, by decide⟩ ?_
          rw [tx_P_o (by decide), hf]
          refine wj_bipush (v := 122) C dX3_step_93 (by decide) ?_
          refine wj_icmp_gt C 111 dX3_step_95 (by decide) (fun h95 => ?_) (fun h95 => ?_)
          · have ex : tx_run (tx_al f) m (tx_b f m c) = e := by rw [← hr, tx_run_x hlt (tx_alf2 h95)]
            rw [← ex]
            exact t111
          · have hr2 : tx_run (tx_al f) m (e + 1) = tx_run (tx_al f) m (tx_b f m c) := by rw [tx_run_s hlt (tx_alt h81 h95)]; exact hr
            refine wj_aload_n C 0 dX3_step_98 rfl rfl ?_
            refine wj_dup C dX3_step_99 rfl ?_
            refine wg_X3_25 C dX3_step_100 ?_
            rw [tx_P_4]
            refine wj_iconst (v := 1) C dX3_step_103 (by decide) ?_
            refine wj_iadd C dX3_step_104 ?_
            rw [nI_1]
            refine wp_X3_25 C dX3_step_105 ?_
            rw [tx_P_u4]
            refine wj_goto C 59 dX3_step_108 (by decide) ?_
            exact ih (e + 1) (by omega) (by omega) hr2 (by omega)
  have l1 : ∀ n b, c ≤ b → b ≤ m → tx_run (tx_sp f) m b = tx_run (tx_sp f) m c → m - b < n → wj_J l V X 8 [some (.ref (V.2.2.1 46))] [] (tx_P σ (σ 46 2) b c) := by
    intro n
    induction n with
    | zero => intro b _ _ _ h; omega
    | succ n ih =>
      intro b hlo hle hr hlt9
      refine wj_aload_n C 0 dX3_step_8 rfl rfl ?_
      refine wg_X3_22 C dX3_step_9 ?_
      rw [tx_P_3]
      refine wj_aload_n C 0 dX3_step_12 rfl rfl ?_
      refine wg_X3_15 C dX3_step_13 ?_
      rw [tx_P_1, hm]
      refine wj_icmp_ge C 46 dX3_step_16 (by decide) (fun h16 => ?_) (fun h16 => ?_)
      · have hx : m ≤ b := (nI_leI (by omega) (by omega)).mp h16
        have ex : tx_b f m c = b := by rw [tx_b, ← hr, tx_run_m hx]
        refine wj_aload_n C 0 dX3_step_46 rfl rfl ?_
        refine wj_aload_n C 0 dX3_step_47 rfl rfl ?_
        refine wg_X3_22 C dX3_step_48 ?_
        rw [tx_P_3]
        refine wp_X3_25 C dX3_step_51 ?_
        rw [tx_P_u4]
        refine wj_aload_n C 0 dX3_step_54 rfl rfl ?_
        refine wj_iconst (v := 1) C dX3_step_55 (by decide) ?_
        refine wp_X3_19 C dX3_step_56 ?_
        rw [tx_P_u2]
        rw [← ex]
        exact l2 (m + 1) _ (Nat.le_refl _) (tx_b_le hc) rfl (by omega)
      · have hlt : b < m := by
          rcases Nat.lt_or_ge b m with q | q
          · exact q
          · exact absurd (nI_le q (by omega)) h16
        refine wj_aload_n C 0 dX3_step_19 rfl rfl ?_
        refine wg_X3_9 C dX3_step_20 ?_
        refine wj_aload_n C 0 dX3_step_23 rfl rfl ?_
        refine wg_X3_22 C dX3_step_24 ?_
        rw [tx_P_3]
        refine wj_baldN C dX3_step_27 ar_bytes ⟨by omega, by decide⟩ ?_
        rw [tx_P_o (by decide), hf]
        refine wj_bipush (v := 32) C dX3_step_28 (by decide) ?_
        refine wj_icmp_ne C 46 dX3_step_30 (by decide) (fun h30 => ?_) (fun h30 => ?_)
        · have ex : tx_b f m c = b := by rw [tx_b, ← hr, tx_run_x hlt (tx_spf h30)]
          refine wj_aload_n C 0 dX3_step_46 rfl rfl ?_
          refine wj_aload_n C 0 dX3_step_47 rfl rfl ?_
          refine wg_X3_22 C dX3_step_48 ?_
          rw [tx_P_3]
          refine wp_X3_25 C dX3_step_51 ?_
          rw [tx_P_u4]
          refine wj_aload_n C 0 dX3_step_54 rfl rfl ?_
          refine wj_iconst (v := 1) C dX3_step_55 (by decide) ?_
          refine wp_X3_19 C dX3_step_56 ?_
          rw [tx_P_u2]
          rw [← ex]
          exact l2 (m + 1) _ (Nat.le_refl _) (tx_b_le hc) rfl (by omega)
        · have hr2 : tx_run (tx_sp f) m (b + 1) = tx_run (tx_sp f) m c := by rw [tx_run_s hlt (tx_spt h30)]; exact hr
          refine wj_aload_n C 0 dX3_step_33 rfl rfl ?_
          refine wj_dup C dX3_step_34 rfl ?_
          refine wg_X3_22 C dX3_step_35 ?_
          rw [tx_P_3]
          refine wj_iconst (v := 1) C dX3_step_38 (by decide) ?_
          refine wj_iadd C dX3_step_39 ?_
          rw [nI_1]
          refine wp_X3_22 C dX3_step_40 ?_
          rw [tx_P_u3]
          refine wj_goto C 8 dX3_step_43 (by decide) ?_
          exact ih (b + 1) (by omega) (by omega) hr2 (by omega)
  refine wj_aload_n C 0 dX3_step_0 rfl rfl ?_
  refine wj_aload_n C 0 dX3_step_1 rfl rfl ?_
  refine wg_X3_25 C dX3_step_2 ?_
  rw [h4]
  refine wp_X3_22 C dX3_step_5 ?_
  rw [tx_P_i h4]
  exact l1 (m + 1) c (Nat.le_refl _) hc rfl (by omega)
theorem c_X3_step_C (l : Launch) (V : wj_V) {σ : wj_St} {f : Nat → Int32} {m c : Nat} (hf : σ 47 = f) (hm : σ 46 1 = nI m) (h120 : m ≤ 120) (hc : c ≤ m) : wj_M l V yX3_step cX3_step 1 none 0 0 [.ref (V.2.2.1 46)] (tx_C f m σ c) (wj_Vd V (tx_C f m σ (tx_e f m c))) := by
  have := c_X3_step l V (σ := tx_C f m σ c) (f := f) (m := m) (c := tx_e f m c) (by rw [tx_C_o (by decide)]; exact hf) (by rw [tx_C_1]; exact hm) h120 (tx_e_le hc) tx_C_4
  rw [tx_C_C] at this
  exact this
set_option maxRecDepth 100000 in
set_option maxHeartbeats 4000000 in
theorem c_X3_isWord (l : Launch) (V : wj_V) {σ : wj_St} {f : Nat → Int32} {m c : Nat} (hf : σ 47 = f) (hm : σ 46 1 = nI m) (h120 : m ≤ 120) (hc : c ≤ m) {q : Nat} (hq : q < 14) : wj_M l V yX3_isWord cX3_isWord 3 (some .boolean) 4 85 [.ref (V.2.2.1 46), .ref (V.2.2.2.1 q)] (tx_C f m σ c) (wj_I V (if tx_w f m q c = true then 1 else 0) (tx_C f m σ c)) := by
  refine wj_ofZ (own := RX3) [some (.ref (V.2.2.1 46)), some (.ref (V.2.2.2.1 q)), none] (by decide) rfl rfl (Nat.le_of_ble_eq_true rfl) (fun X C hR => ?_)
  have hs5 := tx_s5 (f := f) (m := m) (c := c)
  have hE := tx_e_le (f := f) hc
  have hl8 : tx_ln q ≤ 8 := wj_lnb q hq
  have hge := tx_e_ge (f := f) (m := m) (c := c)
  have lp : tx_s f m c = 1 → tx_e f m c - tx_b f m c = tx_ln q → ∀ n k, k ≤ tx_ln q → tx_ln q - k < n → (∀ j, j < k → f (tx_b f m c + j) = tx_ch q j) → wj_J l V X 28 [some (.ref (V.2.2.1 46)), some (.ref (V.2.2.2.1 q)), some (.int (nI k))] [] (tx_C f m σ c) := by
    intro k1 k2 n
    induction n with
    | zero => intro k _ h _; omega
    | succ n ih =>
      intro k hk hlt9 hall
      refine wj_iload_n C 2 dX3_isWord_28 rfl rfl ?_
      refine wj_aload_n C 1 dX3_isWord_29 rfl rfl ?_
      refine wj_cif C (wj_rVs C dX3_isWord_30 km_J0_length_8abf5 kl_X3_133 rfl hq (c_J0_length_8abf5 l V hq) rfl rfl (Nat.le_of_ble_eq_true rfl) (by decide)) ?_
      refine wj_icmp_ge C 63 dX3_isWord_33 (by decide) (fun h33 => ?_) (fun h33 => ?_)
      · have e9 := wj_ge (N := tx_ln q) (by omega) hk h33
        have hyes : tx_w f m q c = true := decide_eq_true ⟨k1, k2, fun j hj => hall j (by omega)⟩
        refine wj_iconst (v := 1) C dX3_isWord_63 (by decide) ?_
        exact hR _ _ _ _ _ dX3_isWord_64 ⟨by decide +kernel, by rw [hyes]; rfl, rfl⟩ wj_rfl
      · have hlt := wj_nge (N := tx_ln q) (by omega) hk h33
        refine wj_aload_n C 0 dX3_isWord_36 rfl rfl ?_
        refine wg_X3_9 C dX3_isWord_37 ?_
        refine wj_aload_n C 0 dX3_isWord_40 rfl rfl ?_
        refine wg_X3_22 C dX3_isWord_41 ?_
        rw [tx_C_3]
        refine wj_iload_n C 2 dX3_isWord_44 rfl rfl ?_
        refine wj_iadd C dX3_isWord_45 ?_
        rw [nI_add]
        refine wj_baldN C dX3_isWord_46 ar_bytes ⟨by omega, by decide⟩ ?_
        rw [tx_C_o (by decide), hf]
        refine wj_aload_n C 1 dX3_isWord_47 rfl rfl ?_
        refine wj_iload_n C 2 dX3_isWord_48 rfl rfl ?_
        refine wj_cif C (wj_rVs C dX3_isWord_49 km_J0_charAt_5068e kl_X3_138 rfl hq (c_J0_charAt_5068e l V hq hlt) rfl rfl (Nat.le_of_ble_eq_true rfl) (by decide)) ?_
        refine wj_icmp_eq C 57 dX3_isWord_52 (by decide) (fun h52 => ?_) (fun h52 => ?_)
        · refine wj_iinc C (v := nI (k + 1)) dX3_isWord_57 rfl (wj_i1 k) (by decide) rfl ?_
          dsimp only [List.set]
          refine wj_goto C 28 dX3_isWord_60 (by decide) ?_
          exact ih (k + 1) (by omega) (by omega) (fun j hj => by
            rcases Nat.eq_or_lt_of_le (Nat.le_of_lt_succ hj) with e | e
            · rw [e]; exact h52
            · exact hall j e)
        · have hno : tx_w f m q c = false := decide_eq_false (fun z => h52 (z.2.2 k hlt))
          refine wj_iconst (v := 0) C dX3_isWord_55 (by decide) ?_
          exact hR _ _ _ _ _ dX3_isWord_56 ⟨by decide +kernel, by rw [hno]; rfl, rfl⟩ wj_rfl
  refine wj_aload_n C 0 dX3_isWord_0 rfl rfl ?_
  refine wg_X3_19 C dX3_isWord_1 ?_
  rw [tx_C_2]
  refine wj_iconst (v := 1) C dX3_isWord_4 (by decide) ?_
  refine wj_icmp_ne C 24 dX3_isWord_5 (by decide) (fun h5 => ?_) (fun h5 => ?_)
  · have hno : tx_w f m q c = false := decide_eq_false (fun z => h5 (by rw [z.1]; rfl))
    refine wj_iconst (v := 0) C dX3_isWord_24 (by decide) ?_
    exact hR _ _ _ _ _ dX3_isWord_25 ⟨by decide +kernel, by rw [hno]; rfl, rfl⟩ wj_rfl
  · have k1 : tx_s f m c = 1 := (nI_eq (a := tx_s f m c) (b := 1) (by omega) (by omega)).mp h5
    refine wj_aload_n C 0 dX3_isWord_8 rfl rfl ?_
    refine wg_X3_25 C dX3_isWord_9 ?_
    rw [tx_C_4]
    refine wj_aload_n C 0 dX3_isWord_12 rfl rfl ?_
    refine wg_X3_22 C dX3_isWord_13 ?_
    rw [tx_C_3]
    refine wj_isub C dX3_isWord_16 ?_
    rw [pk_sub tx_e_ge]
    refine wj_aload_n C 1 dX3_isWord_17 rfl rfl ?_
    refine wj_cif C (wj_rVs C dX3_isWord_18 km_J0_length_8abf5 kl_X3_133 rfl hq (c_J0_length_8abf5 l V hq) rfl rfl (Nat.le_of_ble_eq_true rfl) (by decide)) ?_
    refine wj_icmp_eq C 26 dX3_isWord_21 (by decide) (fun h21 => ?_) (fun h21 => ?_)
    · have k2 : tx_e f m c - tx_b f m c = tx_ln q := (nI_eq (by omega) (by omega)).mp h21
      refine wj_iconst (v := 0) C dX3_isWord_26 (by decide) ?_
      refine wj_istore_n C 2 dX3_isWord_27 rfl (by decide) rfl ?_
      dsimp only [List.set]
      exact lp k1 k2 9 0 (Nat.zero_le _) (by omega) (fun j hj => absurd hj (by omega))
    · have hno : tx_w f m q c = false := decide_eq_false (fun z => h21 (by rw [z.2.1]))
      refine wj_iconst (v := 0) C dX3_isWord_24 (by decide) ?_
      exact hR _ _ _ _ _ dX3_isWord_25 ⟨by decide +kernel, by rw [hno]; rfl, rfl⟩ wj_rfl
set_option maxRecDepth 100000 in
set_option maxHeartbeats 4000000 in
theorem c_X3_numberTold (l : Launch) (V : wj_V) {σ : wj_St} {f : Nat → Int32} {m c : Nat} (hf : σ 47 = f) (hm : σ 46 1 = nI m) (h120 : m ≤ 120) (hc : c ≤ m) (hs : tx_s f m c = 2) : wj_M l V yX3_numberTold cX3_numberTold 3 (some .int) 0 0 [.ref (V.2.2.1 46)] (tx_C f m σ c) (wj_QI V (fun r u => u = (tx_C f m σ c) ∧ ∃ x, r = nI x ∧ x ≤ 999999 ∧ min 100000 x = tx_v f m c)) := by
  refine wj_ofI (own := RX3) [some (.ref (V.2.2.1 46)), none, none] (by decide) rfl rfl (Nat.le_of_ble_eq_true rfl) (fun X C hR => ?_)
  have hE := tx_e_le (f := f) hc
  have hge := tx_e_ge (f := f) (m := m) (c := c)
  have lp : ∀ n i x, tx_b f m c ≤ i → i ≤ tx_e f m c → x ≤ 999999 → m - i < n → min 100000 x = tx_nv f (tx_b f m c) (i - tx_b f m c) → wj_J l V X 7 [some (.ref (V.2.2.1 46)), some (.int (nI x)), some (.int (nI i))] [] (tx_C f m σ c) := by
    intro n
    induction n with
    | zero => intro i x _ _ _ h; omega
    | succ n ih =>
      intro i x hib hie hx9 hlt9 hv
      refine wj_iload_n C 2 dX3_numberTold_7 rfl rfl ?_
      refine wj_aload_n C 0 dX3_numberTold_8 rfl rfl ?_
      refine wg_X3_25 C dX3_numberTold_9 ?_
      rw [tx_C_4]
      refine wj_icmp_ge C 50 dX3_numberTold_12 (by decide) (fun h12 => ?_) (fun h12 => ?_)
      · have e9 : i = tx_e f m c := wj_ge (by omega) hie h12
        have hfin : min 100000 x = tx_v f m c := by rw [tx_v, if_pos hs, ← e9]; exact hv
        refine wj_iload_n C 1 dX3_numberTold_50 rfl rfl ?_
        exact hR _ _ _ _ _ dX3_numberTold_51 ⟨rfl, x, rfl, by omega, hfin⟩ wj_rfl
      · have hlt := wj_nge (N := tx_e f m c) (by omega) hie h12
        refine wj_iload_n C 2 dX3_numberTold_15 rfl rfl ?_
        refine wj_aload_n C 0 dX3_numberTold_16 rfl rfl ?_
        refine wg_X3_15 C dX3_numberTold_17 ?_
        rw [tx_C_1, hm]
        refine wj_icmp_ge C 50 dX3_numberTold_20 (by decide) (fun h20 => ?_) (fun h20 => ?_)
        · exact absurd h20 (nI_ge (by omega) (by omega))
        · refine wj_iload_n C 1 dX3_numberTold_23 rfl rfl ?_
          refine wj_ldc C dX3_numberTold_24 kc_X3_118 ?_
          refine wj_icmp_gt C 50 dX3_numberTold_26 (by decide) (fun h26 => ?_) (fun h26 => ?_)
          · have hbig : 99999 < x := (nI_ltI (a := 99999) (b := x) (by omega) (by omega)).mp h26
            have hfin : min 100000 x = tx_v f m c := by
              have h1 := tx_nv_top (f := f) (b := tx_b f m c) (n := i - tx_b f m c) (by omega) (tx_e f m c - i)
              rw [show i - tx_b f m c + (tx_e f m c - i) = tx_e f m c - tx_b f m c by omega] at h1
              rw [tx_v, if_pos hs, h1]; omega
            refine wj_iload_n C 1 dX3_numberTold_50 rfl rfl ?_
            exact hR _ _ _ _ _ dX3_numberTold_51 ⟨rfl, x, rfl, by omega, hfin⟩ wj_rfl
          · have hsm : x ≤ 99999 := (nI_leI (a := x) (b := 99999) (by omega) (by omega)).mp (Int32.not_lt.mp h26)
            obtain ⟨d, hd1, hd2, hd⟩ := tx_dig (f := f) hs hib hlt
            refine wj_bipush (v := 10) C dX3_numberTold_29 (by decide) ?_
            refine wj_iload_n C 1 dX3_numberTold_31 rfl rfl ?_
            refine wj_imul C dX3_numberTold_32 ?_
            rw [show (10 : Int32) = nI 10 from rfl, pk_mul]
            refine wj_aload_n C 0 dX3_numberTold_33 rfl rfl ?_
            refine wg_X3_9 C dX3_numberTold_34 ?_
            refine wj_iload_n C 2 dX3_numberTold_37 rfl rfl ?_
            refine wj_baldN C dX3_numberTold_38 ar_bytes ⟨by omega, by decide⟩ ?_
            rw [tx_C_o (by decide), hf, hd]
            refine wj_iadd C dX3_numberTold_39 ?_
            rw [nI_add]
            refine wj_bipush (v := 48) C dX3_numberTold_40 (by decide) ?_
            refine wj_isub C dX3_numberTold_42 ?_
            rw [show (48 : Int32) = nI 48 from rfl, pk_sub (by omega)]
            refine wj_istore_n C 1 dX3_numberTold_43 rfl (by decide) rfl ?_
            dsimp only [List.set]
            refine wj_iinc C (v := nI (i + 1)) dX3_numberTold_44 rfl (wj_i1 i) (by decide) rfl ?_
            dsimp only [List.set]
            refine wj_goto C 7 dX3_numberTold_47 (by decide) ?_
            exact ih (i + 1) (10 * x + d - 48) (by omega) (by omega) (by omega) (by omega) (by
              rw [show i + 1 - tx_b f m c = (i - tx_b f m c) + 1 by omega, tx_nv, ← hv, show tx_b f m c + (i - tx_b f m c) = i by omega, hd, nI_clamp (by omega)]
              omega)
  refine wj_iconst (v := 0) C dX3_numberTold_0 (by decide) ?_
  refine wj_istore_n C 1 dX3_numberTold_1 rfl (by decide) rfl ?_
  dsimp only [List.set]
  refine wj_aload_n C 0 dX3_numberTold_2 rfl rfl ?_
  refine wg_X3_22 C dX3_numberTold_3 ?_
  rw [tx_C_3]
  refine wj_istore_n C 2 dX3_numberTold_6 rfl (by decide) rfl ?_
  dsimp only [List.set]
  exact lp (m + 1) (tx_b f m c) 0 (Nat.le_refl _) hge (by omega) (by omega) (by rw [Nat.sub_self, tx_nv]; rfl)
set_option maxRecDepth 100000 in
set_option maxHeartbeats 4000000 in
theorem c_X3_readNumber_l (l : Launch) (V : wj_V) {σ : wj_St} {f : Nat → Int32} {m c : Nat} (hf : σ 47 = f) (hm : σ 46 1 = nI m) (h120 : m ≤ 120) (hc : c ≤ m) {lo hi d v : Nat} (h9 : hi ≤ 65535) (h8 : lo ≤ hi) (hn : tx_num f m lo hi c = .inl d) : wj_M l V yX3_readNumber cX3_readNumber 4 (some .int) 1 22 [.ref (V.2.2.1 46), .int (nI lo), .int (nI hi)] (tx_C f m σ c) (wj_I V (-1) (tx_C f m σ c)) := by
  refine wj_ofI (own := RX3) [some (.ref (V.2.2.1 46)), some (.int (nI lo)), some (.int (nI hi)), none] (by decide) rfl rfl (Nat.le_of_ble_eq_true rfl) (fun X C hR => ?_)
  have hs5 := tx_s5 (f := f) (m := m) (c := c)
  have hle := tx_v_le (f := f) (m := m) (c := c)
  refine wj_aload_n C 0 dX3_readNumber_0 rfl rfl ?_
  refine wg_X3_19 C dX3_readNumber_1 ?_
  rw [tx_C_2]
  refine wj_iconst (v := 2) C dX3_readNumber_4 (by decide) ?_
  refine wj_icmp_eq C 10 dX3_readNumber_5 (by decide) (fun h5 => ?_) (fun h5 => ?_)
  · have hs : tx_s f m c = 2 := (nI_eq (a := tx_s f m c) (b := 2) (by omega) (by omega)).mp h5
    refine wj_aload_n C 0 dX3_readNumber_10 rfl rfl ?_
    refine wj_ci C (wj_rV C dX3_readNumber_11 km_X3_numberTold kl_X3_111 is_X3 rfl rfl (c_X3_numberTold l V hf hm h120 hc hs) rfl rfl (Nat.le_of_ble_eq_true rfl) (by decide)) (fun r9 u9 hp9 => ?_)
    obtain ⟨rfl, x, rfl, hx, hxv⟩ := hp9
    refine wj_istore_n C 3 dX3_readNumber_14 rfl (by decide) rfl ?_
    dsimp only [List.set]
    refine wj_iload_n C 3 dX3_readNumber_15 rfl rfl ?_
    refine wj_iload_n C 1 dX3_readNumber_16 rfl rfl ?_
    refine wj_iload_n C 2 dX3_readNumber_17 rfl rfl ?_
    refine wj_cif C (wj_rSN C dX3_readNumber_18 km_X4_isIn kl_X3_114 (c_X4_isIn l V) rfl rfl (Nat.le_of_ble_eq_true rfl) (by decide)) ?_
    refine wj_if_ne C 26 dX3_readNumber_21 (by decide) (fun h21 => ?_) (fun h21 => ?_)
    · exact absurd hn (by have hz := wj_c1 h21; have z1 := (nI_leI (by omega) (by omega)).mp hz.1; have z2 := (nI_leI (by omega) (by omega)).mp hz.2; rw [tx_num, if_pos ⟨hs, by omega, by omega⟩]; exact fun z => by cases z)
    · refine wj_iconst (v := -1) C dX3_readNumber_24 (by decide) ?_
      exact hR _ _ _ _ _ dX3_readNumber_25 ⟨rfl, rfl⟩ wj_rfl
  · refine wj_iconst (v := -1) C dX3_readNumber_8 (by decide) ?_
    exact hR _ _ _ _ _ dX3_readNumber_9 ⟨rfl, rfl⟩ wj_rfl
set_option maxRecDepth 100000 in
set_option maxHeartbeats 4000000 in
theorem c_X3_readNumber_r (l : Launch) (V : wj_V) {σ : wj_St} {f : Nat → Int32} {m c : Nat} (hf : σ 47 = f) (hm : σ 46 1 = nI m) (h120 : m ≤ 120) (hc : c ≤ m) {lo hi d v : Nat} (h9 : hi ≤ 65535) (h8 : lo ≤ hi) (hn : tx_num f m lo hi c = .inr (v, d)) : wj_M l V yX3_readNumber cX3_readNumber 4 (some .int) 1 22 [.ref (V.2.2.1 46), .int (nI lo), .int (nI hi)] (tx_C f m σ c) (wj_I V (nI v) (tx_C f m σ d)) := by
  refine wj_ofI (own := RX3) [some (.ref (V.2.2.1 46)), some (.int (nI lo)), some (.int (nI hi)), none] (by decide) rfl rfl (Nat.le_of_ble_eq_true rfl) (fun X C hR => ?_)
  have hs5 := tx_s5 (f := f) (m := m) (c := c)
  have hn2 : tx_s f m c = 2 ∧ lo ≤ tx_v f m c ∧ tx_v f m c ≤ hi := by
    rw [tx_num] at hn
    split at hn
    · assumption
    · cases hn
  have hn3 : v = tx_v f m c ∧ d = tx_e f m c := by
    rw [tx_num, if_pos hn2] at hn
    cases hn
    exact ⟨rfl, rfl⟩
  refine wj_aload_n C 0 dX3_readNumber_0 rfl rfl ?_
  refine wg_X3_19 C dX3_readNumber_1 ?_
  rw [tx_C_2]
  refine wj_iconst (v := 2) C dX3_readNumber_4 (by decide) ?_
  refine wj_icmp_eq C 10 dX3_readNumber_5 (by decide) (fun h5 => ?_) (fun h5 => ?_)
  · have hs := hn2.1
    refine wj_aload_n C 0 dX3_readNumber_10 rfl rfl ?_
    refine wj_ci C (wj_rV C dX3_readNumber_11 km_X3_numberTold kl_X3_111 is_X3 rfl rfl (c_X3_numberTold l V hf hm h120 hc hs) rfl rfl (Nat.le_of_ble_eq_true rfl) (by decide)) (fun r9 u9 hp9 => ?_)
    obtain ⟨rfl, x, rfl, hx, hxv⟩ := hp9
    refine wj_istore_n C 3 dX3_readNumber_14 rfl (by decide) rfl ?_
    dsimp only [List.set]
    refine wj_iload_n C 3 dX3_readNumber_15 rfl rfl ?_
    refine wj_iload_n C 1 dX3_readNumber_16 rfl rfl ?_
    refine wj_iload_n C 2 dX3_readNumber_17 rfl rfl ?_
    refine wj_cif C (wj_rSN C dX3_readNumber_18 km_X4_isIn kl_X3_114 (c_X4_isIn l V) rfl rfl (Nat.le_of_ble_eq_true rfl) (by decide)) ?_
    refine wj_if_ne C 26 dX3_readNumber_21 (by decide) (fun h21 => ?_) (fun h21 => ?_)
    · refine wj_aload_n C 0 dX3_readNumber_26 rfl rfl ?_
      refine wj_cvf C (wj_rV C dX3_readNumber_27 km_X3_step kl_X3_28 is_X3 rfl rfl (c_X3_step_C l V hf hm h120 hc) rfl rfl (Nat.le_of_ble_eq_true rfl) (by decide)) ?_
      refine wj_iload_n C 3 dX3_readNumber_30 rfl rfl ?_
      exact hR _ _ _ _ _ dX3_readNumber_31 ⟨by rw [hn3.1]; exact congrArg nI (by omega), by rw [hn3.2]⟩ wj_rfl
    · exact absurd (show (if nI lo ≤ nI x ∧ nI x ≤ nI hi then (1 : Int32) else 0) = 1 from if_pos ⟨nI_le (by omega) (by omega), nI_le (by omega) (by omega)⟩) (by rw [h21]; decide)
  · exact absurd (show nI (tx_s f m c) = 2 by rw [hn2.1]; rfl) h5

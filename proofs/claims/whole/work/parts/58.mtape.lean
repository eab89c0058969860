/-! the reference's tape as it stands: b where the token begins, e where it ends, s its sort, v its value, w whether it is wrong, i how many items, n slips then, h the items -/
def ty_P (σ : wj_St) (b : Int32) (e : Nat) (s v w : Int32) (i n : Nat) (h : Nat → Int32) : wj_St := wj_r (wj_r σ 54 h) 48 (fun j => if j = 8 then b else if j = 9 then nI e else if j = 10 then s else if j = 11 then v else if j = 12 then w else if j = 15 then nI i else if j = 16 then nI n else σ 48 j)
theorem ty_7 {σ : wj_St} {b s v w : Int32} {e i n : Nat} {h : Nat → Int32} : ty_P σ b e s v w i n h 48 7 = σ 48 7 := by simp [ty_P, wj_r]
theorem ty_o {σ : wj_St} {b s v w : Int32} {e i n : Nat} {h : Nat → Int32} {q : Nat} (h1 : q ≠ 48) (h2 : q ≠ 54) : ty_P σ b e s v w i n h q = σ q := by rw [ty_P, wj_r_ne h1, wj_r_ne h2]
theorem ty_54 {σ : wj_St} {b s v w : Int32} {e i n : Nat} {h : Nat → Int32} : ty_P σ b e s v w i n h 54 = h := by rw [ty_P, wj_r_ne (by decide), wj_r_same]
theorem ty_8 {σ : wj_St} {b s v w : Int32} {e i n : Nat} {h : Nat → Int32} : ty_P σ b e s v w i n h 48 8 = b := by simp [ty_P, wj_r]
theorem ty_9 {σ : wj_St} {b s v w : Int32} {e i n : Nat} {h : Nat → Int32} : ty_P σ b e s v w i n h 48 9 = nI e := by simp [ty_P, wj_r]
theorem ty_10 {σ : wj_St} {b s v w : Int32} {e i n : Nat} {h : Nat → Int32} : ty_P σ b e s v w i n h 48 10 = s := by simp [ty_P, wj_r]
theorem ty_11 {σ : wj_St} {b s v w : Int32} {e i n : Nat} {h : Nat → Int32} : ty_P σ b e s v w i n h 48 11 = v := by simp [ty_P, wj_r]
theorem ty_12 {σ : wj_St} {b s v w : Int32} {e i n : Nat} {h : Nat → Int32} : ty_P σ b e s v w i n h 48 12 = w := by simp [ty_P, wj_r]
theorem ty_15 {σ : wj_St} {b s v w : Int32} {e i n : Nat} {h : Nat → Int32} : ty_P σ b e s v w i n h 48 15 = nI i := by simp [ty_P, wj_r]
theorem ty_16 {σ : wj_St} {b s v w : Int32} {e i n : Nat} {h : Nat → Int32} : ty_P σ b e s v w i n h 48 16 = nI n := by simp [ty_P, wj_r]
theorem ty_u8 {σ : wj_St} {b s v w : Int32} {e i n : Nat} {h : Nat → Int32} {x : Int32} : wj_u (ty_P σ b e s v w i n h) 48 8 x = ty_P σ x e s v w i n h := by
  rw [ty_P, wj_uu, ty_P]
  congr 1
  funext j
  simp only [upd]
  by_cases q : j = 8
  · simp [q]
  · simp [q]
theorem ty_u9 {σ : wj_St} {b s v w : Int32} {e i n : Nat} {h : Nat → Int32} {x : Nat} : wj_u (ty_P σ b e s v w i n h) 48 9 (nI x) = ty_P σ b x s v w i n h := by
  rw [ty_P, wj_uu, ty_P]
  congr 1
  funext j
  simp only [upd]
  by_cases q : j = 9
  · simp [q]
  · simp [q]
theorem ty_u10 {σ : wj_St} {b s v w : Int32} {e i n : Nat} {h : Nat → Int32} {x : Int32} : wj_u (ty_P σ b e s v w i n h) 48 10 x = ty_P σ b e x v w i n h := by
  rw [ty_P, wj_uu, ty_P]
  congr 1
  funext j
  simp only [upd]
  by_cases q : j = 10
  · simp [q]
  · simp [q]
theorem ty_u11 {σ : wj_St} {b s v w : Int32} {e i n : Nat} {h : Nat → Int32} {x : Int32} : wj_u (ty_P σ b e s v w i n h) 48 11 x = ty_P σ b e s x w i n h := by
  rw [ty_P, wj_uu, ty_P]
  congr 1
  funext j
  simp only [upd]
  by_cases q : j = 11
  · simp [q]
  · simp [q]
theorem ty_u12 {σ : wj_St} {b s v w : Int32} {e i n : Nat} {h : Nat → Int32} {x : Int32} : wj_u (ty_P σ b e s v w i n h) 48 12 x = ty_P σ b e s v x i n h := by
  rw [ty_P, wj_uu, ty_P]
  congr 1
  funext j
  simp only [upd]
  by_cases q : j = 12
  · simp [q]
  · simp [q]
theorem ty_u15 {σ : wj_St} {b s v w : Int32} {e i n : Nat} {h : Nat → Int32} {x : Nat} : wj_u (ty_P σ b e s v w i n h) 48 15 (nI x) = ty_P σ b e s v w x n h := by
  rw [ty_P, wj_uu, ty_P]
  congr 1
  funext j
  simp only [upd]
  by_cases q : j = 15
  · simp [q]
  · simp [q]
theorem ty_u16 {σ : wj_St} {b s v w : Int32} {e i n : Nat} {h : Nat → Int32} {x : Nat} : wj_u (ty_P σ b e s v w i n h) 48 16 (nI x) = ty_P σ b e s v w i x h := by
  rw [ty_P, wj_uu, ty_P]
  congr 1
  funext j
  simp only [upd]
  by_cases q : j = 16
  · simp [q]
  · simp [q]
theorem ty_u54 {σ : wj_St} {b s v w : Int32} {e i n : Nat} {h : Nat → Int32} {j : Nat} {x : Int32} : wj_u (ty_P σ b e s v w i n h) 54 j x = ty_P σ b e s v w i n (upd h j x) := by
  funext q
  by_cases e1 : q = 54
  · subst e1
    rw [wj_u_same, ty_54, ty_54]
  · rw [wj_u_ne e1]
    by_cases e2 : q = 48
    · subst e2
      funext k
      simp [ty_P, wj_r]
    · rw [ty_o e2 e1, ty_o e2 e1]
theorem ty_ty {σ : wj_St} {b s v w : Int32} {e i n : Nat} {h : Nat → Int32} {b2 s2 v2 w2 : Int32} {e2 i2 n2 : Nat} {h2 : Nat → Int32} : ty_P (ty_P σ b e s v w i n h) b2 e2 s2 v2 w2 i2 n2 h2 = ty_P σ b2 e2 s2 v2 w2 i2 n2 h2 := by
  funext q
  by_cases e1 : q = 54
  · subst e1; rw [ty_54, ty_54]
  · by_cases e2 : q = 48
    · subst e2
      funext j
      simp only [ty_P, wj_r_same]
      by_cases q8 : j = 8
      · simp [q8]
      · by_cases q9 : j = 9
        · simp [q9]
        · by_cases q10 : j = 10
          · simp [q10]
          · by_cases q11 : j = 11
            · simp [q11]
            · by_cases q12 : j = 12
              · simp [q12]
              · by_cases q15 : j = 15
                · simp [q15]
                · by_cases q16 : j = 16
                  · simp [q16]
                  · simp [q8, q9, q10, q11, q12, q15, q16]
    · rw [ty_o e2 e1, ty_o e2 e1, ty_o e2 e1]
/-- the reference's tape behind c -/
def tm (f : Nat → Int32) (m : Nat) (σ : wj_St) (c : Nat) (w : Int32) (i n : Nat) (h : Nat → Int32) : wj_St := ty_P σ (nI (tx_b f m c)) (tx_e f m c) (nI (min (tx_s f m c) 3)) (nI (tx_v f m c)) w i n h
theorem tm_7 {f : Nat → Int32} {m c : Nat} {σ : wj_St} {w : Int32} {i n : Nat} {h : Nat → Int32} : tm f m σ c w i n h 48 7 = σ 48 7 := ty_7
theorem tm_8 {f : Nat → Int32} {m c : Nat} {σ : wj_St} {w : Int32} {i n : Nat} {h : Nat → Int32} : tm f m σ c w i n h 48 8 = nI (tx_b f m c) := ty_8
theorem tm_9 {f : Nat → Int32} {m c : Nat} {σ : wj_St} {w : Int32} {i n : Nat} {h : Nat → Int32} : tm f m σ c w i n h 48 9 = nI (tx_e f m c) := ty_9
theorem tm_10 {f : Nat → Int32} {m c : Nat} {σ : wj_St} {w : Int32} {i n : Nat} {h : Nat → Int32} : tm f m σ c w i n h 48 10 = nI (min (tx_s f m c) 3) := ty_10
theorem tm_11 {f : Nat → Int32} {m c : Nat} {σ : wj_St} {w : Int32} {i n : Nat} {h : Nat → Int32} : tm f m σ c w i n h 48 11 = nI (tx_v f m c) := ty_11
theorem tm_12 {f : Nat → Int32} {m c : Nat} {σ : wj_St} {w : Int32} {i n : Nat} {h : Nat → Int32} : tm f m σ c w i n h 48 12 = w := ty_12
theorem tm_15 {f : Nat → Int32} {m c : Nat} {σ : wj_St} {w : Int32} {i n : Nat} {h : Nat → Int32} : tm f m σ c w i n h 48 15 = nI i := ty_15
theorem tm_16 {f : Nat → Int32} {m c : Nat} {σ : wj_St} {w : Int32} {i n : Nat} {h : Nat → Int32} : tm f m σ c w i n h 48 16 = nI n := ty_16
theorem tm_u12 {f : Nat → Int32} {m c : Nat} {σ : wj_St} {w : Int32} {i n : Nat} {h : Nat → Int32} {x : Int32} : wj_u (tm f m σ c w i n h) 48 12 x = tm f m σ c x i n h := ty_u12
theorem tm_u15 {f : Nat → Int32} {m c : Nat} {σ : wj_St} {w : Int32} {i n : Nat} {h : Nat → Int32} {x : Nat} : wj_u (tm f m σ c w i n h) 48 15 (nI x) = tm f m σ c w x n h := ty_u15
theorem tm_u16 {f : Nat → Int32} {m c : Nat} {σ : wj_St} {w : Int32} {i n : Nat} {h : Nat → Int32} {x : Nat} : wj_u (tm f m σ c w i n h) 48 16 (nI x) = tm f m σ c w i x h := ty_u16
theorem tm_u54 {f : Nat → Int32} {m c : Nat} {σ : wj_St} {w : Int32} {i n : Nat} {h : Nat → Int32} {j : Nat} {x : Int32} : wj_u (tm f m σ c w i n h) 54 j x = tm f m σ c w i n (upd h j x) := ty_u54
theorem tm_o {f : Nat → Int32} {m c : Nat} {σ : wj_St} {w : Int32} {i n : Nat} {h : Nat → Int32} {q : Nat} (h1 : q ≠ 48) (h2 : q ≠ 54) : tm f m σ c w i n h q = σ q := ty_o h1 h2
theorem tm_54 {f : Nat → Int32} {m c : Nat} {σ : wj_St} {w : Int32} {i n : Nat} {h : Nat → Int32} : tm f m σ c w i n h 54 = h := ty_54
/-- the reference's bytes g and the class's f -/
def tx_tg (g f : Nat → Int32) (m : Nat) : Prop := ∀ k, k < m → (∃ t, t < 128 ∧ g k = nI t ∧ f k = nI t) ∨ (∃ t, 128 ≤ t ∧ t < 256 ∧ g k = nI t ∧ f k < 0)
def tx_tb (g : Nat → Int32) (m k : Nat) : Int32 := if k < m then g k else -1
theorem tb_ng {g f : Nat → Int32} {m k : Nat} (h : tx_tg g f m) : tx_tb g m k < 0 ↔ m ≤ k := by
  rw [tx_tb]
  by_cases hk : k < m
  · rw [if_pos hk]
    refine ⟨fun z => ?_, fun z => absurd hk (by omega)⟩
    rcases h k hk with ⟨t, h1, h2, h3⟩ | ⟨t, h1, h2, h3, h4⟩
    · rw [h2] at z; exact absurd z (nI_pos (by omega))
    · rw [h3] at z; exact absurd z (nI_pos (by omega))
  · rw [if_neg hk]
    exact ⟨fun _ => by omega, fun _ => by decide⟩
theorem tb_in {g f : Nat → Int32} {m k a b : Nat} (h : tx_tg g f m) (ha : a < 128) (hb : b < 128) : (nI a ≤ tx_tb g m k ∧ tx_tb g m k ≤ nI b) ↔ k < m ∧ nI a ≤ f k ∧ f k ≤ nI b := by
  rw [tx_tb]
  by_cases hk : k < m
  · rw [if_pos hk]
    rcases h k hk with ⟨t, h1, h2, h3⟩ | ⟨t, h1, h2, h3, h4⟩
    · rw [h2, h3]
      exact ⟨fun z => ⟨hk, z⟩, fun z => z.2⟩
    · rw [h3]
      refine ⟨fun z => ?_, fun z => ?_⟩
      · have := (nI_leI (by omega) (by omega)).mp z.2
        omega
      · exfalso
        have z1 := Int32.le_iff_toInt_le.mp z.2.1
        have z2 := Int32.lt_iff_toInt_lt.mp h4
        rw [Int32.toInt_zero] at z2
        rw [nI_toInt (by omega)] at z1
        omega
  · rw [if_neg hk]
    refine ⟨fun z => ?_, fun z => absurd z.1 hk⟩
    exfalso
    have z1 := Int32.le_iff_toInt_le.mp z.1
    rw [nI_toInt (by omega), show (-1 : Int32).toInt = -1 by decide] at z1
    omega
theorem tb_al {g f : Nat → Int32} {m k : Nat} (h : tx_tg g f m) : (97 ≤ tx_tb g m k ∧ tx_tb g m k ≤ 122) ↔ k < m ∧ tx_al f k = true := by
  have := tb_in (k := k) (a := 97) (b := 122) h (by decide) (by decide)
  rw [tx_al, decide_eq_true_iff]
  exact this
theorem tb_dg {g f : Nat → Int32} {m k : Nat} (h : tx_tg g f m) : (48 ≤ tx_tb g m k ∧ tx_tb g m k ≤ 57) ↔ k < m ∧ tx_dg f k = true := by
  have := tb_in (k := k) (a := 48) (b := 57) h (by decide) (by decide)
  rw [tx_dg, decide_eq_true_iff]
  exact this
theorem i32_sq {x y : Int32} : x = y ↔ y ≤ x ∧ x ≤ y := by
  constructor
  · rintro rfl; exact ⟨Int32.le_refl _, Int32.le_refl _⟩
  · rintro ⟨h1, h2⟩; exact Int32.le_antisymm h2 h1
theorem tb_is {g f : Nat → Int32} {m k a : Nat} (h : tx_tg g f m) (ha : a < 128) : tx_tb g m k = nI a ↔ k < m ∧ f k = nI a := by
  rw [i32_sq, tb_in h ha ha, i32_sq (x := f k)]
theorem tb_sp {g f : Nat → Int32} {m k : Nat} (h : tx_tg g f m) : tx_tb g m k = 32 ↔ k < m ∧ tx_sp f k = true := by
  have := tb_is (k := k) (a := 32) h (by decide)
  rw [tx_sp, decide_eq_true_iff]
  exact this
theorem tb_d {g f : Nat → Int32} {m k : Nat} (h : tx_tg g f m) (hk : k < m) (hd : tx_dg f k = true) : ∃ d, 48 ≤ d ∧ d ≤ 57 ∧ tx_tb g m k = nI d ∧ f k = nI d := by
  have q := (tb_dg h).mpr ⟨hk, hd⟩
  rw [tx_tb, if_pos hk] at q ⊢
  rcases h k hk with ⟨t, h1, h2, h3⟩ | ⟨t, h1, h2, h3, h4⟩
  · rw [h2] at q ⊢
    have q1 := (nI_leI (a := 48) (b := t) (by omega) (by omega)).mp q.1
    have q2 := (nI_leI (a := t) (b := 57) (by omega) (by omega)).mp q.2
    exact ⟨t, q1, q2, rfl, h3⟩
  · rw [h3] at q
    have q2 := (nI_leI (a := t) (b := 57) (by omega) (by omega)).mp q.2
    omega
/-- in a word the bytes are the same -/
theorem tb_w {g f : Nat → Int32} {m c k : Nat} (h : tx_tg g f m) (hc : c ≤ m) (hs : tx_s f m c = 1) (h1 : tx_b f m c ≤ k) (h2 : k < tx_e f m c) : g k = f k := by
  have hk : k < m := Nat.lt_of_lt_of_le h2 (tx_e_le hc)
  have ha : tx_al f k = true := by
    rw [tx_s] at hs
    rw [tx_e] at h2
    split at hs
    · rename_i hb
      rw [if_pos hb] at h2
      split at hs
      · rename_i ha
        rw [if_pos ha] at h2
        exact tx_run_all h1 h2
      · split at hs
        · omega
        · split at hs <;> omega
    · omega
  rcases h k hk with ⟨t, h1, h2, h3⟩ | ⟨t, h1, h2, h3, h4⟩
  · rw [h2, h3]
  · exfalso
    have := (of_decide_eq_true ha).1
    have z1 := Int32.le_iff_toInt_le.mp this
    have z2 := Int32.lt_iff_toInt_lt.mp h4
    simp at z1 z2
    omega
set_option maxRecDepth 100000 in
set_option maxHeartbeats 4000000 in
theorem c_X5_byteAt (l : Launch) (V : wj_V) {σ : wj_St} {m k : Nat} (hm : σ 48 7 = nI m) (h120 : m ≤ 120) (hk : k < 1000) : wj_M l V yX5_byteAt cX5_byteAt 2 (some .int) 0 0 [.ref (V.2.2.1 48), .int (nI k)] σ (wj_I V (tx_tb (σ 53) m k) σ) := by
  refine wj_ofI (own := RX5) [some (.ref (V.2.2.1 48)), some (.int (nI k))] (by decide) rfl rfl (Nat.le_of_ble_eq_true rfl) (fun X C hR => ?_)
  refine wj_iload_n C 1 dX5_byteAt_0 rfl rfl ?_
  refine wj_aload_n C 0 dX5_byteAt_1 rfl rfl ?_
  refine wg_X5_229 C dX5_byteAt_2 ?_
  rw [hm]
  refine wj_icmp_ge C 17 dX5_byteAt_5 (by decide) (fun h5 => ?_) (fun h5 => ?_)
  · have hx := (nI_leI (a := m) (b := k) (by omega) (by omega)).mp h5
    refine wj_iconst (v := -1) C dX5_byteAt_17 (by decide) ?_
    exact hR _ _ _ _ _ dX5_byteAt_18 ⟨(by first | (rw [tx_tb, if_pos hx]; done) | rw [tx_tb, if_neg (by omega)]), rfl⟩ wj_rfl
  · have hx : k < m := by
      rcases Nat.lt_or_ge k m with q | q
      · exact q
      · exact absurd (nI_le q (by omega)) h5
    refine wj_aload_n C 0 dX5_byteAt_8 rfl rfl ?_
    refine wg_X5_22 C dX5_byteAt_9 ?_
    refine wj_iload_n C 1 dX5_byteAt_12 rfl rfl ?_
    refine wj_ialdN C dX5_byteAt_13 ar_mtape ⟨by omega, by decide⟩ ?_
    refine wj_goto C 18 dX5_byteAt_14 (by decide) ?_
    exact hR _ _ _ _ _ dX5_byteAt_18 ⟨(by first | (rw [tx_tb, if_pos hx]; done) | rw [tx_tb, if_neg (by omega)]), rfl⟩ wj_rfl
theorem ty_min {x : Nat} (h : x < 2 ^ 31) : (if nI x < (100000 : Int32) then nI x else 100000) = nI (min 100000 x) := by
  by_cases q : x < 100000
  · rw [if_pos (show nI x < (100000 : Int32) from nI_lt (a := x) (b := 100000) q (by decide)), Nat.min_eq_right (by omega)]
  · rw [if_neg (show ¬ nI x < (100000 : Int32) from nI_nlt (a := x) (b := 100000) (by omega) (by omega)), Nat.min_eq_left (by omega)]
    rfl
set_option maxRecDepth 100000 in
set_option maxHeartbeats 4000000 in
theorem c_X5_token (l : Launch) (V : wj_V) {σ : wj_St} {f g : Nat → Int32} {m c : Nat} (hg : σ 53 = g) (hm : σ 48 7 = nI m) (h120 : m ≤ 120) (ht : tx_tg g f m) {b0 s0 v0 w : Int32} {i n : Nat} {h : Nat → Int32} (hc : c ≤ m) : wj_M l V yX5_token cX5_token 2 none 1 22 [.ref (V.2.2.1 48)] (ty_P σ b0 c s0 v0 w i n h) (wj_Vd V (tm f m σ c w i n h)) := by
  refine wj_ofV (own := RX5) [some (.ref (V.2.2.1 48)), none] (by decide) rfl rfl (Nat.le_of_ble_eq_true rfl) (fun X C hR => ?_)
  have hB := tx_b_le (f := f) hc
  have l2 : tx_s f m c = 1 → tx_e f m c = tx_run (tx_al f) m (tx_b f m c) → ∀ j1 n2 e, tx_b f m c ≤ e → e ≤ m → tx_run (tx_al f) m e = tx_run (tx_al f) m (tx_b f m c) → m - e < n2 → wj_J l V X 84 [some (.ref (V.2.2.1 48)), j1] [] (ty_P σ (nI (tx_b f m c)) e 1 0 w i n h) := by
    intro k1 k2 j1 n2
    induction n2 with
    | zero => intro e _ _ _ h; omega
    | succ n2 ih =>
      intro e hlo hle hr hlt9
      refine wj_aload_n C 0 dX5_token_84 rfl rfl ?_
      refine wj_aload_n C 0 dX5_token_85 rfl rfl ?_
      refine wg_X5_233 C dX5_token_86 ?_
      rw [ty_9]
      refine wj_cif C (wj_rV C dX5_token_89 km_X5_byteAt kl_X5_239 is_X5 rfl rfl (c_X5_byteAt l V (k := e) (by rw [ty_7]; exact hm) h120 (by omega)) rfl rfl (Nat.le_of_ble_eq_true rfl) (by decide)) ?_
      rw [ty_o (by decide) (by decide), hg]
      refine wj_bipush (v := 97) C dX5_token_92 (by decide) ?_
      refine wj_bipush (v := 122) C dX5_token_94 (by decide) ?_
      refine wj_cif C (wj_rS C dX5_token_96 km_X5_within kl_X5_70 (c_X5_within l V) rfl rfl (Nat.le_of_ble_eq_true rfl) (by decide)) ?_
      refine wj_if_eq C 205 dX5_token_99 (by decide) (fun h99 => ?_) (fun h99 => ?_)
      · have ex : tx_run (tx_al f) m (tx_b f m c) = e := by
          rw [← hr]
          rcases Nat.lt_or_ge e m with q | q
          · refine tx_run_x q ?_
            cases hz : tx_al f e with
            | false => rfl
            | true => exact absurd ((tb_al ht).mpr ⟨q, hz⟩) (wj_c0 h99)
          · exact tx_run_m q
        have k3 : tx_v f m c = 0 := by rw [tx_v, if_neg (by omega)]
        exact hR _ _ _ _ dX5_token_205 rfl (by rw [tm, k1, k2, k3, ex]; exact wj_rfl)
      · obtain ⟨hlt, hal⟩ := (tb_al ht).mp (wj_c1 h99)
        have hr2 : tx_run (tx_al f) m (e + 1) = tx_run (tx_al f) m (tx_b f m c) := by rw [tx_run_s hlt hal]; exact hr
        refine wj_aload_n C 0 dX5_token_102 rfl rfl ?_
        refine wj_dup C dX5_token_103 rfl ?_
        refine wg_X5_233 C dX5_token_104 ?_
        rw [ty_9]
        refine wj_iconst (v := 1) C dX5_token_107 (by decide) ?_
        refine wj_iadd C dX5_token_108 ?_
        rw [nI_1]
        refine wp_X5_233 C dX5_token_109 ?_
        rw [ty_u9]
        refine wj_goto C 84 dX5_token_112 (by decide) ?_
        exact ih (e + 1) (by omega) (by omega) hr2 (by omega)
  have l3 : tx_s f m c = 2 → tx_e f m c = tx_run (tx_dg f) m (tx_b f m c) → ∀ j1 n2 e v, tx_b f m c ≤ e → e ≤ m → tx_run (tx_dg f) m e = tx_run (tx_dg f) m (tx_b f m c) → m - e < n2 → v = tx_nv f (tx_b f m c) (e - tx_b f m c) → wj_J l V X 131 [some (.ref (V.2.2.1 48)), j1] [] (ty_P σ (nI (tx_b f m c)) e 2 (nI v) w i n h) := by
    intro k1 k2 j1 n2
    induction n2 with
    | zero => intro e v _ _ _ h; omega
    | succ n2 ih =>
      intro e v hlo hle hr hlt9 hv
      refine wj_aload_n C 0 dX5_token_131 rfl rfl ?_
      refine wj_aload_n C 0 dX5_token_132 rfl rfl ?_
      refine wg_X5_233 C dX5_token_133 ?_
      rw [ty_9]
      refine wj_cif C (wj_rV C dX5_token_136 km_X5_byteAt kl_X5_239 is_X5 rfl rfl (c_X5_byteAt l V (k := e) (by rw [ty_7]; exact hm) h120 (by omega)) rfl rfl (Nat.le_of_ble_eq_true rfl) (by decide)) ?_
      rw [ty_o (by decide) (by decide), hg]
      refine wj_bipush (v := 48) C dX5_token_139 (by decide) ?_
      refine wj_bipush (v := 57) C dX5_token_141 (by decide) ?_
      refine wj_cif C (wj_rS C dX5_token_143 km_X5_within kl_X5_70 (c_X5_within l V) rfl rfl (Nat.le_of_ble_eq_true rfl) (by decide)) ?_
      refine wj_if_eq C 205 dX5_token_146 (by decide) (fun h146 => ?_) (fun h146 => ?_)
      · have ex : tx_run (tx_dg f) m (tx_b f m c) = e := by
          rw [← hr]
          rcases Nat.lt_or_ge e m with q | q
          · refine tx_run_x q ?_
            cases hz : tx_dg f e with
            | false => rfl
            | true => exact absurd ((tb_dg ht).mpr ⟨q, hz⟩) (wj_c0 h146)
          · exact tx_run_m q
        have k3 : tx_v f m c = v := by rw [tx_v, if_pos k1, k2, ex]; exact hv.symm
        exact hR _ _ _ _ dX5_token_205 rfl (by rw [tm, k1, k2, k3, ex]; exact wj_rfl)
      · obtain ⟨hlt, hal⟩ := (tb_dg ht).mp (wj_c1 h146)
        have hr2 : tx_run (tx_dg f) m (e + 1) = tx_run (tx_dg f) m (tx_b f m c) := by rw [tx_run_s hlt hal]; exact hr
        obtain ⟨d, hd1, hd2, hd3, hd4⟩ := tb_d ht hlt hal
        have hv9 := tx_nv_le (f := f) (b := tx_b f m c) (e - tx_b f m c)
        refine wj_aload_n C 0 dX5_token_149 rfl rfl ?_
        refine wj_ldc C dX5_token_150 kc_X5_248 ?_
        refine wj_bipush (v := 10) C dX5_token_152 (by decide) ?_
        refine wj_aload_n C 0 dX5_token_154 rfl rfl ?_
        refine wg_X5_242 C dX5_token_155 ?_
        rw [ty_11]
        refine wj_imul C dX5_token_158 ?_
        rw [show (10 : Int32) = nI 10 from rfl, pk_mul]
        refine wj_aload_n C 0 dX5_token_159 rfl rfl ?_
        refine wj_aload_n C 0 dX5_token_160 rfl rfl ?_
        refine wg_X5_233 C dX5_token_161 ?_
        rw [ty_9]
        refine wj_cif C (wj_rV C dX5_token_164 km_X5_byteAt kl_X5_239 is_X5 rfl rfl (c_X5_byteAt l V (k := e) (by rw [ty_7]; exact hm) h120 (by omega)) rfl rfl (Nat.le_of_ble_eq_true rfl) (by decide)) ?_
        rw [ty_o (by decide) (by decide), hg]
        rw [hd3]
        refine wj_iadd C dX5_token_167 ?_
        rw [nI_add]
        refine wj_bipush (v := 48) C dX5_token_168 (by decide) ?_
        refine wj_isub C dX5_token_170 ?_
        rw [show (48 : Int32) = nI 48 from rfl, pk_sub (by omega)]
        refine wj_min C dX5_token_171 kx_X5_97 (by decide) (Nat.le_of_ble_eq_true rfl) ?_
        rw [show (if nI (10 * v + d - 48) < (100000 : Int32) then nI (10 * v + d - 48) else 100000) = nI (min 100000 (10 * v + d - 48)) from ty_min (by omega)]
        refine wp_X5_242 C dX5_token_174 ?_
        rw [ty_u11]
        refine wj_aload_n C 0 dX5_token_177 rfl rfl ?_
        refine wj_dup C dX5_token_178 rfl ?_
        refine wg_X5_233 C dX5_token_179 ?_
        rw [ty_9]
        refine wj_iconst (v := 1) C dX5_token_182 (by decide) ?_
        refine wj_iadd C dX5_token_183 ?_
        rw [nI_1]
        refine wp_X5_233 C dX5_token_184 ?_
        rw [ty_u9]
        refine wj_goto C 131 dX5_token_187 (by decide) ?_
        exact ih (e + 1) _ (by omega) (by omega) hr2 (by omega) (by rw [show e + 1 - tx_b f m c = (e - tx_b f m c) + 1 by omega, tx_nv, show tx_b f m c + (e - tx_b f m c) = e by omega, ← hv, hd4, nI_clamp (by omega)])
  have t34 : wj_J l V X 34 [some (.ref (V.2.2.1 48)), none] [] (ty_P σ (nI (tx_b f m c)) c s0 v0 w i n h) := by
    refine wj_aload_n C 0 dX5_token_34 rfl rfl ?_
    refine wj_aload_n C 0 dX5_token_35 rfl rfl ?_
    refine wg_X5_236 C dX5_token_36 ?_
    rw [ty_8]
    refine wj_cif C (wj_rV C dX5_token_39 km_X5_byteAt kl_X5_239 is_X5 rfl rfl (c_X5_byteAt l V (k := (tx_b f m c)) (by rw [ty_7]; exact hm) h120 (by omega)) rfl rfl (Nat.le_of_ble_eq_true rfl) (by decide)) ?_
    rw [ty_o (by decide) (by decide), hg]
    refine wj_istore_n C 1 dX5_token_42 rfl (by decide) rfl ?_
    dsimp only [List.set]
    refine wj_aload_n C 0 dX5_token_43 rfl rfl ?_
    refine wj_aload_n C 0 dX5_token_44 rfl rfl ?_
    refine wg_X5_236 C dX5_token_45 ?_
    rw [ty_8]
    refine wp_X5_233 C dX5_token_48 ?_
    rw [ty_u9]
    refine wj_aload_n C 0 dX5_token_51 rfl rfl ?_
    refine wj_iconst (v := 0) C dX5_token_52 (by decide) ?_
    refine wp_X5_242 C dX5_token_53 ?_
    rw [ty_u11]
    refine wj_iload_n C 1 dX5_token_56 rfl rfl ?_
    refine wj_if_ge C 68 dX5_token_57 (by decide) (fun h57 => ?_) (fun h57 => ?_)
    · have hlt : tx_b f m c < m := by
        rcases Nat.lt_or_ge (tx_b f m c) m with q | q
        · exact q
        · exact absurd h57 (Int32.not_le.mpr ((tb_ng ht).mpr q))
      refine wj_iload_n C 1 dX5_token_68 rfl rfl ?_
      refine wj_bipush (v := 97) C dX5_token_69 (by decide) ?_
      refine wj_bipush (v := 122) C dX5_token_71 (by decide) ?_
      refine wj_cif C (wj_rS C dX5_token_73 km_X5_within kl_X5_70 (c_X5_within l V) rfl rfl (Nat.le_of_ble_eq_true rfl) (by decide)) ?_
      refine wj_if_eq C 115 dX5_token_76 (by decide) (fun h76 => ?_) (fun h76 => ?_)
      · have ha : tx_al f (tx_b f m c) = false := by
          cases hz : tx_al f (tx_b f m c) with
          | false => rfl
          | true => exact absurd ((tb_al ht).mpr ⟨hlt, hz⟩) (wj_c0 h76)
        have ha0 : tx_run (tx_al f) m (tx_b f m c) ≤ tx_b f m c := Nat.le_of_eq (tx_run_x hlt ha)
        refine wj_iload_n C 1 dX5_token_115 rfl rfl ?_
        refine wj_bipush (v := 48) C dX5_token_116 (by decide) ?_
        refine wj_bipush (v := 57) C dX5_token_118 (by decide) ?_
        refine wj_cif C (wj_rS C dX5_token_120 km_X5_within kl_X5_70 (c_X5_within l V) rfl rfl (Nat.le_of_ble_eq_true rfl) (by decide)) ?_
        refine wj_if_eq C 190 dX5_token_123 (by decide) (fun h123 => ?_) (fun h123 => ?_)
        · have hd : tx_dg f (tx_b f m c) = false := by
            cases hz : tx_dg f (tx_b f m c) with
            | false => rfl
            | true => exact absurd ((tb_dg ht).mpr ⟨hlt, hz⟩) (wj_c0 h123)
          have hd0 : tx_run (tx_dg f) m (tx_b f m c) ≤ tx_b f m c := Nat.le_of_eq (tx_run_x hlt hd)
          obtain ⟨k1, k2⟩ := tx_k3 hlt ha0 hd0
          have k4 : min (tx_s f m c) 3 = 3 := by rw [k1]; split <;> rfl
          have k3 : tx_v f m c = 0 := by rw [tx_v, if_neg (by rw [k1]; split <;> omega)]
          refine wj_aload_n C 0 dX5_token_190 rfl rfl ?_
          refine wj_iconst (v := 3) C dX5_token_191 (by decide) ?_
          refine wp_X5_245 C dX5_token_192 ?_
          rw [ty_u10]
          refine wj_aload_n C 0 dX5_token_195 rfl rfl ?_
          refine wj_dup C dX5_token_196 rfl ?_
          refine wg_X5_233 C dX5_token_197 ?_
          rw [ty_9]
          refine wj_iconst (v := 1) C dX5_token_200 (by decide) ?_
          refine wj_iadd C dX5_token_201 ?_
          rw [nI_1]
          refine wp_X5_233 C dX5_token_202 ?_
          rw [ty_u9]
          exact hR _ _ _ _ dX5_token_205 rfl (by rw [tm]; first | (rw [k4, k2, k3]; exact wj_rfl) | (rw [k1, k2, k3]; exact wj_rfl))
        · have hd := ((tb_dg ht).mp (wj_c1 h123)).2
          have hgt := tx_run_gt hlt hd
          obtain ⟨k1, k2⟩ := tx_k2 ha0 hgt
          refine wj_aload_n C 0 dX5_token_126 rfl rfl ?_
          refine wj_iconst (v := 2) C dX5_token_127 (by decide) ?_
          refine wp_X5_245 C dX5_token_128 ?_
          rw [ty_u10]
          exact l3 k1 k2 _ (m + 1) _ 0 (Nat.le_refl _) hB rfl (by omega) (by rw [Nat.sub_self, tx_nv])
      · have ha := ((tb_al ht).mp (wj_c1 h76)).2
        have hgt := tx_run_gt hlt ha
        obtain ⟨k1, k2⟩ := tx_k1 hgt
        refine wj_aload_n C 0 dX5_token_79 rfl rfl ?_
        refine wj_iconst (v := 1) C dX5_token_80 (by decide) ?_
        refine wp_X5_245 C dX5_token_81 ?_
        rw [ty_u10]
        exact l2 k1 k2 _ (m + 1) _ (Nat.le_refl _) hB rfl (by omega)
    · have hge := (tb_ng ht).mp (Int32.not_le.mp h57)
      obtain ⟨k1, k2⟩ := tx_k0 hge
      have k3 : tx_v f m c = 0 := by rw [tx_v, if_neg (by omega)]
      refine wj_aload_n C 0 dX5_token_60 rfl rfl ?_
      refine wj_iconst (v := 0) C dX5_token_61 (by decide) ?_
      refine wp_X5_245 C dX5_token_62 ?_
      rw [ty_u10]
      refine wj_goto C 205 dX5_token_65 (by decide) ?_
      exact hR _ _ _ _ dX5_token_205 rfl (by rw [tm]; first | (rw [k4, k2, k3]; exact wj_rfl) | (rw [k1, k2, k3]; exact wj_rfl))
  have l1 : ∀ n2 b, c ≤ b → b ≤ m → tx_run (tx_sp f) m b = tx_run (tx_sp f) m c → m - b < n2 → wj_J l V X 8 [some (.ref (V.2.2.1 48)), none] [] (ty_P σ (nI b) c s0 v0 w i n h) := by
    intro n2
    induction n2 with
    | zero => intro b _ _ _ h; omega
    | succ n2 ih =>
      intro b hlo hle hr hlt9
      refine wj_aload_n C 0 dX5_token_8 rfl rfl ?_
      refine wj_aload_n C 0 dX5_token_9 rfl rfl ?_
      refine wg_X5_236 C dX5_token_10 ?_
      rw [ty_8]
      refine wj_cif C (wj_rV C dX5_token_13 km_X5_byteAt kl_X5_239 is_X5 rfl rfl (c_X5_byteAt l V (k := b) (by rw [ty_7]; exact hm) h120 (by omega)) rfl rfl (Nat.le_of_ble_eq_true rfl) (by decide)) ?_
      rw [ty_o (by decide) (by decide), hg]
      refine wj_bipush (v := 32) C dX5_token_16 (by decide) ?_
      refine wj_icmp_ne C 34 dX5_token_18 (by decide) (fun h18 => ?_) (fun h18 => ?_)
      · have hr3 : tx_b f m c = b := by
          rw [tx_b, ← hr]
          rcases Nat.lt_or_ge b m with q | q
          · refine tx_run_x q ?_
            cases hz : tx_sp f b with
            | false => rfl
            | true => exact absurd ((tb_sp ht).mpr ⟨q, hz⟩) h18
          · exact tx_run_m q
        rw [← hr3]
        exact t34
      · obtain ⟨hlt, hsp⟩ := (tb_sp ht).mp h18
        have hr2 : tx_run (tx_sp f) m (b + 1) = tx_run (tx_sp f) m c := by rw [tx_run_s hlt hsp]; exact hr
        refine wj_aload_n C 0 dX5_token_21 rfl rfl ?_
        refine wj_dup C dX5_token_22 rfl ?_
        refine wg_X5_236 C dX5_token_23 ?_
        rw [ty_8]
        refine wj_iconst (v := 1) C dX5_token_26 (by decide) ?_
        refine wj_iadd C dX5_token_27 ?_
        rw [nI_1]
        refine wp_X5_236 C dX5_token_28 ?_
        rw [ty_u8]
        refine wj_goto C 8 dX5_token_31 (by decide) ?_
        exact ih (b + 1) (by omega) (by omega) hr2 (by omega)
  refine wj_aload_n C 0 dX5_token_0 rfl rfl ?_
  refine wj_aload_n C 0 dX5_token_1 rfl rfl ?_
  refine wg_X5_233 C dX5_token_2 ?_
  rw [ty_9]
  refine wp_X5_236 C dX5_token_5 ?_
  rw [ty_u8]
  exact l1 (m + 1) c (Nat.le_refl _) hc rfl (by omega)
theorem c_X5_token_C (l : Launch) (V : wj_V) {σ : wj_St} {f g : Nat → Int32} {m c : Nat} (hg : σ 53 = g) (hm : σ 48 7 = nI m) (h120 : m ≤ 120) (ht : tx_tg g f m) {w : Int32} {i n : Nat} {h : Nat → Int32} (hc : c ≤ m) : wj_M l V yX5_token cX5_token 2 none 1 22 [.ref (V.2.2.1 48)] (tm f m σ c w i n h) (wj_Vd V (tm f m σ (tx_e f m c) w i n h)) := c_X5_token l V hg hm h120 ht (tx_e_le hc)

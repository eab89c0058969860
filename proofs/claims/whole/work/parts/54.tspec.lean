/-! TEXTS: f the bytes as the class has them, m how many of them -/
def tx_sp (f : Nat → Int32) (k : Nat) : Bool := decide (f k = 32)
def tx_al (f : Nat → Int32) (k : Nat) : Bool := decide (97 ≤ f k ∧ f k ≤ 122)
def tx_dg (f : Nat → Int32) (k : Nat) : Bool := decide (48 ≤ f k ∧ f k ≤ 57)
def tx_go (p : Nat → Bool) : Nat → Nat → Nat
  | 0, a => a
  | n + 1, a => if p a = true then tx_go p n (a + 1) else a
/-- the end of a run of p from a -/
def tx_run (p : Nat → Bool) (m a : Nat) : Nat := tx_go p (m - a) a
theorem tx_run_s {p : Nat → Bool} {m a : Nat} (h : a < m) (hp : p a = true) : tx_run p m (a + 1) = tx_run p m a := by
  rw [tx_run, tx_run, show m - a = (m - (a + 1)) + 1 by omega, tx_go, if_pos hp]
theorem tx_run_x {p : Nat → Bool} {m a : Nat} (h : a < m) (hp : p a = false) : tx_run p m a = a := by
  rw [tx_run, show m - a = (m - (a + 1)) + 1 by omega, tx_go, if_neg (by rw [hp]; decide)]
theorem tx_run_m {p : Nat → Bool} {m a : Nat} (h : m ≤ a) : tx_run p m a = a := by
  rw [tx_run, show m - a = 0 by omega, tx_go]
theorem tx_go_ge {p : Nat → Bool} : ∀ n a, a ≤ tx_go p n a
  | 0, a => Nat.le_refl _
  | n + 1, a => by
    rw [tx_go]
    split
    · exact Nat.le_trans (Nat.le_succ a) (tx_go_ge n (a + 1))
    · exact Nat.le_refl _
theorem tx_go_le {p : Nat → Bool} : ∀ n a, tx_go p n a ≤ a + n
  | 0, a => Nat.le_refl _
  | n + 1, a => by
    rw [tx_go]
    split
    · have := tx_go_le (p := p) n (a + 1); omega
    · omega
theorem tx_go_all {p : Nat → Bool} : ∀ n a k, a ≤ k → k < tx_go p n a → p k = true
  | 0, a, k, h1, h2 => by rw [tx_go] at h2; omega
  | n + 1, a, k, h1, h2 => by
    rw [tx_go] at h2
    split at h2
    · rename_i hp
      rcases Nat.eq_or_lt_of_le h1 with e | e
      · rw [← e]; exact hp
      · exact tx_go_all n (a + 1) k e h2
    · omega
theorem tx_run_ge {p : Nat → Bool} {m a : Nat} : a ≤ tx_run p m a := tx_go_ge _ _
theorem tx_run_le {p : Nat → Bool} {m a : Nat} (h : a ≤ m) : tx_run p m a ≤ m := by
  have := tx_go_le (p := p) (m - a) a
  rw [tx_run]; omega
theorem tx_run_all {p : Nat → Bool} {m a k : Nat} (h1 : a ≤ k) (h2 : k < tx_run p m a) : p k = true := tx_go_all _ _ _ h1 h2
theorem tx_run_gt {p : Nat → Bool} {m a : Nat} (h : a < m) (hp : p a = true) : a < tx_run p m a := by
  rw [← tx_run_s h hp]; exact tx_run_ge
/-- where the token behind c begins; its kind (0 none, 1 a word, 2 a number, 3 a semicolon, 4 else); where it ends -/
def tx_b (f : Nat → Int32) (m c : Nat) : Nat := tx_run (tx_sp f) m c
def tx_s (f : Nat → Int32) (m c : Nat) : Nat := if tx_b f m c < m then (if tx_al f (tx_b f m c) = true then 1 else if tx_dg f (tx_b f m c) = true then 2 else if f (tx_b f m c) = 59 then 3 else 4) else 0
def tx_e (f : Nat → Int32) (m c : Nat) : Nat := if tx_b f m c < m then (if tx_al f (tx_b f m c) = true then tx_run (tx_al f) m (tx_b f m c) else if tx_dg f (tx_b f m c) = true then tx_run (tx_dg f) m (tx_b f m c) else tx_b f m c + 1) else tx_b f m c
theorem tx_b_ge {f : Nat → Int32} {m c : Nat} : c ≤ tx_b f m c := tx_run_ge
theorem tx_b_le {f : Nat → Int32} {m c : Nat} (h : c ≤ m) : tx_b f m c ≤ m := tx_run_le h
theorem tx_e_le {f : Nat → Int32} {m c : Nat} (h : c ≤ m) : tx_e f m c ≤ m := by
  have hb := tx_b_le (f := f) h
  rw [tx_e]
  split
  · split
    · exact tx_run_le hb
    · split
      · exact tx_run_le hb
      · omega
  · exact hb
theorem tx_e_ge {f : Nat → Int32} {m c : Nat} : tx_b f m c ≤ tx_e f m c := by
  rw [tx_e]
  split
  · split
    · exact tx_run_ge
    · split
      · exact tx_run_ge
      · omega
  · exact Nat.le_refl _
theorem tx_e_gt {f : Nat → Int32} {m c : Nat} (h : tx_s f m c ≠ 0) : tx_b f m c < tx_e f m c := by
  rw [tx_s] at h
  rw [tx_e]
  split at h
  · rename_i hb
    rw [if_pos hb]
    split
    · rename_i ha; exact tx_run_gt hb ha
    · split
      · rename_i hd; exact tx_run_gt hb hd
      · omega
  · exact absurd rfl h
theorem tx_s5 {f : Nat → Int32} {m c : Nat} : tx_s f m c ≤ 4 := by
  rw [tx_s]
  repeat' split
  all_goals omega
theorem tx_f {p : Nat → Bool} {m a : Nat} (h : a < m) (hr : tx_run p m a ≤ a) : p a = false := by
  cases hp : p a with
  | false => rfl
  | true => have := tx_run_gt h hp; omega
theorem tx_t {p : Nat → Bool} {m a : Nat} (h : a < m) (hr : a < tx_run p m a) : p a = true := by
  cases hp : p a with
  | true => rfl
  | false => rw [tx_run_x h hp] at hr; omega
theorem tx_lt {p : Nat → Bool} {m a : Nat} (hr : a < tx_run p m a) : a < m := by
  rcases Nat.lt_or_ge a m with h | h
  · exact h
  · rw [tx_run_m h] at hr; omega
theorem tx_k0 {f : Nat → Int32} {m c : Nat} (h : m ≤ tx_b f m c) : tx_s f m c = 0 ∧ tx_e f m c = tx_b f m c := by
  rw [tx_s, tx_e, if_neg (by omega), if_neg (by omega)]; exact ⟨rfl, rfl⟩
theorem tx_k1 {f : Nat → Int32} {m c : Nat} (h : tx_b f m c < tx_run (tx_al f) m (tx_b f m c)) : tx_s f m c = 1 ∧ tx_e f m c = tx_run (tx_al f) m (tx_b f m c) := by
  have h1 := tx_lt h
  have h2 := tx_t h1 h
  rw [tx_s, tx_e, if_pos h1, if_pos h1, if_pos h2, if_pos h2]; exact ⟨rfl, rfl⟩
theorem tx_k2 {f : Nat → Int32} {m c : Nat} (h0 : tx_run (tx_al f) m (tx_b f m c) ≤ tx_b f m c) (h : tx_b f m c < tx_run (tx_dg f) m (tx_b f m c)) : tx_s f m c = 2 ∧ tx_e f m c = tx_run (tx_dg f) m (tx_b f m c) := by
  have h1 := tx_lt h
  have h2 := tx_t h1 h
  have h3 := tx_f h1 h0
  exact ⟨by rw [tx_s, if_pos h1, if_neg (by rw [h3]; decide), if_pos h2], by rw [tx_e, if_pos h1, if_neg (by rw [h3]; decide), if_pos h2]⟩
theorem tx_k3 {f : Nat → Int32} {m c : Nat} (h1 : tx_b f m c < m) (h0 : tx_run (tx_al f) m (tx_b f m c) ≤ tx_b f m c) (h : tx_run (tx_dg f) m (tx_b f m c) ≤ tx_b f m c) : tx_s f m c = (if f (tx_b f m c) = 59 then 3 else 4) ∧ tx_e f m c = tx_b f m c + 1 := by
  have h2 := tx_f h1 h
  have h3 := tx_f h1 h0
  exact ⟨by rw [tx_s, if_pos h1, if_neg (by rw [h3]; decide), if_neg (by rw [h2]; decide)], by rw [tx_e, if_pos h1, if_neg (by rw [h3]; decide), if_neg (by rw [h2]; decide)]⟩
/-- a number token is of digits -/
theorem tx_dig {f : Nat → Int32} {m c k : Nat} (h : tx_s f m c = 2) (h1 : tx_b f m c ≤ k) (h2 : k < tx_e f m c) : ∃ d, 48 ≤ d ∧ d ≤ 57 ∧ f k = nI d := by
  have hd : tx_dg f k = true := by
    rw [tx_s] at h
    rw [tx_e] at h2
    split at h
    · rename_i hb
      rw [if_pos hb] at h2
      split at h
      · omega
      · rename_i ha
        rw [if_neg ha] at h2
        split at h
        · rename_i hd
          rw [if_pos hd] at h2
          exact tx_run_all h1 h2
        · split at h <;> omega
    · omega
  have := of_decide_eq_true hd
  have g1 := Int32.le_iff_toInt_le.mp this.1
  have g2 := Int32.le_iff_toInt_le.mp this.2
  simp at g1 g2
  obtain ⟨j, hj, e, hz⟩ := wj_nat (x := f k) (by omega)
  exact ⟨j, by omega, by omega, e⟩
/-- a number's value, no more than 100000 -/
def tx_nv (f : Nat → Int32) (b : Nat) : Nat → Nat
  | 0 => 0
  | n + 1 => min 100000 (10 * tx_nv f b n + (f (b + n)).toNatClampNeg - 48)
def tx_v (f : Nat → Int32) (m c : Nat) : Nat := if tx_s f m c = 2 then tx_nv f (tx_b f m c) (tx_e f m c - tx_b f m c) else 0
theorem tx_nv_le {f : Nat → Int32} {b : Nat} : ∀ n, tx_nv f b n ≤ 100000
  | 0 => by rw [tx_nv]; omega
  | n + 1 => by rw [tx_nv]; omega
theorem tx_nv_top {f : Nat → Int32} {b n : Nat} (h : tx_nv f b n = 100000) : ∀ k, tx_nv f b (n + k) = 100000
  | 0 => h
  | k + 1 => by rw [← Nat.add_assoc, tx_nv, tx_nv_top h k]; omega
theorem tx_v_le {f : Nat → Int32} {m c : Nat} : tx_v f m c ≤ 100000 := by
  rw [tx_v]; split
  · exact tx_nv_le _
  · omega
/-- the token is word q -/
def tx_w (f : Nat → Int32) (m q c : Nat) : Bool := decide (tx_s f m c = 1 ∧ tx_e f m c - tx_b f m c = tx_ln q ∧ ∀ k, k < tx_ln q → f (tx_b f m c + k) = tx_ch q k)
theorem tx_diff : ∀ q, q < 14 → ∀ r, r < 14 → q ≠ r → tx_ln q = tx_ln r → ∃ k, k < tx_ln q ∧ tx_ch q k ≠ tx_ch r k := by decide +kernel
theorem tx_w_one {f : Nat → Int32} {m q r c : Nat} (hq : q < 14) (hr : r < 14) (h : q ≠ r) (h1 : tx_w f m q c = true) : tx_w f m r c = false := by
  cases h2 : tx_w f m r c with
  | false => rfl
  | true =>
    have a := of_decide_eq_true h1
    have b := of_decide_eq_true h2
    have e : tx_ln q = tx_ln r := a.2.1.symm.trans b.2.1
    obtain ⟨k, hk, hne⟩ := tx_diff q hq r hr h e
    exact absurd ((a.2.2 k hk).symm.trans (b.2.2 k (by rw [← e]; exact hk))) hne
theorem tx_w_s {f : Nat → Int32} {m q c : Nat} (h : tx_w f m q c = true) : tx_s f m c = 1 := (of_decide_eq_true h).1
/-! reading: .inl c refused at the token behind c; .inr (what, c) read up to c -/
abbrev tx_I : Type := Nat × Nat × Nat × Nat × Nat
def tx_num (f : Nat → Int32) (m lo hi c : Nat) : Sum Nat (Nat × Nat) := if tx_s f m c = 2 ∧ lo ≤ tx_v f m c ∧ tx_v f m c ≤ hi then .inr (tx_v f m c, tx_e f m c) else .inl c
def tx_prt (f : Nat → Int32) (m q lo hi d c : Nat) : Sum Nat (Nat × Nat) := if tx_w f m q c = true then tx_num f m lo hi (tx_e f m c) else .inr (d, c)
def tx_ld (f : Nat → Int32) (m c : Nat) : Nat × Nat := if tx_w f m 10 c = true then (1, tx_e f m c) else if tx_w f m 11 c = true then (2, tx_e f m c) else (0, c)
def tx_kd (f : Nat → Int32) (m c : Nat) : Option Nat := if tx_w f m 0 c = true then some 0 else if tx_w f m 1 c = true then some 1 else if tx_w f m 2 c = true then some 2 else if tx_w f m 3 c = true then some 3 else if tx_w f m 4 c = true then some 4 else if tx_w f m 5 c = true then some 5 else if tx_w f m 6 c = true then some 6 else none
def tx_sl (f : Nat → Int32) (m k c : Nat) : Sum Nat (tx_I × Nat) := match tx_prt f m 7 0 15 0 c with
  | .inl x => .inl x
  | .inr (p, c1) => match tx_prt f m 8 1 12 4 c1 with
    | .inl x => .inl x
    | .inr (w, c2) => match tx_prt f m 9 0 199 20 c2 with
      | .inl x => .inl x
      | .inr (h, c3) => .inr ((k, p, w, h, (tx_ld f m c3).1), (tx_ld f m c3).2)
def tx_hu (f : Nat → Int32) (m c : Nat) : Sum Nat (tx_I × Nat) := match tx_num f m 0 65535 c with
  | .inl x => .inl x
  | .inr (v, c1) => .inr ((10, v, 0, 0, 0), c1)
def tx_le (f : Nat → Int32) (m c : Nat) : Sum Nat (tx_I × Nat) := match tx_num f m 0 5 c with
  | .inl x => .inl x
  | .inr (i, c1) => match tx_num f m 0 15 c1 with
    | .inl x => .inl x
    | .inr (p, c2) => match tx_num f m 0 99 c2 with
      | .inl x => .inl x
      | .inr (w, c3) => .inr ((11, i, 100 * p + w, 0, 0), c3)
/-- an item, where there are n slips -/
def tx_it (f : Nat → Int32) (m n c : Nat) : Sum Nat (tx_I × Nat) := if tx_w f m 12 c = true then tx_hu f m (tx_e f m c) else if tx_w f m 13 c = true then tx_le f m (tx_e f m c) else match tx_kd f m c with
  | none => .inl c
  | some k => if n < 8 then tx_sl f m k (tx_e f m c) else .inl c
def tx_up (it : tx_I) (n : Nat) : Nat := if it.1 < 10 then n + 1 else n
def tx_tx (f : Nat → Int32) (m : Nat) : Nat → Nat → Nat → Sum Nat (List tx_I)
  | 0, _, c => .inl c
  | q + 1, n, c => match tx_it f m n c with
    | .inl x => .inl x
    | .inr (it, c1) => if tx_s f m c1 = 0 then .inr [it] else if tx_s f m c1 = 3 then (match tx_tx f m q (tx_up it n) (tx_e f m c1) with
      | .inl x => .inl x
      | .inr l => .inr (it :: l)) else .inl c1
/-- an item becomes so -/
def tx_ns (A : sp_L) (N k p w h d : Nat) : sp_L := sp_us (sp_us (sp_add A N (nI k) (nI p) (nI w)) N 2 (nI h)) N 4 (nI d)
def tx_ap (A : sp_L) (it : tx_I) : sp_L := if it.1 = 10 then sp_wH A (nI it.2.1) else if it.1 = 11 then sp_wL A (upd A.2.2.2.2.1 it.2.1 (nI it.2.2.1)) else tx_ns A (sp_N A) it.1 it.2.1 it.2.2.1 it.2.2.2.1 it.2.2.2.2
def tx_aps (A : sp_L) : List tx_I → sp_L
  | [] => A
  | it :: l => tx_aps (tx_ap A it) l
def a_text (f : Nat → Int32) (m N : Nat) : Int32 := match tx_tx f m 120 N 0 with
  | .inl c => -1 - nI (tx_b f m c)
  | .inr l => nI l.length
def n_text (f : Nat → Int32) (m N : Nat) (A : sp_L) : sp_L := match tx_tx f m 120 N 0 with
  | .inl _ => A
  | .inr l => tx_aps A l
/-! bounds -/
theorem tx_num_c {f : Nat → Int32} {m lo hi c v c1 : Nat} (hc : c ≤ m) (h : tx_num f m lo hi c = .inr (v, c1)) : c1 ≤ m ∧ c < c1 ∧ lo ≤ v ∧ v ≤ hi := by
  rw [tx_num] at h
  split at h
  · rename_i hk
    cases h
    have := tx_e_gt (f := f) (m := m) (c := c) (by omega)
    have := tx_b_ge (f := f) (m := m) (c := c)
    exact ⟨tx_e_le hc, by omega, hk.2.1, hk.2.2⟩
  · cases h
theorem tx_num_l {f : Nat → Int32} {m lo hi c x : Nat} (h : tx_num f m lo hi c = .inl x) : x = c := by
  rw [tx_num] at h
  split at h
  · cases h
  · cases h; rfl
theorem tx_prt_c {f : Nat → Int32} {m q lo hi d c v c1 : Nat} (hc : c ≤ m) (h : tx_prt f m q lo hi d c = .inr (v, c1)) (hd : lo ≤ d ∧ d ≤ hi) : c1 ≤ m ∧ c ≤ c1 ∧ lo ≤ v ∧ v ≤ hi := by
  rw [tx_prt] at h
  split at h
  · have g := tx_num_c (tx_e_le hc) h
    have := tx_e_ge (f := f) (m := m) (c := c)
    have := tx_b_ge (f := f) (m := m) (c := c)
    exact ⟨g.1, by omega, g.2.2.1, g.2.2.2⟩
  · cases h
    exact ⟨hc, Nat.le_refl _, hd⟩
theorem tx_ld_c {f : Nat → Int32} {m c : Nat} (hc : c ≤ m) : (tx_ld f m c).2 ≤ m ∧ c ≤ (tx_ld f m c).2 ∧ (tx_ld f m c).1 ≤ 2 := by
  have h1 := tx_e_ge (f := f) (m := m) (c := c)
  have h2 := tx_b_ge (f := f) (m := m) (c := c)
  rw [tx_ld]
  split
  · exact ⟨tx_e_le hc, by show c ≤ tx_e f m c; omega, by show 1 ≤ 2; omega⟩
  · split
    · exact ⟨tx_e_le hc, by show c ≤ tx_e f m c; omega, by show 2 ≤ 2; omega⟩
    · exact ⟨hc, Nat.le_refl _, by show 0 ≤ 2; omega⟩
theorem tx_kd_6 {f : Nat → Int32} {m c k : Nat} (h : tx_kd f m c = some k) : k ≤ 6 ∧ tx_w f m k c = true := by
  rw [tx_kd] at h
  repeat' split at h
  all_goals first | (cases h; refine ⟨by omega, ?_⟩; assumption) | cases h
/-- what an item may be -/
def tx_oki (it : tx_I) : Prop := (it.1 ≤ 6 ∧ it.2.1 ≤ 15 ∧ 1 ≤ it.2.2.1 ∧ it.2.2.1 ≤ 12 ∧ it.2.2.2.1 ≤ 199 ∧ it.2.2.2.2 ≤ 2) ∨ (it.1 = 10 ∧ it.2.1 ≤ 65535) ∨ (it.1 = 11 ∧ it.2.1 ≤ 5 ∧ it.2.2.1 < 1600)
theorem tx_sl_c {f : Nat → Int32} {m k c c1 : Nat} {it : tx_I} (hc : c ≤ m) (hk : k ≤ 6) (h : tx_sl f m k c = .inr (it, c1)) : c1 ≤ m ∧ c ≤ c1 ∧ it.1 = k ∧ tx_oki it := by
  rw [tx_sl] at h
  split at h
  · cases h
  · rename_i p c1 hp
    have g1 := tx_prt_c hc hp (by decide)
    split at h
    · cases h
    · rename_i w c2 hw
      have g2 := tx_prt_c g1.1 hw (by decide)
      split at h
      · cases h
      · rename_i hh c3 h3
        have g3 := tx_prt_c g2.1 h3 (by decide)
        have g4 := tx_ld_c (f := f) g3.1
        cases h
        exact ⟨g4.1, by omega, rfl, Or.inl ⟨hk, g1.2.2.2, g2.2.2.1, g2.2.2.2, g3.2.2.2, g4.2.2⟩⟩
theorem tx_it_c {f : Nat → Int32} {m n c c1 : Nat} {it : tx_I} (hc : c ≤ m) (h : tx_it f m n c = .inr (it, c1)) : c1 ≤ m ∧ c < c1 ∧ tx_oki it ∧ (it.1 < 10 → n < 8) := by
  have gt : ∀ q, tx_w f m q c = true → c < tx_e f m c := fun q hq => by
    have h1 := tx_e_gt (f := f) (m := m) (c := c) (by rw [tx_w_s hq]; decide)
    have h2 := tx_b_ge (f := f) (m := m) (c := c)
    omega
  have he := tx_e_le (f := f) hc
  rw [tx_it] at h
  split at h
  · rename_i hw
    have := gt _ hw
    rw [tx_hu] at h
    split at h
    · cases h
    · rename_i v c1 hv
      have g := tx_num_c he hv
      cases h
      exact ⟨g.1, by omega, Or.inr (Or.inl ⟨rfl, g.2.2.2⟩), fun z => absurd z (by show ¬ 10 < 10; omega)⟩
  · split at h
    · rename_i hw
      have := gt _ hw
      rw [tx_le] at h
      split at h
      · cases h
      · rename_i i c1 h1
        have g1 := tx_num_c he h1
        split at h
        · cases h
        · rename_i p c2 h2
          have g2 := tx_num_c g1.1 h2
          split at h
          · cases h
          · rename_i w c3 h3
            have g3 := tx_num_c g2.1 h3
            cases h
            refine ⟨g3.1, by omega, Or.inr (Or.inr ⟨rfl, g1.2.2.2, ?_⟩), fun z => absurd z (by show ¬ 11 < 10; omega)⟩
            show 100 * p + w < 1600
            omega
    · split at h
      · cases h
      · rename_i k hk
        have h6 := tx_kd_6 hk
        have := gt _ h6.2
        split at h
        · rename_i hn
          have g := tx_sl_c he h6.1 h
          exact ⟨g.1, by omega, g.2.2.2, fun _ => hn⟩
        · cases h
/-- no more items than half the bytes -/
theorem tx_tx_len {f : Nat → Int32} {m : Nat} : ∀ q n c l, c ≤ m → tx_tx f m q n c = .inr l → 2 * l.length ≤ m + 1 - c ∧ 1 ≤ l.length
  | 0, n, c, l, _, h => by rw [tx_tx] at h; cases h
  | q + 1, n, c, l, hc, h => by
    rw [tx_tx] at h
    split at h
    · cases h
    · rename_i it c1 hi
      have g := tx_it_c hc hi
      split at h
      · cases h
        exact ⟨by show 2 * 1 ≤ _; omega, Nat.le_refl _⟩
      · split at h
        · rename_i hz h3
          have he := tx_e_gt (f := f) (m := m) (c := c1) (by omega)
          have hb := tx_b_ge (f := f) (m := m) (c := c1)
          split at h
          · cases h
          · rename_i l2 hl
            cases h
            have := tx_tx_len q _ _ l2 (tx_e_le g.1) hl
            exact ⟨by show 2 * (l2.length + 1) ≤ _; omega, by show 1 ≤ l2.length + 1; omega⟩
        · cases h


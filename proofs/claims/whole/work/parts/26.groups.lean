/-! groups of claims, lowest number first -/
theorem sp_cn_s {n : Nat} {p : Int → Int} : sp_cn (n + 1) p = sp_cn n p + (if p n = 1 then 1 else 0) := rfl
theorem sp_cn_le {p : Int → Int} {a : Nat} : ∀ (b : Nat), a ≤ b → sp_cn a p ≤ sp_cn b p
  | 0, h => by rw [show a = 0 by omega]; exact Int.le_refl _
  | b + 1, h => by
    by_cases hb : a = b + 1
    · rw [hb]; exact Int.le_refl _
    · have := sp_cn_le (p := p) b (a := a) (by omega)
      have := rd_01 (P := p b = 1)
      rw [sp_cn_s]; omega
theorem sp_cn_nn {n : Nat} {p : Int → Int} : 0 ≤ sp_cn n p := rd_sm_nn n (fun _ _ _ => rd_01.1)
theorem sp_cn_hi {n : Nat} {p : Int → Int} : sp_cn n p ≤ n := by
  have := (rd_sm_b (f := fun j => if p j = 1 then 1 else 0) (A := 0) (B := 1) n (fun _ _ _ => rd_01)).2
  unfold sp_cn; omega
theorem sp_cn_k {p : Int → Int} {k : Int} {n : Nat} (h0 : 0 ≤ k) (h1 : k < n) (hp : p k = 1) : sp_cn k.toNat p < sp_cn n p ∧ sp_cn (k + 1).toNat p = sp_cn k.toNat p + 1 := by
  have e : (k + 1).toNat = k.toNat + 1 := by omega
  have h2 := sp_cn_le (p := p) (a := k.toNat + 1) n (by omega)
  have h3 : sp_cn (k.toNat + 1) p = sp_cn k.toNat p + 1 := by
    rw [sp_cn_s, if_pos (by rw [show ((k.toNat : Nat) : Int) = k by omega]; exact hp)]
  rw [e]
  omega
theorem sp_cn_no {p : Int → Int} {a b : Nat} {k : Int} (h : sp_cn a p = sp_cn b p) (h0 : (a : Int) ≤ k) (h1 : k < b) : p k ≠ 1 := by
  intro hp
  have h2 := sp_cn_k (n := b) (p := p) (by omega) h1 hp
  have h3 := sp_cn_le (p := p) (a := a) k.toNat (by omega)
  omega
/-- what a group sums over its first m -/
def sp_gs (n : Nat) (p f : Int → Int) (m : Int) : Int := rd_sm (fun k => if p k = 1 ∧ sp_cn k.toNat p < m then f k else 0) n
/-- G lists those that p tells below n -/
def c_g (G : Int → Int) (n : Nat) (p : Int → Int) : Prop := (∀ m : Int, 0 ≤ m → m < sp_cn n p → 0 ≤ G m ∧ G m < n ∧ p (G m) = 1 ∧ sp_cn (G m).toNat p = m) ∧ (∀ k : Int, 0 ≤ k → k < n → p k = 1 → G (sp_cn k.toNat p) = k)
theorem sp_gs_0 {n : Nat} {p f : Int → Int} : sp_gs n p f 0 = 0 := rd_sm_z n (fun i a b => if_neg (fun z => by have := sp_cn_nn (n := i.toNat) (p := p); omega))
theorem sp_gs_e {n : Nat} {p f : Int → Int} {m : Int} (h : sp_cn n p ≤ m) : sp_gs n p f m = sp_sum n p f := rd_sm_c n (fun k a b => by
  by_cases hp : p k = 1
  · have := sp_cn_k (n := n) (p := p) a b hp
    rw [if_pos hp, if_pos ⟨hp, by omega⟩]
  · rw [if_neg hp, if_neg (fun z => hp z.1)])
theorem sp_gs_s {G : Int → Int} {n : Nat} {p f : Int → Int} {m : Int} (h : c_g G n p) (m0 : 0 ≤ m) (m1 : m < sp_cn n p) : sp_gs n p f (m + 1) = sp_gs n p f m + f (G m) := by
  obtain ⟨g0, g1, gp, gc⟩ := h.1 m m0 m1
  have ha := rd_sm_add (w := fun k => if p k = 1 ∧ sp_cn k.toNat p < m then f k else 0) (k := G m) (a := f (G m)) n g0 g1
  unfold sp_gs
  rw [← ha]
  refine rd_sm_c n (fun j a b => ?_)
  by_cases hj : j = G m
  · rw [if_pos hj, hj, if_pos ⟨gp, by omega⟩, if_neg (by omega)]; omega
  · rw [if_neg hj]
    by_cases hp : p j = 1
    · have hne : sp_cn j.toNat p ≠ m := fun z => hj (by rw [← z]; exact (h.2 j a b hp).symm)
      by_cases hz : sp_cn j.toNat p < m
      · rw [if_pos ⟨hp, by omega⟩, if_pos ⟨hp, hz⟩]
      · rw [if_neg (by omega), if_neg (by omega)]
    · rw [if_neg (fun z => hp z.1), if_neg (fun z => hp z.1)]
theorem c_g_0 {G p : Int → Int} : c_g G 0 p := ⟨fun m a b => by have : sp_cn 0 p = 0 := rfl; omega, fun k a b => by omega⟩
theorem c_g_skip {G p : Int → Int} {a b : Nat} (h : c_g G a p) (hab : a ≤ b) (he : sp_cn a p = sp_cn b p) : c_g G b p := by
  refine ⟨fun m m0 m1 => ?_, fun k k0 k1 kp => ?_⟩
  · have := h.1 m m0 (by omega)
    exact ⟨this.1, by omega, this.2.2⟩
  · by_cases hk : k < a
    · exact h.2 k k0 hk kp
    · exact absurd kp (sp_cn_no he (by omega) k1)
theorem c_g_n {G p : Int → Int} {n : Nat} (h : c_g G n p) (hp : p n ≠ 1) : c_g G (n + 1) p := c_g_skip h (by omega) (by rw [sp_cn_s, if_neg hp]; omega)
theorem c_g_p {G p : Int → Int} {n : Nat} (h : c_g G n p) (hp : p n = 1) : c_g (fun j => if j = sp_cn n p then (n : Int) else G j) (n + 1) p := by
  have hs : sp_cn (n + 1) p = sp_cn n p + 1 := by rw [sp_cn_s, if_pos hp]
  refine ⟨fun m m0 m1 => ?_, fun k k0 k1 kp => ?_⟩
  · by_cases hm : m = sp_cn n p
    · simp only [if_pos hm]
      exact ⟨by omega, by omega, hp, by rw [show ((n : Int)).toNat = n by omega]; exact hm.symm⟩
    · simp only [if_neg hm]
      have := h.1 m m0 (by omega)
      exact ⟨this.1, by omega, this.2.2⟩
  · by_cases hk : k = n
    · rw [hk, show ((n : Int)).toNat = n by omega]; exact if_pos rfl
    · have hlt := sp_cn_k (n := n) (p := p) k0 (by omega) kp
      show (if sp_cn k.toNat p = sp_cn n p then _ else _) = k
      rw [if_neg (by omega)]
      exact h.2 k k0 (by omega) kp
/-- the class's group is that of those that p tells -/
def c_G (M : rd_M) (n : Nat) (p : Int → Int) : Prop := M 4 11 = sp_cn n p ∧ c_g (M 30) n p
/-- the same but for rows that are used again -/
def c_sm (M M' : rd_M) : Prop := ∀ q, q ≠ 4 → q ≠ 30 → q ≠ 31 → M q = M' q
theorem c_sm.trans {A B C : rd_M} (h : c_sm A B) (h' : c_sm B C) : c_sm A C := fun q a b c => (h q a b c).trans (h' q a b c)
theorem c_sm.tks {A B : rd_M} {t : Int} {n : Nat} {w : Int → Int} (h : c_sm A B) : c_sm (c_tks A t n w) (c_tks B t n w) := by
  intro q a b c
  unfold c_tks
  rw [h 24 (by decide) (by decide) (by decide), h 25 (by decide) (by decide) (by decide), h 26 (by decide) (by decide) (by decide), h q a b c]
theorem c_tks_tks {M : rd_M} {t : Int} {n : Nat} {w w' : Int → Int} : c_tks (c_tks M t n w) t n w' = c_tks M t n (fun k => w k + w' k) := by
  funext q j
  by_cases h1 : q = 24
  · subst h1
    rw [c_tks_24, c_tks_24, c_tks_24]
    by_cases hj : 0 ≤ j ∧ j < n
    · rw [if_pos hj, if_pos hj, if_pos hj]; omega
    · rw [if_neg hj, if_neg hj, if_neg hj]
  · by_cases h2 : q = 25
    · subst h2
      rw [c_tks_25, c_tks_25, c_tks_25]
      by_cases hj : t * 40 ≤ j ∧ j < t * 40 + n
      · rw [if_pos hj, if_pos hj, if_pos hj]; omega
      · rw [if_neg hj, if_neg hj, if_neg hj]
    · by_cases h3 : q = 26
      · subst h3
        rw [c_tks_26, c_tks_26, c_tks_26, rd_sm_p]
        by_cases hj : j = t
        · rw [if_pos hj, if_pos hj, if_pos hj]; omega
        · rw [if_neg hj, if_neg hj, if_neg hj]
      · rw [c_tks_ne h1 h2 h3, c_tks_ne h1 h2 h3, c_tks_ne h1 h2 h3]
theorem c_tks_up {M : rd_M} {t i v : Int} {n : Nat} {w : Int → Int} {p : Nat} (h1 : p ≠ 24) (h2 : p ≠ 25) (h3 : p ≠ 26) : rd_up (c_tks M t n w) p i v = c_tks (rd_up M p i v) t n w := by
  funext q j
  by_cases e1 : q = 24
  · subst e1
    rw [rd_up_app h1.symm, c_tks_24, c_tks_24, rd_up_app h1.symm]
  · by_cases e2 : q = 25
    · subst e2
      rw [rd_up_app h2.symm, c_tks_25, c_tks_25, rd_up_app h2.symm]
    · by_cases e3 : q = 26
      · subst e3
        rw [rd_up_app h3.symm, c_tks_26, c_tks_26, rd_up_app h3.symm]
      · rw [c_tks_ne e1 e2 e3]
        by_cases hq : q = p
        · subst hq
          rw [rd_up_at, rd_up_at, c_tks_ne e1 e2 e3]
        · rw [rd_up_app hq, rd_up_app hq, c_tks_ne e1 e2 e3]
theorem sp_st_skip {d : rd_M} {n : Nat} {y e : Int} {κ : Int → Int} {a : Nat} : ∀ (b : Nat), a ≤ b → sp_cn a (sp_inE d y e) = sp_cn b (sp_inE d y e) → sp_st d n y e κ b = sp_st d n y e κ a
  | 0, h, _ => by rw [show a = 0 by omega]
  | b + 1, h, he => by
    by_cases hb : a = b + 1
    · rw [hb]
    · have h1 := sp_cn_le (p := sp_inE d y e) (a := a) b (by omega)
      have h2 := sp_cn_le (p := sp_inE d y e) (a := b) (b + 1) (by omega)
      have hn := sp_cn_no (p := sp_inE d y e) (a := b) (b := b + 1) (k := b) (by omega) (by omega) (by omega)
      show (if _ ∧ _ then _ else _) = _
      rw [if_neg (fun z => hn z.1)]
      exact sp_st_skip b (by omega) (by omega)
theorem sp_st_s {d : rd_M} {n : Nat} {y e : Int} {κ : Int → Int} {i : Nat} : sp_st d n y e κ (i + 1) = if sp_inE d y e i = 1 ∧ (sp_st d n y e κ i < 0 ∨ sp_W d n y e κ (sp_st d n y e κ i) < sp_W d n y e κ (d 5 i) ∨ (sp_W d n y e κ (d 5 i) = sp_W d n y e κ (sp_st d n y e κ i) ∧ d 5 i < sp_st d n y e κ i)) then d 5 i else sp_st d n y e κ i := rfl
/-- claims stand by hour, then by number; o tells the place -/
def c_H (M : rd_M) (n : Nat) (o : Int → Int) : Prop := (∀ k : Int, 0 ≤ k → k < n → (0 ≤ o k ∧ o k < n) ∧ M 15 (o k) = k) ∧ (∀ i : Int, 0 ≤ i → i < n → (0 ≤ M 15 i ∧ M 15 i < n) ∧ o (M 15 i) = i) ∧ (∀ i j : Int, 0 ≤ i → i < j → j < n → sp_bf (fun k => - M 12 k) (M 15 i) (M 15 j))
theorem c_I.tm {M : rd_M} {t : Int} (h : c_I M) (hC : c_Q M) (h0 : 0 ≤ t) (h1 : t < 10) : sp_tm (c_d M) t := by
  obtain ⟨a, b, c, e, f, g⟩ := h.treaty h0 h1
  exact ⟨a, c, e, f, g, fun z => hC t h0 h1 z⟩

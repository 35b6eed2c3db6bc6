/-! what treaties take: the class's memory behind takes -/
theorem rd_sm_add {w : Int → Int} {k a : Int} : ∀ (n : Nat), 0 ≤ k → k < n → rd_sm (fun j => if j = k then w j + a else w j) n = rd_sm w n + a
  | 0, h0, h1 => by omega
  | n + 1, h0, h1 => by
    show rd_sm _ n + (if (n : Int) = k then w n + a else w n) = rd_sm w n + w n + a
    by_cases hk : (n : Int) = k
    · rw [if_pos hk, rd_sm_c (g := w) n (fun i a b => by rw [if_neg (by omega)])]
      omega
    · rw [if_neg hk, rd_sm_add n h0 (by omega)]
      omega
theorem rd_sm_z {w : Int → Int} : ∀ (n : Nat), (∀ i : Int, 0 ≤ i → i < n → w i = 0) → rd_sm w n = 0
  | 0, _ => rfl
  | n + 1, h => by
    show rd_sm w n + w n = 0
    rw [rd_sm_z n (fun i a b => h i a (by omega)), h n (by omega) (by omega)]
    rfl
/-- each claim k below n has given w k to the treaty t -/
def c_tks (M : rd_M) (t : Int) (n : Nat) (w : Int → Int) : rd_M := fun q =>
  if q = 24 then (fun j => if 0 ≤ j ∧ j < n then M 24 j - w j else M 24 j)
  else if q = 25 then (fun j => if t * 40 ≤ j ∧ j < t * 40 + n then M 25 j + w (j - t * 40) else M 25 j)
  else if q = 26 then (fun j => if j = t then M 26 j + rd_sm w n else M 26 j) else M q
theorem c_tks_24 {M : rd_M} {t j : Int} {n : Nat} {w : Int → Int} : c_tks M t n w 24 j = if 0 ≤ j ∧ j < n then M 24 j - w j else M 24 j := rfl
theorem c_tks_25 {M : rd_M} {t j : Int} {n : Nat} {w : Int → Int} : c_tks M t n w 25 j = if t * 40 ≤ j ∧ j < t * 40 + n then M 25 j + w (j - t * 40) else M 25 j := rfl
theorem c_tks_26 {M : rd_M} {t j : Int} {n : Nat} {w : Int → Int} : c_tks M t n w 26 j = if j = t then M 26 j + rd_sm w n else M 26 j := rfl
theorem c_tks_ne {M : rd_M} {t : Int} {n : Nat} {w : Int → Int} {q : Nat} (h1 : q ≠ 24) (h2 : q ≠ 25) (h3 : q ≠ 26) : c_tks M t n w q = M q := by
  unfold c_tks; rw [if_neg h1, if_neg h2, if_neg h3]
theorem c_tks_congr {M : rd_M} {t : Int} {n : Nat} {w w' : Int → Int} (h : ∀ j : Int, 0 ≤ j → j < n → w j = w' j) : c_tks M t n w = c_tks M t n w' := by
  funext q j
  by_cases h1 : q = 24
  · subst h1
    rw [c_tks_24, c_tks_24]
    by_cases hj : 0 ≤ j ∧ j < n
    · rw [if_pos hj, if_pos hj, h j hj.1 hj.2]
    · rw [if_neg hj, if_neg hj]
  · by_cases h2 : q = 25
    · subst h2
      rw [c_tks_25, c_tks_25]
      by_cases hj : t * 40 ≤ j ∧ j < t * 40 + n
      · rw [if_pos hj, if_pos hj, h (j - t * 40) (by omega) (by omega)]
      · rw [if_neg hj, if_neg hj]
    · by_cases h3 : q = 26
      · subst h3
        rw [c_tks_26, c_tks_26, rd_sm_c n h]
      · rw [c_tks_ne h1 h2 h3, c_tks_ne h1 h2 h3]
theorem c_tks_0 {M : rd_M} {t : Int} {n : Nat} {w : Int → Int} (h : ∀ j : Int, 0 ≤ j → j < n → w j = 0) : c_tks M t n w = M := by
  funext q j
  by_cases h1 : q = 24
  · subst h1
    rw [c_tks_24]
    by_cases hj : 0 ≤ j ∧ j < n
    · rw [if_pos hj, h j hj.1 hj.2]; omega
    · rw [if_neg hj]
  · by_cases h2 : q = 25
    · subst h2
      rw [c_tks_25]
      by_cases hj : t * 40 ≤ j ∧ j < t * 40 + n
      · rw [if_pos hj, h (j - t * 40) (by omega) (by omega)]; omega
      · rw [if_neg hj]
    · by_cases h3 : q = 26
      · subst h3
        rw [c_tks_26, rd_sm_z n h]
        by_cases hj : j = t
        · rw [if_pos hj]; omega
        · rw [if_neg hj]
      · rw [c_tks_ne h1 h2 h3]
theorem c_tks_take {M : rd_M} {t k a : Int} {n : Nat} {w : Int → Int} (h0 : 0 ≤ k) (h1 : k < n) : c_take (c_tks M t n w) t k a = c_tks M t n (fun j => if j = k then w j + a else w j) := by
  funext q j
  unfold c_take
  by_cases h24 : q = 24
  · subst h24
    rw [rd_up_app (by decide), rd_up_app (by decide), rd_up_at, c_tks_24, c_tks_24, c_tks_24]
    by_cases hj : j = k
    · subst hj
      rw [if_pos rfl, if_pos ⟨h0, h1⟩, if_pos ⟨h0, h1⟩, if_pos rfl]
      omega
    · rw [if_neg hj, if_neg hj]
  · by_cases h25 : q = 25
    · subst h25
      rw [rd_up_app (by decide), rd_up_at, rd_up_app (by decide), c_tks_25, c_tks_25, c_tks_25]
      by_cases hj : j = t * 40 + k
      · subst hj
        rw [if_pos rfl, if_pos (by omega), if_pos (by omega), if_pos (by omega)]
        omega
      · rw [if_neg hj]
        by_cases hr : t * 40 ≤ j ∧ j < t * 40 + n
        · rw [if_pos hr, if_pos hr, if_neg (by omega)]
        · rw [if_neg hr, if_neg hr]
    · by_cases h26 : q = 26
      · subst h26
        rw [rd_up_at, rd_up_app (by decide), rd_up_app (by decide), c_tks_26, c_tks_26, c_tks_26, rd_sm_add n h0 h1]
        by_cases hj : j = t
        · subst hj
          rw [if_pos rfl, if_pos rfl, if_pos rfl]
          omega
        · rw [if_neg hj, if_neg hj, if_neg hj]
      · rw [rd_up_app h26, rd_up_app h25, rd_up_app h24, c_tks_ne h24 h25 h26, c_tks_ne h24 h25 h26]
/-- the class's data, as the document names them: 0 sum, 1 premium, 2 year (of a risk), 3 risk, 4 event, 5 hour, 6 estimate, 7 struck (of a claim), 8 kind, 9 year, 10 a, 11 b, 12 c, 13 d (of a treaty), 14 shares -/
def c_d (M : rd_M) : rd_M := fun q => match q with
  | 0 => M 7 | 1 => M 8 | 2 => M 9 | 3 => M 10 | 4 => M 11 | 5 => M 12 | 6 => M 13 | 7 => M 14 | 8 => M 16 | 9 => M 17 | 10 => M 18 | 11 => M 19 | 12 => M 20 | 13 => M 21 | _ => M 22
/-- a claim counts for a year -/
abbrev sp_cnt (d : rd_M) (y k : Int) : Prop := d 7 k = 0 ∧ d 2 (d 3 k) = y
theorem c_I.of {M M1 : rd_M} (h : c_I M) (he : ∀ q, q ≤ 22 → M1 q = M q) : c_I M1 := by
  unfold c_I at *
  rw [he 2 (by decide), he 3 (by decide), he 5 (by decide), he 7 (by decide), he 8 (by decide), he 9 (by decide), he 10 (by decide), he 11 (by decide), he 12 (by decide), he 13 (by decide), he 14 (by decide), he 15 (by decide), he 16 (by decide), he 17 (by decide), he 18 (by decide), he 19 (by decide), he 20 (by decide), he 21 (by decide), he 22 (by decide)]
  exact h
theorem c_d_of {M M1 : rd_M} (he : ∀ q, q ≤ 22 → M1 q = M q) : c_d M1 = c_d M := by
  funext q
  unfold c_d
  split <;> exact he _ (by decide)
theorem c_tks_low {M : rd_M} {t : Int} {n : Nat} {w : Int → Int} : ∀ q, q ≤ 22 → c_tks M t n w q = M q := fun q h => c_tks_ne (by omega) (by omega) (by omega)
/-- a year's cession is under way: counts say which claims count; what is kept is a sum of money -/
def c_Y (M : rd_M) (y : Int) : Prop := ∀ k, 0 ≤ k → k < M 2 0 → (M 23 k = if sp_cnt (c_d M) y k then 1 else 0) ∧ 0 ≤ M 24 k ∧ M 24 k ≤ 1000000000 ∧ (¬ sp_cnt (c_d M) y k → M 24 k = 0)
def sp_tkP (d : rd_M) (t : Int) (kept : Int → Int) (k : Int) : Int := if sp_cnt d (d 9 t) k then (kept k * sp_part (d 8 t) (d 10 t) (d 11 t) (d 0 (d 3 k))).tdiv 1000000 else 0

/-! class and reference side by side: treaty, claim, dissolve, bill -/
theorem k_R.treaty {M : rd_M} {n nt : Nat} {o : Int → Int} {s a b c d : Int} (h : k_R M n nt o) (hnt : (nt : Int) < 10) (hs : (0 ≤ s ∧ s < 50) ∧ s.tmod 10 < 4) (htm : sp_terms (s.tdiv 10) a b c d) : k_R (rd_up (rd_up (rd_up (rd_up (rd_up (rd_up (rd_up (rd_up (rd_up (rd_up (rd_up (rd_up (rd_up (rd_up (rd_up M 16 nt (s.tdiv 10)) 17 nt (s.tmod 10)) 18 nt a) 19 nt b) 20 nt c) 21 nt d) 3 0 (nt + 1)) 58 0 nt) 32 0 0) 41 nt s) 42 nt a) 43 nt b) 44 nt c) 45 nt d) 32 15 (nt + 1)) n (nt + 1) o := by
  have e7 := h.e7
  have e8 := h.e8
  have e9 := h.e9
  have e10 := h.e10
  have e11 := h.e11
  have e12 := h.e12
  have e13 := h.e13
  have e14 := h.e14
  have e18 := h.e18
  have e19 := h.e19
  have e20 := h.e20
  have e21 := h.e21
  have e22 := h.e22
  have e16 := h.e16
  have e17 := h.e17
  obtain ⟨⟨hI, hC, hn, hm, hH⟩, a1, a2, a3, a4, a5, a6, a7, a8⟩ := h
  obtain ⟨i1, i2, i3, i4, i5, i6, i7⟩ := id hI
  have hdv : 0 ≤ s.tdiv 10 ∧ s.tdiv 10 ≤ 4 := by rw [Int.tdiv_eq_ediv_of_nonneg (by omega)]; omega
  have hmd : 0 ≤ s.tmod 10 := Int.tmod_nonneg _ (by omega)
  have ht : (0 ≤ a ∧ a ≤ 1000000000) ∧ (1 ≤ b ∧ b ≤ 1000000000) ∧ (0 ≤ c ∧ c ≤ 5) ∧ (0 ≤ d ∧ d ≤ 1000000000) ∧ (s.tdiv 10 = 0 → a ≤ 1000000) := by
    rcases htm with x | x | x | x <;> omega
  clear htm
  refine ⟨⟨?_, ?_, hn, by simp (decide := true) only [rd_up_app, rd_up_at]; simp, hH⟩, ?_, by simp (decide := true) only [rd_up_app, rd_up_at]; simp, k_d e7 e8 e9 e10 e11 e12 e13 e14 (by funext j; simp (decide := true) only [rd_up_app, rd_up_at, e18]) (by funext j; simp (decide := true) only [rd_up_app, rd_up_at, e19]) (by funext j; simp (decide := true) only [rd_up_app, rd_up_at, e20]) (by funext j; simp (decide := true) only [rd_up_app, rd_up_at, e21]) e22 (fun j => ?_) (fun j => ?_), a4, a5, ?_, a7, ?_⟩
  · refine ⟨i1, ?_, i3, i4, fun j j0 j1 => ?_, i6, i7⟩
    · simp (decide := true) only [rd_up_app, rd_up_at]
      simp; omega
    · obtain ⟨x1, x2, x3, x4, x5, x6⟩ := i5 j j0 j1
      refine ⟨?_, ?_, ?_, ?_, ?_, ?_⟩ <;> simp (decide := true) only [rd_up_app, rd_up_at] <;> split <;> omega
  · intro j j0 j1
    have x := hC j j0 j1
    simp (decide := true) only [rd_up_app, rd_up_at]
    split <;> omega
  · simp (decide := true) only [rd_up_app, rd_up_at]
    rw [if_neg (by decide), if_neg (by decide)]; exact a1
  · simp (decide := true) only [rd_up_app, rd_up_at, e16]
    split <;> rfl
  · simp (decide := true) only [rd_up_app, rd_up_at, e17]
    split <;> rfl
  · intro j j0 j1
    have x := a6 j j0 j1
    simp (decide := true) only [rd_up_app, rd_up_at]
    split <;> omega
  · intro j j0 j1
    simp (decide := true) only [rd_up_app, rd_up_at]
    by_cases hj : j = nt
    · rw [if_pos hj]; omega
    · rw [if_neg hj]; exact a8 j j0 (by omega)
theorem k_R.claim {M M1 : rd_M} {n nt : Nat} {o o1 : Int → Int} {r e g : Int} (h : k_R M n nt o) (hn4 : n < 40) (hr : (0 ≤ r ∧ r < 12) ∧ 0 < M 7 r) (he : 0 ≤ e ∧ e < 10) (hg : 0 ≤ g ∧ g ≤ 100000) (b1 : ∀ q, q ≠ 2 → q ≠ 10 → q ≠ 11 → q ≠ 12 → q ≠ 15 → M1 q = M q) (b2 : M1 10 = rd_up M 10 n r 10) (b3 : M1 11 = rd_up M 11 n e 11) (b4 : M1 12 = rd_up M 12 n g 12) (b5 : M1 2 = rd_up M 2 0 (n + 1) 2) (b6 : c_H M1 (n + 1) o1) (b7 : ∀ i : Int, 0 ≤ i → i < 40 → 0 ≤ M1 15 i ∧ M1 15 i < 40) : k_R (rd_up (rd_up (rd_up (rd_up (rd_up (rd_up M1 58 0 n) 32 0 0) 36 n r) 37 n e) 38 n g) 32 9 (n + 1)) (n + 1) nt o1 := by
  have e7 := h.e7
  have e8 := h.e8
  have e9 := h.e9
  have e10 := h.e10
  have e11 := h.e11
  have e12 := h.e12
  have e13 := h.e13
  have e14 := h.e14
  have e18 := h.e18
  have e19 := h.e19
  have e20 := h.e20
  have e21 := h.e21
  have e22 := h.e22
  have e16 := h.e16
  have e17 := h.e17
  obtain ⟨⟨hI, hC, hn, hm, hH⟩, a1, a2, a3, a4, a5, a6, a7, a8⟩ := h
  obtain ⟨i1, i2, i3, i4, i5, i6, i7⟩ := id hI
  have c3 := b1 3 (by decide) (by decide) (by decide) (by decide) (by decide)
  have c5 := b1 5 (by decide) (by decide) (by decide) (by decide) (by decide)
  have c6 := b1 6 (by decide) (by decide) (by decide) (by decide) (by decide)
  have c7 := b1 7 (by decide) (by decide) (by decide) (by decide) (by decide)
  have c8 := b1 8 (by decide) (by decide) (by decide) (by decide) (by decide)
  have c9 := b1 9 (by decide) (by decide) (by decide) (by decide) (by decide)
  have c13 := b1 13 (by decide) (by decide) (by decide) (by decide) (by decide)
  have c14 := b1 14 (by decide) (by decide) (by decide) (by decide) (by decide)
  have c16 := b1 16 (by decide) (by decide) (by decide) (by decide) (by decide)
  have c17 := b1 17 (by decide) (by decide) (by decide) (by decide) (by decide)
  have c18 := b1 18 (by decide) (by decide) (by decide) (by decide) (by decide)
  have c19 := b1 19 (by decide) (by decide) (by decide) (by decide) (by decide)
  have c20 := b1 20 (by decide) (by decide) (by decide) (by decide) (by decide)
  have c21 := b1 21 (by decide) (by decide) (by decide) (by decide) (by decide)
  have c22 := b1 22 (by decide) (by decide) (by decide) (by decide) (by decide)
  have c32 := b1 32 (by decide) (by decide) (by decide) (by decide) (by decide)
  have c33 := b1 33 (by decide) (by decide) (by decide) (by decide) (by decide)
  have c34 := b1 34 (by decide) (by decide) (by decide) (by decide) (by decide)
  have c35 := b1 35 (by decide) (by decide) (by decide) (by decide) (by decide)
  have c36 := b1 36 (by decide) (by decide) (by decide) (by decide) (by decide)
  have c37 := b1 37 (by decide) (by decide) (by decide) (by decide) (by decide)
  have c38 := b1 38 (by decide) (by decide) (by decide) (by decide) (by decide)
  have c39 := b1 39 (by decide) (by decide) (by decide) (by decide) (by decide)
  have c40 := b1 40 (by decide) (by decide) (by decide) (by decide) (by decide)
  have c41 := b1 41 (by decide) (by decide) (by decide) (by decide) (by decide)
  have c42 := b1 42 (by decide) (by decide) (by decide) (by decide) (by decide)
  have c43 := b1 43 (by decide) (by decide) (by decide) (by decide) (by decide)
  have c44 := b1 44 (by decide) (by decide) (by decide) (by decide) (by decide)
  have c45 := b1 45 (by decide) (by decide) (by decide) (by decide) (by decide)
  have c46 := b1 46 (by decide) (by decide) (by decide) (by decide) (by decide)
  have c47 := b1 47 (by decide) (by decide) (by decide) (by decide) (by decide)
  have c48 := b1 48 (by decide) (by decide) (by decide) (by decide) (by decide)
  refine ⟨⟨?_, ?_, by simp (decide := true) only [rd_up_app, rd_up_at, c3, c5, c6, c7, c8, c9, c13, c14, c16, c17, c18, c19, c20, c21, c22, c32, c33, c34, c35, c36, c37, c38, c39, c40, c41, c42, c43, c44, c45, c46, c47, c48, b2, b3, b4, b5]; simp, by simp (decide := true) only [rd_up_app, rd_up_at, c3, c5, c6, c7, c8, c9, c13, c14, c16, c17, c18, c19, c20, c21, c22, c32, c33, c34, c35, c36, c37, c38, c39, c40, c41, c42, c43, c44, c45, c46, c47, c48, b2, b3, b4, b5]; exact hm, b6⟩, by simp (decide := true) only [rd_up_app, rd_up_at, c3, c5, c6, c7, c8, c9, c13, c14, c16, c17, c18, c19, c20, c21, c22, c32, c33, c34, c35, c36, c37, c38, c39, c40, c41, c42, c43, c44, c45, c46, c47, c48, b2, b3, b4, b5]; simp, ?_, k_d (by funext j; simp (decide := true) only [rd_up_app, rd_up_at, c3, c5, c6, c7, c8, c9, c13, c14, c16, c17, c18, c19, c20, c21, c22, c32, c33, c34, c35, c36, c37, c38, c39, c40, c41, c42, c43, c44, c45, c46, c47, c48, b2, b3, b4, b5, e7]) (by funext j; simp (decide := true) only [rd_up_app, rd_up_at, c3, c5, c6, c7, c8, c9, c13, c14, c16, c17, c18, c19, c20, c21, c22, c32, c33, c34, c35, c36, c37, c38, c39, c40, c41, c42, c43, c44, c45, c46, c47, c48, b2, b3, b4, b5, e8]) (by funext j; simp (decide := true) only [rd_up_app, rd_up_at, c3, c5, c6, c7, c8, c9, c13, c14, c16, c17, c18, c19, c20, c21, c22, c32, c33, c34, c35, c36, c37, c38, c39, c40, c41, c42, c43, c44, c45, c46, c47, c48, b2, b3, b4, b5, e9]) (by funext j; simp (decide := true) only [rd_up_app, rd_up_at, c3, c5, c6, c7, c8, c9, c13, c14, c16, c17, c18, c19, c20, c21, c22, c32, c33, c34, c35, c36, c37, c38, c39, c40, c41, c42, c43, c44, c45, c46, c47, c48, b2, b3, b4, b5, e10]) (by funext j; simp (decide := true) only [rd_up_app, rd_up_at, c3, c5, c6, c7, c8, c9, c13, c14, c16, c17, c18, c19, c20, c21, c22, c32, c33, c34, c35, c36, c37, c38, c39, c40, c41, c42, c43, c44, c45, c46, c47, c48, b2, b3, b4, b5, e11]) (by funext j; simp (decide := true) only [rd_up_app, rd_up_at, c3, c5, c6, c7, c8, c9, c13, c14, c16, c17, c18, c19, c20, c21, c22, c32, c33, c34, c35, c36, c37, c38, c39, c40, c41, c42, c43, c44, c45, c46, c47, c48, b2, b3, b4, b5, e12]) (by funext j; simp (decide := true) only [rd_up_app, rd_up_at, c3, c5, c6, c7, c8, c9, c13, c14, c16, c17, c18, c19, c20, c21, c22, c32, c33, c34, c35, c36, c37, c38, c39, c40, c41, c42, c43, c44, c45, c46, c47, c48, b2, b3, b4, b5, e13]) (by funext j; simp (decide := true) only [rd_up_app, rd_up_at, c3, c5, c6, c7, c8, c9, c13, c14, c16, c17, c18, c19, c20, c21, c22, c32, c33, c34, c35, c36, c37, c38, c39, c40, c41, c42, c43, c44, c45, c46, c47, c48, b2, b3, b4, b5, e14]) (by funext j; simp (decide := true) only [rd_up_app, rd_up_at, c3, c5, c6, c7, c8, c9, c13, c14, c16, c17, c18, c19, c20, c21, c22, c32, c33, c34, c35, c36, c37, c38, c39, c40, c41, c42, c43, c44, c45, c46, c47, c48, b2, b3, b4, b5, e18]) (by funext j; simp (decide := true) only [rd_up_app, rd_up_at, c3, c5, c6, c7, c8, c9, c13, c14, c16, c17, c18, c19, c20, c21, c22, c32, c33, c34, c35, c36, c37, c38, c39, c40, c41, c42, c43, c44, c45, c46, c47, c48, b2, b3, b4, b5, e19]) (by funext j; simp (decide := true) only [rd_up_app, rd_up_at, c3, c5, c6, c7, c8, c9, c13, c14, c16, c17, c18, c19, c20, c21, c22, c32, c33, c34, c35, c36, c37, c38, c39, c40, c41, c42, c43, c44, c45, c46, c47, c48, b2, b3, b4, b5, e20]) (by funext j; simp (decide := true) only [rd_up_app, rd_up_at, c3, c5, c6, c7, c8, c9, c13, c14, c16, c17, c18, c19, c20, c21, c22, c32, c33, c34, c35, c36, c37, c38, c39, c40, c41, c42, c43, c44, c45, c46, c47, c48, b2, b3, b4, b5, e21]) (by funext j; simp (decide := true) only [rd_up_app, rd_up_at, c3, c5, c6, c7, c8, c9, c13, c14, c16, c17, c18, c19, c20, c21, c22, c32, c33, c34, c35, c36, c37, c38, c39, c40, c41, c42, c43, c44, c45, c46, c47, c48, b2, b3, b4, b5, e22]) (fun j => by simp (decide := true) only [rd_up_app, rd_up_at, c3, c5, c6, c7, c8, c9, c13, c14, c16, c17, c18, c19, c20, c21, c22, c32, c33, c34, c35, c36, c37, c38, c39, c40, c41, c42, c43, c44, c45, c46, c47, c48, b2, b3, b4, b5, e16]) (fun j => by simp (decide := true) only [rd_up_app, rd_up_at, c3, c5, c6, c7, c8, c9, c13, c14, c16, c17, c18, c19, c20, c21, c22, c32, c33, c34, c35, c36, c37, c38, c39, c40, c41, c42, c43, c44, c45, c46, c47, c48, b2, b3, b4, b5, e17]), by funext j; simp (decide := true) only [rd_up_app, rd_up_at, c3, c5, c6, c7, c8, c9, c13, c14, c16, c17, c18, c19, c20, c21, c22, c32, c33, c34, c35, c36, c37, c38, c39, c40, c41, c42, c43, c44, c45, c46, c47, c48, b2, b3, b4, b5, a4], by funext j; simp (decide := true) only [rd_up_app, rd_up_at, c3, c5, c6, c7, c8, c9, c13, c14, c16, c17, c18, c19, c20, c21, c22, c32, c33, c34, c35, c36, c37, c38, c39, c40, c41, c42, c43, c44, c45, c46, c47, c48, b2, b3, b4, b5, a5], by simp (decide := true) only [rd_up_app, rd_up_at, c3, c5, c6, c7, c8, c9, c13, c14, c16, c17, c18, c19, c20, c21, c22, c32, c33, c34, c35, c36, c37, c38, c39, c40, c41, c42, c43, c44, c45, c46, c47, c48, b2, b3, b4, b5]; exact a6, ?_, by simp (decide := true) only [rd_up_app, rd_up_at, c3, c5, c6, c7, c8, c9, c13, c14, c16, c17, c18, c19, c20, c21, c22, c32, c33, c34, c35, c36, c37, c38, c39, c40, c41, c42, c43, c44, c45, c46, c47, c48, b2, b3, b4, b5]; exact a8⟩
  · refine ⟨?_, ?_, ?_, fun j j0 j1 => ?_, ?_, ?_, ?_⟩
    · simp (decide := true) only [rd_up_app, rd_up_at, c3, c5, c6, c7, c8, c9, c13, c14, c16, c17, c18, c19, c20, c21, c22, c32, c33, c34, c35, c36, c37, c38, c39, c40, c41, c42, c43, c44, c45, c46, c47, c48, b2, b3, b4, b5]; simp; omega
    · simp (decide := true) only [rd_up_app, rd_up_at, c3, c5, c6, c7, c8, c9, c13, c14, c16, c17, c18, c19, c20, c21, c22, c32, c33, c34, c35, c36, c37, c38, c39, c40, c41, c42, c43, c44, c45, c46, c47, c48, b2, b3, b4, b5]; exact i2
    · simp (decide := true) only [rd_up_app, rd_up_at, c3, c5, c6, c7, c8, c9, c13, c14, c16, c17, c18, c19, c20, c21, c22, c32, c33, c34, c35, c36, c37, c38, c39, c40, c41, c42, c43, c44, c45, c46, c47, c48, b2, b3, b4, b5]; exact i3
    · obtain ⟨x1, x2, x3, x4, x5, x6⟩ := i4 j j0 j1
      refine ⟨?_, ?_, ?_, ?_, ?_, b7 j j0 j1⟩
      · simp (decide := true) only [rd_up_app, rd_up_at, c3, c5, c6, c7, c8, c9, c13, c14, c16, c17, c18, c19, c20, c21, c22, c32, c33, c34, c35, c36, c37, c38, c39, c40, c41, c42, c43, c44, c45, c46, c47, c48, b2, b3, b4, b5]; split <;> omega
      · simp (decide := true) only [rd_up_app, rd_up_at, c3, c5, c6, c7, c8, c9, c13, c14, c16, c17, c18, c19, c20, c21, c22, c32, c33, c34, c35, c36, c37, c38, c39, c40, c41, c42, c43, c44, c45, c46, c47, c48, b2, b3, b4, b5]; split <;> omega
      · simp (decide := true) only [rd_up_app, rd_up_at, c3, c5, c6, c7, c8, c9, c13, c14, c16, c17, c18, c19, c20, c21, c22, c32, c33, c34, c35, c36, c37, c38, c39, c40, c41, c42, c43, c44, c45, c46, c47, c48, b2, b3, b4, b5]; split <;> omega
      · simp (decide := true) only [rd_up_app, rd_up_at, c3, c5, c6, c7, c8, c9, c13, c14, c16, c17, c18, c19, c20, c21, c22, c32, c33, c34, c35, c36, c37, c38, c39, c40, c41, c42, c43, c44, c45, c46, c47, c48, b2, b3, b4, b5]; exact x4
      · simp (decide := true) only [rd_up_app, rd_up_at, c3, c5, c6, c7, c8, c9, c13, c14, c16, c17, c18, c19, c20, c21, c22, c32, c33, c34, c35, c36, c37, c38, c39, c40, c41, c42, c43, c44, c45, c46, c47, c48, b2, b3, b4, b5]; exact x5
    · simp (decide := true) only [rd_up_app, rd_up_at, c3, c5, c6, c7, c8, c9, c13, c14, c16, c17, c18, c19, c20, c21, c22, c32, c33, c34, c35, c36, c37, c38, c39, c40, c41, c42, c43, c44, c45, c46, c47, c48, b2, b3, b4, b5]; exact i5
    · simp (decide := true) only [rd_up_app, rd_up_at, c3, c5, c6, c7, c8, c9, c13, c14, c16, c17, c18, c19, c20, c21, c22, c32, c33, c34, c35, c36, c37, c38, c39, c40, c41, c42, c43, c44, c45, c46, c47, c48, b2, b3, b4, b5]; exact i6
    · simp (decide := true) only [rd_up_app, rd_up_at, c3, c5, c6, c7, c8, c9, c13, c14, c16, c17, c18, c19, c20, c21, c22, c32, c33, c34, c35, c36, c37, c38, c39, c40, c41, c42, c43, c44, c45, c46, c47, c48, b2, b3, b4, b5]; exact i7
  · intro j j0 j1
    simp (decide := true) only [rd_up_app, rd_up_at, c3, c5, c6, c7, c8, c9, c13, c14, c16, c17, c18, c19, c20, c21, c22, c32, c33, c34, c35, c36, c37, c38, c39, c40, c41, c42, c43, c44, c45, c46, c47, c48, b2, b3, b4, b5]; exact hC j j0 j1
  · simp (decide := true) only [rd_up_app, rd_up_at, c3, c5, c6, c7, c8, c9, c13, c14, c16, c17, c18, c19, c20, c21, c22, c32, c33, c34, c35, c36, c37, c38, c39, c40, c41, c42, c43, c44, c45, c46, c47, c48, b2, b3, b4, b5]
    rw [if_neg (by decide), if_neg (by decide)]; exact a2
  · intro k k0 k1
    simp (decide := true) only [rd_up_app, rd_up_at, c3, c5, c6, c7, c8, c9, c13, c14, c16, c17, c18, c19, c20, c21, c22, c32, c33, c34, c35, c36, c37, c38, c39, c40, c41, c42, c43, c44, c45, c46, c47, c48, b2, b3, b4, b5]
    by_cases hk : k = n
    · rw [if_pos hk]; exact hr.2
    · rw [if_neg hk]; exact a7 k k0 (by omega)
theorem k_R.dissolve {M M1 M' : rd_M} {n nt : Nat} {o : Int → Int} {e y v : Int} (h : k_R M n nt o) (b1 : ∀ q, q ≠ 11 → M1 q = M q) (b2 : ∀ k : Int, M1 11 k = if (0 ≤ k ∧ k < n) ∧ sp_dc (c_d M) e y k then 0 else M 11 k) (d1 : ∀ q, q ≠ 37 → M' q = rd_up (rd_up M1 58 0 v) 32 0 0 q) (d2 : ∀ k : Int, M' 37 k = if (0 ≤ k ∧ k < n) ∧ sp_dc (r_d (rd_up M1 58 0 v)) e y k then 0 else rd_up M1 58 0 v 37 k) : k_R M' n nt o := by
  have e7 := h.e7
  have e8 := h.e8
  have e9 := h.e9
  have e10 := h.e10
  have e11 := h.e11
  have e12 := h.e12
  have e13 := h.e13
  have e14 := h.e14
  have e18 := h.e18
  have e19 := h.e19
  have e20 := h.e20
  have e21 := h.e21
  have e22 := h.e22
  have e16 := h.e16
  have e17 := h.e17
  obtain ⟨⟨hI, hC, hn, hm, hH⟩, a1, a2, a3, a4, a5, a6, a7, a8⟩ := h
  obtain ⟨i1, i2, i3, i4, i5, i6, i7⟩ := id hI
  have K : ∀ q, q ≠ 37 → q ≠ 11 → q ≠ 58 → q ≠ 32 → M' q = M q := fun q x1 x2 x3 x4 => by rw [d1 q x1, rd_up_ne x4, rd_up_ne x3, b1 q x2]
  have hr : r_d (rd_up M1 58 0 v) = r_d M := by
    funext q; unfold r_d
    split <;> first | (rw [rd_up_ne (by decide)]; exact b1 _ (by decide)) | rw [rd_up_ne (by decide), b1 41 (by decide)]
  have k11 : ∀ k : Int, M' 11 k = if (0 ≤ k ∧ k < n) ∧ sp_dc (c_d M) e y k then 0 else M 11 k := fun k => by rw [d1 11 (by decide), rd_up_app (by decide), rd_up_app (by decide), b2 k]
  have k37 : ∀ k : Int, M' 37 k = if (0 ≤ k ∧ k < n) ∧ sp_dc (c_d M) e y k then 0 else M 11 k := fun k => by rw [d2 k, hr, ← a3, rd_up_app (by decide), b1 37 (by decide), e11]
  have k32 : ∀ i : Int, i ≠ 0 → M' 32 i = M 32 i := fun i hi => by rw [d1 32 (by decide), rd_up_32 hi, rd_up_app (by decide), b1 32 (by decide)]
  have c2 := K 2 (by decide) (by decide) (by decide) (by decide)
  have c3 := K 3 (by decide) (by decide) (by decide) (by decide)
  have c5 := K 5 (by decide) (by decide) (by decide) (by decide)
  have c6 := K 6 (by decide) (by decide) (by decide) (by decide)
  have c7 := K 7 (by decide) (by decide) (by decide) (by decide)
  have c8 := K 8 (by decide) (by decide) (by decide) (by decide)
  have c9 := K 9 (by decide) (by decide) (by decide) (by decide)
  have c10 := K 10 (by decide) (by decide) (by decide) (by decide)
  have c12 := K 12 (by decide) (by decide) (by decide) (by decide)
  have c13 := K 13 (by decide) (by decide) (by decide) (by decide)
  have c14 := K 14 (by decide) (by decide) (by decide) (by decide)
  have c15 := K 15 (by decide) (by decide) (by decide) (by decide)
  have c16 := K 16 (by decide) (by decide) (by decide) (by decide)
  have c17 := K 17 (by decide) (by decide) (by decide) (by decide)
  have c18 := K 18 (by decide) (by decide) (by decide) (by decide)
  have c19 := K 19 (by decide) (by decide) (by decide) (by decide)
  have c20 := K 20 (by decide) (by decide) (by decide) (by decide)
  have c21 := K 21 (by decide) (by decide) (by decide) (by decide)
  have c22 := K 22 (by decide) (by decide) (by decide) (by decide)
  have c33 := K 33 (by decide) (by decide) (by decide) (by decide)
  have c34 := K 34 (by decide) (by decide) (by decide) (by decide)
  have c35 := K 35 (by decide) (by decide) (by decide) (by decide)
  have c36 := K 36 (by decide) (by decide) (by decide) (by decide)
  have c38 := K 38 (by decide) (by decide) (by decide) (by decide)
  have c39 := K 39 (by decide) (by decide) (by decide) (by decide)
  have c40 := K 40 (by decide) (by decide) (by decide) (by decide)
  have c41 := K 41 (by decide) (by decide) (by decide) (by decide)
  have c42 := K 42 (by decide) (by decide) (by decide) (by decide)
  have c43 := K 43 (by decide) (by decide) (by decide) (by decide)
  have c44 := K 44 (by decide) (by decide) (by decide) (by decide)
  have c45 := K 45 (by decide) (by decide) (by decide) (by decide)
  have c46 := K 46 (by decide) (by decide) (by decide) (by decide)
  have c47 := K 47 (by decide) (by decide) (by decide) (by decide)
  have c48 := K 48 (by decide) (by decide) (by decide) (by decide)
  refine ⟨⟨?_, ?_, by rw [c2]; exact hn, by rw [c3]; exact hm, ?_⟩, by rw [k32 9 (by decide)]; exact a1, by rw [k32 15 (by decide)]; exact a2, k_d (by rw [c7, c33]; exact e7) (by rw [c8, c34]; exact e8) (by rw [c9, c35]; exact e9) (by rw [c10, c36]; exact e10) (by funext k; rw [k11 k, k37 k]) (by rw [c12, c38]; exact e12) (by rw [c13, c39]; exact e13) (by rw [c14, c40]; exact e14) (by rw [c18, c42]; exact e18) (by rw [c19, c43]; exact e19) (by rw [c20, c44]; exact e20) (by rw [c21, c45]; exact e21) (by rw [c22, c46]; exact e22) (fun j => by rw [c16, c41]; exact e16 j) (fun j => by rw [c17, c41]; exact e17 j), by rw [c5, c48]; exact a4, by rw [c6, c47]; exact a5, by rw [c41]; exact a6, by rw [c7, c10]; exact a7, by rw [c19]; exact a8⟩
  · unfold c_I
    rw [c2, c3, c5, c7, c8, c9, c10, c12, c13, c14, c15, c16, c17, c18, c19, c20, c21, c22]
    refine ⟨i1, i2, i3, fun k k0 k1 => ?_, i5, i6, i7⟩
    obtain ⟨x1, x2, x3⟩ := i4 k k0 k1
    refine ⟨x1, ?_, x3⟩
    rw [k11 k]; split <;> omega
  · unfold c_Q at *; rw [c16, c18]; exact hC
  · unfold c_H at *; rw [c15, c12]; exact hH
theorem k_R.bill0 {M : rd_M} {n nt : Nat} {o : Int → Int} {r v : Int} (h : k_R M n nt o) : k_R (rd_up (rd_up M 6 r v) 47 r v) n nt o := by
  obtain ⟨⟨hI, hC, hn, hm, hH⟩, a1, a2, a3, a4, a5, a6, a7, a8⟩ := h
  refine ⟨⟨hI, hC, hn, hm, hH⟩, a1, a2, a3, a4, ?_, a6, a7, a8⟩
  funext j; simp (decide := true) only [rd_up_app, rd_up_at, a5]
theorem k_R.bill {M M1 M2 : rd_M} {n nt : Nat} {o : Int → Int} {r v w : Int} (h : k_R M n nt o) (hF : c_fq M1 M) (hq : r_fq M2 (rd_up (rd_up M1 6 r v) 58 0 w)) : k_R (rd_up M2 47 r v) n nt o := by
  refine (h.bill0 (r := r) (v := v)).keep (fun q x1 x2 x3 => ?_) ?_ ?_
  · by_cases hq47 : q = 47
    · subst hq47
      funext j
      rw [rd_up_at, rd_up_at, hq.1 47 (by decide) (by decide), rd_up_app (by decide), rd_up_app (by decide), hF 47 (by decide) (by decide), rd_up_app (by decide)]
    · rw [rd_up_ne hq47, rd_up_ne hq47, hq.1 q x2 (by omega), rd_up_ne (by omega)]
      by_cases hq6 : q = 6
      · subst hq6
        funext j
        rw [rd_up_at, rd_up_at, hF 6 (by decide) (by decide)]
      · rw [rd_up_ne hq6, rd_up_ne hq6]
        exact hF q x1 (by omega)
  · rw [rd_up_app (by decide), hq.2.1, rd_up_app (by decide), rd_up_app (by decide), hF 32 (by decide) (by decide)]; rfl
  · rw [rd_up_app (by decide), hq.2.2, rd_up_app (by decide), rd_up_app (by decide), hF 32 (by decide) (by decide)]; rfl
theorem k_R.ask {M M1 M2 : rd_M} {n nt : Nat} {o : Int → Int} {w : Int} (h : k_R M n nt o) (hF : c_fq M1 M) (hq : r_fq M2 (rd_up M1 58 0 w)) : k_R M2 n nt o := by
  refine h.keep (fun q x1 x2 x3 => ?_) ?_ ?_
  · rw [hq.1 q x2 (by omega), rd_up_ne (by omega)]; exact hF q x1 (by omega)
  · rw [hq.2.1, rd_up_app (by decide), hF 32 (by decide) (by decide)]
  · rw [hq.2.2, rd_up_app (by decide), hF 32 (by decide) (by decide)]
/-- the sum over years of the sums over their treaties is the sum over treaties -/
theorem sp_swap {C Y : Int → Int} {F : Int → Int → Int} {G : Int → Int} : ∀ (nt : Nat), (∀ t : Int, 0 ≤ t → t < nt → 0 ≤ Y t ∧ Y t ≤ 3) → (∀ t : Int, 0 ≤ t → t < nt → C (Y t) = 0 → F (Y t) t = G t) → rd_sm (fun y => if C y = 0 then rd_sm (fun t => if Y t = y then F y t else 0) nt else 0) 4 = rd_sm (fun t => if C (Y t) = 0 then G t else 0) nt
  | 0, _, _ => rd_sm_z 4 (fun y a b => by split <;> rfl)
  | nt + 1, hY, hG => by
    have ih := sp_swap nt (fun t a b => hY t a (by omega)) (fun t a b => hG t a (by omega))
    have hy := hY nt (by omega) (by omega)
    have hg := hG nt (by omega) (by omega)
    have e1 : rd_sm (fun y => if C y = 0 then rd_sm (fun t => if Y t = y then F y t else 0) (nt + 1) else 0) 4 = rd_sm (fun y => (if C y = 0 then rd_sm (fun t => if Y t = y then F y t else 0) nt else 0) + (if y = Y nt then 0 + (if C (Y nt) = 0 then G nt else 0) else 0)) 4 := rd_sm_c 4 (fun y a b => by
      show (if C y = 0 then rd_sm (fun t => if Y t = y then F y t else 0) nt + (if Y nt = y then F y nt else 0) else 0) = _
      by_cases hc : C y = 0
      · rw [if_pos hc, if_pos hc]
        by_cases hyy : y = Y nt
        · rw [if_pos hyy.symm, if_pos hyy, ← hyy, if_pos hc]
          rw [← hyy] at hg
          rw [hg hc]; omega
        · rw [if_neg (fun z => hyy z.symm), if_neg hyy]
      · rw [if_neg hc, if_neg hc]
        by_cases hyy : y = Y nt
        · rw [if_pos hyy, ← hyy, if_neg hc]; rfl
        · rw [if_neg hyy]; rfl)
    rw [e1, rd_sm_p, ih]
    have e2 := rd_sm_add (w := fun _ => 0) (k := Y nt) (a := if C (Y nt) = 0 then G nt else 0) 4 hy.1 (by omega)
    rw [rd_sm_z 4 (fun _ _ _ => rfl)] at e2
    show _ + rd_sm (fun y => if y = Y nt then 0 + (if C (Y nt) = 0 then G nt else 0) else 0) 4 = _ + _
    rw [e2]
    show _ + (0 + (if C (Y nt) = 0 then G nt else 0)) = _ + (if C (Y nt) = 0 then G nt else 0)
    omega

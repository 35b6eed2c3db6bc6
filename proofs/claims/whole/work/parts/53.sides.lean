/-! class and reference side by side -/
/-- class and reference agree, n claims and nt treaties -/
def k_R (M : rd_M) (n nt : Nat) (o : Int → Int) : Prop := c_B M n nt o ∧ M 32 9 = n ∧ M 32 15 = nt ∧ c_d M = r_d M ∧ M 5 = M 48 ∧ M 6 = M 47 ∧ (∀ t : Int, 0 ≤ t → t < 10 → 0 ≤ M 41 t ∧ M 41 t < 50) ∧ (∀ k : Int, 0 ≤ k → k < n → 0 < M 7 (M 10 k)) ∧ (∀ t : Int, 0 ≤ t → t < nt → 0 < M 19 t)
theorem k_R.e7 {M : rd_M} {n nt : Nat} {o : Int → Int} (h : k_R M n nt o) : M 7 = M 33 := congrFun h.2.2.2.1 0
theorem k_R.e8 {M : rd_M} {n nt : Nat} {o : Int → Int} (h : k_R M n nt o) : M 8 = M 34 := congrFun h.2.2.2.1 1
theorem k_R.e9 {M : rd_M} {n nt : Nat} {o : Int → Int} (h : k_R M n nt o) : M 9 = M 35 := congrFun h.2.2.2.1 2
theorem k_R.e10 {M : rd_M} {n nt : Nat} {o : Int → Int} (h : k_R M n nt o) : M 10 = M 36 := congrFun h.2.2.2.1 3
theorem k_R.e11 {M : rd_M} {n nt : Nat} {o : Int → Int} (h : k_R M n nt o) : M 11 = M 37 := congrFun h.2.2.2.1 4
theorem k_R.e12 {M : rd_M} {n nt : Nat} {o : Int → Int} (h : k_R M n nt o) : M 12 = M 38 := congrFun h.2.2.2.1 5
theorem k_R.e13 {M : rd_M} {n nt : Nat} {o : Int → Int} (h : k_R M n nt o) : M 13 = M 39 := congrFun h.2.2.2.1 6
theorem k_R.e14 {M : rd_M} {n nt : Nat} {o : Int → Int} (h : k_R M n nt o) : M 14 = M 40 := congrFun h.2.2.2.1 7
theorem k_R.e18 {M : rd_M} {n nt : Nat} {o : Int → Int} (h : k_R M n nt o) : M 18 = M 42 := congrFun h.2.2.2.1 10
theorem k_R.e19 {M : rd_M} {n nt : Nat} {o : Int → Int} (h : k_R M n nt o) : M 19 = M 43 := congrFun h.2.2.2.1 11
theorem k_R.e20 {M : rd_M} {n nt : Nat} {o : Int → Int} (h : k_R M n nt o) : M 20 = M 44 := congrFun h.2.2.2.1 12
theorem k_R.e21 {M : rd_M} {n nt : Nat} {o : Int → Int} (h : k_R M n nt o) : M 21 = M 45 := congrFun h.2.2.2.1 13
theorem k_R.e22 {M : rd_M} {n nt : Nat} {o : Int → Int} (h : k_R M n nt o) : M 22 = M 46 := congrFun h.2.2.2.1 14
theorem k_R.e16 {M : rd_M} {n nt : Nat} {o : Int → Int} (h : k_R M n nt o) (t : Int) : M 16 t = (M 41 t).tdiv 10 := congrFun (congrFun h.2.2.2.1 8) t
theorem k_R.e17 {M : rd_M} {n nt : Nat} {o : Int → Int} (h : k_R M n nt o) (t : Int) : M 17 t = (M 41 t).tmod 10 := congrFun (congrFun h.2.2.2.1 9) t
theorem k_R.r {M : rd_M} {n nt : Nat} {o : Int → Int} (h : k_R M n nt o) : r_B M n nt := by
  obtain ⟨⟨hI, hC, hn, hm, hH⟩, a1, a2, a3, a4, a5, a6, a7, a8⟩ := h
  have e22 : M 22 = M 46 := congrFun a3 14
  refine ⟨a1, a2, hI.n hn, ?_, ?_, a6, ?_, ?_⟩
  · have := hI.2.1; omega
  · rw [← a3]; exact hI.D hC
  · rw [← e22]; exact fun i x y => hI.part x y
  · rw [← a4]; exact fun i x y => hI.closed x y
theorem k_R.T {M : rd_M} {n nt : Nat} {o : Int → Int} (h : k_R M n nt o) : r_T M n := by
  have e7 := h.e7
  have e10 := h.e10
  unfold r_T
  rw [← e7, ← e10]
  exact h.2.2.2.2.2.2.2.1
theorem k_R.b {M : rd_M} {n nt : Nat} {o : Int → Int} (h : k_R M n nt o) : ∀ t : Int, 0 ≤ t → t < nt → 0 < M 43 t := by
  rw [← h.e19]; exact h.2.2.2.2.2.2.2.2
/-- what changes neither data nor counts -/
theorem k_R.keep {M M' : rd_M} {n nt : Nat} {o : Int → Int} (h : k_R M n nt o) (hk : ∀ q, q ≠ 4 → q ≠ 32 → q < 23 ∨ (31 < q ∧ q < 49) → M' q = M q) (h9 : M' 32 9 = M 32 9) (h15 : M' 32 15 = M 32 15) : k_R M' n nt o := by
  obtain ⟨⟨hI, hC, hn, hm, hH⟩, a1, a2, a3, a4, a5, a6, a7, a8⟩ := h
  have L : ∀ q, q ≠ 4 → q ≤ 22 → M' q = M q := fun q a b => hk q a (by omega) (by omega)
  have U : ∀ q, 32 < q → q < 49 → M' q = M q := fun q a b => hk q (by omega) (by omega) (by omega)
  have hd : c_d M' = c_d M := by
    funext q; unfold c_d
    split <;> exact L _ (by decide) (by decide)
  have hr : r_d M' = r_d M := by
    funext q; unfold r_d
    split <;> first | exact U _ (by decide) (by decide) | rw [U 41 (by decide) (by decide)]
  refine ⟨⟨?_, ?_, ?_, ?_, ?_⟩, by rw [h9]; exact a1, by rw [h15]; exact a2, by rw [hd, hr]; exact a3, ?_, ?_, ?_, ?_, ?_⟩
  · unfold c_I at *
    rw [L 2 (by decide) (by decide), L 3 (by decide) (by decide), L 5 (by decide) (by decide), L 7 (by decide) (by decide), L 8 (by decide) (by decide), L 9 (by decide) (by decide), L 10 (by decide) (by decide), L 11 (by decide) (by decide), L 12 (by decide) (by decide), L 13 (by decide) (by decide), L 14 (by decide) (by decide), L 15 (by decide) (by decide), L 16 (by decide) (by decide), L 17 (by decide) (by decide), L 18 (by decide) (by decide), L 19 (by decide) (by decide), L 20 (by decide) (by decide), L 21 (by decide) (by decide), L 22 (by decide) (by decide)]
    exact hI
  · unfold c_Q at *; rw [L 16 (by decide) (by decide), L 18 (by decide) (by decide)]; exact hC
  · rw [L 2 (by decide) (by decide)]; exact hn
  · rw [L 3 (by decide) (by decide)]; exact hm
  · unfold c_H at *; rw [L 15 (by decide) (by decide), L 12 (by decide) (by decide)]; exact hH
  · rw [L 5 (by decide) (by decide), U 48 (by decide) (by decide)]; exact a4
  · rw [L 6 (by decide) (by decide), U 47 (by decide) (by decide)]; exact a5
  · rw [U 41 (by decide) (by decide)]; exact a6
  · rw [L 7 (by decide) (by decide), L 10 (by decide) (by decide)]; exact a7
  · rw [L 19 (by decide) (by decide)]; exact a8
theorem k_R.th {M : rd_M} {n nt : Nat} {o : Int → Int} {v : Int} (h : k_R M n nt o) : k_R (rd_up M 32 0 v) n nt o := h.keep (fun q _ a _ => rd_up_ne a) (rd_up_32 (by decide)) (rd_up_32 (by decide))
theorem k_d {M : rd_M} (e7 : M 7 = M 33) (e8 : M 8 = M 34) (e9 : M 9 = M 35) (e10 : M 10 = M 36) (e11 : M 11 = M 37) (e12 : M 12 = M 38) (e13 : M 13 = M 39) (e14 : M 14 = M 40) (e18 : M 18 = M 42) (e19 : M 19 = M 43) (e20 : M 20 = M 44) (e21 : M 21 = M 45) (e22 : M 22 = M 46) (e16 : ∀ t, M 16 t = (M 41 t).tdiv 10) (e17 : ∀ t, M 17 t = (M 41 t).tmod 10) : c_d M = r_d M := by
  funext q
  match q with
  | 0 => exact e7
  | 1 => exact e8
  | 2 => exact e9
  | 3 => exact e10
  | 4 => exact e11
  | 5 => exact e12
  | 6 => exact e13
  | 7 => exact e14
  | 8 => exact funext e16
  | 9 => exact funext e17
  | 10 => exact e18
  | 11 => exact e19
  | 12 => exact e20
  | 13 => exact e21
  | q + 14 => exact e22
theorem k_R.premium {M : rd_M} {n nt : Nat} {o : Int → Int} {r a : Int} (h : k_R M n nt o) (ha : 0 ≤ a ∧ a ≤ 1000000000) : k_R (rd_up (rd_up (rd_up M 8 r a) 32 0 0) 34 r a) n nt o := by
  have e7 := h.e7
  have e8 := h.e8
  have e9 := h.e9
  have e10 := h.e10
  have e11 := h.e11
  have e12 := h.e12
  have e13 := h.e13
  have e14 := h.e14
  have e18 := h.e18
  have e19 := h.e19
  have e20 := h.e20
  have e21 := h.e21
  have e22 := h.e22
  have e16 := h.e16
  have e17 := h.e17
  obtain ⟨⟨hI, hC, hn, hm, hH⟩, a1, a2, a3, a4, a5, a6, a7, a8⟩ := h
  obtain ⟨i1, i2, i3, i4, i5, i6, i7⟩ := id hI
  refine ⟨⟨?_, ?_, hn, hm, ?_⟩, a1, a2, k_d e7 (by funext j; simp (decide := true) only [rd_up_app, rd_up_at, e8]) e9 e10 e11 e12 e13 e14 e18 e19 e20 e21 e22 e16 e17, ?_, ?_, ?_, ?_, ?_⟩
  · refine ⟨i1, i2, fun j j0 j1 => ?_, i4, i5, i6, i7⟩
    obtain ⟨x1, x2, x3⟩ := i3 j j0 j1
    refine ⟨x1, ?_, x3⟩
    simp (decide := true) only [rd_up_app, rd_up_at]
    split <;> omega
  · exact hC
  · exact hH
  · exact a4
  · exact a5
  · exact a6
  · exact a7
  · exact a8
theorem k_R.estimate {M : rd_M} {n nt : Nat} {o : Int → Int} {k a : Int} (h : k_R M n nt o) (ha : 0 ≤ a ∧ a ≤ 1000000000) : k_R (rd_up (rd_up (rd_up M 13 k a) 32 0 0) 39 k a) n nt o := by
  have e7 := h.e7
  have e8 := h.e8
  have e9 := h.e9
  have e10 := h.e10
  have e11 := h.e11
  have e12 := h.e12
  have e13 := h.e13
  have e14 := h.e14
  have e18 := h.e18
  have e19 := h.e19
  have e20 := h.e20
  have e21 := h.e21
  have e22 := h.e22
  have e16 := h.e16
  have e17 := h.e17
  obtain ⟨⟨hI, hC, hn, hm, hH⟩, a1, a2, a3, a4, a5, a6, a7, a8⟩ := h
  obtain ⟨i1, i2, i3, i4, i5, i6, i7⟩ := id hI
  refine ⟨⟨?_, ?_, hn, hm, ?_⟩, a1, a2, k_d e7 e8 e9 e10 e11 e12 (by funext j; simp (decide := true) only [rd_up_app, rd_up_at, e13]) e14 e18 e19 e20 e21 e22 e16 e17, ?_, ?_, ?_, ?_, ?_⟩
  · refine ⟨i1, i2, i3, fun j j0 j1 => ?_, i5, i6, i7⟩
    obtain ⟨x1, x2, x3, x4, x5⟩ := i4 j j0 j1
    refine ⟨x1, x2, x3, ?_, x5⟩
    simp (decide := true) only [rd_up_app, rd_up_at]
    split <;> omega
  · exact hC
  · exact hH
  · exact a4
  · exact a5
  · exact a6
  · exact a7
  · exact a8
theorem k_R.strike {M : rd_M} {n nt : Nat} {o : Int → Int} {k : Int} (h : k_R M n nt o)  : k_R (rd_up (rd_up (rd_up M 14 k 1) 32 0 0) 40 k 1) n nt o := by
  have e7 := h.e7
  have e8 := h.e8
  have e9 := h.e9
  have e10 := h.e10
  have e11 := h.e11
  have e12 := h.e12
  have e13 := h.e13
  have e14 := h.e14
  have e18 := h.e18
  have e19 := h.e19
  have e20 := h.e20
  have e21 := h.e21
  have e22 := h.e22
  have e16 := h.e16
  have e17 := h.e17
  obtain ⟨⟨hI, hC, hn, hm, hH⟩, a1, a2, a3, a4, a5, a6, a7, a8⟩ := h
  obtain ⟨i1, i2, i3, i4, i5, i6, i7⟩ := id hI
  refine ⟨⟨?_, ?_, hn, hm, ?_⟩, a1, a2, k_d e7 e8 e9 e10 e11 e12 e13 (by funext j; simp (decide := true) only [rd_up_app, rd_up_at, e14]) e18 e19 e20 e21 e22 e16 e17, ?_, ?_, ?_, ?_, ?_⟩
  · refine ⟨i1, i2, i3, fun j j0 j1 => ?_, i5, i6, i7⟩
    obtain ⟨x1, x2, x3, x4, x5, x6⟩ := i4 j j0 j1
    refine ⟨x1, x2, x3, x4, ?_, x6⟩
    simp (decide := true) only [rd_up_app, rd_up_at]
    split <;> omega
  · exact hC
  · exact hH
  · exact a4
  · exact a5
  · exact a6
  · exact a7
  · exact a8
theorem k_R.share {M : rd_M} {n nt : Nat} {o : Int → Int} {i p : Int} (h : k_R M n nt o) (hp : 0 ≤ p ∧ p ≤ 1000000) : k_R (rd_up (rd_up (rd_up M 22 i p) 32 0 0) 46 i p) n nt o := by
  have e7 := h.e7
  have e8 := h.e8
  have e9 := h.e9
  have e10 := h.e10
  have e11 := h.e11
  have e12 := h.e12
  have e13 := h.e13
  have e14 := h.e14
  have e18 := h.e18
  have e19 := h.e19
  have e20 := h.e20
  have e21 := h.e21
  have e22 := h.e22
  have e16 := h.e16
  have e17 := h.e17
  obtain ⟨⟨hI, hC, hn, hm, hH⟩, a1, a2, a3, a4, a5, a6, a7, a8⟩ := h
  obtain ⟨i1, i2, i3, i4, i5, i6, i7⟩ := id hI
  refine ⟨⟨?_, ?_, hn, hm, ?_⟩, a1, a2, k_d e7 e8 e9 e10 e11 e12 e13 e14 e18 e19 e20 e21 (by funext j; simp (decide := true) only [rd_up_app, rd_up_at, e22]) e16 e17, ?_, ?_, ?_, ?_, ?_⟩
  · refine ⟨i1, i2, i3, i4, i5, fun j j0 j1 => ?_, i7⟩
    have x1 := i6 j j0 j1
    simp (decide := true) only [rd_up_app, rd_up_at]
    split <;> omega
  · exact hC
  · exact hH
  · exact a4
  · exact a5
  · exact a6
  · exact a7
  · exact a8
theorem k_R.risk {M : rd_M} {n nt : Nat} {o : Int → Int} {r s y : Int} (h : k_R M n nt o) (hs : 1 ≤ s ∧ s ≤ 1000000000) (hy : 0 ≤ y ∧ y < 4) : k_R (rd_up (rd_up (rd_up (rd_up (rd_up M 7 r s) 9 r y) 32 0 0) 33 r s) 35 r y) n nt o := by
  have e7 := h.e7
  have e8 := h.e8
  have e9 := h.e9
  have e10 := h.e10
  have e11 := h.e11
  have e12 := h.e12
  have e13 := h.e13
  have e14 := h.e14
  have e18 := h.e18
  have e19 := h.e19
  have e20 := h.e20
  have e21 := h.e21
  have e22 := h.e22
  have e16 := h.e16
  have e17 := h.e17
  obtain ⟨⟨hI, hC, hn, hm, hH⟩, a1, a2, a3, a4, a5, a6, a7, a8⟩ := h
  obtain ⟨i1, i2, i3, i4, i5, i6, i7⟩ := id hI
  refine ⟨⟨?_, ?_, hn, hm, ?_⟩, a1, a2, k_d (by funext j; simp (decide := true) only [rd_up_app, rd_up_at, e7]) e8 (by funext j; simp (decide := true) only [rd_up_app, rd_up_at, e9]) e10 e11 e12 e13 e14 e18 e19 e20 e21 e22 e16 e17, ?_, ?_, ?_, ?_, ?_⟩
  · refine ⟨i1, i2, fun j j0 j1 => ?_, i4, i5, i6, i7⟩
    obtain ⟨x1, x2, x3⟩ := i3 j j0 j1
    refine ⟨?_, x2, ?_⟩
    · simp (decide := true) only [rd_up_app, rd_up_at]
      split <;> omega
    · simp (decide := true) only [rd_up_app, rd_up_at]
      split <;> omega
  · exact hC
  · exact hH
  · exact a4
  · exact a5
  · exact a6
  · intro k k0 k1
    have x := a7 k k0 k1
    simp (decide := true) only [rd_up_app, rd_up_at]
    split <;> omega
  · exact a8
theorem k_R.year {M : rd_M} {n nt : Nat} {o : Int → Int} {y b : Int} (h : k_R M n nt o) (hb : 0 ≤ b ∧ b ≤ 1) : k_R (rd_up (rd_up (rd_up M 5 y (1 - b)) 32 0 0) 48 y (1 - b)) n nt o := by
  have e7 := h.e7
  have e8 := h.e8
  have e9 := h.e9
  have e10 := h.e10
  have e11 := h.e11
  have e12 := h.e12
  have e13 := h.e13
  have e14 := h.e14
  have e18 := h.e18
  have e19 := h.e19
  have e20 := h.e20
  have e21 := h.e21
  have e22 := h.e22
  have e16 := h.e16
  have e17 := h.e17
  obtain ⟨⟨hI, hC, hn, hm, hH⟩, a1, a2, a3, a4, a5, a6, a7, a8⟩ := h
  obtain ⟨i1, i2, i3, i4, i5, i6, i7⟩ := id hI
  refine ⟨⟨?_, ?_, hn, hm, ?_⟩, a1, a2, k_d e7 e8 e9 e10 e11 e12 e13 e14 e18 e19 e20 e21 e22 e16 e17, ?_, ?_, ?_, ?_, ?_⟩
  · refine ⟨i1, i2, i3, i4, i5, i6, fun j j0 j1 => ?_⟩
    have x1 := i7 j j0 j1
    simp (decide := true) only [rd_up_app, rd_up_at]
    split <;> omega
  · exact hC
  · exact hH
  · funext j; simp (decide := true) only [rd_up_app, rd_up_at, a4]
  · exact a5
  · exact a6
  · exact a7
  · exact a8

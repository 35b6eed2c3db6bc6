/-! the reference: data, takes, small methods -/
/-- what the reference's take does -/
def r_take (M : rd_M) (t k v : Int) : rd_M :=
  rd_up (rd_up (rd_up M 49 k (M 49 k - v)) 50 (t * 40 + k) (M 50 (t * 40 + k) + v)) 51 t (M 51 t + v)
def r_tks (M : rd_M) (t : Int) (n : Nat) (w : Int → Int) : rd_M := fun q =>
  if q = 49 then (fun j => if 0 ≤ j ∧ j < n then M 49 j - w j else M 49 j)
  else if q = 50 then (fun j => if t * 40 ≤ j ∧ j < t * 40 + n then M 50 j + w (j - t * 40) else M 50 j)
  else if q = 51 then (fun j => if j = t then M 51 j + rd_sm w n else M 51 j) else M q
theorem r_tks_24 {M : rd_M} {t j : Int} {n : Nat} {w : Int → Int} : r_tks M t n w 49 j = if 0 ≤ j ∧ j < n then M 49 j - w j else M 49 j := rfl
theorem r_tks_25 {M : rd_M} {t j : Int} {n : Nat} {w : Int → Int} : r_tks M t n w 50 j = if t * 40 ≤ j ∧ j < t * 40 + n then M 50 j + w (j - t * 40) else M 50 j := rfl
theorem r_tks_26 {M : rd_M} {t j : Int} {n : Nat} {w : Int → Int} : r_tks M t n w 51 j = if j = t then M 51 j + rd_sm w n else M 51 j := rfl
theorem r_tks_ne {M : rd_M} {t : Int} {n : Nat} {w : Int → Int} {q : Nat} (h1 : q ≠ 49) (h2 : q ≠ 50) (h3 : q ≠ 51) : r_tks M t n w q = M q := by
  unfold r_tks; rw [if_neg h1, if_neg h2, if_neg h3]
theorem r_tks_congr {M : rd_M} {t : Int} {n : Nat} {w w' : Int → Int} (h : ∀ j : Int, 0 ≤ j → j < n → w j = w' j) : r_tks M t n w = r_tks M t n w' := by
  funext q j
  by_cases h1 : q = 49
  · subst h1
    rw [r_tks_24, r_tks_24]
    by_cases hj : 0 ≤ j ∧ j < n
    · rw [if_pos hj, if_pos hj, h j hj.1 hj.2]
    · rw [if_neg hj, if_neg hj]
  · by_cases h2 : q = 50
    · subst h2
      rw [r_tks_25, r_tks_25]
      by_cases hj : t * 40 ≤ j ∧ j < t * 40 + n
      · rw [if_pos hj, if_pos hj, h (j - t * 40) (by omega) (by omega)]
      · rw [if_neg hj, if_neg hj]
    · by_cases h3 : q = 51
      · subst h3
        rw [r_tks_26, r_tks_26, rd_sm_c n h]
      · rw [r_tks_ne h1 h2 h3, r_tks_ne h1 h2 h3]
theorem r_tks_0 {M : rd_M} {t : Int} {n : Nat} {w : Int → Int} (h : ∀ j : Int, 0 ≤ j → j < n → w j = 0) : r_tks M t n w = M := by
  funext q j
  by_cases h1 : q = 49
  · subst h1
    rw [r_tks_24]
    by_cases hj : 0 ≤ j ∧ j < n
    · rw [if_pos hj, h j hj.1 hj.2]; omega
    · rw [if_neg hj]
  · by_cases h2 : q = 50
    · subst h2
      rw [r_tks_25]
      by_cases hj : t * 40 ≤ j ∧ j < t * 40 + n
      · rw [if_pos hj, h (j - t * 40) (by omega) (by omega)]; omega
      · rw [if_neg hj]
    · by_cases h3 : q = 51
      · subst h3
        rw [r_tks_26, rd_sm_z n h]
        by_cases hj : j = t
        · rw [if_pos hj]; omega
        · rw [if_neg hj]
      · rw [r_tks_ne h1 h2 h3]
theorem r_tks_take {M : rd_M} {t k a : Int} {n : Nat} {w : Int → Int} (h0 : 0 ≤ k) (h1 : k < n) : r_take (r_tks M t n w) t k a = r_tks M t n (fun j => if j = k then w j + a else w j) := by
  funext q j
  unfold r_take
  by_cases h24 : q = 49
  · subst h24
    rw [rd_up_app (by decide), rd_up_app (by decide), rd_up_at, r_tks_24, r_tks_24, r_tks_24]
    by_cases hj : j = k
    · subst hj
      rw [if_pos rfl, if_pos ⟨h0, h1⟩, if_pos ⟨h0, h1⟩, if_pos rfl]
      omega
    · rw [if_neg hj, if_neg hj]
  · by_cases h25 : q = 50
    · subst h25
      rw [rd_up_app (by decide), rd_up_at, rd_up_app (by decide), r_tks_25, r_tks_25, r_tks_25]
      by_cases hj : j = t * 40 + k
      · subst hj
        rw [if_pos rfl, if_pos (by omega), if_pos (by omega), if_pos (by omega)]
        omega
      · rw [if_neg hj]
        by_cases hr : t * 40 ≤ j ∧ j < t * 40 + n
        · rw [if_pos hr, if_pos hr, if_neg (by omega)]
        · rw [if_neg hr, if_neg hr]
    · by_cases h26 : q = 51
      · subst h26
        rw [rd_up_at, rd_up_app (by decide), rd_up_app (by decide), r_tks_26, r_tks_26, r_tks_26, rd_sm_add n h0 h1]
        by_cases hj : j = t
        · subst hj
          rw [if_pos rfl, if_pos rfl, if_pos rfl]
          omega
        · rw [if_neg hj, if_neg hj, if_neg hj]
      · rw [rd_up_app h26, rd_up_app h25, rd_up_app h24, r_tks_ne h24 h25 h26, r_tks_ne h24 h25 h26]
theorem r_tks_tks {M : rd_M} {t : Int} {n : Nat} {w w' : Int → Int} : r_tks (r_tks M t n w) t n w' = r_tks M t n (fun k => w k + w' k) := by
  funext q j
  by_cases h1 : q = 49
  · subst h1
    rw [r_tks_24, r_tks_24, r_tks_24]
    by_cases hj : 0 ≤ j ∧ j < n
    · rw [if_pos hj, if_pos hj, if_pos hj]; omega
    · rw [if_neg hj, if_neg hj, if_neg hj]
  · by_cases h2 : q = 50
    · subst h2
      rw [r_tks_25, r_tks_25, r_tks_25]
      by_cases hj : t * 40 ≤ j ∧ j < t * 40 + n
      · rw [if_pos hj, if_pos hj, if_pos hj]; omega
      · rw [if_neg hj, if_neg hj, if_neg hj]
    · by_cases h3 : q = 51
      · subst h3
        rw [r_tks_26, r_tks_26, r_tks_26, rd_sm_p]
        by_cases hj : j = t
        · rw [if_pos hj, if_pos hj, if_pos hj]; omega
        · rw [if_neg hj, if_neg hj, if_neg hj]
      · rw [r_tks_ne h1 h2 h3, r_tks_ne h1 h2 h3, r_tks_ne h1 h2 h3]
theorem r_tks_up {M : rd_M} {t i v : Int} {n : Nat} {w : Int → Int} {p : Nat} (h1 : p ≠ 49) (h2 : p ≠ 50) (h3 : p ≠ 51) : rd_up (r_tks M t n w) p i v = r_tks (rd_up M p i v) t n w := by
  funext q j
  by_cases e1 : q = 49
  · subst e1
    rw [rd_up_app h1.symm, r_tks_24, r_tks_24, rd_up_app h1.symm]
  · by_cases e2 : q = 50
    · subst e2
      rw [rd_up_app h2.symm, r_tks_25, r_tks_25, rd_up_app h2.symm]
    · by_cases e3 : q = 51
      · subst e3
        rw [rd_up_app h3.symm, r_tks_26, r_tks_26, rd_up_app h3.symm]
      · rw [r_tks_ne e1 e2 e3]
        by_cases hq : q = p
        · subst hq
          rw [rd_up_at, rd_up_at, r_tks_ne e1 e2 e3]
        · rw [rd_up_app hq, rd_up_app hq, r_tks_ne e1 e2 e3]
/-- the reference's data -/
def r_d (M : rd_M) : rd_M := fun q => match q with
  | 0 => M 33 | 1 => M 34 | 2 => M 35 | 3 => M 36 | 4 => M 37 | 5 => M 38 | 6 => M 39 | 7 => M 40 | 8 => fun t => (M 41 t).tdiv 10 | 9 => fun t => (M 41 t).tmod 10 | 10 => M 42 | 11 => M 43 | 12 => M 44 | 13 => M 45 | _ => M 46
/-- the reference between calls -/
def r_B (M : rd_M) (n nt : Nat) : Prop := M 32 9 = n ∧ M 32 15 = nt ∧ n ≤ 40 ∧ nt ≤ 10 ∧ sp_D (r_d M) ∧ (∀ t : Int, 0 ≤ t → t < 10 → 0 ≤ M 41 t ∧ M 41 t < 50) ∧ (∀ i : Int, 0 ≤ i → i < 60 → 0 ≤ M 46 i ∧ M 46 i ≤ 1000000) ∧ (∀ y : Int, 0 ≤ y → y < 4 → 0 ≤ M 48 y ∧ M 48 y ≤ 1)
/-- places that the reference's work leaves -/
def r_fr (M' M : rd_M) : Prop := (∀ q, q ≠ 32 → (q < 49 ∨ 57 < q) → M' q = M q) ∧ (∀ i : Int, i ≠ 28 → i ≠ 29 → M' 32 i = M 32 i)
theorem r_fr.trans {A B C : rd_M} (h : r_fr A B) (h' : r_fr B C) : r_fr A C := ⟨fun q a b => (h.1 q a b).trans (h'.1 q a b), fun i a b => (h.2 i a b).trans (h'.2 i a b)⟩
theorem r_fr.refl {A : rd_M} : r_fr A A := ⟨fun _ _ _ => rfl, fun _ _ _ => rfl⟩
theorem r_fr.low {M M' : rd_M} (h : r_fr M' M) (q : Nat) (h4 : q ≠ 32) (hq : q ≤ 48) : M' q = M q := h.1 q h4 (by omega)
theorem r_fr.d {M M' : rd_M} (h : r_fr M' M) : r_d M' = r_d M := by
  funext q
  unfold r_d
  split <;> first | exact h.low _ (by decide) (by decide) | rw [h.low 41 (by decide) (by decide)]
theorem r_fr.B {M M' : rd_M} {n nt : Nat} (h : r_fr M' M) (hB : r_B M n nt) : r_B M' n nt := by
  unfold r_B at *
  rw [h.d, h.low 41 (by decide) (by decide), h.low 46 (by decide) (by decide), h.low 48 (by decide) (by decide), h.2 9 (by decide) (by decide), h.2 15 (by decide) (by decide)]
  exact hB
theorem r_fr.tks {M : rd_M} {t : Int} {n : Nat} {w : Int → Int} : r_fr (r_tks M t n w) M := ⟨fun q _ b => r_tks_ne (by omega) (by omega) (by omega), fun i _ _ => by rw [r_tks_ne (by decide) (by decide) (by decide)]⟩
theorem r_fr.up {M : rd_M} {q : Nat} {i v : Int} (h : 49 ≤ q ∧ q ≤ 57) : r_fr (rd_up M q i v) M := ⟨fun r _ b => rd_up_ne (by omega), fun j _ _ => by rw [rd_up_app (by omega)]⟩
theorem r_fr.up32 {M : rd_M} {i v : Int} (h : i = 28 ∨ i = 29) : r_fr (rd_up M 32 i v) M := ⟨fun r a _ => rd_up_ne a, fun j _ _ => by rw [rd_up_at, if_neg (by omega)]⟩
theorem r_B.sh {M : rd_M} {n nt : Nat} (h : r_B M n nt) {t : Int} (h0 : 0 ≤ t) (h1 : t < 10) : (0 ≤ M 41 t ∧ M 41 t < 50) ∧ (0 ≤ (M 41 t).tdiv 10 ∧ (M 41 t).tdiv 10 ≤ 4) ∧ (0 ≤ (M 41 t).tmod 10 ∧ (M 41 t).tmod 10 ≤ 3) ∧ (0 ≤ M 42 t ∧ M 42 t ≤ 1000000000) ∧ (0 ≤ M 43 t ∧ M 43 t ≤ 1000000000) ∧ (0 ≤ M 44 t ∧ M 44 t ≤ 5) ∧ (0 ≤ M 45 t ∧ M 45 t ≤ 1000000000) := by
  obtain ⟨_, _, _, _, hD, hS, _⟩ := h
  obtain ⟨⟨k, a, b, c, d, _⟩, y⟩ := hD.2.2 t h0 h1
  exact ⟨hS t h0 h1, k, y, a, b, c, d⟩
theorem r_B.risk {M : rd_M} {n nt : Nat} (h : r_B M n nt) {r : Int} (h0 : 0 ≤ r) (h1 : r < 12) : (0 ≤ M 33 r ∧ M 33 r ≤ 1000000000) ∧ (0 ≤ M 34 r ∧ M 34 r ≤ 1000000000) ∧ (0 ≤ M 35 r ∧ M 35 r ≤ 3) := h.2.2.2.2.1.1 r h0 h1
theorem r_B.claim {M : rd_M} {n nt : Nat} (h : r_B M n nt) {k : Int} (h0 : 0 ≤ k) (h1 : k < 40) : (0 ≤ M 36 k ∧ M 36 k < 12) ∧ (0 ≤ M 37 k ∧ M 37 k ≤ 9) ∧ (0 ≤ M 38 k ∧ M 38 k ≤ 100000) ∧ (0 ≤ M 39 k ∧ M 39 k ≤ 1000000000) ∧ (0 ≤ M 40 k ∧ M 40 k ≤ 1) := h.2.2.2.2.1.2.1 k h0 h1
theorem r_B.tm {M : rd_M} {n nt : Nat} (h : r_B M n nt) {t : Int} (h0 : 0 ≤ t) (h1 : t < 10) : sp_tm (r_d M) t := (h.2.2.2.2.1.2.2 t h0 h1).1
set_option maxHeartbeats 4000000 in
set_option maxRecDepth 100000 in
theorem ev_M_in {v a b : Int} {M : rd_M} {Q : rd_R → rd_M → Prop} (hv : rd_J v) (ha : rd_J a) (hb : rd_J b) (hT : a ≤ v ∧ v ≤ b → Q (.inl (some (rd_i 1))) M) (hF : ¬ (a ≤ v ∧ v ≤ b) → Q (.inl (some (rd_i 0))) M) : rd_G x_M_in 0 [some (rd_l v), none, some (rd_l a), none, some (rd_l b), none] [] M 0 Q := by
  refine rd_lldn (pc := 0) d_M_in_0 rfl ?_
  refine rd_lldn (pc := 1) d_M_in_1 rfl ?_
  refine rd_lcmp_lt (pc := 2) (tgt := 17) d_M_in_2 d_M_in_3 rfl ⟨by omega, by omega⟩ ⟨by omega, by omega⟩ (fun h2 => ?_) (fun h2 => ?_)
  · skip
    refine rd_iconst (pc := 17) d_M_in_17 ?_
    exact rd_zret (pc := 18) d_M_in_18 rfl (Nat.le_of_ble_eq_true rfl) (by omega) (by first | exact hT (by omega) | exact hF (by omega))
  · skip
    refine rd_lldn (pc := 6) d_M_in_6 rfl ?_
    refine rd_lld (pc := 7) d_M_in_7 rfl ?_
    refine rd_lcmp_gt (pc := 9) (tgt := 17) d_M_in_9 d_M_in_10 rfl ⟨by omega, by omega⟩ ⟨by omega, by omega⟩ (fun h9 => ?_) (fun h9 => ?_)
    · skip
      refine rd_iconst (pc := 17) d_M_in_17 ?_
      exact rd_zret (pc := 18) d_M_in_18 rfl (Nat.le_of_ble_eq_true rfl) (by omega) (by first | exact hT (by omega) | exact hF (by omega))
    · skip
      refine rd_iconst (pc := 13) d_M_in_13 ?_
      refine rd_goto (pc := 14) (tgt := 18) d_M_in_14 rfl ?_
      exact rd_zret (pc := 18) d_M_in_18 rfl (Nat.le_of_ble_eq_true rfl) (by omega) (by first | exact hT (by omega) | exact hF (by omega))
set_option maxHeartbeats 4000000 in
set_option maxRecDepth 100000 in
theorem ev_M_isRisk {r : Int} {n nt : Nat} {M : rd_M} {Q : rd_R → rd_M → Prop} (hB : r_B M n nt) (hr : rd_I r) (hT : (0 ≤ r ∧ r < 12) ∧ 0 < M 33 r → Q (.inl (some (rd_i 1))) M) (hF : ¬ ((0 ≤ r ∧ r < 12) ∧ 0 < M 33 r) → Q (.inl (some (rd_i 0))) M) : rd_G x_M_isRisk 0 [some (.ref 32), some (rd_i r)] [] M 0 Q := by
  refine rd_ildn (pc := 0) d_M_isRisk_0 rfl ?_
  refine rd_i2l (pc := 1) d_M_isRisk_1 ⟨by omega, by omega⟩ ?_
  refine rd_lconst (pc := 2) (v := 0) d_M_isRisk_2 rfl ?_
  refine rd_ldc2 (pc := 3) (v := 11) d_M_isRisk_3 kl_M_91 ?_
  refine rd_callSi (pc := 6) (n' := 0) [_, _, _] d_M_isRisk_6 ml_M_93 (Nat.le_of_ble_eq_true rfl) (Nat.le_of_ble_eq_true rfl) (Nat.le_of_ble_eq_true rfl) rfl rfl rfl (Nat.le_of_ble_eq_true rfl) (Nat.le_of_ble_eq_true rfl) ?_
  refine ev_M_in ⟨by omega, by omega⟩ ⟨by omega, by omega⟩ ⟨by omega, by omega⟩ (fun c6 => ⟨_, rfl, ?_⟩) (fun c6 => ⟨_, rfl, ?_⟩)
  · skip
    refine rd_if_eq (pc := 9) (tgt := 25) d_M_isRisk_9 rfl ⟨by omega, by omega⟩ (fun h9 => ?_) (fun h9 => ?_)
    · exact absurd h9 (by decide)
    · skip
      have hs := hB.risk (r := r) (by omega) (by omega)
      refine rd_aldn (pc := 12) d_M_isRisk_12 rfl ?_
      refine rd_getr (pc := 13) d_M_isRisk_13 fl_M_7 rfl rfl ?_
      refine rd_ildn (pc := 16) d_M_isRisk_16 rfl ?_
      refine rd_iald (pc := 17) d_M_isRisk_17 rfl (by omega) (by omega) ?_
      refine rd_if_le (pc := 18) (tgt := 25) d_M_isRisk_18 rfl ⟨by omega, by omega⟩ (fun h18 => ?_) (fun h18 => ?_)
      · skip
        refine rd_iconst (pc := 25) d_M_isRisk_25 ?_
        exact rd_zret (pc := 26) d_M_isRisk_26 rfl (Nat.le_of_ble_eq_true rfl) (by omega) (by first | exact hT (by omega) | exact hF (by omega))
      · skip
        refine rd_iconst (pc := 21) d_M_isRisk_21 ?_
        refine rd_goto (pc := 22) (tgt := 26) d_M_isRisk_22 rfl ?_
        exact rd_zret (pc := 26) d_M_isRisk_26 rfl (Nat.le_of_ble_eq_true rfl) (by omega) (by first | exact hT (by omega) | exact hF (by omega))
  · skip
    refine rd_if_eq (pc := 9) (tgt := 25) d_M_isRisk_9 rfl ⟨by omega, by omega⟩ (fun h9 => ?_) (fun h9 => ?_)
    · skip
      refine rd_iconst (pc := 25) d_M_isRisk_25 ?_
      exact rd_zret (pc := 26) d_M_isRisk_26 rfl (Nat.le_of_ble_eq_true rfl) (by omega) (by first | exact hT (by omega) | exact hF (by omega))
    · exact absurd h9 (by decide)
set_option maxHeartbeats 4000000 in
set_option maxRecDepth 100000 in
theorem ev_M_isClaim {k : Int} {n nt : Nat} {M : rd_M} {Q : rd_R → rd_M → Prop} (hB : r_B M n nt) (hk : rd_I k) (hT : 0 ≤ k ∧ k < n → Q (.inl (some (rd_i 1))) M) (hF : ¬ (0 ≤ k ∧ k < n) → Q (.inl (some (rd_i 0))) M) : rd_G x_M_isClaim 0 [some (.ref 32), some (rd_i k)] [] M 0 Q := by
  have hn := hB.1
  have hn4 := hB.2.2.1
  refine rd_ildn (pc := 0) d_M_isClaim_0 rfl ?_
  refine rd_i2l (pc := 1) d_M_isClaim_1 ⟨by omega, by omega⟩ ?_
  refine rd_lconst (pc := 2) (v := 0) d_M_isClaim_2 rfl ?_
  refine rd_aldn (pc := 3) d_M_isClaim_3 rfl ?_
  refine rd_gi (pc := 4) (ki := 9) d_M_isClaim_4 fl_M_97 rfl rfl rfl ?_
  refine rd_iconst (pc := 7) d_M_isClaim_7 ?_
  refine rd_isub (pc := 8) d_M_isClaim_8 ?_
  refine rd_i2l (pc := 9) d_M_isClaim_9 ⟨by omega, by omega⟩ ?_
  refine rd_callSi (pc := 10) (n' := 0) [_, _, _] d_M_isClaim_10 ml_M_93 (Nat.le_of_ble_eq_true rfl) (Nat.le_of_ble_eq_true rfl) (Nat.le_of_ble_eq_true rfl) rfl rfl rfl (Nat.le_of_ble_eq_true rfl) (Nat.le_of_ble_eq_true rfl) ?_
  refine ev_M_in ⟨by omega, by omega⟩ ⟨by omega, by omega⟩ ⟨by omega, by omega⟩ (fun c10 => ⟨_, rfl, ?_⟩) (fun c10 => ⟨_, rfl, ?_⟩)
  · skip
    exact rd_zret (pc := 13) d_M_isClaim_13 rfl (Nat.le_of_ble_eq_true rfl) (by omega) (by first | exact hT (by omega) | exact hF (by omega))
  · skip
    exact rd_zret (pc := 13) d_M_isClaim_13 rfl (Nat.le_of_ble_eq_true rfl) (by omega) (by first | exact hT (by omega) | exact hF (by omega))
set_option maxHeartbeats 4000000 in
set_option maxRecDepth 100000 in
theorem ev_M_isTreaty {t : Int} {n nt : Nat} {M : rd_M} {Q : rd_R → rd_M → Prop} (hB : r_B M n nt) (hk : rd_I t) (hT : 0 ≤ t ∧ t < nt → Q (.inl (some (rd_i 1))) M) (hF : ¬ (0 ≤ t ∧ t < nt) → Q (.inl (some (rd_i 0))) M) : rd_G x_M_isTreaty 0 [some (.ref 32), some (rd_i t)] [] M 0 Q := by
  have hn := hB.2.1
  have hn4 := hB.2.2.2.1
  refine rd_ildn (pc := 0) d_M_isTreaty_0 rfl ?_
  refine rd_i2l (pc := 1) d_M_isTreaty_1 ⟨by omega, by omega⟩ ?_
  refine rd_lconst (pc := 2) (v := 0) d_M_isTreaty_2 rfl ?_
  refine rd_aldn (pc := 3) d_M_isTreaty_3 rfl ?_
  refine rd_gi (pc := 4) (ki := 15) d_M_isTreaty_4 fl_M_100 rfl rfl rfl ?_
  refine rd_iconst (pc := 7) d_M_isTreaty_7 ?_
  refine rd_isub (pc := 8) d_M_isTreaty_8 ?_
  refine rd_i2l (pc := 9) d_M_isTreaty_9 ⟨by omega, by omega⟩ ?_
  refine rd_callSi (pc := 10) (n' := 0) [_, _, _] d_M_isTreaty_10 ml_M_93 (Nat.le_of_ble_eq_true rfl) (Nat.le_of_ble_eq_true rfl) (Nat.le_of_ble_eq_true rfl) rfl rfl rfl (Nat.le_of_ble_eq_true rfl) (Nat.le_of_ble_eq_true rfl) ?_
  refine ev_M_in ⟨by omega, by omega⟩ ⟨by omega, by omega⟩ ⟨by omega, by omega⟩ (fun c10 => ⟨_, rfl, ?_⟩) (fun c10 => ⟨_, rfl, ?_⟩)
  · skip
    exact rd_zret (pc := 13) d_M_isTreaty_13 rfl (Nat.le_of_ble_eq_true rfl) (by omega) (by first | exact hT (by omega) | exact hF (by omega))
  · skip
    exact rd_zret (pc := 13) d_M_isTreaty_13 rfl (Nat.le_of_ble_eq_true rfl) (by omega) (by first | exact hT (by omega) | exact hF (by omega))
set_option maxHeartbeats 4000000 in
set_option maxRecDepth 100000 in
theorem ev_M_kindOf {t : Int} {n nt : Nat} {M : rd_M} {Q : rd_R → rd_M → Prop} (hB : r_B M n nt) (h0 : 0 ≤ t) (h1 : t < 10) (hQ : Q (.inl (some (rd_i ((M 41 t).tdiv 10)))) (M)) : rd_G x_M_kindOf 0 [some (.ref 32), some (rd_i t)] [] M 0 Q := by
  have hs := hB.sh h0 h1
  refine rd_aldn (pc := 0) d_M_kindOf_0 rfl ?_
  refine rd_getr (pc := 1) d_M_kindOf_1 fl_M_35 rfl rfl ?_
  refine rd_ildn (pc := 4) d_M_kindOf_4 rfl ?_
  refine rd_iald (pc := 5) d_M_kindOf_5 rfl (by omega) (by omega) ?_
  refine rd_bipush (pc := 6) d_M_kindOf_6 rfl ?_
  refine rd_idiv (pc := 8) d_M_kindOf_8 ⟨by omega, by omega⟩ ⟨by omega, by omega⟩ (by omega) ?_
  exact rd_iret (pc := 9) d_M_kindOf_9 rfl (Nat.le_of_ble_eq_true rfl) (hQ)
set_option maxHeartbeats 4000000 in
set_option maxRecDepth 100000 in
theorem ev_M_treatyYear {t : Int} {n nt : Nat} {M : rd_M} {Q : rd_R → rd_M → Prop} (hB : r_B M n nt) (h0 : 0 ≤ t) (h1 : t < 10) (hQ : Q (.inl (some (rd_i ((M 41 t).tmod 10)))) (M)) : rd_G x_M_treatyYear 0 [some (.ref 32), some (rd_i t)] [] M 0 Q := by
  have hs := hB.sh h0 h1
  refine rd_aldn (pc := 0) d_M_treatyYear_0 rfl ?_
  refine rd_getr (pc := 1) d_M_treatyYear_1 fl_M_35 rfl rfl ?_
  refine rd_ildn (pc := 4) d_M_treatyYear_4 rfl ?_
  refine rd_iald (pc := 5) d_M_treatyYear_5 rfl (by omega) (by omega) ?_
  refine rd_bipush (pc := 6) d_M_treatyYear_6 rfl ?_
  refine rd_irem (pc := 8) d_M_treatyYear_8 ⟨by omega, by omega⟩ ⟨by omega, by omega⟩ (by omega) ?_
  exact rd_iret (pc := 9) d_M_treatyYear_9 rfl (Nat.le_of_ble_eq_true rfl) (hQ)
set_option maxHeartbeats 4000000 in
set_option maxRecDepth 100000 in
theorem ev_M_claimYear {k : Int} {n nt : Nat} {M : rd_M} {Q : rd_R → rd_M → Prop} (hB : r_B M n nt) (h0 : 0 ≤ k) (h1 : k < 40) (hQ : Q (.inl (some (rd_i (M 35 (M 36 k))))) (M)) : rd_G x_M_claimYear 0 [some (.ref 32), some (rd_i k)] [] M 0 Q := by
  obtain ⟨hr, _⟩ := hB.claim h0 h1
  refine rd_aldn (pc := 0) d_M_claimYear_0 rfl ?_
  refine rd_getr (pc := 1) d_M_claimYear_1 fl_M_16 rfl rfl ?_
  refine rd_aldn (pc := 4) d_M_claimYear_4 rfl ?_
  refine rd_getr (pc := 5) d_M_claimYear_5 fl_M_19 rfl rfl ?_
  refine rd_ildn (pc := 8) d_M_claimYear_8 rfl ?_
  refine rd_iald (pc := 9) d_M_claimYear_9 rfl (by omega) (by omega) ?_
  refine rd_iald (pc := 10) d_M_claimYear_10 rfl (by omega) (by omega) ?_
  exact rd_iret (pc := 11) d_M_claimYear_11 rfl (Nat.le_of_ble_eq_true rfl) (hQ)
set_option maxHeartbeats 4000000 in
set_option maxRecDepth 100000 in
theorem ev_M_counts {k y : Int} {n nt : Nat} {M : rd_M} {Q : rd_R → rd_M → Prop} (hB : r_B M n nt) (h0 : 0 ≤ k) (h1 : k < 40) (hy : 0 ≤ y ∧ y ≤ 3) (hT : M 40 k = 0 ∧ M 35 (M 36 k) = y → Q (.inl (some (rd_i 1))) M) (hF : ¬ (M 40 k = 0 ∧ M 35 (M 36 k) = y) → Q (.inl (some (rd_i 0))) M) : rd_G x_M_counts 0 [some (.ref 32), some (rd_i k), some (rd_i y)] [] M 0 Q := by
  obtain ⟨hr, _, _, _, hs⟩ := hB.claim h0 h1
  obtain ⟨_, _, hyy⟩ := hB.risk hr.1 hr.2
  refine rd_aldn (pc := 0) d_M_counts_0 rfl ?_
  refine rd_getr (pc := 1) d_M_counts_1 fl_M_31 rfl rfl ?_
  refine rd_ildn (pc := 4) d_M_counts_4 rfl ?_
  refine rd_zald (pc := 5) d_M_counts_5 rfl (by omega) (by omega) ?_
  refine rd_if_ne (pc := 6) (tgt := 22) d_M_counts_6 rfl ⟨by omega, by omega⟩ (fun h6 => ?_) (fun h6 => ?_)
  · skip
    refine rd_iconst (pc := 22) d_M_counts_22 ?_
    exact rd_zret (pc := 23) d_M_counts_23 rfl (Nat.le_of_ble_eq_true rfl) (by omega) (by first | exact hT (by omega) | exact hF (by omega))
  · skip
    refine rd_aldn (pc := 9) d_M_counts_9 rfl ?_
    refine rd_ildn (pc := 10) d_M_counts_10 rfl ?_
    refine rd_callVi (pc := 11) (n' := 0) [_] d_M_counts_11 ml_M_141 rfl (Nat.le_of_ble_eq_true rfl) (Nat.le_of_ble_eq_true rfl) (Nat.le_of_ble_eq_true rfl) rfl rfl rfl (Nat.le_of_ble_eq_true rfl) (Nat.le_of_ble_eq_true rfl) ?_
    refine ev_M_claimYear hB h0 h1 ?_
    refine ⟨_, rfl, ?_⟩
    refine rd_ildn (pc := 14) d_M_counts_14 rfl ?_
    refine rd_icmp_ne (pc := 15) (tgt := 22) d_M_counts_15 rfl ⟨by omega, by omega⟩ ⟨by omega, by omega⟩ (fun h15 => ?_) (fun h15 => ?_)
    · skip
      refine rd_iconst (pc := 22) d_M_counts_22 ?_
      exact rd_zret (pc := 23) d_M_counts_23 rfl (Nat.le_of_ble_eq_true rfl) (by omega) (by first | exact hT (by omega) | exact hF (by omega))
    · skip
      refine rd_iconst (pc := 18) d_M_counts_18 ?_
      refine rd_goto (pc := 19) (tgt := 23) d_M_counts_19 rfl ?_
      exact rd_zret (pc := 23) d_M_counts_23 rfl (Nat.le_of_ble_eq_true rfl) (by omega) (by first | exact hT (by omega) | exact hF (by omega))
set_option maxHeartbeats 4000000 in
set_option maxRecDepth 100000 in
theorem ev_M_partOf {t r : Int} {n nt : Nat} {M : rd_M} {Q : rd_R → rd_M → Prop} (hB : r_B M n nt) (h0 : 0 ≤ t) (h1 : t < 10) (r0 : 0 ≤ r) (r1 : r < 12) (hs : 0 < M 33 r) (hQ : Q (.inl (some (rd_l (sp_part ((M 41 t).tdiv 10) (M 42 t) (M 43 t) (M 33 r))))) (M)) : rd_G x_M_partOf 0 [some (.ref 32), some (rd_i t), some (rd_i r), none, none, none, none] [] M 0 Q := by
  obtain ⟨s1, s2, s3, ha, hb, hc, hd⟩ := hB.sh h0 h1
  obtain ⟨hsm, _⟩ := hB.risk r0 r1
  have hm := rd_mulb ha.1 ha.2 hb.1 hb.2
  unfold sp_part at hQ
  rw [if_neg (by omega)] at hQ
  refine rd_aldn (pc := 0) d_M_partOf_0 rfl ?_
  refine rd_ildn (pc := 1) d_M_partOf_1 rfl ?_
  refine rd_callVi (pc := 2) (n' := 0) [_] d_M_partOf_2 ml_M_144 rfl (Nat.le_of_ble_eq_true rfl) (Nat.le_of_ble_eq_true rfl) (Nat.le_of_ble_eq_true rfl) rfl rfl rfl (Nat.le_of_ble_eq_true rfl) (Nat.le_of_ble_eq_true rfl) ?_
  refine ev_M_kindOf hB h0 h1 ?_
  refine ⟨_, rfl, ?_⟩
  refine rd_if_ne (pc := 5) (tgt := 57) d_M_partOf_5 rfl ⟨by omega, by omega⟩ (fun h5 => ?_) (fun h5 => ?_)
  · skip
    refine rd_aldn (pc := 57) d_M_partOf_57 rfl ?_
    refine rd_getr (pc := 58) d_M_partOf_58 fl_M_7 rfl rfl ?_
    refine rd_ildn (pc := 61) d_M_partOf_61 rfl ?_
    refine rd_iald (pc := 62) d_M_partOf_62 rfl (by omega) (by omega) ?_
    refine rd_aldn (pc := 63) d_M_partOf_63 rfl ?_
    refine rd_getr (pc := 64) d_M_partOf_64 fl_M_38 rfl rfl ?_
    refine rd_ildn (pc := 67) d_M_partOf_67 rfl ?_
    refine rd_iald (pc := 68) d_M_partOf_68 rfl (by omega) (by omega) ?_
    refine rd_icmp_le (pc := 69) (tgt := 89) d_M_partOf_69 rfl ⟨by omega, by omega⟩ ⟨by omega, by omega⟩ (fun h69 => ?_) (fun h69 => ?_)
    · skip
      refine rd_lconst (pc := 89) (v := 0) d_M_partOf_89 rfl ?_
      refine rd_lst3 (pc := 90) d_M_partOf_90 rfl ?_
      refine rd_aldn (pc := 91) d_M_partOf_91 rfl ?_
      refine rd_getr (pc := 92) d_M_partOf_92 fl_M_38 rfl rfl ?_
      refine rd_ildn (pc := 95) d_M_partOf_95 rfl ?_
      refine rd_iald (pc := 96) d_M_partOf_96 rfl (by omega) (by omega) ?_
      refine rd_i2l (pc := 97) d_M_partOf_97 ⟨by omega, by omega⟩ ?_
      refine rd_aldn (pc := 98) d_M_partOf_98 rfl ?_
      refine rd_getr (pc := 99) d_M_partOf_99 fl_M_41 rfl rfl ?_
      refine rd_ildn (pc := 102) d_M_partOf_102 rfl ?_
      refine rd_iald (pc := 103) d_M_partOf_103 rfl (by omega) (by omega) ?_
      refine rd_i2l (pc := 104) d_M_partOf_104 ⟨by omega, by omega⟩ ?_
      refine rd_lmul (pc := 105) d_M_partOf_105 ?_
      refine rd_lst5 (pc := 106) d_M_partOf_106 rfl ?_
      refine rd_ldc2 (pc := 108) (v := 1000000) d_M_partOf_108 kl_M_115 ?_
      refine rd_lldn (pc := 111) d_M_partOf_111 rfl ?_
      refine rd_lld (pc := 112) d_M_partOf_112 rfl ?_
      refine rd_lcmp_ge (pc := 114) (tgt := 122) d_M_partOf_114 d_M_partOf_115 rfl ⟨by omega, by omega⟩ ⟨by omega, by omega⟩ (fun h114 => ?_) (fun h114 => ?_)
      · skip
        refine rd_lld (pc := 122) d_M_partOf_122 rfl ?_
        refine rd_lmul (pc := 124) d_M_partOf_124 ?_
        refine rd_aldn (pc := 125) d_M_partOf_125 rfl ?_
        refine rd_getr (pc := 126) d_M_partOf_126 fl_M_7 rfl rfl ?_
        refine rd_ildn (pc := 129) d_M_partOf_129 rfl ?_
        refine rd_iald (pc := 130) d_M_partOf_130 rfl (by omega) (by omega) ?_
        refine rd_i2l (pc := 131) d_M_partOf_131 ⟨by omega, by omega⟩ ?_
        refine rd_ldiv (pc := 132) d_M_partOf_132 ⟨by omega, by omega⟩ ⟨by omega, by omega⟩ (by omega) ?_
        exact rd_lret (pc := 133) d_M_partOf_133 rfl (Nat.le_of_ble_eq_true rfl) (by
      first
      | (rw [if_pos (by omega), if_pos (by omega)] at hQ; exact hQ)
      | (rw [if_pos (by omega), if_neg (by omega)] at hQ; exact hQ)
      | (rw [if_neg (by omega), show min (max (M 33 r - M 42 t) 0) (M 42 t * M 43 t) = M 33 r - M 42 t by omega] at hQ; exact hQ)
      | (rw [if_neg (by omega), show min (max (M 33 r - M 42 t) 0) (M 42 t * M 43 t) = 0 by omega] at hQ; exact hQ)
      | (rw [if_neg (by omega), show min (max (M 33 r - M 42 t) 0) (M 42 t * M 43 t) = M 42 t * M 43 t by omega] at hQ; exact hQ))
      · skip
        refine rd_lldn (pc := 118) d_M_partOf_118 rfl ?_
        refine rd_goto (pc := 119) (tgt := 124) d_M_partOf_119 rfl ?_
        refine rd_lmul (pc := 124) d_M_partOf_124 ?_
        refine rd_aldn (pc := 125) d_M_partOf_125 rfl ?_
        refine rd_getr (pc := 126) d_M_partOf_126 fl_M_7 rfl rfl ?_
        refine rd_ildn (pc := 129) d_M_partOf_129 rfl ?_
        refine rd_iald (pc := 130) d_M_partOf_130 rfl (by omega) (by omega) ?_
        refine rd_i2l (pc := 131) d_M_partOf_131 ⟨by omega, by omega⟩ ?_
        refine rd_ldiv (pc := 132) d_M_partOf_132 ⟨by omega, by omega⟩ ⟨by omega, by omega⟩ (by omega) ?_
        exact rd_lret (pc := 133) d_M_partOf_133 rfl (Nat.le_of_ble_eq_true rfl) (by
      first
      | (rw [if_pos (by omega), if_pos (by omega)] at hQ; exact hQ)
      | (rw [if_pos (by omega), if_neg (by omega)] at hQ; exact hQ)
      | (rw [if_neg (by omega), show min (max (M 33 r - M 42 t) 0) (M 42 t * M 43 t) = M 33 r - M 42 t by omega] at hQ; exact hQ)
      | (rw [if_neg (by omega), show min (max (M 33 r - M 42 t) 0) (M 42 t * M 43 t) = 0 by omega] at hQ; exact hQ)
      | (rw [if_neg (by omega), show min (max (M 33 r - M 42 t) 0) (M 42 t * M 43 t) = M 42 t * M 43 t by omega] at hQ; exact hQ))
    · skip
      refine rd_aldn (pc := 72) d_M_partOf_72 rfl ?_
      refine rd_getr (pc := 73) d_M_partOf_73 fl_M_7 rfl rfl ?_
      refine rd_ildn (pc := 76) d_M_partOf_76 rfl ?_
      refine rd_iald (pc := 77) d_M_partOf_77 rfl (by omega) (by omega) ?_
      refine rd_aldn (pc := 78) d_M_partOf_78 rfl ?_
      refine rd_getr (pc := 79) d_M_partOf_79 fl_M_38 rfl rfl ?_
      refine rd_ildn (pc := 82) d_M_partOf_82 rfl ?_
      refine rd_iald (pc := 83) d_M_partOf_83 rfl (by omega) (by omega) ?_
      refine rd_isub (pc := 84) d_M_partOf_84 ?_
      refine rd_i2l (pc := 85) d_M_partOf_85 ⟨by omega, by omega⟩ ?_
      refine rd_goto (pc := 86) (tgt := 90) d_M_partOf_86 rfl ?_
      refine rd_lst3 (pc := 90) d_M_partOf_90 rfl ?_
      refine rd_aldn (pc := 91) d_M_partOf_91 rfl ?_
      refine rd_getr (pc := 92) d_M_partOf_92 fl_M_38 rfl rfl ?_
      refine rd_ildn (pc := 95) d_M_partOf_95 rfl ?_
      refine rd_iald (pc := 96) d_M_partOf_96 rfl (by omega) (by omega) ?_
      refine rd_i2l (pc := 97) d_M_partOf_97 ⟨by omega, by omega⟩ ?_
      refine rd_aldn (pc := 98) d_M_partOf_98 rfl ?_
      refine rd_getr (pc := 99) d_M_partOf_99 fl_M_41 rfl rfl ?_
      refine rd_ildn (pc := 102) d_M_partOf_102 rfl ?_
      refine rd_iald (pc := 103) d_M_partOf_103 rfl (by omega) (by omega) ?_
      refine rd_i2l (pc := 104) d_M_partOf_104 ⟨by omega, by omega⟩ ?_
      refine rd_lmul (pc := 105) d_M_partOf_105 ?_
      refine rd_lst5 (pc := 106) d_M_partOf_106 rfl ?_
      refine rd_ldc2 (pc := 108) (v := 1000000) d_M_partOf_108 kl_M_115 ?_
      refine rd_lldn (pc := 111) d_M_partOf_111 rfl ?_
      refine rd_lld (pc := 112) d_M_partOf_112 rfl ?_
      refine rd_lcmp_ge (pc := 114) (tgt := 122) d_M_partOf_114 d_M_partOf_115 rfl ⟨by omega, by omega⟩ ⟨by omega, by omega⟩ (fun h114 => ?_) (fun h114 => ?_)
      · skip
        refine rd_lld (pc := 122) d_M_partOf_122 rfl ?_
        refine rd_lmul (pc := 124) d_M_partOf_124 ?_
        refine rd_aldn (pc := 125) d_M_partOf_125 rfl ?_
        refine rd_getr (pc := 126) d_M_partOf_126 fl_M_7 rfl rfl ?_
        refine rd_ildn (pc := 129) d_M_partOf_129 rfl ?_
        refine rd_iald (pc := 130) d_M_partOf_130 rfl (by omega) (by omega) ?_
        refine rd_i2l (pc := 131) d_M_partOf_131 ⟨by omega, by omega⟩ ?_
        refine rd_ldiv (pc := 132) d_M_partOf_132 ⟨by omega, by omega⟩ ⟨by omega, by omega⟩ (by omega) ?_
        exact rd_lret (pc := 133) d_M_partOf_133 rfl (Nat.le_of_ble_eq_true rfl) (by
      first
      | (rw [if_pos (by omega), if_pos (by omega)] at hQ; exact hQ)
      | (rw [if_pos (by omega), if_neg (by omega)] at hQ; exact hQ)
      | (rw [if_neg (by omega), show min (max (M 33 r - M 42 t) 0) (M 42 t * M 43 t) = M 33 r - M 42 t by omega] at hQ; exact hQ)
      | (rw [if_neg (by omega), show min (max (M 33 r - M 42 t) 0) (M 42 t * M 43 t) = 0 by omega] at hQ; exact hQ)
      | (rw [if_neg (by omega), show min (max (M 33 r - M 42 t) 0) (M 42 t * M 43 t) = M 42 t * M 43 t by omega] at hQ; exact hQ))
      · skip
        refine rd_lldn (pc := 118) d_M_partOf_118 rfl ?_
        refine rd_goto (pc := 119) (tgt := 124) d_M_partOf_119 rfl ?_
        refine rd_lmul (pc := 124) d_M_partOf_124 ?_
        refine rd_aldn (pc := 125) d_M_partOf_125 rfl ?_
        refine rd_getr (pc := 126) d_M_partOf_126 fl_M_7 rfl rfl ?_
        refine rd_ildn (pc := 129) d_M_partOf_129 rfl ?_
        refine rd_iald (pc := 130) d_M_partOf_130 rfl (by omega) (by omega) ?_
        refine rd_i2l (pc := 131) d_M_partOf_131 ⟨by omega, by omega⟩ ?_
        refine rd_ldiv (pc := 132) d_M_partOf_132 ⟨by omega, by omega⟩ ⟨by omega, by omega⟩ (by omega) ?_
        exact rd_lret (pc := 133) d_M_partOf_133 rfl (Nat.le_of_ble_eq_true rfl) (by
      first
      | (rw [if_pos (by omega), if_pos (by omega)] at hQ; exact hQ)
      | (rw [if_pos (by omega), if_neg (by omega)] at hQ; exact hQ)
      | (rw [if_neg (by omega), show min (max (M 33 r - M 42 t) 0) (M 42 t * M 43 t) = M 33 r - M 42 t by omega] at hQ; exact hQ)
      | (rw [if_neg (by omega), show min (max (M 33 r - M 42 t) 0) (M 42 t * M 43 t) = 0 by omega] at hQ; exact hQ)
      | (rw [if_neg (by omega), show min (max (M 33 r - M 42 t) 0) (M 42 t * M 43 t) = M 42 t * M 43 t by omega] at hQ; exact hQ))
  · skip
    refine rd_aldn (pc := 8) d_M_partOf_8 rfl ?_
    refine rd_getr (pc := 9) d_M_partOf_9 fl_M_7 rfl rfl ?_
    refine rd_ildn (pc := 12) d_M_partOf_12 rfl ?_
    refine rd_iald (pc := 13) d_M_partOf_13 rfl (by omega) (by omega) ?_
    refine rd_aldn (pc := 14) d_M_partOf_14 rfl ?_
    refine rd_getr (pc := 15) d_M_partOf_15 fl_M_41 rfl rfl ?_
    refine rd_ildn (pc := 18) d_M_partOf_18 rfl ?_
    refine rd_iald (pc := 19) d_M_partOf_19 rfl (by omega) (by omega) ?_
    refine rd_icmp_gt (pc := 20) (tgt := 33) d_M_partOf_20 rfl ⟨by omega, by omega⟩ ⟨by omega, by omega⟩ (fun h20 => ?_) (fun h20 => ?_)
    · skip
      refine rd_aldn (pc := 33) d_M_partOf_33 rfl ?_
      refine rd_getr (pc := 34) d_M_partOf_34 fl_M_38 rfl rfl ?_
      refine rd_ildn (pc := 37) d_M_partOf_37 rfl ?_
      refine rd_iald (pc := 38) d_M_partOf_38 rfl (by omega) (by omega) ?_
      refine rd_i2l (pc := 39) d_M_partOf_39 ⟨by omega, by omega⟩ ?_
      refine rd_aldn (pc := 40) d_M_partOf_40 rfl ?_
      refine rd_getr (pc := 41) d_M_partOf_41 fl_M_41 rfl rfl ?_
      refine rd_ildn (pc := 44) d_M_partOf_44 rfl ?_
      refine rd_iald (pc := 45) d_M_partOf_45 rfl (by omega) (by omega) ?_
      refine rd_i2l (pc := 46) d_M_partOf_46 ⟨by omega, by omega⟩ ?_
      refine rd_lmul (pc := 47) d_M_partOf_47 ?_
      refine rd_aldn (pc := 48) d_M_partOf_48 rfl ?_
      refine rd_getr (pc := 49) d_M_partOf_49 fl_M_7 rfl rfl ?_
      refine rd_ildn (pc := 52) d_M_partOf_52 rfl ?_
      refine rd_iald (pc := 53) d_M_partOf_53 rfl (by omega) (by omega) ?_
      refine rd_i2l (pc := 54) d_M_partOf_54 ⟨by omega, by omega⟩ ?_
      refine rd_ldiv (pc := 55) d_M_partOf_55 ⟨by omega, by omega⟩ ⟨by omega, by omega⟩ (by omega) ?_
      exact rd_lret (pc := 56) d_M_partOf_56 rfl (Nat.le_of_ble_eq_true rfl) (by
      first
      | (rw [if_pos (by omega), if_pos (by omega)] at hQ; exact hQ)
      | (rw [if_pos (by omega), if_neg (by omega)] at hQ; exact hQ)
      | (rw [if_neg (by omega), show min (max (M 33 r - M 42 t) 0) (M 42 t * M 43 t) = M 33 r - M 42 t by omega] at hQ; exact hQ)
      | (rw [if_neg (by omega), show min (max (M 33 r - M 42 t) 0) (M 42 t * M 43 t) = 0 by omega] at hQ; exact hQ)
      | (rw [if_neg (by omega), show min (max (M 33 r - M 42 t) 0) (M 42 t * M 43 t) = M 42 t * M 43 t by omega] at hQ; exact hQ))
    · skip
      refine rd_aldn (pc := 23) d_M_partOf_23 rfl ?_
      refine rd_getr (pc := 24) d_M_partOf_24 fl_M_38 rfl rfl ?_
      refine rd_ildn (pc := 27) d_M_partOf_27 rfl ?_
      refine rd_iald (pc := 28) d_M_partOf_28 rfl (by omega) (by omega) ?_
      refine rd_i2l (pc := 29) d_M_partOf_29 ⟨by omega, by omega⟩ ?_
      refine rd_goto (pc := 30) (tgt := 56) d_M_partOf_30 rfl ?_
      exact rd_lret (pc := 56) d_M_partOf_56 rfl (Nat.le_of_ble_eq_true rfl) (by
      first
      | (rw [if_pos (by omega), if_pos (by omega)] at hQ; exact hQ)
      | (rw [if_pos (by omega), if_neg (by omega)] at hQ; exact hQ)
      | (rw [if_neg (by omega), show min (max (M 33 r - M 42 t) 0) (M 42 t * M 43 t) = M 33 r - M 42 t by omega] at hQ; exact hQ)
      | (rw [if_neg (by omega), show min (max (M 33 r - M 42 t) 0) (M 42 t * M 43 t) = 0 by omega] at hQ; exact hQ)
      | (rw [if_neg (by omega), show min (max (M 33 r - M 42 t) 0) (M 42 t * M 43 t) = M 42 t * M 43 t by omega] at hQ; exact hQ))
set_option maxHeartbeats 4000000 in
set_option maxRecDepth 100000 in
theorem ev_M_take {t k v : Int} {M : rd_M} {Q : rd_R → rd_M → Prop} (h0 : 0 ≤ t) (h1 : t < 10) (h2 : 0 ≤ k) (h3 : k < 40) (hQ : Q (.inl none) (r_take M t k v)) : rd_G x_M_take 0 [some (.ref 32), some (rd_i t), some (rd_i k), some (rd_l v), none] [] M 0 Q := by
  refine rd_aldn (pc := 0) d_M_take_0 rfl ?_
  refine rd_getr (pc := 1) d_M_take_1 fl_M_63 rfl rfl ?_
  refine rd_bipush (pc := 4) d_M_take_4 rfl ?_
  refine rd_ildn (pc := 6) d_M_take_6 rfl ?_
  refine rd_imul (pc := 7) d_M_take_7 ?_
  refine rd_ildn (pc := 8) d_M_take_8 rfl ?_
  refine rd_iadd (pc := 9) d_M_take_9 ?_
  refine rd_dup2 (pc := 10) d_M_take_10 rfl rfl ?_
  refine rd_lald (pc := 11) d_M_take_11 rfl (by omega) (by omega) ?_
  refine rd_lldn (pc := 12) d_M_take_12 rfl ?_
  refine rd_ladd (pc := 13) d_M_take_13 ?_
  refine rd_last (pc := 14) d_M_take_14 rfl (by omega) (by omega) ?_
  refine rd_aldn (pc := 15) d_M_take_15 rfl ?_
  refine rd_getr (pc := 16) d_M_take_16 fl_M_66 rfl rfl ?_
  refine rd_ildn (pc := 19) d_M_take_19 rfl ?_
  refine rd_dup2 (pc := 20) d_M_take_20 rfl rfl ?_
  refine rd_lald (pc := 21) d_M_take_21 rfl (by omega) (by omega) ?_
  try simp (decide := true) only [rd_up_app, rd_up_hit]
  refine rd_lldn (pc := 22) d_M_take_22 rfl ?_
  refine rd_ladd (pc := 23) d_M_take_23 ?_
  refine rd_last (pc := 24) d_M_take_24 rfl (by omega) (by omega) ?_
  refine rd_aldn (pc := 25) d_M_take_25 rfl ?_
  refine rd_getr (pc := 26) d_M_take_26 fl_M_60 rfl rfl ?_
  refine rd_ildn (pc := 29) d_M_take_29 rfl ?_
  refine rd_dup2 (pc := 30) d_M_take_30 rfl rfl ?_
  refine rd_lald (pc := 31) d_M_take_31 rfl (by omega) (by omega) ?_
  try simp (decide := true) only [rd_up_app, rd_up_hit]
  refine rd_lldn (pc := 32) d_M_take_32 rfl ?_
  refine rd_lsub (pc := 33) d_M_take_33 ?_
  refine rd_last (pc := 34) d_M_take_34 rfl (by omega) (by omega) ?_
  exact rd_vret (pc := 35) d_M_take_35 rfl (Nat.le_of_ble_eq_true rfl) (by
      have e : rd_up (rd_up (rd_up M 50 (40 * t + k) (M 50 (40 * t + k) + v)) 51 t (M 51 t + v)) 49 k (M 49 k - v) = r_take M t k v := by
        unfold r_take
        rw [show 40 * t + k = t * 40 + k by omega]
        funext q j
        by_cases a : q = 49
        · subst a; rw [rd_up_at, rd_up_app (by decide), rd_up_app (by decide), rd_up_app (by decide), rd_up_app (by decide), rd_up_at]
        · by_cases b : q = 50
          · subst b; rw [rd_up_app (by decide), rd_up_app (by decide), rd_up_at, rd_up_app (by decide), rd_up_at, rd_up_app (by decide)]
          · by_cases c : q = 51
            · subst c; rw [rd_up_app (by decide), rd_up_at, rd_up_at, rd_up_app (by decide), rd_up_app (by decide), rd_up_app (by decide)]
            · rw [rd_up_app a, rd_up_app c, rd_up_app b, rd_up_app c, rd_up_app b, rd_up_app a]
      rw [e]; exact hQ)
set_option maxHeartbeats 4000000 in
set_option maxRecDepth 100000 in
theorem ev_M_layer {v a b : Int} {M : rd_M} {Q : rd_R → rd_M → Prop} (hv : 0 ≤ v ∧ v ≤ 1000000000000) (ha : 0 ≤ a ∧ a ≤ 1000000000) (hb : 0 ≤ b ∧ b ≤ 1000000000) (hQ : Q (.inl (some (rd_l (sp_layer a b v)))) (M)) : rd_G x_M_layer 0 [some (rd_l v), none, some (rd_l a), none, some (rd_l b), none, none, none] [] M 0 Q := by
  refine rd_lldn (pc := 0) d_M_layer_0 rfl ?_
  refine rd_lldn (pc := 1) d_M_layer_1 rfl ?_
  refine rd_lcmp_le (pc := 2) (tgt := 12) d_M_layer_2 d_M_layer_3 rfl ⟨by omega, by omega⟩ ⟨by omega, by omega⟩ (fun h2 => ?_) (fun h2 => ?_)
  · skip
    refine rd_lconst (pc := 12) (v := 0) d_M_layer_12 rfl ?_
    refine rd_lst6 (pc := 13) d_M_layer_13 rfl ?_
    refine rd_lld (pc := 15) d_M_layer_15 rfl ?_
    refine rd_lld (pc := 17) d_M_layer_17 rfl ?_
    refine rd_lcmp_ge (pc := 19) (tgt := 28) d_M_layer_19 d_M_layer_20 rfl ⟨by omega, by omega⟩ ⟨by omega, by omega⟩ (fun h19 => ?_) (fun h19 => ?_)
    · skip
      refine rd_lld (pc := 28) d_M_layer_28 rfl ?_
      exact rd_lret (pc := 30) d_M_layer_30 rfl (Nat.le_of_ble_eq_true rfl) (by unfold sp_layer at hQ; first | (rw [show min (max (v - a) 0) b = v - a by omega] at hQ; exact hQ) | (rw [show min (max (v - a) 0) b = 0 by omega] at hQ; exact hQ) | (rw [show min (max (v - a) 0) b = b by omega] at hQ; exact hQ))
    · skip
      refine rd_lld (pc := 23) d_M_layer_23 rfl ?_
      refine rd_goto (pc := 25) (tgt := 30) d_M_layer_25 rfl ?_
      exact rd_lret (pc := 30) d_M_layer_30 rfl (Nat.le_of_ble_eq_true rfl) (by unfold sp_layer at hQ; first | (rw [show min (max (v - a) 0) b = v - a by omega] at hQ; exact hQ) | (rw [show min (max (v - a) 0) b = 0 by omega] at hQ; exact hQ) | (rw [show min (max (v - a) 0) b = b by omega] at hQ; exact hQ))
  · skip
    refine rd_lldn (pc := 6) d_M_layer_6 rfl ?_
    refine rd_lldn (pc := 7) d_M_layer_7 rfl ?_
    refine rd_lsub (pc := 8) d_M_layer_8 ?_
    refine rd_goto (pc := 9) (tgt := 13) d_M_layer_9 rfl ?_
    refine rd_lst6 (pc := 13) d_M_layer_13 rfl ?_
    refine rd_lld (pc := 15) d_M_layer_15 rfl ?_
    refine rd_lld (pc := 17) d_M_layer_17 rfl ?_
    refine rd_lcmp_ge (pc := 19) (tgt := 28) d_M_layer_19 d_M_layer_20 rfl ⟨by omega, by omega⟩ ⟨by omega, by omega⟩ (fun h19 => ?_) (fun h19 => ?_)
    · skip
      refine rd_lld (pc := 28) d_M_layer_28 rfl ?_
      exact rd_lret (pc := 30) d_M_layer_30 rfl (Nat.le_of_ble_eq_true rfl) (by unfold sp_layer at hQ; first | (rw [show min (max (v - a) 0) b = v - a by omega] at hQ; exact hQ) | (rw [show min (max (v - a) 0) b = 0 by omega] at hQ; exact hQ) | (rw [show min (max (v - a) 0) b = b by omega] at hQ; exact hQ))
    · skip
      refine rd_lld (pc := 23) d_M_layer_23 rfl ?_
      refine rd_goto (pc := 25) (tgt := 30) d_M_layer_25 rfl ?_
      exact rd_lret (pc := 30) d_M_layer_30 rfl (Nat.le_of_ble_eq_true rfl) (by unfold sp_layer at hQ; first | (rw [show min (max (v - a) 0) b = v - a by omega] at hQ; exact hQ) | (rw [show min (max (v - a) 0) b = 0 by omega] at hQ; exact hQ) | (rw [show min (max (v - a) 0) b = b by omega] at hQ; exact hQ))
set_option maxHeartbeats 4000000 in
set_option maxRecDepth 100000 in
theorem ev_M_allowed {t v S : Int} {n nt : Nat} {M : rd_M} {Q : rd_R → rd_M → Prop} (hB : r_B M n nt) (h0 : 0 ≤ t) (h1 : t < 10) (hv : 0 ≤ v ∧ v ≤ 1000000000) (hS : 0 ≤ S ∧ S ≤ 1000000000000) (hp : M 32 28 = min (M 45 t) S) (hu : M 32 29 = sp_Tt (r_d M) t S) (hQ : Q (.inl (some (rd_l (sp_Tt (r_d M) t (S + v) - sp_Tt (r_d M) t S)))) (rd_up (rd_up M 32 28 (min (M 45 t) (S + v))) 32 29 (sp_Tt (r_d M) t (S + v)))) : rd_G x_M_allowed 0 [some (.ref 32), some (rd_i t), some (rd_l v), none, none, none, none, none, none, none] [] M 0 Q := by
  obtain ⟨s1, s2, s3, ha, hb, hc, hd⟩ := hB.sh h0 h1
  have hl := rd_mulb hb.1 hb.2 (show 0 ≤ 1 + M 44 t by omega) (show 1 + M 44 t ≤ 6 by omega)
  have hT : sp_Tt (r_d M) t S = min (max (S - M 45 t) 0) (M 43 t * (1 + M 44 t)) := rfl
  have hT2 : sp_Tt (r_d M) t (S + v) = min (max (S + v - M 45 t) 0) (M 43 t * (1 + M 44 t)) := rfl
  rw [hT, hT2] at hQ
  rw [hT] at hu
  refine rd_aldn (pc := 0) d_M_allowed_0 rfl ?_
  refine rd_getr (pc := 1) d_M_allowed_1 fl_M_47 rfl rfl ?_
  refine rd_ildn (pc := 4) d_M_allowed_4 rfl ?_
  refine rd_iald (pc := 5) d_M_allowed_5 rfl (by omega) (by omega) ?_
  try simp (decide := true) only [rd_up_app, rd_up_hit, rd_up_at, if_false, if_neg, hp, hu]
  refine rd_i2l (pc := 6) d_M_allowed_6 ⟨by omega, by omega⟩ ?_
  refine rd_aldn (pc := 7) d_M_allowed_7 rfl ?_
  refine rd_gl (pc := 8) (ki := 28) d_M_allowed_8 fl_M_147 rfl rfl rfl ?_
  try simp (decide := true) only [rd_up_app, rd_up_hit, rd_up_at, if_false, if_neg, hp, hu]
  refine rd_lsub (pc := 11) d_M_allowed_11 ?_
  refine rd_lldn (pc := 12) d_M_allowed_12 rfl ?_
  refine rd_lcmp_ge (pc := 13) (tgt := 32) d_M_allowed_13 d_M_allowed_14 rfl ⟨by omega, by omega⟩ ⟨by omega, by omega⟩ (fun h13 => ?_) (fun h13 => ?_)
  · skip
    refine rd_lldn (pc := 32) d_M_allowed_32 rfl ?_
    refine rd_lst4 (pc := 33) d_M_allowed_33 rfl ?_
    refine rd_aldn (pc := 35) d_M_allowed_35 rfl ?_
    refine rd_dup (pc := 36) d_M_allowed_36 rfl ?_
    refine rd_gl (pc := 37) (ki := 28) d_M_allowed_37 fl_M_147 rfl rfl rfl ?_
    try simp (decide := true) only [rd_up_app, rd_up_hit, rd_up_at, if_false, if_neg, hp, hu]
    refine rd_lld (pc := 40) d_M_allowed_40 rfl ?_
    refine rd_ladd (pc := 42) d_M_allowed_42 ?_
    refine rd_pl (pc := 43) (ki := 28) d_M_allowed_43 fl_M_147 fp_5_28 rfl rfl rfl ?_
    refine rd_lldn (pc := 46) d_M_allowed_46 rfl ?_
    refine rd_lld (pc := 47) d_M_allowed_47 rfl ?_
    refine rd_lsub (pc := 49) d_M_allowed_49 ?_
    refine rd_lst6 (pc := 50) d_M_allowed_50 rfl ?_
    refine rd_aldn (pc := 52) d_M_allowed_52 rfl ?_
    refine rd_getr (pc := 53) d_M_allowed_53 fl_M_41 rfl rfl ?_
    refine rd_ildn (pc := 56) d_M_allowed_56 rfl ?_
    refine rd_iald (pc := 57) d_M_allowed_57 rfl (by omega) (by omega) ?_
    try simp (decide := true) only [rd_up_app, rd_up_hit, rd_up_at, if_false, if_neg, hp, hu]
    refine rd_i2l (pc := 58) d_M_allowed_58 ⟨by omega, by omega⟩ ?_
    refine rd_iconst (pc := 59) d_M_allowed_59 ?_
    refine rd_aldn (pc := 60) d_M_allowed_60 rfl ?_
    refine rd_getr (pc := 61) d_M_allowed_61 fl_M_44 rfl rfl ?_
    refine rd_ildn (pc := 64) d_M_allowed_64 rfl ?_
    refine rd_iald (pc := 65) d_M_allowed_65 rfl (by omega) (by omega) ?_
    try simp (decide := true) only [rd_up_app, rd_up_hit, rd_up_at, if_false, if_neg, hp, hu]
    refine rd_iadd (pc := 66) d_M_allowed_66 ?_
    refine rd_i2l (pc := 67) d_M_allowed_67 ⟨by omega, by omega⟩ ?_
    refine rd_lmul (pc := 68) d_M_allowed_68 ?_
    refine rd_aldn (pc := 69) d_M_allowed_69 rfl ?_
    refine rd_gl (pc := 70) (ki := 29) d_M_allowed_70 fl_M_151 rfl rfl rfl ?_
    try simp (decide := true) only [rd_up_app, rd_up_hit, rd_up_at, if_false, if_neg, hp, hu]
    refine rd_lsub (pc := 73) d_M_allowed_73 ?_
    refine rd_lst8 (pc := 74) d_M_allowed_74 rfl ?_
    refine rd_lld (pc := 76) d_M_allowed_76 rfl ?_
    refine rd_lld (pc := 78) d_M_allowed_78 rfl ?_
    refine rd_lcmp_ge (pc := 80) (tgt := 89) d_M_allowed_80 d_M_allowed_81 rfl ⟨by omega, by omega⟩ ⟨by omega, by omega⟩ (fun h80 => ?_) (fun h80 => ?_)
    · skip
      refine rd_lld (pc := 89) d_M_allowed_89 rfl ?_
      refine rd_lst6 (pc := 91) d_M_allowed_91 rfl ?_
      refine rd_aldn (pc := 93) d_M_allowed_93 rfl ?_
      refine rd_dup (pc := 94) d_M_allowed_94 rfl ?_
      refine rd_gl (pc := 95) (ki := 29) d_M_allowed_95 fl_M_151 rfl rfl rfl ?_
      try simp (decide := true) only [rd_up_app, rd_up_hit, rd_up_at, if_false, if_neg, hp, hu]
      refine rd_lld (pc := 98) d_M_allowed_98 rfl ?_
      refine rd_ladd (pc := 100) d_M_allowed_100 ?_
      refine rd_pl (pc := 101) (ki := 29) d_M_allowed_101 fl_M_151 fp_5_29 rfl rfl rfl ?_
      refine rd_lld (pc := 104) d_M_allowed_104 rfl ?_
      exact rd_lret (pc := 106) d_M_allowed_106 rfl (Nat.le_of_ble_eq_true rfl) (by
      generalize M 43 t * (1 + M 44 t) = lim at *
      first
      | (rw [show min (max (S + v - M 45 t) 0) lim - min (max (S - M 45 t) 0) lim = v - (M 45 t - min (M 45 t) S) by omega, show min (M 45 t) (S + v) = min (M 45 t) S + (M 45 t - min (M 45 t) S) by omega, show min (max (S + v - M 45 t) 0) lim = min (max (S - M 45 t) 0) lim + (v - (M 45 t - min (M 45 t) S)) by omega] at hQ; exact hQ)
      | (rw [show min (max (S + v - M 45 t) 0) lim - min (max (S - M 45 t) 0) lim = lim - min (max (S - M 45 t) 0) lim by omega, show min (M 45 t) (S + v) = min (M 45 t) S + (M 45 t - min (M 45 t) S) by omega, show min (max (S + v - M 45 t) 0) lim = min (max (S - M 45 t) 0) lim + (lim - min (max (S - M 45 t) 0) lim) by omega] at hQ; exact hQ)
      | (rw [show min (max (S + v - M 45 t) 0) lim - min (max (S - M 45 t) 0) lim = v - v by omega, show min (M 45 t) (S + v) = min (M 45 t) S + v by omega, show min (max (S + v - M 45 t) 0) lim = min (max (S - M 45 t) 0) lim + (v - v) by omega] at hQ; exact hQ)
      | (rw [show min (max (S + v - M 45 t) 0) lim - min (max (S - M 45 t) 0) lim = lim - min (max (S - M 45 t) 0) lim by omega, show min (M 45 t) (S + v) = min (M 45 t) S + v by omega, show min (max (S + v - M 45 t) 0) lim = min (max (S - M 45 t) 0) lim + (lim - min (max (S - M 45 t) 0) lim) by omega] at hQ; exact hQ))
    · skip
      refine rd_lld (pc := 84) d_M_allowed_84 rfl ?_
      refine rd_goto (pc := 86) (tgt := 91) d_M_allowed_86 rfl ?_
      refine rd_lst6 (pc := 91) d_M_allowed_91 rfl ?_
      refine rd_aldn (pc := 93) d_M_allowed_93 rfl ?_
      refine rd_dup (pc := 94) d_M_allowed_94 rfl ?_
      refine rd_gl (pc := 95) (ki := 29) d_M_allowed_95 fl_M_151 rfl rfl rfl ?_
      try simp (decide := true) only [rd_up_app, rd_up_hit, rd_up_at, if_false, if_neg, hp, hu]
      refine rd_lld (pc := 98) d_M_allowed_98 rfl ?_
      refine rd_ladd (pc := 100) d_M_allowed_100 ?_
      refine rd_pl (pc := 101) (ki := 29) d_M_allowed_101 fl_M_151 fp_5_29 rfl rfl rfl ?_
      refine rd_lld (pc := 104) d_M_allowed_104 rfl ?_
      exact rd_lret (pc := 106) d_M_allowed_106 rfl (Nat.le_of_ble_eq_true rfl) (by
      generalize M 43 t * (1 + M 44 t) = lim at *
      first
      | (rw [show min (max (S + v - M 45 t) 0) lim - min (max (S - M 45 t) 0) lim = v - (M 45 t - min (M 45 t) S) by omega, show min (M 45 t) (S + v) = min (M 45 t) S + (M 45 t - min (M 45 t) S) by omega, show min (max (S + v - M 45 t) 0) lim = min (max (S - M 45 t) 0) lim + (v - (M 45 t - min (M 45 t) S)) by omega] at hQ; exact hQ)
      | (rw [show min (max (S + v - M 45 t) 0) lim - min (max (S - M 45 t) 0) lim = lim - min (max (S - M 45 t) 0) lim by omega, show min (M 45 t) (S + v) = min (M 45 t) S + (M 45 t - min (M 45 t) S) by omega, show min (max (S + v - M 45 t) 0) lim = min (max (S - M 45 t) 0) lim + (lim - min (max (S - M 45 t) 0) lim) by omega] at hQ; exact hQ)
      | (rw [show min (max (S + v - M 45 t) 0) lim - min (max (S - M 45 t) 0) lim = v - v by omega, show min (M 45 t) (S + v) = min (M 45 t) S + v by omega, show min (max (S + v - M 45 t) 0) lim = min (max (S - M 45 t) 0) lim + (v - v) by omega] at hQ; exact hQ)
      | (rw [show min (max (S + v - M 45 t) 0) lim - min (max (S - M 45 t) 0) lim = lim - min (max (S - M 45 t) 0) lim by omega, show min (M 45 t) (S + v) = min (M 45 t) S + v by omega, show min (max (S + v - M 45 t) 0) lim = min (max (S - M 45 t) 0) lim + (lim - min (max (S - M 45 t) 0) lim) by omega] at hQ; exact hQ))
  · skip
    refine rd_aldn (pc := 17) d_M_allowed_17 rfl ?_
    refine rd_getr (pc := 18) d_M_allowed_18 fl_M_47 rfl rfl ?_
    refine rd_ildn (pc := 21) d_M_allowed_21 rfl ?_
    refine rd_iald (pc := 22) d_M_allowed_22 rfl (by omega) (by omega) ?_
    try simp (decide := true) only [rd_up_app, rd_up_hit, rd_up_at, if_false, if_neg, hp, hu]
    refine rd_i2l (pc := 23) d_M_allowed_23 ⟨by omega, by omega⟩ ?_
    refine rd_aldn (pc := 24) d_M_allowed_24 rfl ?_
    refine rd_gl (pc := 25) (ki := 28) d_M_allowed_25 fl_M_147 rfl rfl rfl ?_
    try simp (decide := true) only [rd_up_app, rd_up_hit, rd_up_at, if_false, if_neg, hp, hu]
    refine rd_lsub (pc := 28) d_M_allowed_28 ?_
    refine rd_goto (pc := 29) (tgt := 33) d_M_allowed_29 rfl ?_
    refine rd_lst4 (pc := 33) d_M_allowed_33 rfl ?_
    refine rd_aldn (pc := 35) d_M_allowed_35 rfl ?_
    refine rd_dup (pc := 36) d_M_allowed_36 rfl ?_
    refine rd_gl (pc := 37) (ki := 28) d_M_allowed_37 fl_M_147 rfl rfl rfl ?_
    try simp (decide := true) only [rd_up_app, rd_up_hit, rd_up_at, if_false, if_neg, hp, hu]
    refine rd_lld (pc := 40) d_M_allowed_40 rfl ?_
    refine rd_ladd (pc := 42) d_M_allowed_42 ?_
    refine rd_pl (pc := 43) (ki := 28) d_M_allowed_43 fl_M_147 fp_5_28 rfl rfl rfl ?_
    refine rd_lldn (pc := 46) d_M_allowed_46 rfl ?_
    refine rd_lld (pc := 47) d_M_allowed_47 rfl ?_
    refine rd_lsub (pc := 49) d_M_allowed_49 ?_
    refine rd_lst6 (pc := 50) d_M_allowed_50 rfl ?_
    refine rd_aldn (pc := 52) d_M_allowed_52 rfl ?_
    refine rd_getr (pc := 53) d_M_allowed_53 fl_M_41 rfl rfl ?_
    refine rd_ildn (pc := 56) d_M_allowed_56 rfl ?_
    refine rd_iald (pc := 57) d_M_allowed_57 rfl (by omega) (by omega) ?_
    try simp (decide := true) only [rd_up_app, rd_up_hit, rd_up_at, if_false, if_neg, hp, hu]
    refine rd_i2l (pc := 58) d_M_allowed_58 ⟨by omega, by omega⟩ ?_
    refine rd_iconst (pc := 59) d_M_allowed_59 ?_
    refine rd_aldn (pc := 60) d_M_allowed_60 rfl ?_
    refine rd_getr (pc := 61) d_M_allowed_61 fl_M_44 rfl rfl ?_
    refine rd_ildn (pc := 64) d_M_allowed_64 rfl ?_
    refine rd_iald (pc := 65) d_M_allowed_65 rfl (by omega) (by omega) ?_
    try simp (decide := true) only [rd_up_app, rd_up_hit, rd_up_at, if_false, if_neg, hp, hu]
    refine rd_iadd (pc := 66) d_M_allowed_66 ?_
    refine rd_i2l (pc := 67) d_M_allowed_67 ⟨by omega, by omega⟩ ?_
    refine rd_lmul (pc := 68) d_M_allowed_68 ?_
    refine rd_aldn (pc := 69) d_M_allowed_69 rfl ?_
    refine rd_gl (pc := 70) (ki := 29) d_M_allowed_70 fl_M_151 rfl rfl rfl ?_
    try simp (decide := true) only [rd_up_app, rd_up_hit, rd_up_at, if_false, if_neg, hp, hu]
    refine rd_lsub (pc := 73) d_M_allowed_73 ?_
    refine rd_lst8 (pc := 74) d_M_allowed_74 rfl ?_
    refine rd_lld (pc := 76) d_M_allowed_76 rfl ?_
    refine rd_lld (pc := 78) d_M_allowed_78 rfl ?_
    refine rd_lcmp_ge (pc := 80) (tgt := 89) d_M_allowed_80 d_M_allowed_81 rfl ⟨by omega, by omega⟩ ⟨by omega, by omega⟩ (fun h80 => ?_) (fun h80 => ?_)
    · skip
      refine rd_lld (pc := 89) d_M_allowed_89 rfl ?_
      refine rd_lst6 (pc := 91) d_M_allowed_91 rfl ?_
      refine rd_aldn (pc := 93) d_M_allowed_93 rfl ?_
      refine rd_dup (pc := 94) d_M_allowed_94 rfl ?_
      refine rd_gl (pc := 95) (ki := 29) d_M_allowed_95 fl_M_151 rfl rfl rfl ?_
      try simp (decide := true) only [rd_up_app, rd_up_hit, rd_up_at, if_false, if_neg, hp, hu]
      refine rd_lld (pc := 98) d_M_allowed_98 rfl ?_
      refine rd_ladd (pc := 100) d_M_allowed_100 ?_
      refine rd_pl (pc := 101) (ki := 29) d_M_allowed_101 fl_M_151 fp_5_29 rfl rfl rfl ?_
      refine rd_lld (pc := 104) d_M_allowed_104 rfl ?_
      exact rd_lret (pc := 106) d_M_allowed_106 rfl (Nat.le_of_ble_eq_true rfl) (by
      generalize M 43 t * (1 + M 44 t) = lim at *
      first
      | (rw [show min (max (S + v - M 45 t) 0) lim - min (max (S - M 45 t) 0) lim = v - (M 45 t - min (M 45 t) S) by omega, show min (M 45 t) (S + v) = min (M 45 t) S + (M 45 t - min (M 45 t) S) by omega, show min (max (S + v - M 45 t) 0) lim = min (max (S - M 45 t) 0) lim + (v - (M 45 t - min (M 45 t) S)) by omega] at hQ; exact hQ)
      | (rw [show min (max (S + v - M 45 t) 0) lim - min (max (S - M 45 t) 0) lim = lim - min (max (S - M 45 t) 0) lim by omega, show min (M 45 t) (S + v) = min (M 45 t) S + (M 45 t - min (M 45 t) S) by omega, show min (max (S + v - M 45 t) 0) lim = min (max (S - M 45 t) 0) lim + (lim - min (max (S - M 45 t) 0) lim) by omega] at hQ; exact hQ)
      | (rw [show min (max (S + v - M 45 t) 0) lim - min (max (S - M 45 t) 0) lim = v - v by omega, show min (M 45 t) (S + v) = min (M 45 t) S + v by omega, show min (max (S + v - M 45 t) 0) lim = min (max (S - M 45 t) 0) lim + (v - v) by omega] at hQ; exact hQ)
      | (rw [show min (max (S + v - M 45 t) 0) lim - min (max (S - M 45 t) 0) lim = lim - min (max (S - M 45 t) 0) lim by omega, show min (M 45 t) (S + v) = min (M 45 t) S + v by omega, show min (max (S + v - M 45 t) 0) lim = min (max (S - M 45 t) 0) lim + (lim - min (max (S - M 45 t) 0) lim) by omega] at hQ; exact hQ))
    · skip
      refine rd_lld (pc := 84) d_M_allowed_84 rfl ?_
      refine rd_goto (pc := 86) (tgt := 91) d_M_allowed_86 rfl ?_
      refine rd_lst6 (pc := 91) d_M_allowed_91 rfl ?_
      refine rd_aldn (pc := 93) d_M_allowed_93 rfl ?_
      refine rd_dup (pc := 94) d_M_allowed_94 rfl ?_
      refine rd_gl (pc := 95) (ki := 29) d_M_allowed_95 fl_M_151 rfl rfl rfl ?_
      try simp (decide := true) only [rd_up_app, rd_up_hit, rd_up_at, if_false, if_neg, hp, hu]
      refine rd_lld (pc := 98) d_M_allowed_98 rfl ?_
      refine rd_ladd (pc := 100) d_M_allowed_100 ?_
      refine rd_pl (pc := 101) (ki := 29) d_M_allowed_101 fl_M_151 fp_5_29 rfl rfl rfl ?_
      refine rd_lld (pc := 104) d_M_allowed_104 rfl ?_
      exact rd_lret (pc := 106) d_M_allowed_106 rfl (Nat.le_of_ble_eq_true rfl) (by
      generalize M 43 t * (1 + M 44 t) = lim at *
      first
      | (rw [show min (max (S + v - M 45 t) 0) lim - min (max (S - M 45 t) 0) lim = v - (M 45 t - min (M 45 t) S) by omega, show min (M 45 t) (S + v) = min (M 45 t) S + (M 45 t - min (M 45 t) S) by omega, show min (max (S + v - M 45 t) 0) lim = min (max (S - M 45 t) 0) lim + (v - (M 45 t - min (M 45 t) S)) by omega] at hQ; exact hQ)
      | (rw [show min (max (S + v - M 45 t) 0) lim - min (max (S - M 45 t) 0) lim = lim - min (max (S - M 45 t) 0) lim by omega, show min (M 45 t) (S + v) = min (M 45 t) S + (M 45 t - min (M 45 t) S) by omega, show min (max (S + v - M 45 t) 0) lim = min (max (S - M 45 t) 0) lim + (lim - min (max (S - M 45 t) 0) lim) by omega] at hQ; exact hQ)
      | (rw [show min (max (S + v - M 45 t) 0) lim - min (max (S - M 45 t) 0) lim = v - v by omega, show min (M 45 t) (S + v) = min (M 45 t) S + v by omega, show min (max (S + v - M 45 t) 0) lim = min (max (S - M 45 t) 0) lim + (v - v) by omega] at hQ; exact hQ)
      | (rw [show min (max (S + v - M 45 t) 0) lim - min (max (S - M 45 t) 0) lim = lim - min (max (S - M 45 t) 0) lim by omega, show min (M 45 t) (S + v) = min (M 45 t) S + v by omega, show min (max (S + v - M 45 t) 0) lim = min (max (S - M 45 t) 0) lim + (lim - min (max (S - M 45 t) 0) lim) by omega] at hQ; exact hQ))

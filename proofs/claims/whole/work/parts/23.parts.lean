/-! premiums and parts: quota and surplus -/
/-- each risk r below 12 has given u r of its premium to the treaty t -/
def c_prm (M : rd_M) (t : Int) (u : Int → Int) : rd_M := fun q =>
  if q = 28 then (fun j => if 0 ≤ j ∧ j < 12 then M 28 j - u j else M 28 j) else if q = 29 then (fun j => if j = t then M 29 j + rd_sm u 12 else M 29 j) else M q
theorem c_prm_28 {M : rd_M} {t j : Int} {u : Int → Int} : c_prm M t u 28 j = if 0 ≤ j ∧ j < 12 then M 28 j - u j else M 28 j := rfl
theorem c_prm_29 {M : rd_M} {t j : Int} {u : Int → Int} : c_prm M t u 29 j = if j = t then M 29 j + rd_sm u 12 else M 29 j := rfl
theorem c_prm_ne {M : rd_M} {t : Int} {u : Int → Int} {q : Nat} (h1 : q ≠ 28) (h2 : q ≠ 29) : c_prm M t u q = M q := by
  unfold c_prm; rw [if_neg h1, if_neg h2]
theorem c_prm_congr {M : rd_M} {t : Int} {u u' : Int → Int} (h : ∀ j : Int, 0 ≤ j → j < 12 → u j = u' j) : c_prm M t u = c_prm M t u' := by
  funext q j
  by_cases h1 : q = 28
  · subst h1
    rw [c_prm_28, c_prm_28]
    by_cases hj : 0 ≤ j ∧ j < 12
    · rw [if_pos hj, if_pos hj, h j hj.1 hj.2]
    · rw [if_neg hj, if_neg hj]
  · by_cases h2 : q = 29
    · subst h2
      rw [c_prm_29, c_prm_29, rd_sm_c 12 (fun i a b => h i a (by omega))]
    · rw [c_prm_ne h1 h2, c_prm_ne h1 h2]
theorem c_prm_0 {M : rd_M} {t : Int} {u : Int → Int} (h : ∀ j : Int, 0 ≤ j → j < 12 → u j = 0) : c_prm M t u = M := by
  funext q j
  by_cases h1 : q = 28
  · subst h1
    rw [c_prm_28]
    by_cases hj : 0 ≤ j ∧ j < 12
    · rw [if_pos hj, h j hj.1 hj.2]; omega
    · rw [if_neg hj]
  · by_cases h2 : q = 29
    · subst h2
      rw [c_prm_29, rd_sm_z 12 (fun i a b => h i a (by omega))]
      by_cases hj : j = t
      · rw [if_pos hj]; omega
      · rw [if_neg hj]
    · rw [c_prm_ne h1 h2]
theorem c_prm_add {M : rd_M} {t k a : Int} {u : Int → Int} (h0 : 0 ≤ k) (h1 : k < 12) : rd_up (rd_up (c_prm M t u) 28 k (c_prm M t u 28 k - a)) 29 t (c_prm M t u 29 t + a) = c_prm M t (fun j => if j = k then u j + a else u j) := by
  funext q j
  by_cases h28 : q = 28
  · subst h28
    rw [rd_up_app (by decide), rd_up_at, c_prm_28, c_prm_28, c_prm_28]
    by_cases hj : j = k
    · subst hj
      rw [if_pos rfl, if_pos ⟨h0, h1⟩, if_pos ⟨h0, h1⟩, if_pos rfl]
      omega
    · rw [if_neg hj, if_neg hj]
  · by_cases h29 : q = 29
    · subst h29
      rw [rd_up_at, rd_up_app (by decide), c_prm_29, c_prm_29, c_prm_29, rd_sm_add 12 h0 (by omega)]
      by_cases hj : j = t
      · subst hj
        rw [if_pos rfl, if_pos rfl, if_pos rfl]
        omega
      · rw [if_neg hj, if_neg hj, if_neg hj]
    · rw [rd_up_app h29, rd_up_app h28, c_prm_ne h28 h29, c_prm_ne h28 h29]
theorem sp_part_b {k a b s : Int} (ha : 0 ≤ a ∧ a ≤ 1000000000) (hb : 0 ≤ b ∧ b ≤ 1000000000) (hs : 0 ≤ s ∧ s ≤ 1000000000) (hq : k = 0 → a ≤ 1000000) : 0 ≤ sp_part k a b s ∧ sp_part k a b s ≤ 1000000 := by
  have hm := rd_mulb ha.1 ha.2 hb.1 hb.2
  unfold sp_part
  by_cases h1 : s ≤ 0
  · rw [if_pos h1]; omega
  · rw [if_neg h1]
    by_cases h2 : k = 0
    · rw [if_pos h2]
      by_cases h3 : s ≤ b
      · rw [if_pos h3]; have := hq h2; omega
      · rw [if_neg h3]
        have h4 := rd_tdivb (a := a * b) (b := s) hm.1 (by omega)
        refine ⟨h4.1, ?_⟩
        rw [Int.tdiv_eq_ediv_of_nonneg hm.1]
        have h5 : a * b ≤ 1000000 * s := Int.mul_le_mul (hq h2) (by omega) hb.1 (by omega)
        exact Int.ediv_le_of_le_mul (by omega) h5
    · rw [if_neg h2]
      have hz : 0 ≤ min (max (s - a) 0) (a * b) ∧ min (max (s - a) 0) (a * b) ≤ s := by omega
      have h4 := rd_tdivb (a := 1000000 * min (max (s - a) 0) (a * b)) (b := s) (by omega) (by omega)
      refine ⟨h4.1, ?_⟩
      rw [Int.tdiv_eq_ediv_of_nonneg (by omega)]
      exact Int.ediv_le_of_le_mul (by omega) (by omega)
/-- quotas' first terms are parts of a million -/
def c_Q (M : rd_M) : Prop := ∀ t, 0 ≤ t → t < 10 → M 16 t = 0 → M 18 t ≤ 1000000
/-- what is left of premiums is a sum of money -/
def c_PL (M : rd_M) : Prop := ∀ r, 0 ≤ r → r < 12 → 0 ≤ M 28 r ∧ M 28 r ≤ 1000000000
theorem rd_part_b {a b : Int} (h0 : 0 ≤ a) (h1 : 0 ≤ b) (h2 : b ≤ 1000000) : 0 ≤ (a * b).tdiv 1000000 ∧ (a * b).tdiv 1000000 ≤ a := by
  have h3 := Int.mul_nonneg h0 h1
  rw [Int.tdiv_eq_ediv_of_nonneg h3]
  exact ⟨Int.ediv_nonneg h3 (by omega), Int.ediv_le_of_le_mul (by omega) (Int.mul_le_mul_of_nonneg_left h2 h0)⟩
set_option maxHeartbeats 4000000 in
set_option maxRecDepth 100000 in
theorem lq_S_cedePremiums {t : Int} {M : rd_M} {Q : rd_R → rd_M → Prop} (hI : c_I M) (hC : c_Q M) (hL : c_PL M) (h0 : 0 ≤ t) (h1 : t < 10) (hQ : Q (.inl none) (c_prm M t (fun r => (M 28 r * sp_part (M 16 t) (M 18 t) (M 19 t) (M 7 r)).tdiv 1000000))) : ∀ (d : Nat) (i : Int) (M1 : rd_M), (12 - i).toNat = d → (0 ≤ i) → (i ≤ 12) → (M1 = c_prm M t (fun j => if j < i then (fun r => (M 28 r * sp_part (M 16 t) (M 18 t) (M 19 t) (M 7 r)).tdiv 1000000) j else 0)) → rd_G x_S_cedePremiums 2 [some (.ref 4), some (rd_i t), some (rd_i i), none, none] [] M1 0 Q := by
  intro d
  induction d using Nat.strongRecOn with
  | ind d ih =>
    intro i M1 hd i0 i1 hM
    refine rd_ildn (pc := 2) d_S_cedePremiums_2 rfl ?_
    refine rd_bipush (pc := 3) d_S_cedePremiums_3 rfl ?_
    refine rd_icmp_ge (pc := 5) (tgt := 64) d_S_cedePremiums_5 rfl ⟨by omega, by omega⟩ ⟨by omega, by omega⟩ (fun h5 => ?_) (fun h5 => ?_)
    · skip
      exact rd_vret (pc := 64) d_S_cedePremiums_64 rfl (Nat.le_of_ble_eq_true rfl) (by rw [hM, c_prm_congr (u' := (fun r => (M 28 r * sp_part (M 16 t) (M 18 t) (M 19 t) (M 7 r)).tdiv 1000000)) (fun j a b => by rw [if_pos (by omega)])]; exact hQ)
    · skip
      have hI1 : c_I M1 := hI.of (fun q h => by rw [hM]; exact c_prm_ne (by omega) (by omega))
      have e7 : M1 7 = M 7 := by rw [hM]; exact c_prm_ne (by decide) (by decide)
      have e16 : M1 16 = M 16 := by rw [hM]; exact c_prm_ne (by decide) (by decide)
      have e18 : M1 18 = M 18 := by rw [hM]; exact c_prm_ne (by decide) (by decide)
      have e19 : M1 19 = M 19 := by rw [hM]; exact c_prm_ne (by decide) (by decide)
      have e28 : M1 28 i = M 28 i := by rw [hM, c_prm_28, if_pos (by omega), if_neg (by omega)]; omega
      obtain ⟨hs, hp, hy⟩ := hI.risk i0 (by omega)
      have hl := hL i i0 (by omega)
      obtain ⟨hk, hty, ha, hb, hc, hdd⟩ := hI.treaty h0 h1
      have hpt := sp_part_b (k := M 16 t) ha hb hs (fun z => hC t h0 h1 z)
      have hmul := rd_mulb hl.1 hl.2 hpt.1 hpt.2
      refine rd_aldn (pc := 8) d_S_cedePremiums_8 rfl ?_
      refine rd_getr (pc := 9) d_S_cedePremiums_9 fl_S_41 rfl rfl ?_
      refine rd_ildn (pc := 12) d_S_cedePremiums_12 rfl ?_
      refine rd_lald (pc := 13) d_S_cedePremiums_13 rfl (by omega) (by omega) ?_
      try simp (decide := true) only [rd_up_app, rd_up_hit, e7, e16, e18, e19, e28]
      refine rd_aldn (pc := 14) d_S_cedePremiums_14 rfl ?_
      refine rd_getr (pc := 15) d_S_cedePremiums_15 fl_S_19 rfl rfl ?_
      refine rd_ildn (pc := 18) d_S_cedePremiums_18 rfl ?_
      refine rd_aldn (pc := 19) d_S_cedePremiums_19 rfl ?_
      refine rd_getr (pc := 20) d_S_cedePremiums_20 fl_S_9 rfl rfl ?_
      refine rd_getr (pc := 23) d_S_cedePremiums_23 fl_S_117 rfl rfl ?_
      refine rd_ildn (pc := 26) d_S_cedePremiums_26 rfl ?_
      refine rd_iald (pc := 27) d_S_cedePremiums_27 rfl (by omega) (by omega) ?_
      try simp (decide := true) only [rd_up_app, rd_up_hit, e7, e16, e18, e19, e28]
      refine rd_i2l (pc := 28) d_S_cedePremiums_28 ⟨by omega, by omega⟩ ?_
      refine rd_callVl (pc := 29) (n' := 0) [_, _] d_S_cedePremiums_29 ml_S_120 rfl (Nat.le_of_ble_eq_true rfl) (Nat.le_of_ble_eq_true rfl) (Nat.le_of_ble_eq_true rfl) rfl rfl rfl (Nat.le_of_ble_eq_true rfl) (Nat.le_of_ble_eq_true rfl) ?_
      refine ev_T_partOfRisk hI1 h0 h1 ⟨by omega, by omega⟩ ?_
      refine ⟨_, rfl, ?_⟩
      try simp (decide := true) only [rd_up_app, rd_up_hit, e7, e16, e18, e19, e28]
      refine rd_lmul (pc := 32) d_S_cedePremiums_32 ?_
      refine rd_ldc2 (pc := 33) (v := 1000000) d_S_cedePremiums_33 kl_S_124 ?_
      refine rd_ldiv (pc := 36) d_S_cedePremiums_36 ⟨by omega, by omega⟩ ⟨by omega, by omega⟩ (by omega) ?_
      refine rd_lst3 (pc := 37) d_S_cedePremiums_37 rfl ?_
      refine rd_aldn (pc := 38) d_S_cedePremiums_38 rfl ?_
      refine rd_getr (pc := 39) d_S_cedePremiums_39 fl_S_41 rfl rfl ?_
      refine rd_ildn (pc := 42) d_S_cedePremiums_42 rfl ?_
      refine rd_dup2 (pc := 43) d_S_cedePremiums_43 rfl rfl ?_
      refine rd_lald (pc := 44) d_S_cedePremiums_44 rfl (by omega) (by omega) ?_
      try simp (decide := true) only [rd_up_app, rd_up_hit, e7, e16, e18, e19, e28]
      refine rd_lldn (pc := 45) d_S_cedePremiums_45 rfl ?_
      refine rd_lsub (pc := 46) d_S_cedePremiums_46 ?_
      refine rd_last (pc := 47) d_S_cedePremiums_47 rfl (by omega) (by omega) ?_
      refine rd_aldn (pc := 48) d_S_cedePremiums_48 rfl ?_
      refine rd_getr (pc := 49) d_S_cedePremiums_49 fl_S_44 rfl rfl ?_
      refine rd_ildn (pc := 52) d_S_cedePremiums_52 rfl ?_
      refine rd_dup2 (pc := 53) d_S_cedePremiums_53 rfl rfl ?_
      refine rd_lald (pc := 54) d_S_cedePremiums_54 rfl (by omega) (by omega) ?_
      try simp (decide := true) only [rd_up_app, rd_up_hit, e7, e16, e18, e19, e28]
      refine rd_lldn (pc := 55) d_S_cedePremiums_55 rfl ?_
      refine rd_ladd (pc := 56) d_S_cedePremiums_56 ?_
      refine rd_last (pc := 57) d_S_cedePremiums_57 rfl (by omega) (by omega) ?_
      refine rd_iinc2 (pc := 58) d_S_cedePremiums_58 rfl ?_
      refine rd_goto (pc := 61) (tgt := 2) d_S_cedePremiums_61 rfl ?_
      refine rd_weak (L' := [some (.ref 4), some (rd_i t), some (rd_i (i + 1)), none, none]) (by simp [rd_le]) ?_
      refine ih _ (by omega) (i + 1) _ rfl (by omega) (by omega) ?_
      subst hM
      have hz := c_prm_add (M := M) (t := t) (u := fun j => if j < i then (fun r => (M 28 r * sp_part (M 16 t) (M 18 t) (M 19 t) (M 7 r)).tdiv 1000000) j else 0) (k := i) (a := (fun r => (M 28 r * sp_part (M 16 t) (M 18 t) (M 19 t) (M 7 r)).tdiv 1000000) i) i0 (by omega)
      rw [e28] at hz
      rw [hz]
      exact c_prm_congr (fun j a b => by by_cases hj : j = i; (subst hj; rw [if_pos rfl, if_neg (by omega), if_pos (by omega)]; omega); (rw [if_neg hj]; by_cases hji : j < i; (rw [if_pos hji, if_pos (by omega)]); (rw [if_neg hji, if_neg (by omega)])))
set_option maxHeartbeats 4000000 in
set_option maxRecDepth 100000 in
theorem ev_S_cedePremiums {t : Int} {M : rd_M} {Q : rd_R → rd_M → Prop} (hI : c_I M) (hC : c_Q M) (hL : c_PL M) (h0 : 0 ≤ t) (h1 : t < 10) (hQ : Q (.inl none) (c_prm M t (fun r => (M 28 r * sp_part (M 16 t) (M 18 t) (M 19 t) (M 7 r)).tdiv 1000000))) : rd_G x_S_cedePremiums 0 [some (.ref 4), some (rd_i t), none, none, none] [] M 0 Q := by
  refine rd_iconst (pc := 0) d_S_cedePremiums_0 ?_
  refine rd_ist2 (pc := 1) d_S_cedePremiums_1 rfl ?_
  exact lq_S_cedePremiums hI hC hL h0 h1 hQ _ 0 M rfl (by omega) (by omega) (c_prm_0 (fun j a b => by rw [if_neg (by omega)])).symm

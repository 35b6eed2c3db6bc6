/-! cession: claim by claim, and groups -/
theorem c_Y.cnt {M : rd_M} {y k : Int} {n : Nat} (h : c_Y M y) (hn : M 2 0 = n) (h0 : 0 ≤ k) (h1 : k < n) : M 23 k = sp_in (c_d M) y k ∧ (0 ≤ M 24 k ∧ M 24 k ≤ 1000000000) ∧ (¬ sp_cnt (c_d M) y k → M 24 k = 0) := by
  obtain ⟨a, b, c, e⟩ := h k h0 (by omega)
  exact ⟨a, ⟨b, c⟩, e⟩
theorem c_I.n {M : rd_M} {n : Nat} (h : c_I M) (hn : M 2 0 = n) : n ≤ 40 := by
  have h1 := h.1
  omega
theorem sp_in_1 {d : rd_M} {y k : Int} : sp_in d y k = 1 ↔ sp_cnt d y k := by
  unfold sp_in
  by_cases h : sp_cnt d y k
  · rw [if_pos h]; exact ⟨fun _ => h, fun _ => rfl⟩
  · rw [if_neg h]; exact ⟨fun z => by omega, fun z => absurd z h⟩
theorem rd_grow {w : Int → Int} {i j a : Int} (ha : a = w i) : (if j = i then (if j < i then w j else 0) + a else (if j < i then w j else 0)) = if j < i + 1 then w j else 0 := by
  by_cases hj : j = i
  · subst hj; rw [if_pos rfl, if_neg (by omega), if_pos (by omega), ha]; omega
  · rw [if_neg hj]
    by_cases h : j < i
    · rw [if_pos h, if_pos (by omega)]
    · rw [if_neg h, if_neg (by omega)]
theorem rd_grow0 {w : Int → Int} {i j : Int} (ha : w i = 0) : (if j < i then w j else 0) = if j < i + 1 then w j else 0 := by
  by_cases hj : j = i
  · subst hj; rw [if_neg (by omega), if_pos (by omega), ha]
  · by_cases h : j < i
    · rw [if_pos h, if_pos (by omega)]
    · rw [if_neg h, if_neg (by omega)]
theorem sp_in_01 {d : rd_M} {y k : Int} : 0 ≤ sp_in d y k ∧ sp_in d y k ≤ 1 := rd_01

set_option maxHeartbeats 4000000 in
set_option maxRecDepth 100000 in
theorem lq_S_cedePartOfEachClaim {t : Int} {n : Nat} {M : rd_M} {Q : rd_R → rd_M → Prop} (hI : c_I M) (hC : c_Q M) (hn : M 2 0 = n) (hY : c_Y M (M 17 t)) (h0 : 0 ≤ t) (h1 : t < 10) (hQ : Q (.inl none) (c_tks M t n (sp_tkP (c_d M) t (M 24)))) : ∀ (d : Nat) (i : Int) (M1 : rd_M), (n - i).toNat = d → (0 ≤ i) → (i ≤ n) → (M1 = c_tks M t n (fun k => if k < i then (sp_tkP (c_d M) t (M 24)) k else 0)) → rd_G x_S_cedePartOfEachClaim 2 [some (.ref 4), some (rd_i t), some (rd_i i), none, none] [] M1 0 Q := by
  intro d
  induction d using Nat.strongRecOn with
  | ind d ih =>
    intro i M1 hd i0 i1 hM
    have hn40 := hI.n hn
    have hI1 : c_I M1 := hI.of (fun q h => by rw [hM]; exact c_tks_low q h)
    have e2 : M1 2 = M 2 := by rw [hM]; exact c_tks_ne (by decide) (by decide) (by decide)
    have e7 : M1 7 = M 7 := by rw [hM]; exact c_tks_ne (by decide) (by decide) (by decide)
    have e10 : M1 10 = M 10 := by rw [hM]; exact c_tks_ne (by decide) (by decide) (by decide)
    have e16 : M1 16 = M 16 := by rw [hM]; exact c_tks_ne (by decide) (by decide) (by decide)
    have e18 : M1 18 = M 18 := by rw [hM]; exact c_tks_ne (by decide) (by decide) (by decide)
    have e19 : M1 19 = M 19 := by rw [hM]; exact c_tks_ne (by decide) (by decide) (by decide)
    have e23 : M1 23 = M 23 := by rw [hM]; exact c_tks_ne (by decide) (by decide) (by decide)
    refine rd_ildn (pc := 2) d_S_cedePartOfEachClaim_2 rfl ?_
    refine rd_aldn (pc := 3) d_S_cedePartOfEachClaim_3 rfl ?_
    refine rd_getr (pc := 4) d_S_cedePartOfEachClaim_4 fl_S_15 rfl rfl ?_
    refine rd_gi (pc := 7) (ki := 0) d_S_cedePartOfEachClaim_7 fl_S_69 rfl rfl rfl ?_
    first | simp (decide := true) only [rd_up_app, rd_up_hit, e2, e7, e10, e16, e18, e19, e23, e24] | simp (decide := true) only [rd_up_app, rd_up_hit, e2, e7, e10, e16, e18, e19, e23] | skip
    refine rd_icmp_ge (pc := 10) (tgt := 74) d_S_cedePartOfEachClaim_10 rfl ⟨by omega, by omega⟩ ⟨by omega, by omega⟩ (fun h10 => ?_) (fun h10 => ?_)
    · skip
      exact rd_vret (pc := 74) d_S_cedePartOfEachClaim_74 rfl (Nat.le_of_ble_eq_true rfl) (by rw [hM, c_tks_congr (w' := (sp_tkP (c_d M) t (M 24))) (fun j a b => by rw [if_pos (by omega)])]; exact hQ)
    · skip
      have e24 : M1 24 i = M 24 i := by rw [hM, c_tks_24, if_pos (by omega), if_neg (by omega)]; omega
      obtain ⟨y1, y2, y3⟩ := hY.cnt hn i0 (by omega)
      have y4 := sp_in_01 (d := c_d M) (y := M 17 t) (k := i)
      obtain ⟨hr, _⟩ := hI.claim i0 (by omega)
      obtain ⟨hs, hp, hy⟩ := hI.risk hr.1 hr.2
      obtain ⟨hk, hty, ha, hb, hc, hdd⟩ := hI.treaty h0 h1
      have hpt := sp_part_b (k := M 16 t) ha hb hs (fun z => hC t h0 h1 z)
      have hmul := rd_mulb y2.1 y2.2 hpt.1 hpt.2
      refine rd_aldn (pc := 13) d_S_cedePartOfEachClaim_13 rfl ?_
      refine rd_getr (pc := 14) d_S_cedePartOfEachClaim_14 fl_S_23 rfl rfl ?_
      refine rd_ildn (pc := 17) d_S_cedePartOfEachClaim_17 rfl ?_
      refine rd_zald (pc := 18) d_S_cedePartOfEachClaim_18 rfl (by omega) (by omega) ?_
      first | simp (decide := true) only [rd_up_app, rd_up_hit, e2, e7, e10, e16, e18, e19, e23, e24] | simp (decide := true) only [rd_up_app, rd_up_hit, e2, e7, e10, e16, e18, e19, e23] | skip
      refine rd_if_eq (pc := 19) (tgt := 68) d_S_cedePartOfEachClaim_19 rfl ⟨by omega, by omega⟩ (fun h19 => ?_) (fun h19 => ?_)
      · skip
        refine rd_iinc2 (pc := 68) d_S_cedePartOfEachClaim_68 rfl ?_
        refine rd_goto (pc := 71) (tgt := 2) d_S_cedePartOfEachClaim_71 rfl ?_
        refine rd_weak (L' := [some (.ref 4), some (rd_i t), some (rd_i (i + 1)), none, none]) (by simp [rd_le]) ?_
        refine ih _ (by omega) (i + 1) _ rfl (by omega) (by omega) ?_
        subst hM
        first
          | (rw [c_tks_take i0 (by omega)]; exact c_tks_congr (fun j a b => rd_grow (w := (sp_tkP (c_d M) t (M 24))) (if_pos (sp_in_1.1 (show sp_in (c_d M) (M 17 t) i = 1 by omega))).symm))
          | exact c_tks_congr (fun j a b => rd_grow0 (w := (sp_tkP (c_d M) t (M 24))) (if_neg (fun z => absurd (sp_in_1.2 z) (show sp_in (c_d M) (M 17 t) i ≠ 1 by omega))))
      · skip
        refine rd_aldn (pc := 22) d_S_cedePartOfEachClaim_22 rfl ?_
        refine rd_getr (pc := 23) d_S_cedePartOfEachClaim_23 fl_S_19 rfl rfl ?_
        refine rd_ildn (pc := 26) d_S_cedePartOfEachClaim_26 rfl ?_
        refine rd_aldn (pc := 27) d_S_cedePartOfEachClaim_27 rfl ?_
        refine rd_getr (pc := 28) d_S_cedePartOfEachClaim_28 fl_S_9 rfl rfl ?_
        refine rd_getr (pc := 31) d_S_cedePartOfEachClaim_31 fl_S_117 rfl rfl ?_
        refine rd_aldn (pc := 34) d_S_cedePartOfEachClaim_34 rfl ?_
        refine rd_getr (pc := 35) d_S_cedePartOfEachClaim_35 fl_S_15 rfl rfl ?_
        refine rd_getr (pc := 38) d_S_cedePartOfEachClaim_38 fl_S_83 rfl rfl ?_
        refine rd_ildn (pc := 41) d_S_cedePartOfEachClaim_41 rfl ?_
        refine rd_iald (pc := 42) d_S_cedePartOfEachClaim_42 rfl (by omega) (by omega) ?_
        first | simp (decide := true) only [rd_up_app, rd_up_hit, e2, e7, e10, e16, e18, e19, e23, e24] | simp (decide := true) only [rd_up_app, rd_up_hit, e2, e7, e10, e16, e18, e19, e23] | skip
        refine rd_iald (pc := 43) d_S_cedePartOfEachClaim_43 rfl (by omega) (by omega) ?_
        first | simp (decide := true) only [rd_up_app, rd_up_hit, e2, e7, e10, e16, e18, e19, e23, e24] | simp (decide := true) only [rd_up_app, rd_up_hit, e2, e7, e10, e16, e18, e19, e23] | skip
        refine rd_i2l (pc := 44) d_S_cedePartOfEachClaim_44 ⟨by omega, by omega⟩ ?_
        refine rd_callVl (pc := 45) (n' := 0) [_, _] d_S_cedePartOfEachClaim_45 ml_S_120 rfl (Nat.le_of_ble_eq_true rfl) (Nat.le_of_ble_eq_true rfl) (Nat.le_of_ble_eq_true rfl) rfl rfl rfl (Nat.le_of_ble_eq_true rfl) (Nat.le_of_ble_eq_true rfl) ?_
        refine ev_T_partOfRisk hI1 h0 h1 ⟨by omega, by omega⟩ ?_
        refine ⟨_, rfl, ?_⟩
        first | simp (decide := true) only [rd_up_app, rd_up_hit, e2, e7, e10, e16, e18, e19, e23, e24] | simp (decide := true) only [rd_up_app, rd_up_hit, e2, e7, e10, e16, e18, e19, e23] | skip
        refine rd_lst3 (pc := 48) d_S_cedePartOfEachClaim_48 rfl ?_
        refine rd_aldn (pc := 49) d_S_cedePartOfEachClaim_49 rfl ?_
        refine rd_ildn (pc := 50) d_S_cedePartOfEachClaim_50 rfl ?_
        refine rd_ildn (pc := 51) d_S_cedePartOfEachClaim_51 rfl ?_
        refine rd_aldn (pc := 52) d_S_cedePartOfEachClaim_52 rfl ?_
        refine rd_getr (pc := 53) d_S_cedePartOfEachClaim_53 fl_S_27 rfl rfl ?_
        refine rd_ildn (pc := 56) d_S_cedePartOfEachClaim_56 rfl ?_
        refine rd_iald (pc := 57) d_S_cedePartOfEachClaim_57 rfl (by omega) (by omega) ?_
        first | simp (decide := true) only [rd_up_app, rd_up_hit, e2, e7, e10, e16, e18, e19, e23, e24] | simp (decide := true) only [rd_up_app, rd_up_hit, e2, e7, e10, e16, e18, e19, e23] | skip
        refine rd_i2l (pc := 58) d_S_cedePartOfEachClaim_58 ⟨by omega, by omega⟩ ?_
        refine rd_lldn (pc := 59) d_S_cedePartOfEachClaim_59 rfl ?_
        refine rd_lmul (pc := 60) d_S_cedePartOfEachClaim_60 ?_
        refine rd_ldc2 (pc := 61) (v := 1000000) d_S_cedePartOfEachClaim_61 kl_S_124 ?_
        refine rd_ldiv (pc := 64) d_S_cedePartOfEachClaim_64 ⟨by omega, by omega⟩ ⟨by omega, by omega⟩ (by omega) ?_
        refine rd_callVv (pc := 65) (n' := 0) [_, _, _] d_S_cedePartOfEachClaim_65 ml_S_126 rfl (Nat.le_of_ble_eq_true rfl) (Nat.le_of_ble_eq_true rfl) (Nat.le_of_ble_eq_true rfl) rfl rfl rfl (Nat.le_of_ble_eq_true rfl) (Nat.le_of_ble_eq_true rfl) ?_
        refine ev_S_take h0 h1 i0 (by omega) ?_
        refine ⟨rfl, ?_⟩
        first | simp (decide := true) only [rd_up_app, rd_up_hit, e2, e7, e10, e16, e18, e19, e23, e24] | simp (decide := true) only [rd_up_app, rd_up_hit, e2, e7, e10, e16, e18, e19, e23] | skip
        refine rd_iinc2 (pc := 68) d_S_cedePartOfEachClaim_68 rfl ?_
        refine rd_goto (pc := 71) (tgt := 2) d_S_cedePartOfEachClaim_71 rfl ?_
        refine rd_weak (L' := [some (.ref 4), some (rd_i t), some (rd_i (i + 1)), none, none]) (by simp [rd_le]) ?_
        refine ih _ (by omega) (i + 1) _ rfl (by omega) (by omega) ?_
        subst hM
        first
          | (rw [c_tks_take i0 (by omega)]; exact c_tks_congr (fun j a b => rd_grow (w := (sp_tkP (c_d M) t (M 24))) (if_pos (sp_in_1.1 (show sp_in (c_d M) (M 17 t) i = 1 by omega))).symm))
          | exact c_tks_congr (fun j a b => rd_grow0 (w := (sp_tkP (c_d M) t (M 24))) (if_neg (fun z => absurd (sp_in_1.2 z) (show sp_in (c_d M) (M 17 t) i ≠ 1 by omega))))
set_option maxHeartbeats 4000000 in
set_option maxRecDepth 100000 in
theorem ev_S_cedePartOfEachClaim {t : Int} {n : Nat} {M : rd_M} {Q : rd_R → rd_M → Prop} (hI : c_I M) (hC : c_Q M) (hn : M 2 0 = n) (hY : c_Y M (M 17 t)) (h0 : 0 ≤ t) (h1 : t < 10) (hQ : Q (.inl none) (c_tks M t n (sp_tkP (c_d M) t (M 24)))) : rd_G x_S_cedePartOfEachClaim 0 [some (.ref 4), some (rd_i t), none, none, none] [] M 0 Q := by
  refine rd_iconst (pc := 0) d_S_cedePartOfEachClaim_0 ?_
  refine rd_ist2 (pc := 1) d_S_cedePartOfEachClaim_1 rfl ?_
  exact lq_S_cedePartOfEachClaim hI hC hn hY h0 h1 hQ _ 0 M rfl (by omega) (by omega) (c_tks_0 (fun j a b => by rw [if_neg (by omega)])).symm

/-- what take does: kept, ceded, taken -/
def c_take (M : rd_M) (t k v : Int) : rd_M :=
  rd_up (rd_up (rd_up M 24 k (M 24 k - v)) 25 (t * 40 + k) (M 25 (t * 40 + k) + v)) 26 t (M 26 t + v)
/-! small methods of the class -/
set_option maxHeartbeats 4000000 in
set_option maxRecDepth 100000 in
theorem ev_D_isBelow {a b : Int} {M : rd_M} {Q : rd_R → rd_M → Prop} (ha : rd_I a) (hb : rd_I b) (hT : 0 ≤ a ∧ a < b → Q (.inl (some (rd_i 1))) M) (hF : ¬ (0 ≤ a ∧ a < b) → Q (.inl (some (rd_i 0))) M) : rd_G x_D_isBelow 0 [some (rd_i a), some (rd_i b)] [] M 0 Q := by
  refine rd_ildn (pc := 0) d_D_isBelow_0 rfl ?_
  refine rd_if_lt (pc := 1) (tgt := 13) d_D_isBelow_1 rfl ⟨by omega, by omega⟩ (fun h1 => ?_) (fun h1 => ?_)
  · skip
    refine rd_iconst (pc := 13) d_D_isBelow_13 ?_
    exact rd_zret (pc := 14) d_D_isBelow_14 rfl (Nat.le_of_ble_eq_true rfl) (by omega) (by first | exact hT (by omega) | exact hF (by omega))
  · skip
    refine rd_ildn (pc := 4) d_D_isBelow_4 rfl ?_
    refine rd_ildn (pc := 5) d_D_isBelow_5 rfl ?_
    refine rd_icmp_ge (pc := 6) (tgt := 13) d_D_isBelow_6 rfl ⟨by omega, by omega⟩ ⟨by omega, by omega⟩ (fun h6 => ?_) (fun h6 => ?_)
    · skip
      refine rd_iconst (pc := 13) d_D_isBelow_13 ?_
      exact rd_zret (pc := 14) d_D_isBelow_14 rfl (Nat.le_of_ble_eq_true rfl) (by omega) (by first | exact hT (by omega) | exact hF (by omega))
    · skip
      refine rd_iconst (pc := 9) d_D_isBelow_9 ?_
      refine rd_goto (pc := 10) (tgt := 14) d_D_isBelow_10 rfl ?_
      exact rd_zret (pc := 14) d_D_isBelow_14 rfl (Nat.le_of_ble_eq_true rfl) (by omega) (by first | exact hT (by omega) | exact hF (by omega))
set_option maxHeartbeats 4000000 in
set_option maxRecDepth 100000 in
theorem ev_D_isFromOne {a b : Int} {M : rd_M} {Q : rd_R → rd_M → Prop} (ha : rd_I a) (hb : rd_I b) (hT : 1 ≤ a ∧ a ≤ b → Q (.inl (some (rd_i 1))) M) (hF : ¬ (1 ≤ a ∧ a ≤ b) → Q (.inl (some (rd_i 0))) M) : rd_G x_D_isFromOne 0 [some (rd_i a), some (rd_i b)] [] M 0 Q := by
  refine rd_ildn (pc := 0) d_D_isFromOne_0 rfl ?_
  refine rd_iconst (pc := 1) d_D_isFromOne_1 ?_
  refine rd_icmp_lt (pc := 2) (tgt := 14) d_D_isFromOne_2 rfl ⟨by omega, by omega⟩ ⟨by omega, by omega⟩ (fun h2 => ?_) (fun h2 => ?_)
  · skip
    refine rd_iconst (pc := 14) d_D_isFromOne_14 ?_
    exact rd_zret (pc := 15) d_D_isFromOne_15 rfl (Nat.le_of_ble_eq_true rfl) (by omega) (by first | exact hT (by omega) | exact hF (by omega))
  · skip
    refine rd_ildn (pc := 5) d_D_isFromOne_5 rfl ?_
    refine rd_ildn (pc := 6) d_D_isFromOne_6 rfl ?_
    refine rd_icmp_gt (pc := 7) (tgt := 14) d_D_isFromOne_7 rfl ⟨by omega, by omega⟩ ⟨by omega, by omega⟩ (fun h7 => ?_) (fun h7 => ?_)
    · skip
      refine rd_iconst (pc := 14) d_D_isFromOne_14 ?_
      exact rd_zret (pc := 15) d_D_isFromOne_15 rfl (Nat.le_of_ble_eq_true rfl) (by omega) (by first | exact hT (by omega) | exact hF (by omega))
    · skip
      refine rd_iconst (pc := 10) d_D_isFromOne_10 ?_
      refine rd_goto (pc := 11) (tgt := 15) d_D_isFromOne_11 rfl ?_
      exact rd_zret (pc := 15) d_D_isFromOne_15 rfl (Nat.le_of_ble_eq_true rfl) (by omega) (by first | exact hT (by omega) | exact hF (by omega))
set_option maxHeartbeats 4000000 in
set_option maxRecDepth 100000 in
theorem ev_D_isAmount {a : Int} {M : rd_M} {Q : rd_R → rd_M → Prop} (ha : rd_I a) (hT : 0 ≤ a ∧ a ≤ 1000000000 → Q (.inl (some (rd_i 1))) M) (hF : ¬ (0 ≤ a ∧ a ≤ 1000000000) → Q (.inl (some (rd_i 0))) M) : rd_G x_D_isAmount 0 [some (rd_i a)] [] M 0 Q := by
  refine rd_ildn (pc := 0) d_D_isAmount_0 rfl ?_
  refine rd_if_lt (pc := 1) (tgt := 14) d_D_isAmount_1 rfl ⟨by omega, by omega⟩ (fun h1 => ?_) (fun h1 => ?_)
  · skip
    refine rd_iconst (pc := 14) d_D_isAmount_14 ?_
    exact rd_zret (pc := 15) d_D_isAmount_15 rfl (Nat.le_of_ble_eq_true rfl) (by omega) (by first | exact hT (by omega) | exact hF (by omega))
  · skip
    refine rd_ildn (pc := 4) d_D_isAmount_4 rfl ?_
    refine rd_ldc (pc := 5) (v := 1000000000) d_D_isAmount_5 kc_D_51 ?_
    refine rd_icmp_gt (pc := 7) (tgt := 14) d_D_isAmount_7 rfl ⟨by omega, by omega⟩ ⟨by omega, by omega⟩ (fun h7 => ?_) (fun h7 => ?_)
    · skip
      refine rd_iconst (pc := 14) d_D_isAmount_14 ?_
      exact rd_zret (pc := 15) d_D_isAmount_15 rfl (Nat.le_of_ble_eq_true rfl) (by omega) (by first | exact hT (by omega) | exact hF (by omega))
    · skip
      refine rd_iconst (pc := 10) d_D_isAmount_10 ?_
      refine rd_goto (pc := 11) (tgt := 15) d_D_isAmount_11 rfl ?_
      exact rd_zret (pc := 15) d_D_isAmount_15 rfl (Nat.le_of_ble_eq_true rfl) (by omega) (by first | exact hT (by omega) | exact hF (by omega))
set_option maxHeartbeats 4000000 in
set_option maxRecDepth 100000 in
theorem ev_D_isShape {a : Int} {M : rd_M} {Q : rd_R → rd_M → Prop} (ha : rd_I a) (hT : (0 ≤ a ∧ a < 50) ∧ a.tmod 10 < 4 → Q (.inl (some (rd_i 1))) M) (hF : ¬ ((0 ≤ a ∧ a < 50) ∧ a.tmod 10 < 4) → Q (.inl (some (rd_i 0))) M) : rd_G x_D_isShape 0 [some (rd_i a)] [] M 0 Q := by
  refine rd_ildn (pc := 0) d_D_isShape_0 rfl ?_
  refine rd_bipush (pc := 1) d_D_isShape_1 rfl ?_
  refine rd_callSi (pc := 3) (n' := 0) [_, _] d_D_isShape_3 ml_D_47 (Nat.le_of_ble_eq_true rfl) (Nat.le_of_ble_eq_true rfl) (Nat.le_of_ble_eq_true rfl) rfl rfl rfl (Nat.le_of_ble_eq_true rfl) (Nat.le_of_ble_eq_true rfl) ?_
  refine ev_D_isBelow ⟨by omega, by omega⟩ ⟨by omega, by omega⟩ (fun c3 => ⟨_, rfl, ?_⟩) (fun c3 => ⟨_, rfl, ?_⟩)
  · skip
    have hm : 0 ≤ a.tmod 10 ∧ a.tmod 10 < 10 := by rw [Int.tmod_eq_emod_of_nonneg (by omega)]; omega
    refine rd_if_eq (pc := 6) (tgt := 21) d_D_isShape_6 rfl ⟨by omega, by omega⟩ (fun h6 => ?_) (fun h6 => ?_)
    · exact absurd h6 (by decide)
    · skip
      refine rd_ildn (pc := 9) d_D_isShape_9 rfl ?_
      refine rd_bipush (pc := 10) d_D_isShape_10 rfl ?_
      refine rd_irem (pc := 12) d_D_isShape_12 ⟨by omega, by omega⟩ ⟨by omega, by omega⟩ (by omega) ?_
      refine rd_iconst (pc := 13) d_D_isShape_13 ?_
      refine rd_icmp_ge (pc := 14) (tgt := 21) d_D_isShape_14 rfl ⟨by omega, by omega⟩ ⟨by omega, by omega⟩ (fun h14 => ?_) (fun h14 => ?_)
      · skip
        refine rd_iconst (pc := 21) d_D_isShape_21 ?_
        exact rd_zret (pc := 22) d_D_isShape_22 rfl (Nat.le_of_ble_eq_true rfl) (by omega) (by first | exact hT (by omega) | exact hF (by omega))
      · skip
        refine rd_iconst (pc := 17) d_D_isShape_17 ?_
        refine rd_goto (pc := 18) (tgt := 22) d_D_isShape_18 rfl ?_
        exact rd_zret (pc := 22) d_D_isShape_22 rfl (Nat.le_of_ble_eq_true rfl) (by omega) (by first | exact hT (by omega) | exact hF (by omega))
  · skip
    refine rd_if_eq (pc := 6) (tgt := 21) d_D_isShape_6 rfl ⟨by omega, by omega⟩ (fun h6 => ?_) (fun h6 => ?_)
    · skip
      refine rd_iconst (pc := 21) d_D_isShape_21 ?_
      exact rd_zret (pc := 22) d_D_isShape_22 rfl (Nat.le_of_ble_eq_true rfl) (by omega) (by first | exact hT (by omega) | exact hF (by omega))
    · exact absurd h6 (by decide)
set_option maxHeartbeats 4000000 in
set_option maxRecDepth 100000 in
theorem ev_R_isTold {r : Int} {M : rd_M} {Q : rd_R → rd_M → Prop} (hI : c_I M) (hr : rd_I r) (hT : (0 ≤ r ∧ r < 12) ∧ 0 < M 7 r → Q (.inl (some (rd_i 1))) M) (hF : ¬ ((0 ≤ r ∧ r < 12) ∧ 0 < M 7 r) → Q (.inl (some (rd_i 0))) M) : rd_G x_R_isTold 0 [some (.ref 1), some (rd_i r)] [] M 0 Q := by
  refine rd_ildn (pc := 0) d_R_isTold_0 rfl ?_
  refine rd_if_lt (pc := 1) (tgt := 23) d_R_isTold_1 rfl ⟨by omega, by omega⟩ (fun h1 => ?_) (fun h1 => ?_)
  · skip
    refine rd_iconst (pc := 23) d_R_isTold_23 ?_
    exact rd_zret (pc := 24) d_R_isTold_24 rfl (Nat.le_of_ble_eq_true rfl) (by omega) (by first | exact hT (by omega) | exact hF (by omega))
  · skip
    refine rd_ildn (pc := 4) d_R_isTold_4 rfl ?_
    refine rd_bipush (pc := 5) d_R_isTold_5 rfl ?_
    refine rd_icmp_ge (pc := 7) (tgt := 23) d_R_isTold_7 rfl ⟨by omega, by omega⟩ ⟨by omega, by omega⟩ (fun h7 => ?_) (fun h7 => ?_)
    · skip
      refine rd_iconst (pc := 23) d_R_isTold_23 ?_
      exact rd_zret (pc := 24) d_R_isTold_24 rfl (Nat.le_of_ble_eq_true rfl) (by omega) (by first | exact hT (by omega) | exact hF (by omega))
    · skip
      have hs := hI.risk (r := r) (by omega) (by omega)
      refine rd_aldn (pc := 10) d_R_isTold_10 rfl ?_
      refine rd_getr (pc := 11) d_R_isTold_11 fl_R_9 rfl rfl ?_
      refine rd_ildn (pc := 14) d_R_isTold_14 rfl ?_
      refine rd_iald (pc := 15) d_R_isTold_15 rfl (by omega) (by omega) ?_
      refine rd_if_le (pc := 16) (tgt := 23) d_R_isTold_16 rfl ⟨by omega, by omega⟩ (fun h16 => ?_) (fun h16 => ?_)
      · skip
        refine rd_iconst (pc := 23) d_R_isTold_23 ?_
        exact rd_zret (pc := 24) d_R_isTold_24 rfl (Nat.le_of_ble_eq_true rfl) (by omega) (by first | exact hT (by omega) | exact hF (by omega))
      · skip
        refine rd_iconst (pc := 19) d_R_isTold_19 ?_
        refine rd_goto (pc := 20) (tgt := 24) d_R_isTold_20 rfl ?_
        exact rd_zret (pc := 24) d_R_isTold_24 rfl (Nat.le_of_ble_eq_true rfl) (by omega) (by first | exact hT (by omega) | exact hF (by omega))
set_option maxHeartbeats 4000000 in
set_option maxRecDepth 100000 in
theorem ev_C_has {k : Int} {M : rd_M} {Q : rd_R → rd_M → Prop} (hI : c_I M) (hk : rd_I k) (hT : 0 ≤ k ∧ k < M 2 0 → Q (.inl (some (rd_i 1))) M) (hF : ¬ (0 ≤ k ∧ k < M 2 0) → Q (.inl (some (rd_i 0))) M) : rd_G x_C_has 0 [some (.ref 2), some (rd_i k)] [] M 0 Q := by
  have hn := hI.1
  refine rd_ildn (pc := 0) d_C_has_0 rfl ?_
  refine rd_if_lt (pc := 1) (tgt := 16) d_C_has_1 rfl ⟨by omega, by omega⟩ (fun h1 => ?_) (fun h1 => ?_)
  · skip
    refine rd_iconst (pc := 16) d_C_has_16 ?_
    exact rd_zret (pc := 17) d_C_has_17 rfl (Nat.le_of_ble_eq_true rfl) (by omega) (by first | exact hT (by omega) | exact hF (by omega))
  · skip
    refine rd_ildn (pc := 4) d_C_has_4 rfl ?_
    refine rd_aldn (pc := 5) d_C_has_5 rfl ?_
    refine rd_gi (pc := 6) (ki := 0) d_C_has_6 fl_C_31 rfl rfl rfl ?_
    refine rd_icmp_ge (pc := 9) (tgt := 16) d_C_has_9 rfl ⟨by omega, by omega⟩ ⟨by omega, by omega⟩ (fun h9 => ?_) (fun h9 => ?_)
    · skip
      refine rd_iconst (pc := 16) d_C_has_16 ?_
      exact rd_zret (pc := 17) d_C_has_17 rfl (Nat.le_of_ble_eq_true rfl) (by omega) (by first | exact hT (by omega) | exact hF (by omega))
    · skip
      refine rd_iconst (pc := 12) d_C_has_12 ?_
      refine rd_goto (pc := 13) (tgt := 17) d_C_has_13 rfl ?_
      exact rd_zret (pc := 17) d_C_has_17 rfl (Nat.le_of_ble_eq_true rfl) (by omega) (by first | exact hT (by omega) | exact hF (by omega))
set_option maxHeartbeats 4000000 in
set_option maxRecDepth 100000 in
theorem ev_T_has {t : Int} {M : rd_M} {Q : rd_R → rd_M → Prop} (hI : c_I M) (hk : rd_I t) (hT : 0 ≤ t ∧ t < M 3 0 → Q (.inl (some (rd_i 1))) M) (hF : ¬ (0 ≤ t ∧ t < M 3 0) → Q (.inl (some (rd_i 0))) M) : rd_G x_T_has 0 [some (.ref 3), some (rd_i t)] [] M 0 Q := by
  have hn := hI.2.1
  refine rd_ildn (pc := 0) d_T_has_0 rfl ?_
  refine rd_if_lt (pc := 1) (tgt := 16) d_T_has_1 rfl ⟨by omega, by omega⟩ (fun h1 => ?_) (fun h1 => ?_)
  · skip
    refine rd_iconst (pc := 16) d_T_has_16 ?_
    exact rd_zret (pc := 17) d_T_has_17 rfl (Nat.le_of_ble_eq_true rfl) (by omega) (by first | exact hT (by omega) | exact hF (by omega))
  · skip
    refine rd_ildn (pc := 4) d_T_has_4 rfl ?_
    refine rd_aldn (pc := 5) d_T_has_5 rfl ?_
    refine rd_gi (pc := 6) (ki := 0) d_T_has_6 fl_T_34 rfl rfl rfl ?_
    refine rd_icmp_ge (pc := 9) (tgt := 16) d_T_has_9 rfl ⟨by omega, by omega⟩ ⟨by omega, by omega⟩ (fun h9 => ?_) (fun h9 => ?_)
    · skip
      refine rd_iconst (pc := 16) d_T_has_16 ?_
      exact rd_zret (pc := 17) d_T_has_17 rfl (Nat.le_of_ble_eq_true rfl) (by omega) (by first | exact hT (by omega) | exact hF (by omega))
    · skip
      refine rd_iconst (pc := 12) d_T_has_12 ?_
      refine rd_goto (pc := 13) (tgt := 17) d_T_has_13 rfl ?_
      exact rd_zret (pc := 17) d_T_has_17 rfl (Nat.le_of_ble_eq_true rfl) (by omega) (by first | exact hT (by omega) | exact hF (by omega))
set_option maxHeartbeats 4000000 in
set_option maxRecDepth 100000 in
theorem ev_T_isExcess {t : Int} {M : rd_M} {Q : rd_R → rd_M → Prop} (hI : c_I M) (h0 : 0 ≤ t) (h1 : t < 10) (hT : M 16 t = 2 ∨ M 16 t = 3 → Q (.inl (some (rd_i 1))) M) (hF : ¬ (M 16 t = 2 ∨ M 16 t = 3) → Q (.inl (some (rd_i 0))) M) : rd_G x_T_isExcess 0 [some (.ref 3), some (rd_i t)] [] M 0 Q := by
  have hn := hI.treaty h0 h1
  refine rd_aldn (pc := 0) d_T_isExcess_0 rfl ?_
  refine rd_getr (pc := 1) d_T_isExcess_1 fl_T_9 rfl rfl ?_
  refine rd_ildn (pc := 4) d_T_isExcess_4 rfl ?_
  refine rd_iald (pc := 5) d_T_isExcess_5 rfl (by omega) (by omega) ?_
  refine rd_iconst (pc := 6) d_T_isExcess_6 ?_
  refine rd_icmp_eq (pc := 7) (tgt := 20) d_T_isExcess_7 rfl ⟨by omega, by omega⟩ ⟨by omega, by omega⟩ (fun h7 => ?_) (fun h7 => ?_)
  · skip
    refine rd_iconst (pc := 20) d_T_isExcess_20 ?_
    refine rd_goto (pc := 21) (tgt := 25) d_T_isExcess_21 rfl ?_
    exact rd_zret (pc := 25) d_T_isExcess_25 rfl (Nat.le_of_ble_eq_true rfl) (by omega) (by first | exact hT (by omega) | exact hF (by omega))
  · skip
    refine rd_aldn (pc := 10) d_T_isExcess_10 rfl ?_
    refine rd_getr (pc := 11) d_T_isExcess_11 fl_T_9 rfl rfl ?_
    refine rd_ildn (pc := 14) d_T_isExcess_14 rfl ?_
    refine rd_iald (pc := 15) d_T_isExcess_15 rfl (by omega) (by omega) ?_
    refine rd_iconst (pc := 16) d_T_isExcess_16 ?_
    refine rd_icmp_ne (pc := 17) (tgt := 24) d_T_isExcess_17 rfl ⟨by omega, by omega⟩ ⟨by omega, by omega⟩ (fun h17 => ?_) (fun h17 => ?_)
    · skip
      refine rd_iconst (pc := 24) d_T_isExcess_24 ?_
      exact rd_zret (pc := 25) d_T_isExcess_25 rfl (Nat.le_of_ble_eq_true rfl) (by omega) (by first | exact hT (by omega) | exact hF (by omega))
    · skip
      refine rd_iconst (pc := 20) d_T_isExcess_20 ?_
      refine rd_goto (pc := 21) (tgt := 25) d_T_isExcess_21 rfl ?_
      exact rd_zret (pc := 25) d_T_isExcess_25 rfl (Nat.le_of_ble_eq_true rfl) (by omega) (by first | exact hT (by omega) | exact hF (by omega))
set_option maxHeartbeats 4000000 in
set_option maxRecDepth 100000 in
theorem ev_J_max {a b : Int} {M : rd_M} {Q : rd_R → rd_M → Prop} (ha : rd_J a) (hb : rd_J b) (hQ : Q (.inl (some (rd_l (max a b)))) (M)) : rd_G x_J_max 0 [some (rd_l a), none, some (rd_l b), none] [] M 0 Q := by
  refine rd_lldn (pc := 0) d_J_max_0 rfl ?_
  refine rd_lldn (pc := 1) d_J_max_1 rfl ?_
  refine rd_lcmp_lt (pc := 2) (tgt := 10) d_J_max_2 d_J_max_3 rfl ⟨by omega, by omega⟩ ⟨by omega, by omega⟩ (fun h2 => ?_) (fun h2 => ?_)
  · skip
    refine rd_lldn (pc := 10) d_J_max_10 rfl ?_
    exact rd_lret (pc := 11) d_J_max_11 rfl (Nat.le_of_ble_eq_true rfl) (by first | (rw [show max a b = a by omega] at hQ; exact hQ) | (rw [show max a b = b by omega] at hQ; exact hQ))
  · skip
    refine rd_lldn (pc := 6) d_J_max_6 rfl ?_
    refine rd_goto (pc := 7) (tgt := 11) d_J_max_7 rfl ?_
    exact rd_lret (pc := 11) d_J_max_11 rfl (Nat.le_of_ble_eq_true rfl) (by first | (rw [show max a b = a by omega] at hQ; exact hQ) | (rw [show max a b = b by omega] at hQ; exact hQ))
set_option maxHeartbeats 4000000 in
set_option maxRecDepth 100000 in
theorem ev_J_min {a b : Int} {M : rd_M} {Q : rd_R → rd_M → Prop} (ha : rd_J a) (hb : rd_J b) (hQ : Q (.inl (some (rd_l (min a b)))) (M)) : rd_G x_J_min 0 [some (rd_l a), none, some (rd_l b), none] [] M 0 Q := by
  refine rd_lldn (pc := 0) d_J_min_0 rfl ?_
  refine rd_lldn (pc := 1) d_J_min_1 rfl ?_
  refine rd_lcmp_gt (pc := 2) (tgt := 10) d_J_min_2 d_J_min_3 rfl ⟨by omega, by omega⟩ ⟨by omega, by omega⟩ (fun h2 => ?_) (fun h2 => ?_)
  · skip
    refine rd_lldn (pc := 10) d_J_min_10 rfl ?_
    exact rd_lret (pc := 11) d_J_min_11 rfl (Nat.le_of_ble_eq_true rfl) (by first | (rw [show min a b = a by omega] at hQ; exact hQ) | (rw [show min a b = b by omega] at hQ; exact hQ))
  · skip
    refine rd_lldn (pc := 6) d_J_min_6 rfl ?_
    refine rd_goto (pc := 7) (tgt := 11) d_J_min_7 rfl ?_
    exact rd_lret (pc := 11) d_J_min_11 rfl (Nat.le_of_ble_eq_true rfl) (by first | (rw [show min a b = a by omega] at hQ; exact hQ) | (rw [show min a b = b by omega] at hQ; exact hQ))
set_option maxHeartbeats 4000000 in
set_option maxRecDepth 100000 in
theorem ev_T_limitOf {t : Int} {M : rd_M} {Q : rd_R → rd_M → Prop} (h0 : 0 ≤ t) (h1 : t < 10) (hQ : Q (.inl (some (rd_l (sp_lim (M 19 t) (M 20 t))))) (M)) : rd_G x_T_limitOf 0 [some (.ref 3), some (rd_i t)] [] M 0 Q := by
  refine rd_aldn (pc := 0) d_T_limitOf_0 rfl ?_
  refine rd_getr (pc := 1) d_T_limitOf_1 fl_T_22 rfl rfl ?_
  refine rd_ildn (pc := 4) d_T_limitOf_4 rfl ?_
  refine rd_lald (pc := 5) d_T_limitOf_5 rfl (by omega) (by omega) ?_
  refine rd_lconst (pc := 6) (v := 1) d_T_limitOf_6 rfl ?_
  refine rd_aldn (pc := 7) d_T_limitOf_7 rfl ?_
  refine rd_getr (pc := 8) d_T_limitOf_8 fl_T_25 rfl rfl ?_
  refine rd_ildn (pc := 11) d_T_limitOf_11 rfl ?_
  refine rd_lald (pc := 12) d_T_limitOf_12 rfl (by omega) (by omega) ?_
  refine rd_ladd (pc := 13) d_T_limitOf_13 ?_
  refine rd_lmul (pc := 14) d_T_limitOf_14 ?_
  exact rd_lret (pc := 15) d_T_limitOf_15 rfl (Nat.le_of_ble_eq_true rfl) (hQ)
set_option maxHeartbeats 4000000 in
set_option maxRecDepth 100000 in
theorem ev_T_layerOf {t v : Int} {M : rd_M} {Q : rd_R → rd_M → Prop} (hI : c_I M) (h0 : 0 ≤ t) (h1 : t < 10) (hv : -1000000000000 ≤ v ∧ v ≤ 1000000000000) (hQ : Q (.inl (some (rd_l (sp_layer (M 18 t) (M 19 t) v)))) (M)) : rd_G x_T_layerOf 0 [some (.ref 3), some (rd_i t), some (rd_l v), none] [] M 0 Q := by
  have hn := hI.treaty h0 h1
  refine rd_lldn (pc := 0) d_T_layerOf_0 rfl ?_
  refine rd_aldn (pc := 1) d_T_layerOf_1 rfl ?_
  refine rd_getr (pc := 2) d_T_layerOf_2 fl_T_18 rfl rfl ?_
  refine rd_ildn (pc := 5) d_T_layerOf_5 rfl ?_
  refine rd_lald (pc := 6) d_T_layerOf_6 rfl (by omega) (by omega) ?_
  refine rd_lsub (pc := 7) d_T_layerOf_7 ?_
  refine rd_lconst (pc := 8) (v := 0) d_T_layerOf_8 rfl ?_
  refine rd_callSl (pc := 9) (n' := 0) [_, _] d_T_layerOf_9 ml_T_40 (Nat.le_of_ble_eq_true rfl) (Nat.le_of_ble_eq_true rfl) (Nat.le_of_ble_eq_true rfl) rfl rfl rfl (Nat.le_of_ble_eq_true rfl) (Nat.le_of_ble_eq_true rfl) ?_
  refine ev_J_max ⟨by omega, by omega⟩ ⟨by omega, by omega⟩ ?_
  refine ⟨_, rfl, ?_⟩
  refine rd_aldn (pc := 12) d_T_layerOf_12 rfl ?_
  refine rd_getr (pc := 13) d_T_layerOf_13 fl_T_22 rfl rfl ?_
  refine rd_ildn (pc := 16) d_T_layerOf_16 rfl ?_
  refine rd_lald (pc := 17) d_T_layerOf_17 rfl (by omega) (by omega) ?_
  refine rd_callSl (pc := 18) (n' := 0) [_, _] d_T_layerOf_18 ml_T_46 (Nat.le_of_ble_eq_true rfl) (Nat.le_of_ble_eq_true rfl) (Nat.le_of_ble_eq_true rfl) rfl rfl rfl (Nat.le_of_ble_eq_true rfl) (Nat.le_of_ble_eq_true rfl) ?_
  refine ev_J_min ⟨by omega, by omega⟩ ⟨by omega, by omega⟩ ?_
  refine ⟨_, rfl, ?_⟩
  exact rd_lret (pc := 21) d_T_layerOf_21 rfl (Nat.le_of_ble_eq_true rfl) (hQ)
set_option maxHeartbeats 4000000 in
set_option maxRecDepth 100000 in
theorem ev_T_takenOfLayers {t v : Int} {M : rd_M} {Q : rd_R → rd_M → Prop} (hI : c_I M) (h0 : 0 ≤ t) (h1 : t < 10) (hv : -1000000000000 ≤ v ∧ v ≤ 1000000000000) (hQ : Q (.inl (some (rd_l (sp_T (M 19 t) (M 20 t) (M 21 t) v)))) (M)) : rd_G x_T_takenOfLayers 0 [some (.ref 3), some (rd_i t), some (rd_l v), none] [] M 0 Q := by
  have hn := hI.treaty h0 h1
  have hl : 0 ≤ sp_lim (M 19 t) (M 20 t) ∧ sp_lim (M 19 t) (M 20 t) ≤ 6000000000 := hI.lim h0 h1
  refine rd_lldn (pc := 0) d_T_takenOfLayers_0 rfl ?_
  refine rd_aldn (pc := 1) d_T_takenOfLayers_1 rfl ?_
  refine rd_getr (pc := 2) d_T_takenOfLayers_2 fl_T_28 rfl rfl ?_
  refine rd_ildn (pc := 5) d_T_takenOfLayers_5 rfl ?_
  refine rd_lald (pc := 6) d_T_takenOfLayers_6 rfl (by omega) (by omega) ?_
  refine rd_lsub (pc := 7) d_T_takenOfLayers_7 ?_
  refine rd_lconst (pc := 8) (v := 0) d_T_takenOfLayers_8 rfl ?_
  refine rd_callSl (pc := 9) (n' := 0) [_, _] d_T_takenOfLayers_9 ml_T_40 (Nat.le_of_ble_eq_true rfl) (Nat.le_of_ble_eq_true rfl) (Nat.le_of_ble_eq_true rfl) rfl rfl rfl (Nat.le_of_ble_eq_true rfl) (Nat.le_of_ble_eq_true rfl) ?_
  refine ev_J_max ⟨by omega, by omega⟩ ⟨by omega, by omega⟩ ?_
  refine ⟨_, rfl, ?_⟩
  refine rd_aldn (pc := 12) d_T_takenOfLayers_12 rfl ?_
  refine rd_ildn (pc := 13) d_T_takenOfLayers_13 rfl ?_
  refine rd_callVl (pc := 14) (n' := 0) [_] d_T_takenOfLayers_14 ml_T_49 rfl (Nat.le_of_ble_eq_true rfl) (Nat.le_of_ble_eq_true rfl) (Nat.le_of_ble_eq_true rfl) rfl rfl rfl (Nat.le_of_ble_eq_true rfl) (Nat.le_of_ble_eq_true rfl) ?_
  refine ev_T_limitOf h0 h1 ?_
  refine ⟨_, rfl, ?_⟩
  refine rd_callSl (pc := 17) (n' := 0) [_, _] d_T_takenOfLayers_17 ml_T_46 (Nat.le_of_ble_eq_true rfl) (Nat.le_of_ble_eq_true rfl) (Nat.le_of_ble_eq_true rfl) rfl rfl rfl (Nat.le_of_ble_eq_true rfl) (Nat.le_of_ble_eq_true rfl) ?_
  refine ev_J_min ⟨by omega, by omega⟩ ⟨by omega, by omega⟩ ?_
  refine ⟨_, rfl, ?_⟩
  exact rd_lret (pc := 20) d_T_takenOfLayers_20 rfl (Nat.le_of_ble_eq_true rfl) (hQ)
set_option maxHeartbeats 4000000 in
set_option maxRecDepth 100000 in
theorem ev_S_take {t k v : Int} {M : rd_M} {Q : rd_R → rd_M → Prop} (h0 : 0 ≤ t) (h1 : t < 10) (h2 : 0 ≤ k) (h3 : k < 40) (hQ : Q (.inl none) (c_take M t k v)) : rd_G x_S_take 0 [some (.ref 4), some (rd_i t), some (rd_i k), some (rd_l v), none] [] M 0 Q := by
  refine rd_aldn (pc := 0) d_S_take_0 rfl ?_
  refine rd_getr (pc := 1) d_S_take_1 fl_S_27 rfl rfl ?_
  refine rd_ildn (pc := 4) d_S_take_4 rfl ?_
  refine rd_dup2 (pc := 5) d_S_take_5 rfl rfl ?_
  refine rd_iald (pc := 6) d_S_take_6 rfl (by omega) (by omega) ?_
  refine rd_lldn (pc := 7) d_S_take_7 rfl ?_
  refine rd_l2i (pc := 8) d_S_take_8 ?_
  refine rd_isub (pc := 9) d_S_take_9 ?_
  refine rd_iast (pc := 10) d_S_take_10 rfl (by omega) (by omega) ?_
  refine rd_aldn (pc := 11) d_S_take_11 rfl ?_
  refine rd_getr (pc := 12) d_S_take_12 fl_S_31 rfl rfl ?_
  refine rd_ildn (pc := 15) d_S_take_15 rfl ?_
  refine rd_bipush (pc := 16) d_S_take_16 rfl ?_
  refine rd_imul (pc := 18) d_S_take_18 ?_
  refine rd_ildn (pc := 19) d_S_take_19 rfl ?_
  refine rd_iadd (pc := 20) d_S_take_20 ?_
  refine rd_dup2 (pc := 21) d_S_take_21 rfl rfl ?_
  refine rd_iald (pc := 22) d_S_take_22 rfl (by omega) (by omega) ?_
  try simp (decide := true) only [rd_up_app, rd_up_hit]
  refine rd_lldn (pc := 23) d_S_take_23 rfl ?_
  refine rd_l2i (pc := 24) d_S_take_24 ?_
  refine rd_iadd (pc := 25) d_S_take_25 ?_
  refine rd_iast (pc := 26) d_S_take_26 rfl (by omega) (by omega) ?_
  refine rd_aldn (pc := 27) d_S_take_27 rfl ?_
  refine rd_getr (pc := 28) d_S_take_28 fl_S_34 rfl rfl ?_
  refine rd_ildn (pc := 31) d_S_take_31 rfl ?_
  refine rd_dup2 (pc := 32) d_S_take_32 rfl rfl ?_
  refine rd_lald (pc := 33) d_S_take_33 rfl (by omega) (by omega) ?_
  try simp (decide := true) only [rd_up_app, rd_up_hit]
  refine rd_lldn (pc := 34) d_S_take_34 rfl ?_
  refine rd_ladd (pc := 35) d_S_take_35 ?_
  refine rd_last (pc := 36) d_S_take_36 rfl (by omega) (by omega) ?_
  exact rd_vret (pc := 37) d_S_take_37 rfl (Nat.le_of_ble_eq_true rfl) (hQ)

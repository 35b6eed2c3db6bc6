/-! the law: what it asks of the desk -/
theorem hx_L_risk_0 : rd_hx x_L_risk 4 0 10 := ⟨[], _, _, rfl, rfl, (fun y hy => by cases hy), by decide, by decide, rd_m 200 (by decide +kernel), rd_m 215 (by decide +kernel)⟩
theorem hx_L_risk_1 : rd_hx x_L_risk 4 1 14 := ⟨[_], _, _, rfl, rfl, (fun y hy => by cases hy with | head => exact Or.inr ⟨by decide, rd_m 200 (by decide +kernel), rfl⟩ | tail _ h => cases h), by decide, by decide, rd_m 201 (by decide +kernel), rd_m 286 (by decide +kernel)⟩
set_option maxHeartbeats 4000000 in
set_option maxRecDepth 100000 in
theorem ev_L_risk {r s y : Int} {M : rd_M} {Q : rd_R → rd_M → Prop} (hI : c_I M) (hr : rd_I r) (hs : rd_I s) (hy : rd_I y) (hA : ¬ ((0 ≤ r ∧ r < 12) ∧ (1 ≤ s ∧ s ≤ 1000000000) ∧ (0 ≤ y ∧ y < 4)) → Q (.inl (some (rd_i 1))) M) (hS : ((0 ≤ r ∧ r < 12) ∧ (1 ≤ s ∧ s ≤ 1000000000) ∧ (0 ≤ y ∧ y < 4)) → (0 < M 7 r ∨ M 5 y ≠ 0) → Q (.inl (some (rd_i 2))) M) (hQ : ((0 ≤ r ∧ r < 12) ∧ (1 ≤ s ∧ s ≤ 1000000000) ∧ (0 ≤ y ∧ y < 4)) → ¬ (0 < M 7 r ∨ M 5 y ≠ 0) → Q (.inl (some (rd_i 0))) (rd_up (rd_up M 7 r s) 9 r y)) : rd_G x_L_risk 0 [some (.ref 0), some (rd_i r), some (rd_i s), some (rd_i y), none] [] M 0 Q := by
  refine rd_aldn (pc := 0) d_L_risk_0 rfl ?_
  refine rd_ildn (pc := 1) d_L_risk_1 rfl ?_
  refine rd_ildn (pc := 2) d_L_risk_2 rfl ?_
  refine rd_ildn (pc := 3) d_L_risk_3 rfl ?_
  refine rd_callVX (pc := 4) (n' := 1) [_, _, _] d_L_risk_4 ml_L_7 rfl (Nat.le_of_ble_eq_true rfl) (Nat.le_of_ble_eq_true rfl) (Nat.le_of_ble_eq_true rfl) rfl rfl rfl (Nat.le_of_ble_eq_true rfl) (Nat.le_of_ble_eq_true rfl) ?_
  refine ev_D_risk hI hr hs hy (fun z => Or.inr ⟨0, 10, rfl, hx_L_risk_0, Or.inr ⟨4, d_L_risk_10, by decide, ?_⟩⟩) (fun z1 z2 => Or.inr ⟨1, 14, rfl, hx_L_risk_1, Or.inr ⟨4, d_L_risk_14, by decide, ?_⟩⟩) (fun z1 z2  => Or.inl ⟨_, rfl, ?_⟩)
  · skip
    refine rd_iconst (pc := 12) d_L_risk_12 ?_
    exact rd_iret (pc := 13) d_L_risk_13 rfl (Nat.le_of_ble_eq_true rfl) (hA z)
  · skip
    refine rd_iconst (pc := 16) d_L_risk_16 ?_
    exact rd_iret (pc := 17) d_L_risk_17 rfl (Nat.le_of_ble_eq_true rfl) (hS z1 z2)
  · skip
    refine rd_goto (pc := 7) (tgt := 18) d_L_risk_7 rfl ?_
    refine rd_iconst (pc := 18) d_L_risk_18 ?_
    exact rd_iret (pc := 19) d_L_risk_19 rfl (Nat.le_of_ble_eq_true rfl) (hQ z1 z2)
theorem hx_L_premium_0 : rd_hx x_L_premium 3 0 9 := ⟨[], _, _, rfl, rfl, (fun y hy => by cases hy), by decide, by decide, rd_m 200 (by decide +kernel), rd_m 215 (by decide +kernel)⟩
theorem hx_L_premium_1 : rd_hx x_L_premium 3 1 12 := ⟨[_], _, _, rfl, rfl, (fun y hy => by cases hy with | head => exact Or.inr ⟨by decide, rd_m 200 (by decide +kernel), rfl⟩ | tail _ h => cases h), by decide, by decide, rd_m 201 (by decide +kernel), rd_m 286 (by decide +kernel)⟩
set_option maxHeartbeats 4000000 in
set_option maxRecDepth 100000 in
theorem ev_L_premium {r a : Int} {M : rd_M} {Q : rd_R → rd_M → Prop} (hI : c_I M) (hr : rd_I r) (ha : rd_I a) (hA : ¬ (((0 ≤ r ∧ r < 12) ∧ 0 < M 7 r) ∧ (0 ≤ a ∧ a ≤ 1000000000)) → Q (.inl (some (rd_i 1))) M) (hS : (((0 ≤ r ∧ r < 12) ∧ 0 < M 7 r) ∧ (0 ≤ a ∧ a ≤ 1000000000)) → (M 5 (M 9 r) ≠ 0) → Q (.inl (some (rd_i 2))) M) (hQ : (((0 ≤ r ∧ r < 12) ∧ 0 < M 7 r) ∧ (0 ≤ a ∧ a ≤ 1000000000)) → ¬ (M 5 (M 9 r) ≠ 0) → Q (.inl (some (rd_i 0))) (rd_up M 8 r a)) : rd_G x_L_premium 0 [some (.ref 0), some (rd_i r), some (rd_i a), none] [] M 0 Q := by
  refine rd_aldn (pc := 0) d_L_premium_0 rfl ?_
  refine rd_ildn (pc := 1) d_L_premium_1 rfl ?_
  refine rd_ildn (pc := 2) d_L_premium_2 rfl ?_
  refine rd_callVX (pc := 3) (n' := 1) [_, _] d_L_premium_3 ml_L_17 rfl (Nat.le_of_ble_eq_true rfl) (Nat.le_of_ble_eq_true rfl) (Nat.le_of_ble_eq_true rfl) rfl rfl rfl (Nat.le_of_ble_eq_true rfl) (Nat.le_of_ble_eq_true rfl) ?_
  refine ev_D_premium hI hr ha (fun z => Or.inr ⟨0, 9, rfl, hx_L_premium_0, Or.inl ⟨3, d_L_premium_9, by decide, ?_⟩⟩) (fun z1 z2 => Or.inr ⟨1, 12, rfl, hx_L_premium_1, Or.inl ⟨3, d_L_premium_12, by decide, ?_⟩⟩) (fun z1 z2  => Or.inl ⟨_, rfl, ?_⟩)
  · skip
    refine rd_iconst (pc := 10) d_L_premium_10 ?_
    exact rd_iret (pc := 11) d_L_premium_11 rfl (Nat.le_of_ble_eq_true rfl) (hA z)
  · skip
    refine rd_iconst (pc := 13) d_L_premium_13 ?_
    exact rd_iret (pc := 14) d_L_premium_14 rfl (Nat.le_of_ble_eq_true rfl) (hS z1 z2)
  · skip
    refine rd_goto (pc := 6) (tgt := 15) d_L_premium_6 rfl ?_
    refine rd_iconst (pc := 15) d_L_premium_15 ?_
    exact rd_iret (pc := 16) d_L_premium_16 rfl (Nat.le_of_ble_eq_true rfl) (hQ z1 z2)
theorem hx_L_treaty_0 : rd_hx x_L_treaty 11 0 19 := ⟨[], _, _, rfl, rfl, (fun y hy => by cases hy), by decide, by decide, rd_m 200 (by decide +kernel), rd_m 215 (by decide +kernel)⟩
theorem hx_L_treaty_1 : rd_hx x_L_treaty 11 1 23 := ⟨[_], _, _, rfl, rfl, (fun y hy => by cases hy with | head => exact Or.inr ⟨by decide, rd_m 200 (by decide +kernel), rfl⟩ | tail _ h => cases h), by decide, by decide, rd_m 201 (by decide +kernel), rd_m 286 (by decide +kernel)⟩
set_option maxHeartbeats 4000000 in
set_option maxRecDepth 100000 in
theorem ev_L_treaty {s a b c d : Int} {M : rd_M} {Q : rd_R → rd_M → Prop} (hI : c_I M) (hs : rd_I s) (ha : rd_I a) (hb : rd_I b) (hc : rd_I c) (hd : rd_I d) (hA : ¬ (((0 ≤ s ∧ s < 50) ∧ s.tmod 10 < 4) ∧ sp_terms (s.tdiv 10) a b c d) → Q (.inl (some (rd_i 1))) M) (hS : (((0 ≤ s ∧ s < 50) ∧ s.tmod 10 < 4) ∧ sp_terms (s.tdiv 10) a b c d) → (10 ≤ M 3 0 ∨ M 5 (s.tmod 10) ≠ 0) → Q (.inl (some (rd_i 2))) M) (hQ : (((0 ≤ s ∧ s < 50) ∧ s.tmod 10 < 4) ∧ sp_terms (s.tdiv 10) a b c d) → ¬ (10 ≤ M 3 0 ∨ M 5 (s.tmod 10) ≠ 0) → Q (.inl (some (rd_i 0))) (rd_up (rd_up (rd_up (rd_up (rd_up (rd_up (rd_up (rd_up M 16 (M 3 0) (s.tdiv 10)) 17 (M 3 0) (s.tmod 10)) 18 (M 3 0) a) 19 (M 3 0) b) 20 (M 3 0) c) 21 (M 3 0) d) 3 0 (M 3 0 + 1)) 58 0 (M 3 0))) : rd_G x_L_treaty 0 [some (.ref 0), some (rd_i s), some (rd_i a), some (rd_i b), some (rd_i c), some (rd_i d), some (.ref 58), none] [] M 0 Q := by
  refine rd_ald (pc := 0) d_L_treaty_0 rfl ?_
  refine rd_iconst (pc := 2) d_L_treaty_2 ?_
  refine rd_aldn (pc := 3) d_L_treaty_3 rfl ?_
  refine rd_ildn (pc := 4) d_L_treaty_4 rfl ?_
  refine rd_ildn (pc := 5) d_L_treaty_5 rfl ?_
  refine rd_ildn (pc := 6) d_L_treaty_6 rfl ?_
  refine rd_ild (pc := 7) d_L_treaty_7 rfl ?_
  refine rd_ild (pc := 9) d_L_treaty_9 rfl ?_
  refine rd_callVX (pc := 11) (n' := 1) [_, _, _, _, _] d_L_treaty_11 ml_L_21 rfl (Nat.le_of_ble_eq_true rfl) (Nat.le_of_ble_eq_true rfl) (Nat.le_of_ble_eq_true rfl) rfl rfl rfl (Nat.le_of_ble_eq_true rfl) (Nat.le_of_ble_eq_true rfl) ?_
  refine ev_D_treaty hI hs ha hb hc hd (fun z => Or.inr ⟨0, 19, rfl, hx_L_treaty_0, Or.inr ⟨7, d_L_treaty_19, by decide, ?_⟩⟩) (fun z1 z2 => Or.inr ⟨1, 23, rfl, hx_L_treaty_1, Or.inr ⟨7, d_L_treaty_23, by decide, ?_⟩⟩) (fun z1 z2  => Or.inl ⟨_, rfl, ?_⟩)
  · skip
    refine rd_iconst (pc := 21) d_L_treaty_21 ?_
    exact rd_iret (pc := 22) d_L_treaty_22 rfl (Nat.le_of_ble_eq_true rfl) (hA z)
  · skip
    refine rd_iconst (pc := 25) d_L_treaty_25 ?_
    exact rd_iret (pc := 26) d_L_treaty_26 rfl (Nat.le_of_ble_eq_true rfl) (hS z1 z2)
  · skip
    refine rd_i2l (pc := 14) d_L_treaty_14 (by have h3 := hI.2.1; exact ⟨by omega, by omega⟩) ?_
    refine rd_last (pc := 15) d_L_treaty_15 rfl (by omega) (by omega) ?_
    refine rd_goto (pc := 16) (tgt := 27) d_L_treaty_16 rfl ?_
    refine rd_iconst (pc := 27) d_L_treaty_27 ?_
    exact rd_iret (pc := 28) d_L_treaty_28 rfl (Nat.le_of_ble_eq_true rfl) (hQ z1 z2)
theorem hx_L_share_0 : rd_hx x_L_share 4 0 10 := ⟨[], _, _, rfl, rfl, (fun y hy => by cases hy), by decide, by decide, rd_m 200 (by decide +kernel), rd_m 215 (by decide +kernel)⟩
theorem hx_L_share_1 : rd_hx x_L_share 4 1 14 := ⟨[_], _, _, rfl, rfl, (fun y hy => by cases hy with | head => exact Or.inr ⟨by decide, rd_m 200 (by decide +kernel), rfl⟩ | tail _ h => cases h), by decide, by decide, rd_m 201 (by decide +kernel), rd_m 286 (by decide +kernel)⟩
set_option maxHeartbeats 4000000 in
set_option maxRecDepth 100000 in
theorem ev_L_share {t r p : Int} {M : rd_M} {Q : rd_R → rd_M → Prop} (hI : c_I M) (ht : rd_I t) (hr : rd_I r) (hp : rd_I p) (hA : ¬ ((0 ≤ t ∧ t < M 3 0) ∧ (0 ≤ r ∧ r < 6) ∧ (0 ≤ p ∧ p ≤ 1000000)) → Q (.inl (some (rd_i 1))) M) (hS : ((0 ≤ t ∧ t < M 3 0) ∧ (0 ≤ r ∧ r < 6) ∧ (0 ≤ p ∧ p ≤ 1000000)) → (M 5 (M 17 t) ≠ 0 ∨ 1000000 < rd_sm (fun o => if o = r then 0 else M 22 (t * 6 + o)) 6 + p) → Q (.inl (some (rd_i 2))) M) (hQ : ((0 ≤ t ∧ t < M 3 0) ∧ (0 ≤ r ∧ r < 6) ∧ (0 ≤ p ∧ p ≤ 1000000)) → ¬ (M 5 (M 17 t) ≠ 0 ∨ 1000000 < rd_sm (fun o => if o = r then 0 else M 22 (t * 6 + o)) 6 + p) → Q (.inl (some (rd_i 0))) (rd_up M 22 (t * 6 + r) p)) : rd_G x_L_share 0 [some (.ref 0), some (rd_i t), some (rd_i r), some (rd_i p), none] [] M 0 Q := by
  refine rd_aldn (pc := 0) d_L_share_0 rfl ?_
  refine rd_ildn (pc := 1) d_L_share_1 rfl ?_
  refine rd_ildn (pc := 2) d_L_share_2 rfl ?_
  refine rd_ildn (pc := 3) d_L_share_3 rfl ?_
  refine rd_callVX (pc := 4) (n' := 1) [_, _, _] d_L_share_4 ml_L_25 rfl (Nat.le_of_ble_eq_true rfl) (Nat.le_of_ble_eq_true rfl) (Nat.le_of_ble_eq_true rfl) rfl rfl rfl (Nat.le_of_ble_eq_true rfl) (Nat.le_of_ble_eq_true rfl) ?_
  refine ev_D_share hI ht hr hp (fun z => Or.inr ⟨0, 10, rfl, hx_L_share_0, Or.inr ⟨4, d_L_share_10, by decide, ?_⟩⟩) (fun z1 z2 => Or.inr ⟨1, 14, rfl, hx_L_share_1, Or.inr ⟨4, d_L_share_14, by decide, ?_⟩⟩) (fun z1 z2  => Or.inl ⟨_, rfl, ?_⟩)
  · skip
    refine rd_iconst (pc := 12) d_L_share_12 ?_
    exact rd_iret (pc := 13) d_L_share_13 rfl (Nat.le_of_ble_eq_true rfl) (hA z)
  · skip
    refine rd_iconst (pc := 16) d_L_share_16 ?_
    exact rd_iret (pc := 17) d_L_share_17 rfl (Nat.le_of_ble_eq_true rfl) (hS z1 z2)
  · skip
    refine rd_goto (pc := 7) (tgt := 18) d_L_share_7 rfl ?_
    refine rd_iconst (pc := 18) d_L_share_18 ?_
    exact rd_iret (pc := 19) d_L_share_19 rfl (Nat.le_of_ble_eq_true rfl) (hQ z1 z2)
theorem hx_L_claim_0 : rd_hx x_L_claim 7 0 15 := ⟨[], _, _, rfl, rfl, (fun y hy => by cases hy), by decide, by decide, rd_m 200 (by decide +kernel), rd_m 215 (by decide +kernel)⟩
theorem hx_L_claim_1 : rd_hx x_L_claim 7 1 19 := ⟨[_], _, _, rfl, rfl, (fun y hy => by cases hy with | head => exact Or.inr ⟨by decide, rd_m 200 (by decide +kernel), rfl⟩ | tail _ h => cases h), by decide, by decide, rd_m 201 (by decide +kernel), rd_m 286 (by decide +kernel)⟩
set_option maxHeartbeats 4000000 in
set_option maxRecDepth 100000 in
theorem ev_L_claim {r e h : Int} {n : Nat} {o : Int → Int} {M : rd_M} {Q : rd_R → rd_M → Prop} (hI : c_I M) (hn : M 2 0 = n) (hH : c_H M n o) (hr : rd_I r) (he : rd_I e) (hh : rd_I h) (hA : ¬ (((0 ≤ r ∧ r < 12) ∧ 0 < M 7 r) ∧ (0 ≤ e ∧ e < 10) ∧ (0 ≤ h ∧ h ≤ 100000)) → Q (.inl (some (rd_i 1))) M) (hS : (((0 ≤ r ∧ r < 12) ∧ 0 < M 7 r) ∧ (0 ≤ e ∧ e < 10) ∧ (0 ≤ h ∧ h ≤ 100000)) → (40 ≤ M 2 0 ∨ M 5 (M 9 r) ≠ 0) → Q (.inl (some (rd_i 2))) M) (hQ : (((0 ≤ r ∧ r < 12) ∧ 0 < M 7 r) ∧ (0 ≤ e ∧ e < 10) ∧ (0 ≤ h ∧ h ≤ 100000)) → ¬ (40 ≤ M 2 0 ∨ M 5 (M 9 r) ≠ 0) → (∀ M' o', (∀ q, q ≠ 2 → q ≠ 10 → q ≠ 11 → q ≠ 12 → q ≠ 15 → M' q = M q) → M' 10 = rd_up M 10 n r 10 → M' 11 = rd_up M 11 n e 11 → M' 12 = rd_up M 12 n h 12 → M' 2 = rd_up M 2 0 (n + 1) 2 → c_H M' (n + 1) o' → (∀ i : Int, 0 ≤ i → i < 40 → 0 ≤ M' 15 i ∧ M' 15 i < 40) → Q (.inl (some (rd_i 0))) (rd_up M' 58 0 n))) : rd_G x_L_claim 0 [some (.ref 0), some (rd_i r), some (rd_i e), some (rd_i h), some (.ref 58), none] [] M 0 Q := by
  refine rd_ald (pc := 0) d_L_claim_0 rfl ?_
  refine rd_iconst (pc := 2) d_L_claim_2 ?_
  refine rd_aldn (pc := 3) d_L_claim_3 rfl ?_
  refine rd_ildn (pc := 4) d_L_claim_4 rfl ?_
  refine rd_ildn (pc := 5) d_L_claim_5 rfl ?_
  refine rd_ildn (pc := 6) d_L_claim_6 rfl ?_
  refine rd_callVX (pc := 7) (n' := 1) [_, _, _] d_L_claim_7 ml_L_28 rfl (Nat.le_of_ble_eq_true rfl) (Nat.le_of_ble_eq_true rfl) (Nat.le_of_ble_eq_true rfl) rfl rfl rfl (Nat.le_of_ble_eq_true rfl) (Nat.le_of_ble_eq_true rfl) ?_
  refine ev_D_claim hI hn hH hr he hh (fun z => Or.inr ⟨0, 15, rfl, hx_L_claim_0, Or.inr ⟨5, d_L_claim_15, by decide, ?_⟩⟩) (fun z1 z2 => Or.inr ⟨1, 19, rfl, hx_L_claim_1, Or.inr ⟨5, d_L_claim_19, by decide, ?_⟩⟩) (fun z1 z2 M1 o1 a1 a2 a3 a4 a5 a6 a7 => Or.inl ⟨_, rfl, ?_⟩)
  · skip
    refine rd_iconst (pc := 17) d_L_claim_17 ?_
    exact rd_iret (pc := 18) d_L_claim_18 rfl (Nat.le_of_ble_eq_true rfl) (hA z)
  · skip
    refine rd_iconst (pc := 21) d_L_claim_21 ?_
    exact rd_iret (pc := 22) d_L_claim_22 rfl (Nat.le_of_ble_eq_true rfl) (hS z1 z2)
  · skip
    refine rd_i2l (pc := 10) d_L_claim_10 (by have h3 := hI.1; exact ⟨by omega, by omega⟩) ?_
    refine rd_last (pc := 11) d_L_claim_11 rfl (by omega) (by omega) ?_
    refine rd_goto (pc := 12) (tgt := 23) d_L_claim_12 rfl ?_
    refine rd_iconst (pc := 23) d_L_claim_23 ?_
    exact rd_iret (pc := 24) d_L_claim_24 rfl (Nat.le_of_ble_eq_true rfl) (hQ z1 z2 M1 o1 a1 a2 a3 a4 a5 a6 a7)
theorem hx_L_estimate_0 : rd_hx x_L_estimate 3 0 9 := ⟨[], _, _, rfl, rfl, (fun y hy => by cases hy), by decide, by decide, rd_m 200 (by decide +kernel), rd_m 215 (by decide +kernel)⟩
theorem hx_L_estimate_1 : rd_hx x_L_estimate 3 1 12 := ⟨[_], _, _, rfl, rfl, (fun y hy => by cases hy with | head => exact Or.inr ⟨by decide, rd_m 200 (by decide +kernel), rfl⟩ | tail _ h => cases h), by decide, by decide, rd_m 201 (by decide +kernel), rd_m 286 (by decide +kernel)⟩
set_option maxHeartbeats 4000000 in
set_option maxRecDepth 100000 in
theorem ev_L_estimate {k a : Int} {M : rd_M} {Q : rd_R → rd_M → Prop} (hI : c_I M) (hk : rd_I k) (ha : rd_I a) (hA : ¬ ((0 ≤ k ∧ k < M 2 0) ∧ (0 ≤ a ∧ a ≤ 1000000000)) → Q (.inl (some (rd_i 1))) M) (hS : ((0 ≤ k ∧ k < M 2 0) ∧ (0 ≤ a ∧ a ≤ 1000000000)) → (M 14 k ≠ 0 ∨ M 5 (M 9 (M 10 k)) ≠ 0) → Q (.inl (some (rd_i 2))) M) (hQ : ((0 ≤ k ∧ k < M 2 0) ∧ (0 ≤ a ∧ a ≤ 1000000000)) → ¬ (M 14 k ≠ 0 ∨ M 5 (M 9 (M 10 k)) ≠ 0) → Q (.inl (some (rd_i 0))) (rd_up M 13 k a)) : rd_G x_L_estimate 0 [some (.ref 0), some (rd_i k), some (rd_i a), none] [] M 0 Q := by
  refine rd_aldn (pc := 0) d_L_estimate_0 rfl ?_
  refine rd_ildn (pc := 1) d_L_estimate_1 rfl ?_
  refine rd_ildn (pc := 2) d_L_estimate_2 rfl ?_
  refine rd_callVX (pc := 3) (n' := 1) [_, _] d_L_estimate_3 ml_L_32 rfl (Nat.le_of_ble_eq_true rfl) (Nat.le_of_ble_eq_true rfl) (Nat.le_of_ble_eq_true rfl) rfl rfl rfl (Nat.le_of_ble_eq_true rfl) (Nat.le_of_ble_eq_true rfl) ?_
  refine ev_D_estimate hI hk ha (fun z => Or.inr ⟨0, 9, rfl, hx_L_estimate_0, Or.inl ⟨3, d_L_estimate_9, by decide, ?_⟩⟩) (fun z1 z2 => Or.inr ⟨1, 12, rfl, hx_L_estimate_1, Or.inl ⟨3, d_L_estimate_12, by decide, ?_⟩⟩) (fun z1 z2  => Or.inl ⟨_, rfl, ?_⟩)
  · skip
    refine rd_iconst (pc := 10) d_L_estimate_10 ?_
    exact rd_iret (pc := 11) d_L_estimate_11 rfl (Nat.le_of_ble_eq_true rfl) (hA z)
  · skip
    refine rd_iconst (pc := 13) d_L_estimate_13 ?_
    exact rd_iret (pc := 14) d_L_estimate_14 rfl (Nat.le_of_ble_eq_true rfl) (hS z1 z2)
  · skip
    refine rd_goto (pc := 6) (tgt := 15) d_L_estimate_6 rfl ?_
    refine rd_iconst (pc := 15) d_L_estimate_15 ?_
    exact rd_iret (pc := 16) d_L_estimate_16 rfl (Nat.le_of_ble_eq_true rfl) (hQ z1 z2)
theorem hx_L_strike_0 : rd_hx x_L_strike 2 0 8 := ⟨[], _, _, rfl, rfl, (fun y hy => by cases hy), by decide, by decide, rd_m 200 (by decide +kernel), rd_m 215 (by decide +kernel)⟩
theorem hx_L_strike_1 : rd_hx x_L_strike 2 1 11 := ⟨[_], _, _, rfl, rfl, (fun y hy => by cases hy with | head => exact Or.inr ⟨by decide, rd_m 200 (by decide +kernel), rfl⟩ | tail _ h => cases h), by decide, by decide, rd_m 201 (by decide +kernel), rd_m 286 (by decide +kernel)⟩
set_option maxHeartbeats 4000000 in
set_option maxRecDepth 100000 in
theorem ev_L_strike {k : Int} {M : rd_M} {Q : rd_R → rd_M → Prop} (hI : c_I M) (hk : rd_I k) (hA : ¬ (0 ≤ k ∧ k < M 2 0) → Q (.inl (some (rd_i 1))) M) (hS : (0 ≤ k ∧ k < M 2 0) → (M 14 k ≠ 0 ∨ M 5 (M 9 (M 10 k)) ≠ 0) → Q (.inl (some (rd_i 2))) M) (hQ : (0 ≤ k ∧ k < M 2 0) → ¬ (M 14 k ≠ 0 ∨ M 5 (M 9 (M 10 k)) ≠ 0) → Q (.inl (some (rd_i 0))) (rd_up M 14 k 1)) : rd_G x_L_strike 0 [some (.ref 0), some (rd_i k), none] [] M 0 Q := by
  refine rd_aldn (pc := 0) d_L_strike_0 rfl ?_
  refine rd_ildn (pc := 1) d_L_strike_1 rfl ?_
  refine rd_callVX (pc := 2) (n' := 1) [_] d_L_strike_2 ml_L_35 rfl (Nat.le_of_ble_eq_true rfl) (Nat.le_of_ble_eq_true rfl) (Nat.le_of_ble_eq_true rfl) rfl rfl rfl (Nat.le_of_ble_eq_true rfl) (Nat.le_of_ble_eq_true rfl) ?_
  refine ev_D_strike hI hk (fun z => Or.inr ⟨0, 8, rfl, hx_L_strike_0, Or.inl ⟨2, d_L_strike_8, by decide, ?_⟩⟩) (fun z1 z2 => Or.inr ⟨1, 11, rfl, hx_L_strike_1, Or.inl ⟨2, d_L_strike_11, by decide, ?_⟩⟩) (fun z1 z2  => Or.inl ⟨_, rfl, ?_⟩)
  · skip
    refine rd_iconst (pc := 9) d_L_strike_9 ?_
    exact rd_iret (pc := 10) d_L_strike_10 rfl (Nat.le_of_ble_eq_true rfl) (hA z)
  · skip
    refine rd_iconst (pc := 12) d_L_strike_12 ?_
    exact rd_iret (pc := 13) d_L_strike_13 rfl (Nat.le_of_ble_eq_true rfl) (hS z1 z2)
  · skip
    refine rd_goto (pc := 5) (tgt := 14) d_L_strike_5 rfl ?_
    refine rd_iconst (pc := 14) d_L_strike_14 ?_
    exact rd_iret (pc := 15) d_L_strike_15 rfl (Nat.le_of_ble_eq_true rfl) (hQ z1 z2)
theorem hx_L_year_0 : rd_hx x_L_year 3 0 9 := ⟨[], _, _, rfl, rfl, (fun y hy => by cases hy), by decide, by decide, rd_m 200 (by decide +kernel), rd_m 215 (by decide +kernel)⟩
theorem hx_L_year_1 : rd_hx x_L_year 3 1 12 := ⟨[_], _, _, rfl, rfl, (fun y hy => by cases hy with | head => exact Or.inr ⟨by decide, rd_m 200 (by decide +kernel), rfl⟩ | tail _ h => cases h), by decide, by decide, rd_m 201 (by decide +kernel), rd_m 286 (by decide +kernel)⟩
set_option maxHeartbeats 4000000 in
set_option maxRecDepth 100000 in
theorem ev_L_year {y b : Int} {M : rd_M} {Q : rd_R → rd_M → Prop} (hI : c_I M) (hy : rd_I y) (hb : 0 ≤ b ∧ b ≤ 1) (hA : ¬ (0 ≤ y ∧ y < 4) → Q (.inl (some (rd_i 1))) M) (hS : (0 ≤ y ∧ y < 4) → (M 5 y ≠ b) → Q (.inl (some (rd_i 2))) M) (hQ : (0 ≤ y ∧ y < 4) → ¬ (M 5 y ≠ b) → Q (.inl (some (rd_i 0))) (rd_up M 5 y (1 - b))) : rd_G x_L_year 0 [some (.ref 0), some (rd_i y), some (rd_i b), none] [] M 0 Q := by
  refine rd_aldn (pc := 0) d_L_year_0 rfl ?_
  refine rd_ildn (pc := 1) d_L_year_1 rfl ?_
  refine rd_ildn (pc := 2) d_L_year_2 rfl ?_
  refine rd_callVX (pc := 3) (n' := 1) [_, _] d_L_year_3 ml_L_71 rfl (Nat.le_of_ble_eq_true rfl) (Nat.le_of_ble_eq_true rfl) (Nat.le_of_ble_eq_true rfl) rfl rfl rfl (Nat.le_of_ble_eq_true rfl) (Nat.le_of_ble_eq_true rfl) ?_
  refine ev_D_year hI hy hb (fun z => Or.inr ⟨0, 9, rfl, hx_L_year_0, Or.inl ⟨3, d_L_year_9, by decide, ?_⟩⟩) (fun z1 z2 => Or.inr ⟨1, 12, rfl, hx_L_year_1, Or.inl ⟨3, d_L_year_12, by decide, ?_⟩⟩) (fun z1 z2  => Or.inl ⟨_, rfl, ?_⟩)
  · skip
    refine rd_iconst (pc := 10) d_L_year_10 ?_
    exact rd_iret (pc := 11) d_L_year_11 rfl (Nat.le_of_ble_eq_true rfl) (hA z)
  · skip
    refine rd_iconst (pc := 13) d_L_year_13 ?_
    exact rd_iret (pc := 14) d_L_year_14 rfl (Nat.le_of_ble_eq_true rfl) (hS z1 z2)
  · skip
    refine rd_goto (pc := 6) (tgt := 15) d_L_year_6 rfl ?_
    refine rd_iconst (pc := 15) d_L_year_15 ?_
    exact rd_iret (pc := 16) d_L_year_16 rfl (Nat.le_of_ble_eq_true rfl) (hQ z1 z2)
theorem hx_L_dissolve_0 : rd_hx x_L_dissolve 5 0 13 := ⟨[], _, _, rfl, rfl, (fun y hy => by cases hy), by decide, by decide, rd_m 200 (by decide +kernel), rd_m 215 (by decide +kernel)⟩
theorem hx_L_dissolve_1 : rd_hx x_L_dissolve 5 1 17 := ⟨[_], _, _, rfl, rfl, (fun y hy => by cases hy with | head => exact Or.inr ⟨by decide, rd_m 200 (by decide +kernel), rfl⟩ | tail _ h => cases h), by decide, by decide, rd_m 201 (by decide +kernel), rd_m 286 (by decide +kernel)⟩
set_option maxHeartbeats 4000000 in
set_option maxRecDepth 100000 in
theorem ev_L_dissolve {e y : Int} {n : Nat} {M : rd_M} {Q : rd_R → rd_M → Prop} (hI : c_I M) (hn : M 2 0 = n) (he : rd_I e) (hy : rd_I y) (hA : ¬ ((1 ≤ e ∧ e ≤ 9) ∧ (0 ≤ y ∧ y < 4)) → Q (.inl (some (rd_i 1))) M) (hS : ((1 ≤ e ∧ e ≤ 9) ∧ (0 ≤ y ∧ y < 4)) → (M 5 y ≠ 0) → Q (.inl (some (rd_i 2))) M) (hQ : ((1 ≤ e ∧ e ≤ 9) ∧ (0 ≤ y ∧ y < 4)) → ¬ (M 5 y ≠ 0) → (∀ M', (∀ q, q ≠ 11 → M' q = M q) → (∀ k : Int, M' 11 k = if (0 ≤ k ∧ k < n) ∧ sp_dc (c_d M) e y k then 0 else M 11 k) → Q (.inl (some (rd_i 0))) (rd_up M' 58 0 (rd_sm (fun k => if sp_dc (c_d M) e y k then 1 else 0) n)))) : rd_G x_L_dissolve 0 [some (.ref 0), some (rd_i e), some (rd_i y), some (.ref 58), none] [] M 0 Q := by
  refine rd_aldn (pc := 0) d_L_dissolve_0 rfl ?_
  refine rd_iconst (pc := 1) d_L_dissolve_1 ?_
  refine rd_aldn (pc := 2) d_L_dissolve_2 rfl ?_
  refine rd_ildn (pc := 3) d_L_dissolve_3 rfl ?_
  refine rd_ildn (pc := 4) d_L_dissolve_4 rfl ?_
  refine rd_callVX (pc := 5) (n' := 1) [_, _] d_L_dissolve_5 ml_L_39 rfl (Nat.le_of_ble_eq_true rfl) (Nat.le_of_ble_eq_true rfl) (Nat.le_of_ble_eq_true rfl) rfl rfl rfl (Nat.le_of_ble_eq_true rfl) (Nat.le_of_ble_eq_true rfl) ?_
  refine ev_D_dissolve hI hn he hy (fun z => Or.inr ⟨0, 13, rfl, hx_L_dissolve_0, Or.inr ⟨4, d_L_dissolve_13, by decide, ?_⟩⟩) (fun z1 z2 => Or.inr ⟨1, 17, rfl, hx_L_dissolve_1, Or.inr ⟨4, d_L_dissolve_17, by decide, ?_⟩⟩) (fun z1 z2 M1 a1 a2 => Or.inl ⟨_, rfl, ?_⟩)
  · skip
    refine rd_iconst (pc := 15) d_L_dissolve_15 ?_
    exact rd_iret (pc := 16) d_L_dissolve_16 rfl (Nat.le_of_ble_eq_true rfl) (hA z)
  · skip
    refine rd_iconst (pc := 19) d_L_dissolve_19 ?_
    exact rd_iret (pc := 20) d_L_dissolve_20 rfl (Nat.le_of_ble_eq_true rfl) (hS z1 z2)
  · skip
    refine rd_i2l (pc := 8) d_L_dissolve_8 (by have hb := rd_sm_b (f := fun k => if sp_dc (c_d M) e y k then 1 else 0) (A := 0) (B := 1) n (fun _ _ _ => rd_01); have h3 := hI.n hn; exact ⟨by omega, by omega⟩) ?_
    refine rd_last (pc := 9) d_L_dissolve_9 rfl (by omega) (by omega) ?_
    refine rd_goto (pc := 10) (tgt := 21) d_L_dissolve_10 rfl ?_
    refine rd_iconst (pc := 21) d_L_dissolve_21 ?_
    exact rd_iret (pc := 22) d_L_dissolve_22 rfl (Nat.le_of_ble_eq_true rfl) (hQ z1 z2 M1 a1 a2)
theorem hx_L_kept_0 : rd_hx x_L_kept 4 0 12 := ⟨[], _, _, rfl, rfl, (fun y hy => by cases hy), by decide, by decide, rd_m 200 (by decide +kernel), rd_m 215 (by decide +kernel)⟩
set_option maxHeartbeats 4000000 in
set_option maxRecDepth 100000 in
theorem ev_L_kept {k : Int} {n nt : Nat} {o : Int → Int} {M : rd_M} {Q : rd_R → rd_M → Prop} (hB : c_B M n nt o) (hk : rd_I k) (hA : ¬ (0 ≤ k ∧ k < M 2 0) → Q (.inl (some (rd_i 1))) M) (hQ : (0 ≤ k ∧ k < M 2 0) → (∀ M' Z v, c_fq M' M → sp_Z0 (c_d M) n (M 9 (M 10 k)) (-1) 0 Z → v = sp_runK (c_d M) n nt (M 9 (M 10 k)) Z 5 0 k → (0 ≤ v ∧ v ≤ 1000000000) → Q (.inl (some (rd_i 0))) (rd_up M' 58 0 v))) : rd_G x_L_kept 0 [some (.ref 0), some (rd_i k), some (.ref 58), none] [] M 0 Q := by
  refine rd_aldn (pc := 0) d_L_kept_0 rfl ?_
  refine rd_iconst (pc := 1) d_L_kept_1 ?_
  refine rd_aldn (pc := 2) d_L_kept_2 rfl ?_
  refine rd_ildn (pc := 3) d_L_kept_3 rfl ?_
  refine rd_callVX (pc := 4) (n' := 1) [_] d_L_kept_4 ml_L_43 rfl (Nat.le_of_ble_eq_true rfl) (Nat.le_of_ble_eq_true rfl) (Nat.le_of_ble_eq_true rfl) rfl rfl rfl (Nat.le_of_ble_eq_true rfl) (Nat.le_of_ble_eq_true rfl) ?_
  refine ev_D_kept hB hk (fun z => Or.inr ⟨0, 12, rfl, hx_L_kept_0, Or.inl ⟨3, d_L_kept_12, by decide, ?_⟩⟩) (fun z M1 Z v a1 a2 a3 a4 => Or.inl ⟨_, rfl, ?_⟩)
  · skip
    refine rd_iconst (pc := 13) d_L_kept_13 ?_
    exact rd_iret (pc := 14) d_L_kept_14 rfl (Nat.le_of_ble_eq_true rfl) (hA z)
  · skip
    refine rd_i2l (pc := 7) d_L_kept_7 ⟨by omega, by omega⟩ ?_
    refine rd_last (pc := 8) d_L_kept_8 rfl (by omega) (by omega) ?_
    refine rd_goto (pc := 9) (tgt := 15) d_L_kept_9 rfl ?_
    refine rd_iconst (pc := 15) d_L_kept_15 ?_
    exact rd_iret (pc := 16) d_L_kept_16 rfl (Nat.le_of_ble_eq_true rfl) (hQ z M1 Z v a1 a2 a3 a4)
theorem hx_L_ceded_0 : rd_hx x_L_ceded 5 0 13 := ⟨[], _, _, rfl, rfl, (fun y hy => by cases hy), by decide, by decide, rd_m 200 (by decide +kernel), rd_m 215 (by decide +kernel)⟩
set_option maxHeartbeats 4000000 in
set_option maxRecDepth 100000 in
theorem ev_L_ceded {k t : Int} {n nt : Nat} {o : Int → Int} {M : rd_M} {Q : rd_R → rd_M → Prop} (hB : c_B M n nt o) (hk : rd_I k) (ht : rd_I t) (hA : ¬ ((0 ≤ k ∧ k < M 2 0) ∧ (0 ≤ t ∧ t < M 3 0)) → Q (.inl (some (rd_i 1))) M) (hQ : ((0 ≤ k ∧ k < M 2 0) ∧ (0 ≤ t ∧ t < M 3 0)) → (∀ M' Z v, c_fq M' M → sp_Z0 (c_d M) n (M 9 (M 10 k)) (-1) 0 Z → v = sp_runK (c_d M) n nt (M 9 (M 10 k)) Z 5 1 (t * 40 + k) → (0 ≤ v ∧ v ≤ 1000000000) → Q (.inl (some (rd_i 0))) (rd_up M' 58 0 v))) : rd_G x_L_ceded 0 [some (.ref 0), some (rd_i k), some (rd_i t), some (.ref 58), none] [] M 0 Q := by
  refine rd_aldn (pc := 0) d_L_ceded_0 rfl ?_
  refine rd_iconst (pc := 1) d_L_ceded_1 ?_
  refine rd_aldn (pc := 2) d_L_ceded_2 rfl ?_
  refine rd_ildn (pc := 3) d_L_ceded_3 rfl ?_
  refine rd_ildn (pc := 4) d_L_ceded_4 rfl ?_
  refine rd_callVX (pc := 5) (n' := 1) [_, _] d_L_ceded_5 ml_L_47 rfl (Nat.le_of_ble_eq_true rfl) (Nat.le_of_ble_eq_true rfl) (Nat.le_of_ble_eq_true rfl) rfl rfl rfl (Nat.le_of_ble_eq_true rfl) (Nat.le_of_ble_eq_true rfl) ?_
  refine ev_D_ceded hB hk ht (fun z => Or.inr ⟨0, 13, rfl, hx_L_ceded_0, Or.inr ⟨4, d_L_ceded_13, by decide, ?_⟩⟩) (fun z M1 Z v a1 a2 a3 a4 => Or.inl ⟨_, rfl, ?_⟩)
  · skip
    refine rd_iconst (pc := 15) d_L_ceded_15 ?_
    exact rd_iret (pc := 16) d_L_ceded_16 rfl (Nat.le_of_ble_eq_true rfl) (hA z)
  · skip
    refine rd_i2l (pc := 8) d_L_ceded_8 ⟨by omega, by omega⟩ ?_
    refine rd_last (pc := 9) d_L_ceded_9 rfl (by omega) (by omega) ?_
    refine rd_goto (pc := 10) (tgt := 17) d_L_ceded_10 rfl ?_
    refine rd_iconst (pc := 17) d_L_ceded_17 ?_
    exact rd_iret (pc := 18) d_L_ceded_18 rfl (Nat.le_of_ble_eq_true rfl) (hQ z M1 Z v a1 a2 a3 a4)
theorem hx_L_left_0 : rd_hx x_L_left 4 0 11 := ⟨[], _, _, rfl, rfl, (fun y hy => by cases hy), by decide, by decide, rd_m 200 (by decide +kernel), rd_m 215 (by decide +kernel)⟩
set_option maxHeartbeats 4000000 in
set_option maxRecDepth 100000 in
theorem ev_L_left {t : Int} {n nt : Nat} {o : Int → Int} {M : rd_M} {Q : rd_R → rd_M → Prop} (hB : c_B M n nt o) (ht : rd_I t) (hA : ¬ ((0 ≤ t ∧ t < M 3 0) ∧ (M 16 t = 2 ∨ M 16 t = 3)) → Q (.inl (some (rd_i 1))) M) (hQ : ((0 ≤ t ∧ t < M 3 0) ∧ (M 16 t = 2 ∨ M 16 t = 3)) → (∀ M' Z v, c_fq M' M → sp_Z0 (c_d M) n (M 17 t) (-1) 0 Z → v = sp_lim (M 19 t) (M 20 t) - sp_runK (c_d M) n nt (M 17 t) Z 5 2 t → Q (.inl (some (rd_i 0))) (rd_up M' 58 0 v))) : rd_G x_L_left 0 [some (.ref 0), some (rd_i t), some (.ref 58), none] [] M 0 Q := by
  refine rd_aldn (pc := 0) d_L_left_0 rfl ?_
  refine rd_iconst (pc := 1) d_L_left_1 ?_
  refine rd_aldn (pc := 2) d_L_left_2 rfl ?_
  refine rd_ildn (pc := 3) d_L_left_3 rfl ?_
  refine rd_callVX (pc := 4) (n' := 1) [_] d_L_left_4 ml_L_50 rfl (Nat.le_of_ble_eq_true rfl) (Nat.le_of_ble_eq_true rfl) (Nat.le_of_ble_eq_true rfl) rfl rfl rfl (Nat.le_of_ble_eq_true rfl) (Nat.le_of_ble_eq_true rfl) ?_
  refine ev_D_left hB ht (fun z => Or.inr ⟨0, 11, rfl, hx_L_left_0, Or.inl ⟨3, d_L_left_11, by decide, ?_⟩⟩) (fun z M1 Z v a1 a2 a3 => Or.inl ⟨_, rfl, ?_⟩)
  · skip
    refine rd_iconst (pc := 12) d_L_left_12 ?_
    exact rd_iret (pc := 13) d_L_left_13 rfl (Nat.le_of_ble_eq_true rfl) (hA z)
  · skip
    refine rd_last (pc := 7) d_L_left_7 rfl (by omega) (by omega) ?_
    refine rd_goto (pc := 8) (tgt := 14) d_L_left_8 rfl ?_
    refine rd_iconst (pc := 14) d_L_left_14 ?_
    exact rd_iret (pc := 15) d_L_left_15 rfl (Nat.le_of_ble_eq_true rfl) (hQ z M1 Z v a1 a2 a3)
theorem hx_L_window_0 : rd_hx x_L_window 5 0 13 := ⟨[], _, _, rfl, rfl, (fun y hy => by cases hy), by decide, by decide, rd_m 200 (by decide +kernel), rd_m 215 (by decide +kernel)⟩
set_option maxHeartbeats 4000000 in
set_option maxRecDepth 100000 in
theorem ev_L_window {t e : Int} {n nt : Nat} {o : Int → Int} {M : rd_M} {Q : rd_R → rd_M → Prop} (hB : c_B M n nt o) (ht : rd_I t) (he : rd_I e) (hA : ¬ ((0 ≤ t ∧ t < M 3 0) ∧ M 16 t = 3 ∧ (1 ≤ e ∧ e ≤ 9)) → Q (.inl (some (rd_i 1))) M) (hQ : ((0 ≤ t ∧ t < M 3 0) ∧ M 16 t = 3 ∧ (1 ≤ e ∧ e ≤ 9)) → (∀ M' Z v, c_fq M' M → sp_Z0 (c_d M) n (M 17 t) (-1) 0 Z → v = sp_runK (c_d M) n nt (M 17 t) Z 5 3 (t * 10 + e) → (-1 ≤ v ∧ v ≤ 100000) → Q (.inl (some (rd_i 0))) (rd_up M' 58 0 v))) : rd_G x_L_window 0 [some (.ref 0), some (rd_i t), some (rd_i e), some (.ref 58), none] [] M 0 Q := by
  refine rd_aldn (pc := 0) d_L_window_0 rfl ?_
  refine rd_iconst (pc := 1) d_L_window_1 ?_
  refine rd_aldn (pc := 2) d_L_window_2 rfl ?_
  refine rd_ildn (pc := 3) d_L_window_3 rfl ?_
  refine rd_ildn (pc := 4) d_L_window_4 rfl ?_
  refine rd_callVX (pc := 5) (n' := 1) [_, _] d_L_window_5 ml_L_54 rfl (Nat.le_of_ble_eq_true rfl) (Nat.le_of_ble_eq_true rfl) (Nat.le_of_ble_eq_true rfl) rfl rfl rfl (Nat.le_of_ble_eq_true rfl) (Nat.le_of_ble_eq_true rfl) ?_
  refine ev_D_window hB ht he (fun z => Or.inr ⟨0, 13, rfl, hx_L_window_0, Or.inr ⟨4, d_L_window_13, by decide, ?_⟩⟩) (fun z M1 Z v a1 a2 a3 a4 => Or.inl ⟨_, rfl, ?_⟩)
  · skip
    refine rd_iconst (pc := 15) d_L_window_15 ?_
    exact rd_iret (pc := 16) d_L_window_16 rfl (Nat.le_of_ble_eq_true rfl) (hA z)
  · skip
    refine rd_i2l (pc := 8) d_L_window_8 ⟨by omega, by omega⟩ ?_
    refine rd_last (pc := 9) d_L_window_9 rfl (by omega) (by omega) ?_
    refine rd_goto (pc := 10) (tgt := 17) d_L_window_10 rfl ?_
    refine rd_iconst (pc := 17) d_L_window_17 ?_
    exact rd_iret (pc := 18) d_L_window_18 rfl (Nat.le_of_ble_eq_true rfl) (hQ z M1 Z v a1 a2 a3 a4)
theorem hx_L_total_0 : rd_hx x_L_total 5 0 12 := ⟨[], _, _, rfl, rfl, (fun y hy => by cases hy), by decide, by decide, rd_m 200 (by decide +kernel), rd_m 215 (by decide +kernel)⟩
set_option maxHeartbeats 4000000 in
set_option maxRecDepth 100000 in
theorem ev_L_total {t w : Int} {n nt : Nat} {o : Int → Int} {M : rd_M} {Q : rd_R → rd_M → Prop} (hB : c_B M n nt o) (ht : rd_I t) (hw : rd_I w) (hA : ¬ ((0 ≤ t ∧ t < M 3 0) ∧ (0 ≤ w ∧ w ≤ 3)) → Q (.inl (some (rd_i 1))) M) (hQ : ((0 ≤ t ∧ t < M 3 0) ∧ (0 ≤ w ∧ w ≤ 3)) → (∀ M' Z v, c_fq M' M → sp_Z0 (c_d M) n (M 17 t) (-1) 0 Z → v = sp_tot w (sp_runK (c_d M) n nt (M 17 t) Z 5 5 t) (sp_runK (c_d M) n nt (M 17 t) Z 5 2 t) → Q (.inl (some (rd_i 0))) (rd_up M' 58 0 v))) : rd_G x_L_total 0 [some (.ref 0), some (rd_i t), some (rd_i w), some (.ref 58), none] [] M 0 Q := by
  refine rd_aldn (pc := 0) d_L_total_0 rfl ?_
  refine rd_iconst (pc := 1) d_L_total_1 ?_
  refine rd_aldn (pc := 2) d_L_total_2 rfl ?_
  refine rd_ildn (pc := 3) d_L_total_3 rfl ?_
  refine rd_ildn (pc := 4) d_L_total_4 rfl ?_
  refine rd_callVX (pc := 5) (n' := 1) [_, _] d_L_total_5 ml_L_57 rfl (Nat.le_of_ble_eq_true rfl) (Nat.le_of_ble_eq_true rfl) (Nat.le_of_ble_eq_true rfl) rfl rfl rfl (Nat.le_of_ble_eq_true rfl) (Nat.le_of_ble_eq_true rfl) ?_
  refine ev_D_total hB ht hw (fun z => Or.inr ⟨0, 12, rfl, hx_L_total_0, Or.inr ⟨4, d_L_total_12, by decide, ?_⟩⟩) (fun z M1 Z v a1 a2 a3 => Or.inl ⟨_, rfl, ?_⟩)
  · skip
    refine rd_iconst (pc := 14) d_L_total_14 ?_
    exact rd_iret (pc := 15) d_L_total_15 rfl (Nat.le_of_ble_eq_true rfl) (hA z)
  · skip
    refine rd_last (pc := 8) d_L_total_8 rfl (by omega) (by omega) ?_
    refine rd_goto (pc := 9) (tgt := 16) d_L_total_9 rfl ?_
    refine rd_iconst (pc := 16) d_L_total_16 ?_
    exact rd_iret (pc := 17) d_L_total_17 rfl (Nat.le_of_ble_eq_true rfl) (hQ z M1 Z v a1 a2 a3)
theorem hx_L_due_0 : rd_hx x_L_due 7 0 14 := ⟨[], _, _, rfl, rfl, (fun y hy => by cases hy), by decide, by decide, rd_m 200 (by decide +kernel), rd_m 215 (by decide +kernel)⟩
set_option maxHeartbeats 4000000 in
set_option maxRecDepth 100000 in
theorem ev_L_due {t r w : Int} {n nt : Nat} {o : Int → Int} {M : rd_M} {Q : rd_R → rd_M → Prop} (hB : c_B M n nt o) (ht : rd_I t) (hr : rd_I r) (hw : rd_I w) (hA : ¬ ((0 ≤ t ∧ t < M 3 0) ∧ (0 ≤ r ∧ r < 6) ∧ (0 ≤ w ∧ w ≤ 1)) → Q (.inl (some (rd_i 1))) M) (hQ : ((0 ≤ t ∧ t < M 3 0) ∧ (0 ≤ r ∧ r < 6) ∧ (0 ≤ w ∧ w ≤ 1)) → (∀ M' Z v, c_fq M' M → sp_Z0 (c_d M) n (M 17 t) (-1) 0 Z → v = sp_sh (M 22 (t * 6 + r)) (if w = 0 then sp_runK (c_d M) n nt (M 17 t) Z 5 2 t else sp_rei (M 16 t) (M 19 t) (M 20 t) (sp_runK (c_d M) n nt (M 17 t) Z 5 2 t)) → Q (.inl (some (rd_i 0))) (rd_up M' 58 0 v))) : rd_G x_L_due 0 [some (.ref 0), some (rd_i t), some (rd_i r), some (rd_i w), some (.ref 58), none] [] M 0 Q := by
  refine rd_ald (pc := 0) d_L_due_0 rfl ?_
  refine rd_iconst (pc := 2) d_L_due_2 ?_
  refine rd_aldn (pc := 3) d_L_due_3 rfl ?_
  refine rd_ildn (pc := 4) d_L_due_4 rfl ?_
  refine rd_ildn (pc := 5) d_L_due_5 rfl ?_
  refine rd_ildn (pc := 6) d_L_due_6 rfl ?_
  refine rd_callVX (pc := 7) (n' := 1) [_, _, _] d_L_due_7 ml_L_61 rfl (Nat.le_of_ble_eq_true rfl) (Nat.le_of_ble_eq_true rfl) (Nat.le_of_ble_eq_true rfl) rfl rfl rfl (Nat.le_of_ble_eq_true rfl) (Nat.le_of_ble_eq_true rfl) ?_
  refine ev_D_due hB ht hr hw (fun z => Or.inr ⟨0, 14, rfl, hx_L_due_0, Or.inr ⟨5, d_L_due_14, by decide, ?_⟩⟩) (fun z M1 Z v a1 a2 a3 => Or.inl ⟨_, rfl, ?_⟩)
  · skip
    refine rd_iconst (pc := 16) d_L_due_16 ?_
    exact rd_iret (pc := 17) d_L_due_17 rfl (Nat.le_of_ble_eq_true rfl) (hA z)
  · skip
    refine rd_last (pc := 10) d_L_due_10 rfl (by omega) (by omega) ?_
    refine rd_goto (pc := 11) (tgt := 18) d_L_due_11 rfl ?_
    refine rd_iconst (pc := 18) d_L_due_18 ?_
    exact rd_iret (pc := 19) d_L_due_19 rfl (Nat.le_of_ble_eq_true rfl) (hQ z M1 Z v a1 a2 a3)
theorem hx_L_whatIf_0 : rd_hx x_L_whatIf 7 0 15 := ⟨[], _, _, rfl, rfl, (fun y hy => by cases hy), by decide, by decide, rd_m 200 (by decide +kernel), rd_m 215 (by decide +kernel)⟩
theorem hx_L_whatIf_1 : rd_hx x_L_whatIf 7 1 19 := ⟨[_], _, _, rfl, rfl, (fun y hy => by cases hy with | head => exact Or.inr ⟨by decide, rd_m 200 (by decide +kernel), rfl⟩ | tail _ h => cases h), by decide, by decide, rd_m 201 (by decide +kernel), rd_m 286 (by decide +kernel)⟩
set_option maxHeartbeats 4000000 in
set_option maxRecDepth 100000 in
theorem ev_L_whatIf {k a t : Int} {n nt : Nat} {o : Int → Int} {M : rd_M} {Q : rd_R → rd_M → Prop} (hB : c_B M n nt o) (hk : rd_I k) (ha : rd_I a) (ht : rd_I t) (hA : ¬ ((0 ≤ k ∧ k < M 2 0) ∧ (0 ≤ a ∧ a ≤ 1000000000) ∧ (0 ≤ t ∧ t < M 3 0)) → Q (.inl (some (rd_i 1))) M) (hS : ((0 ≤ k ∧ k < M 2 0) ∧ (0 ≤ a ∧ a ≤ 1000000000) ∧ (0 ≤ t ∧ t < M 3 0)) → (M 14 k ≠ 0) → Q (.inl (some (rd_i 2))) M) (hQ : ((0 ≤ k ∧ k < M 2 0) ∧ (0 ≤ a ∧ a ≤ 1000000000) ∧ (0 ≤ t ∧ t < M 3 0)) → ¬ (M 14 k ≠ 0) → (∀ M' Z v, c_fq M' M → sp_Z0 (c_d M) n (M 9 (M 10 k)) k a Z → v = sp_runK (c_d M) n nt (M 9 (M 10 k)) Z 5 1 (t * 40 + k) → (0 ≤ v ∧ v ≤ 1000000000) → Q (.inl (some (rd_i 0))) (rd_up M' 58 0 v))) : rd_G x_L_whatIf 0 [some (.ref 0), some (rd_i k), some (rd_i a), some (rd_i t), some (.ref 58), none] [] M 0 Q := by
  refine rd_ald (pc := 0) d_L_whatIf_0 rfl ?_
  refine rd_iconst (pc := 2) d_L_whatIf_2 ?_
  refine rd_aldn (pc := 3) d_L_whatIf_3 rfl ?_
  refine rd_ildn (pc := 4) d_L_whatIf_4 rfl ?_
  refine rd_ildn (pc := 5) d_L_whatIf_5 rfl ?_
  refine rd_ildn (pc := 6) d_L_whatIf_6 rfl ?_
  refine rd_callVX (pc := 7) (n' := 1) [_, _, _] d_L_whatIf_7 ml_L_65 rfl (Nat.le_of_ble_eq_true rfl) (Nat.le_of_ble_eq_true rfl) (Nat.le_of_ble_eq_true rfl) rfl rfl rfl (Nat.le_of_ble_eq_true rfl) (Nat.le_of_ble_eq_true rfl) ?_
  refine ev_D_whatIf hB hk ha ht (fun z => Or.inr ⟨0, 15, rfl, hx_L_whatIf_0, Or.inr ⟨5, d_L_whatIf_15, by decide, ?_⟩⟩) (fun z1 z2 => Or.inr ⟨1, 19, rfl, hx_L_whatIf_1, Or.inr ⟨5, d_L_whatIf_19, by decide, ?_⟩⟩) (fun z1 z2 M1 Z v a1 a2 a3 a4 => Or.inl ⟨_, rfl, ?_⟩)
  · skip
    refine rd_iconst (pc := 17) d_L_whatIf_17 ?_
    exact rd_iret (pc := 18) d_L_whatIf_18 rfl (Nat.le_of_ble_eq_true rfl) (hA z)
  · skip
    refine rd_iconst (pc := 21) d_L_whatIf_21 ?_
    exact rd_iret (pc := 22) d_L_whatIf_22 rfl (Nat.le_of_ble_eq_true rfl) (hS z1 z2)
  · skip
    refine rd_i2l (pc := 10) d_L_whatIf_10 ⟨by omega, by omega⟩ ?_
    refine rd_last (pc := 11) d_L_whatIf_11 rfl (by omega) (by omega) ?_
    refine rd_goto (pc := 12) (tgt := 23) d_L_whatIf_12 rfl ?_
    refine rd_iconst (pc := 23) d_L_whatIf_23 ?_
    exact rd_iret (pc := 24) d_L_whatIf_24 rfl (Nat.le_of_ble_eq_true rfl) (hQ z1 z2 M1 Z v a1 a2 a3 a4)
theorem hx_L_bill_0 : rd_hx x_L_bill 4 0 11 := ⟨[], _, _, rfl, rfl, (fun y hy => by cases hy), by decide, by decide, rd_m 200 (by decide +kernel), rd_m 215 (by decide +kernel)⟩
set_option maxHeartbeats 4000000 in
set_option maxRecDepth 100000 in
theorem ev_L_bill {r : Int} {n nt : Nat} {o : Int → Int} {M : rd_M} {Q : rd_R → rd_M → Prop} (hB : c_B M n nt o) (hr : rd_I r) (hA : ¬ (0 ≤ r ∧ r < 6) → Q (.inl (some (rd_i 1))) M) (hQ : (0 ≤ r ∧ r < 6) → (∀ M' (ZZ : Int → rd_M) (v : Int), c_fq M' M → (∀ y : Int, 0 ≤ y → y < 4 → sp_Z0 (c_d M) n y (-1) 0 (ZZ y)) → v = rd_sm (fun y => if M 5 y = 0 then rd_sm (fun t => if M 17 t = y then sp_owe (c_d M) (sp_runK (c_d M) n nt y (ZZ y) 5) r t else 0) nt else 0) 4 → Q (.inl (some (rd_i 0))) (rd_up (rd_up M' 6 r v) 58 0 (v - M 6 r)))) : rd_G x_L_bill 0 [some (.ref 0), some (rd_i r), some (.ref 58), none] [] M 0 Q := by
  refine rd_aldn (pc := 0) d_L_bill_0 rfl ?_
  refine rd_iconst (pc := 1) d_L_bill_1 ?_
  refine rd_aldn (pc := 2) d_L_bill_2 rfl ?_
  refine rd_ildn (pc := 3) d_L_bill_3 rfl ?_
  refine rd_callVX (pc := 4) (n' := 1) [_] d_L_bill_4 ml_L_68 rfl (Nat.le_of_ble_eq_true rfl) (Nat.le_of_ble_eq_true rfl) (Nat.le_of_ble_eq_true rfl) rfl rfl rfl (Nat.le_of_ble_eq_true rfl) (Nat.le_of_ble_eq_true rfl) ?_
  refine ev_D_bill hB hr (fun z => Or.inr ⟨0, 11, rfl, hx_L_bill_0, Or.inl ⟨3, d_L_bill_11, by decide, ?_⟩⟩) (fun z M1 ZZ v a1 a2 a3 => Or.inl ⟨_, rfl, ?_⟩)
  · skip
    refine rd_iconst (pc := 12) d_L_bill_12 ?_
    exact rd_iret (pc := 13) d_L_bill_13 rfl (Nat.le_of_ble_eq_true rfl) (hA z)
  · skip
    refine rd_last (pc := 7) d_L_bill_7 rfl (by omega) (by omega) ?_
    refine rd_goto (pc := 8) (tgt := 14) d_L_bill_8 rfl ?_
    refine rd_iconst (pc := 14) d_L_bill_14 ?_
    exact rd_iret (pc := 15) d_L_bill_15 rfl (Nat.le_of_ble_eq_true rfl) (hQ z M1 ZZ v a1 a2 a3)

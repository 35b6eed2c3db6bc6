/-! what is owed; what is added -/
def sp_ratio (p k : Int) : Int := if p ≤ 0 then 0 else min ((k * 1000000).tdiv p) 9000000
def sp_com (p k : Int) : Int := (p * max (300000 - max (sp_ratio p k - 400000) 0) 100000).tdiv 1000000
def sp_rei (kd b c k : Int) : Int := if (kd = 2 ∨ kd = 3) ∧ 0 < b then ((b * 100000).tdiv 1000000 * min k (b * c)).tdiv b else 0
def sp_sh (s v : Int) : Int := (v * s).tdiv 1000000
theorem sp_ratio_b {p k : Int} (hp : 0 ≤ p ∧ p ≤ 12000000000) (hk : 0 ≤ k ∧ k ≤ 40000000000) : 0 ≤ sp_ratio p k ∧ sp_ratio p k ≤ 9000000 := by
  unfold sp_ratio
  by_cases h : p ≤ 0
  · rw [if_pos h]; omega
  · rw [if_neg h]
    have := (rd_tdivb (a := k * 1000000) (b := p) (by omega) (by omega)).1
    omega
theorem sp_com_b {p k : Int} (hp : 0 ≤ p ∧ p ≤ 12000000000) (hk : 0 ≤ k ∧ k ≤ 40000000000) : 0 ≤ sp_com p k ∧ sp_com p k ≤ p := by
  have := sp_ratio_b hp hk
  exact rd_part_b hp.1 (by omega) (by omega)
theorem rd_part_b2 {a b m : Int} (h0 : 0 ≤ a) (h1 : a ≤ b) (h2 : 0 < b) (h3 : 0 ≤ m) : 0 ≤ (a * m).tdiv b ∧ (a * m).tdiv b ≤ m := by
  have h4 := Int.mul_nonneg h0 h3
  rw [Int.tdiv_eq_ediv_of_nonneg h4]
  have h5 : a * m ≤ m * b := by rw [Int.mul_comm m b]; exact Int.mul_le_mul_of_nonneg_right h1 h3
  exact ⟨Int.ediv_nonneg h4 (by omega), Int.ediv_le_of_le_mul h2 h5⟩
theorem sp_rei_b {kd b c k : Int} (hb : 0 ≤ b ∧ b ≤ 1000000000) (hc : 0 ≤ c ∧ c ≤ 5) (hk : 0 ≤ k ∧ k ≤ 40000000000) : 0 ≤ sp_rei kd b c k ∧ sp_rei kd b c k ≤ 40000000000 := by
  unfold sp_rei
  by_cases h : (kd = 2 ∨ kd = 3) ∧ 0 < b
  · rw [if_pos h]
    have h1 : 0 ≤ (b * 100000).tdiv 1000000 ∧ (b * 100000).tdiv 1000000 ≤ b := rd_part_b hb.1 (by omega) (by omega)
    have h2 := rd_mulb hb.1 hb.2 hc.1 hc.2
    have h3 := rd_part_b2 h1.1 h1.2 h.2 (m := min k (b * c)) (by omega)
    omega
  · rw [if_neg h]; omega
theorem sp_sh_b {s v : Int} (hs : 0 ≤ s ∧ s ≤ 1000000) (hv : 0 ≤ v) : 0 ≤ sp_sh s v ∧ sp_sh s v ≤ v := rd_part_b hv hs.1 hs.2
/-- what a reinsurer owes of a treaty, from rows of a year -/
def sp_owe (d Z : rd_M) (r t : Int) : Int := sp_sh (d 14 (t * 6 + r)) (Z 2 t) + sp_sh (d 14 (t * 6 + r)) (sp_com (Z 5 t) (Z 2 t)) - sp_sh (d 14 (t * 6 + r)) (Z 5 t) - sp_sh (d 14 (t * 6 + r)) (sp_rei (d 8 t) (d 11 t) (d 12 t) (Z 2 t))
set_option maxHeartbeats 4000000 in
set_option maxRecDepth 100000 in
theorem ev_S_ratioOf {t : Int} {M : rd_M} {Q : rd_R → rd_M → Prop} (h0 : 0 ≤ t) (h1 : t < 10) (bk : 0 ≤ M 26 t ∧ M 26 t ≤ 40000000000) (bp : 0 ≤ M 29 t ∧ M 29 t ≤ 12000000000) (hQ : Q (.inl (some (rd_l (sp_ratio (M 29 t) (M 26 t))))) (M)) : rd_G x_S_ratioOf 0 [some (.ref 4), some (rd_i t)] [] M 0 Q := by
  refine rd_aldn (pc := 0) d_S_ratioOf_0 rfl ?_
  refine rd_getr (pc := 1) d_S_ratioOf_1 fl_S_44 rfl rfl ?_
  refine rd_ildn (pc := 4) d_S_ratioOf_4 rfl ?_
  refine rd_lald (pc := 5) d_S_ratioOf_5 rfl (by omega) (by omega) ?_
  refine rd_lconst (pc := 6) (v := 0) d_S_ratioOf_6 rfl ?_
  refine rd_lcmp_gt (pc := 7) (tgt := 13) d_S_ratioOf_7 d_S_ratioOf_8 rfl ⟨by omega, by omega⟩ ⟨by omega, by omega⟩ (fun h7 => ?_) (fun h7 => ?_)
  · skip
    have hq := rd_tdivb (a := M 26 t * 1000000) (b := M 29 t) (by omega) (by omega)
    refine rd_aldn (pc := 13) d_S_ratioOf_13 rfl ?_
    refine rd_getr (pc := 14) d_S_ratioOf_14 fl_S_34 rfl rfl ?_
    refine rd_ildn (pc := 17) d_S_ratioOf_17 rfl ?_
    refine rd_lald (pc := 18) d_S_ratioOf_18 rfl (by omega) (by omega) ?_
    refine rd_ldc2 (pc := 19) (v := 1000000) d_S_ratioOf_19 kl_S_124 ?_
    refine rd_lmul (pc := 22) d_S_ratioOf_22 ?_
    refine rd_aldn (pc := 23) d_S_ratioOf_23 rfl ?_
    refine rd_getr (pc := 24) d_S_ratioOf_24 fl_S_44 rfl rfl ?_
    refine rd_ildn (pc := 27) d_S_ratioOf_27 rfl ?_
    refine rd_lald (pc := 28) d_S_ratioOf_28 rfl (by omega) (by omega) ?_
    refine rd_ldiv (pc := 29) d_S_ratioOf_29 ⟨by omega, by omega⟩ ⟨by omega, by omega⟩ (by omega) ?_
    refine rd_ldc2 (pc := 30) (v := 9000000) d_S_ratioOf_30 kl_S_171 ?_
    refine rd_callSl (pc := 33) (n' := 0) [_, _] d_S_ratioOf_33 ml_S_173 (Nat.le_of_ble_eq_true rfl) (Nat.le_of_ble_eq_true rfl) (Nat.le_of_ble_eq_true rfl) rfl rfl rfl (Nat.le_of_ble_eq_true rfl) (Nat.le_of_ble_eq_true rfl) ?_
    refine ev_J_min ⟨by omega, by omega⟩ ⟨by omega, by omega⟩ ?_
    refine ⟨_, rfl, ?_⟩
    exact rd_lret (pc := 36) d_S_ratioOf_36 rfl (Nat.le_of_ble_eq_true rfl) (by unfold sp_ratio at hQ; rw [if_neg (by omega)] at hQ; exact hQ)
  · skip
    refine rd_lconst (pc := 11) (v := 0) d_S_ratioOf_11 rfl ?_
    exact rd_lret (pc := 12) d_S_ratioOf_12 rfl (Nat.le_of_ble_eq_true rfl) (by unfold sp_ratio at hQ; rw [if_pos (by omega)] at hQ; exact hQ)
set_option maxHeartbeats 4000000 in
set_option maxRecDepth 100000 in
theorem ev_S_commissionOf {t : Int} {M : rd_M} {Q : rd_R → rd_M → Prop} (h0 : 0 ≤ t) (h1 : t < 10) (bk : 0 ≤ M 26 t ∧ M 26 t ≤ 40000000000) (bp : 0 ≤ M 29 t ∧ M 29 t ≤ 12000000000) (hQ : Q (.inl (some (rd_l (sp_com (M 29 t) (M 26 t))))) (M)) : rd_G x_S_commissionOf 0 [some (.ref 4), some (rd_i t), none, none, none, none] [] M 0 Q := by
  have hr := sp_ratio_b bp bk
  have hm := rd_mulb (b := max (300000 - max (sp_ratio (M 29 t) (M 26 t) - 400000) 0) 100000) (B := 300000) bp.1 bp.2 (by omega) (by omega)
  refine rd_aldn (pc := 0) d_S_commissionOf_0 rfl ?_
  refine rd_ildn (pc := 1) d_S_commissionOf_1 rfl ?_
  refine rd_callVl (pc := 2) (n' := 0) [_] d_S_commissionOf_2 ml_S_179 rfl (Nat.le_of_ble_eq_true rfl) (Nat.le_of_ble_eq_true rfl) (Nat.le_of_ble_eq_true rfl) rfl rfl rfl (Nat.le_of_ble_eq_true rfl) (Nat.le_of_ble_eq_true rfl) ?_
  refine ev_S_ratioOf h0 h1 bk bp ?_
  refine ⟨_, rfl, ?_⟩
  refine rd_ldc2 (pc := 5) (v := 400000) d_S_commissionOf_5 kl_S_182 ?_
  refine rd_lsub (pc := 8) d_S_commissionOf_8 ?_
  refine rd_lconst (pc := 9) (v := 0) d_S_commissionOf_9 rfl ?_
  refine rd_callSl (pc := 10) (n' := 0) [_, _] d_S_commissionOf_10 ml_S_184 (Nat.le_of_ble_eq_true rfl) (Nat.le_of_ble_eq_true rfl) (Nat.le_of_ble_eq_true rfl) rfl rfl rfl (Nat.le_of_ble_eq_true rfl) (Nat.le_of_ble_eq_true rfl) ?_
  refine ev_J_max ⟨by omega, by omega⟩ ⟨by omega, by omega⟩ ?_
  refine ⟨_, rfl, ?_⟩
  refine rd_lst2 (pc := 13) d_S_commissionOf_13 rfl ?_
  refine rd_ldc2 (pc := 14) (v := 300000) d_S_commissionOf_14 kl_S_187 ?_
  refine rd_lldn (pc := 17) d_S_commissionOf_17 rfl ?_
  refine rd_lsub (pc := 18) d_S_commissionOf_18 ?_
  refine rd_ldc2 (pc := 19) (v := 100000) d_S_commissionOf_19 kl_S_189 ?_
  refine rd_callSl (pc := 22) (n' := 0) [_, _] d_S_commissionOf_22 ml_S_184 (Nat.le_of_ble_eq_true rfl) (Nat.le_of_ble_eq_true rfl) (Nat.le_of_ble_eq_true rfl) rfl rfl rfl (Nat.le_of_ble_eq_true rfl) (Nat.le_of_ble_eq_true rfl) ?_
  refine ev_J_max ⟨by omega, by omega⟩ ⟨by omega, by omega⟩ ?_
  refine ⟨_, rfl, ?_⟩
  refine rd_lst4 (pc := 25) d_S_commissionOf_25 rfl ?_
  refine rd_aldn (pc := 27) d_S_commissionOf_27 rfl ?_
  refine rd_getr (pc := 28) d_S_commissionOf_28 fl_S_44 rfl rfl ?_
  refine rd_ildn (pc := 31) d_S_commissionOf_31 rfl ?_
  refine rd_lald (pc := 32) d_S_commissionOf_32 rfl (by omega) (by omega) ?_
  refine rd_lld (pc := 33) d_S_commissionOf_33 rfl ?_
  refine rd_lmul (pc := 35) d_S_commissionOf_35 ?_
  refine rd_ldc2 (pc := 36) (v := 1000000) d_S_commissionOf_36 kl_S_124 ?_
  refine rd_ldiv (pc := 39) d_S_commissionOf_39 ⟨by omega, by omega⟩ ⟨by omega, by omega⟩ (by omega) ?_
  exact rd_lret (pc := 40) d_S_commissionOf_40 rfl (Nat.le_of_ble_eq_true rfl) (hQ)
set_option maxHeartbeats 4000000 in
set_option maxRecDepth 100000 in
theorem ev_S_reinstatementOf {t : Int} {M : rd_M} {Q : rd_R → rd_M → Prop} (hI : c_I M) (h0 : 0 ≤ t) (h1 : t < 10) (bk : 0 ≤ M 26 t ∧ M 26 t ≤ 40000000000) (bp : 0 ≤ M 29 t ∧ M 29 t ≤ 12000000000) (hQ : Q (.inl (some (rd_l (sp_rei (M 16 t) (M 19 t) (M 20 t) (M 26 t))))) (M)) : rd_G x_S_reinstatementOf 0 [some (.ref 4), some (rd_i t), none, none, none, none] [] M 0 Q := by
  obtain ⟨hk, hy, ha, hb, hc, hdd⟩ := hI.treaty h0 h1
  have hbc := rd_mulb hb.1 hb.2 hc.1 hc.2
  have hp : 0 ≤ (M 19 t * 100000).tdiv 1000000 ∧ (M 19 t * 100000).tdiv 1000000 ≤ M 19 t := rd_part_b hb.1 (by omega) (by omega)
  have hpm := rd_mulb (b := min (M 26 t) (M 19 t * M 20 t)) (B := 5000000000) hp.1 (show _ ≤ 1000000000 by omega) (by omega) (by omega)
  refine rd_aldn (pc := 0) d_S_reinstatementOf_0 rfl ?_
  refine rd_getr (pc := 1) d_S_reinstatementOf_1 fl_S_19 rfl rfl ?_
  refine rd_getr (pc := 4) d_S_reinstatementOf_4 fl_S_191 rfl rfl ?_
  refine rd_ildn (pc := 7) d_S_reinstatementOf_7 rfl ?_
  refine rd_lald (pc := 8) d_S_reinstatementOf_8 rfl (by omega) (by omega) ?_
  refine rd_lst2 (pc := 9) d_S_reinstatementOf_9 rfl ?_
  refine rd_aldn (pc := 10) d_S_reinstatementOf_10 rfl ?_
  refine rd_getr (pc := 11) d_S_reinstatementOf_11 fl_S_19 rfl rfl ?_
  refine rd_ildn (pc := 14) d_S_reinstatementOf_14 rfl ?_
  refine rd_callVi (pc := 15) (n' := 0) [_] d_S_reinstatementOf_15 ml_S_194 rfl (Nat.le_of_ble_eq_true rfl) (Nat.le_of_ble_eq_true rfl) (Nat.le_of_ble_eq_true rfl) rfl rfl rfl (Nat.le_of_ble_eq_true rfl) (Nat.le_of_ble_eq_true rfl) ?_
  refine ev_T_isExcess hI h0 h1 (fun c15 => ⟨_, rfl, ?_⟩) (fun c15 => ⟨_, rfl, ?_⟩)
  · skip
    refine rd_if_eq (pc := 18) (tgt := 27) d_S_reinstatementOf_18 rfl ⟨by omega, by omega⟩ (fun h18 => ?_) (fun h18 => ?_)
    · exact absurd h18 (by decide)
    · skip
      refine rd_lldn (pc := 21) d_S_reinstatementOf_21 rfl ?_
      refine rd_lconst (pc := 22) (v := 0) d_S_reinstatementOf_22 rfl ?_
      refine rd_lcmp_gt (pc := 23) (tgt := 29) d_S_reinstatementOf_23 d_S_reinstatementOf_24 rfl ⟨by omega, by omega⟩ ⟨by omega, by omega⟩ (fun h23 => ?_) (fun h23 => ?_)
      · skip
        refine rd_lldn (pc := 29) d_S_reinstatementOf_29 rfl ?_
        refine rd_ldc2 (pc := 30) (v := 100000) d_S_reinstatementOf_30 kl_S_189 ?_
        refine rd_lmul (pc := 33) d_S_reinstatementOf_33 ?_
        refine rd_ldc2 (pc := 34) (v := 1000000) d_S_reinstatementOf_34 kl_S_124 ?_
        refine rd_ldiv (pc := 37) d_S_reinstatementOf_37 ⟨by omega, by omega⟩ ⟨by omega, by omega⟩ (by omega) ?_
        refine rd_lst4 (pc := 38) d_S_reinstatementOf_38 rfl ?_
        refine rd_lld (pc := 40) d_S_reinstatementOf_40 rfl ?_
        refine rd_aldn (pc := 42) d_S_reinstatementOf_42 rfl ?_
        refine rd_getr (pc := 43) d_S_reinstatementOf_43 fl_S_34 rfl rfl ?_
        refine rd_ildn (pc := 46) d_S_reinstatementOf_46 rfl ?_
        refine rd_lald (pc := 47) d_S_reinstatementOf_47 rfl (by omega) (by omega) ?_
        refine rd_lldn (pc := 48) d_S_reinstatementOf_48 rfl ?_
        refine rd_aldn (pc := 49) d_S_reinstatementOf_49 rfl ?_
        refine rd_getr (pc := 50) d_S_reinstatementOf_50 fl_S_19 rfl rfl ?_
        refine rd_getr (pc := 53) d_S_reinstatementOf_53 fl_S_198 rfl rfl ?_
        refine rd_ildn (pc := 56) d_S_reinstatementOf_56 rfl ?_
        refine rd_lald (pc := 57) d_S_reinstatementOf_57 rfl (by omega) (by omega) ?_
        refine rd_lmul (pc := 58) d_S_reinstatementOf_58 ?_
        refine rd_callSl (pc := 59) (n' := 0) [_, _] d_S_reinstatementOf_59 ml_S_173 (Nat.le_of_ble_eq_true rfl) (Nat.le_of_ble_eq_true rfl) (Nat.le_of_ble_eq_true rfl) rfl rfl rfl (Nat.le_of_ble_eq_true rfl) (Nat.le_of_ble_eq_true rfl) ?_
        refine ev_J_min ⟨by omega, by omega⟩ ⟨by omega, by omega⟩ ?_
        refine ⟨_, rfl, ?_⟩
        refine rd_lmul (pc := 62) d_S_reinstatementOf_62 ?_
        refine rd_lldn (pc := 63) d_S_reinstatementOf_63 rfl ?_
        refine rd_ldiv (pc := 64) d_S_reinstatementOf_64 ⟨by omega, by omega⟩ ⟨by omega, by omega⟩ (by omega) ?_
        exact rd_lret (pc := 65) d_S_reinstatementOf_65 rfl (Nat.le_of_ble_eq_true rfl) (by unfold sp_rei at hQ; rw [if_pos (by omega)] at hQ; exact hQ)
      · skip
        refine rd_lconst (pc := 27) (v := 0) d_S_reinstatementOf_27 rfl ?_
        exact rd_lret (pc := 28) d_S_reinstatementOf_28 rfl (Nat.le_of_ble_eq_true rfl) (by unfold sp_rei at hQ; rw [if_neg (by omega)] at hQ; exact hQ)
  · skip
    refine rd_if_eq (pc := 18) (tgt := 27) d_S_reinstatementOf_18 rfl ⟨by omega, by omega⟩ (fun h18 => ?_) (fun h18 => ?_)
    · skip
      refine rd_lconst (pc := 27) (v := 0) d_S_reinstatementOf_27 rfl ?_
      exact rd_lret (pc := 28) d_S_reinstatementOf_28 rfl (Nat.le_of_ble_eq_true rfl) (by unfold sp_rei at hQ; rw [if_neg (by omega)] at hQ; exact hQ)
    · exact absurd h18 (by decide)
set_option maxHeartbeats 4000000 in
set_option maxRecDepth 100000 in
theorem lq_S_owedBy {r y : Int} {n nt : Nat} {M : rd_M} {Q : rd_R → rd_M → Prop} (hI : c_I M) (hm : M 3 0 = nt) (hr : 0 ≤ r ∧ r < 6) (hy : 0 ≤ y ∧ y ≤ 3) (hk : sp_ok n (c_z M)) (hQ : Q (.inl (some (rd_l (rd_sm (fun t => if M 17 t = y then sp_owe (c_d M) (c_z M) r t else 0) nt)))) M) : ∀ (d : Nat) (i a : Int), (nt - i).toNat = d → (0 ≤ i) → (i ≤ nt) → (a = rd_sm (fun t => if M 17 t = y then sp_owe (c_d M) (c_z M) r t else 0) i.toNat) → rd_G x_S_owedBy 5 [some (.ref 4), some (rd_i r), some (rd_i y), some (rd_l a), none, some (rd_i i)] [] M 0 Q := by
  intro d
  induction d using Nat.strongRecOn with
  | ind d ih =>
    intro i a hd i0 i1 ha
    have hm10 : nt ≤ 10 := (by have := hI.2.1; omega)
    refine rd_ild (pc := 5) d_S_owedBy_5 rfl ?_
    refine rd_aldn (pc := 7) d_S_owedBy_7 rfl ?_
    refine rd_getr (pc := 8) d_S_owedBy_8 fl_S_19 rfl rfl ?_
    refine rd_gi (pc := 11) (ki := 0) d_S_owedBy_11 fl_S_92 rfl rfl rfl ?_
    refine rd_icmp_ge (pc := 14) (tgt := 115) d_S_owedBy_14 rfl ⟨by omega, by omega⟩ ⟨by omega, by omega⟩ (fun h14 => ?_) (fun h14 => ?_)
    · skip
      refine rd_lldn (pc := 115) d_S_owedBy_115 rfl ?_
      exact rd_lret (pc := 116) d_S_owedBy_116 rfl (Nat.le_of_ble_eq_true rfl) (by rw [ha, show i.toNat = nt by omega]; exact hQ)
    · skip
      have hs := rd_sm_s (f := (fun t => if M 17 t = y then sp_owe (c_d M) (c_z M) r t else 0)) i0
      obtain ⟨tk, ty, ta, tb, tc, td⟩ := hI.treaty i0 (by omega)
      obtain ⟨bk, bp⟩ : (0 ≤ M 26 i ∧ M 26 i ≤ 40000000000) ∧ (0 ≤ M 29 i ∧ M 29 i ≤ 12000000000) := hk.2.2.1 i i0 (by omega)
      have hcb := sp_com_b bp bk
      have hrb := sp_rei_b (kd := M 16 i) tb tc bk
      refine rd_aldn (pc := 17) d_S_owedBy_17 rfl ?_
      refine rd_getr (pc := 18) d_S_owedBy_18 fl_S_19 rfl rfl ?_
      refine rd_getr (pc := 21) d_S_owedBy_21 fl_S_98 rfl rfl ?_
      refine rd_ild (pc := 24) d_S_owedBy_24 rfl ?_
      refine rd_iald (pc := 26) d_S_owedBy_26 rfl (by omega) (by omega) ?_
      refine rd_ildn (pc := 27) d_S_owedBy_27 rfl ?_
      refine rd_icmp_ne (pc := 28) (tgt := 109) d_S_owedBy_28 rfl ⟨by omega, by omega⟩ ⟨by omega, by omega⟩ (fun h28 => ?_) (fun h28 => ?_)
      · skip
        refine rd_iinc5 (pc := 109) d_S_owedBy_109 rfl ?_
        refine rd_goto (pc := 112) (tgt := 5) d_S_owedBy_112 rfl ?_
        first
          | (refine ih _ (by omega) (i + 1) _ rfl (by omega) (by omega) ?_
             rw [hs, ha, if_pos (by omega)]
             show _ = _ + (sp_sh (M 22 (i * 6 + r)) (M 26 i) + sp_sh (M 22 (i * 6 + r)) (sp_com (M 29 i) (M 26 i)) - sp_sh (M 22 (i * 6 + r)) (M 29 i) - sp_sh (M 22 (i * 6 + r)) (sp_rei (M 16 i) (M 19 i) (M 20 i) (M 26 i)))
             unfold sp_sh
             omega)
          | (refine ih _ (by omega) (i + 1) _ rfl (by omega) (by omega) ?_
             rw [hs, ha, if_neg (by omega)]; omega)
      · skip
        refine rd_lldn (pc := 31) d_S_owedBy_31 rfl ?_
        refine rd_aldn (pc := 32) d_S_owedBy_32 rfl ?_
        refine rd_getr (pc := 33) d_S_owedBy_33 fl_S_19 rfl rfl ?_
        refine rd_aldn (pc := 36) d_S_owedBy_36 rfl ?_
        refine rd_getr (pc := 37) d_S_owedBy_37 fl_S_34 rfl rfl ?_
        refine rd_ild (pc := 40) d_S_owedBy_40 rfl ?_
        refine rd_lald (pc := 42) d_S_owedBy_42 rfl (by omega) (by omega) ?_
        refine rd_ild (pc := 43) d_S_owedBy_43 rfl ?_
        refine rd_ildn (pc := 45) d_S_owedBy_45 rfl ?_
        refine rd_callVl (pc := 46) (n' := 0) [_, _, _] d_S_owedBy_46 ml_S_201 rfl (Nat.le_of_ble_eq_true rfl) (Nat.le_of_ble_eq_true rfl) (Nat.le_of_ble_eq_true rfl) rfl rfl rfl (Nat.le_of_ble_eq_true rfl) (Nat.le_of_ble_eq_true rfl) ?_
        refine ev_T_partOf hI i0 (by omega) hr.1 hr.2 ⟨by omega, by omega⟩ ?_
        refine ⟨_, rfl, ?_⟩
        refine rd_ladd (pc := 49) d_S_owedBy_49 ?_
        refine rd_lst3 (pc := 50) d_S_owedBy_50 rfl ?_
        refine rd_lldn (pc := 51) d_S_owedBy_51 rfl ?_
        refine rd_aldn (pc := 52) d_S_owedBy_52 rfl ?_
        refine rd_getr (pc := 53) d_S_owedBy_53 fl_S_19 rfl rfl ?_
        refine rd_aldn (pc := 56) d_S_owedBy_56 rfl ?_
        refine rd_ild (pc := 57) d_S_owedBy_57 rfl ?_
        refine rd_callVl (pc := 59) (n' := 0) [_] d_S_owedBy_59 ml_S_205 rfl (Nat.le_of_ble_eq_true rfl) (Nat.le_of_ble_eq_true rfl) (Nat.le_of_ble_eq_true rfl) rfl rfl rfl (Nat.le_of_ble_eq_true rfl) (Nat.le_of_ble_eq_true rfl) ?_
        refine ev_S_commissionOf i0 (by omega) bk bp ?_
        refine ⟨_, rfl, ?_⟩
        refine rd_ild (pc := 62) d_S_owedBy_62 rfl ?_
        refine rd_ildn (pc := 64) d_S_owedBy_64 rfl ?_
        refine rd_callVl (pc := 65) (n' := 0) [_, _, _] d_S_owedBy_65 ml_S_201 rfl (Nat.le_of_ble_eq_true rfl) (Nat.le_of_ble_eq_true rfl) (Nat.le_of_ble_eq_true rfl) rfl rfl rfl (Nat.le_of_ble_eq_true rfl) (Nat.le_of_ble_eq_true rfl) ?_
        refine ev_T_partOf hI i0 (by omega) hr.1 hr.2 ⟨by omega, by omega⟩ ?_
        refine ⟨_, rfl, ?_⟩
        refine rd_ladd (pc := 68) d_S_owedBy_68 ?_
        refine rd_lst3 (pc := 69) d_S_owedBy_69 rfl ?_
        refine rd_lldn (pc := 70) d_S_owedBy_70 rfl ?_
        refine rd_aldn (pc := 71) d_S_owedBy_71 rfl ?_
        refine rd_getr (pc := 72) d_S_owedBy_72 fl_S_19 rfl rfl ?_
        refine rd_aldn (pc := 75) d_S_owedBy_75 rfl ?_
        refine rd_getr (pc := 76) d_S_owedBy_76 fl_S_44 rfl rfl ?_
        refine rd_ild (pc := 79) d_S_owedBy_79 rfl ?_
        refine rd_lald (pc := 81) d_S_owedBy_81 rfl (by omega) (by omega) ?_
        refine rd_ild (pc := 82) d_S_owedBy_82 rfl ?_
        refine rd_ildn (pc := 84) d_S_owedBy_84 rfl ?_
        refine rd_callVl (pc := 85) (n' := 0) [_, _, _] d_S_owedBy_85 ml_S_201 rfl (Nat.le_of_ble_eq_true rfl) (Nat.le_of_ble_eq_true rfl) (Nat.le_of_ble_eq_true rfl) rfl rfl rfl (Nat.le_of_ble_eq_true rfl) (Nat.le_of_ble_eq_true rfl) ?_
        refine ev_T_partOf hI i0 (by omega) hr.1 hr.2 ⟨by omega, by omega⟩ ?_
        refine ⟨_, rfl, ?_⟩
        refine rd_lsub (pc := 88) d_S_owedBy_88 ?_
        refine rd_lst3 (pc := 89) d_S_owedBy_89 rfl ?_
        refine rd_lldn (pc := 90) d_S_owedBy_90 rfl ?_
        refine rd_aldn (pc := 91) d_S_owedBy_91 rfl ?_
        refine rd_getr (pc := 92) d_S_owedBy_92 fl_S_19 rfl rfl ?_
        refine rd_aldn (pc := 95) d_S_owedBy_95 rfl ?_
        refine rd_ild (pc := 96) d_S_owedBy_96 rfl ?_
        refine rd_callVl (pc := 98) (n' := 0) [_] d_S_owedBy_98 ml_S_208 rfl (Nat.le_of_ble_eq_true rfl) (Nat.le_of_ble_eq_true rfl) (Nat.le_of_ble_eq_true rfl) rfl rfl rfl (Nat.le_of_ble_eq_true rfl) (Nat.le_of_ble_eq_true rfl) ?_
        refine ev_S_reinstatementOf hI i0 (by omega) bk bp ?_
        refine ⟨_, rfl, ?_⟩
        refine rd_ild (pc := 101) d_S_owedBy_101 rfl ?_
        refine rd_ildn (pc := 103) d_S_owedBy_103 rfl ?_
        refine rd_callVl (pc := 104) (n' := 0) [_, _, _] d_S_owedBy_104 ml_S_201 rfl (Nat.le_of_ble_eq_true rfl) (Nat.le_of_ble_eq_true rfl) (Nat.le_of_ble_eq_true rfl) rfl rfl rfl (Nat.le_of_ble_eq_true rfl) (Nat.le_of_ble_eq_true rfl) ?_
        refine ev_T_partOf hI i0 (by omega) hr.1 hr.2 ⟨by omega, by omega⟩ ?_
        refine ⟨_, rfl, ?_⟩
        refine rd_lsub (pc := 107) d_S_owedBy_107 ?_
        refine rd_lst3 (pc := 108) d_S_owedBy_108 rfl ?_
        refine rd_iinc5 (pc := 109) d_S_owedBy_109 rfl ?_
        refine rd_goto (pc := 112) (tgt := 5) d_S_owedBy_112 rfl ?_
        first
          | (refine ih _ (by omega) (i + 1) _ rfl (by omega) (by omega) ?_
             rw [hs, ha, if_pos (by omega)]
             show _ = _ + (sp_sh (M 22 (i * 6 + r)) (M 26 i) + sp_sh (M 22 (i * 6 + r)) (sp_com (M 29 i) (M 26 i)) - sp_sh (M 22 (i * 6 + r)) (M 29 i) - sp_sh (M 22 (i * 6 + r)) (sp_rei (M 16 i) (M 19 i) (M 20 i) (M 26 i)))
             unfold sp_sh
             omega)
          | (refine ih _ (by omega) (i + 1) _ rfl (by omega) (by omega) ?_
             rw [hs, ha, if_neg (by omega)]; omega)
set_option maxHeartbeats 4000000 in
set_option maxRecDepth 100000 in
theorem ev_S_owedBy {r y : Int} {n nt : Nat} {M : rd_M} {Q : rd_R → rd_M → Prop} (hI : c_I M) (hm : M 3 0 = nt) (hr : 0 ≤ r ∧ r < 6) (hy : 0 ≤ y ∧ y ≤ 3) (hk : sp_ok n (c_z M)) (hQ : Q (.inl (some (rd_l (rd_sm (fun t => if M 17 t = y then sp_owe (c_d M) (c_z M) r t else 0) nt)))) (M)) : rd_G x_S_owedBy 0 [some (.ref 4), some (rd_i r), some (rd_i y), none, none, none] [] M 0 Q := by
  refine rd_lconst (pc := 0) (v := 0) d_S_owedBy_0 rfl ?_
  refine rd_lst3 (pc := 1) d_S_owedBy_1 rfl ?_
  refine rd_iconst (pc := 2) d_S_owedBy_2 ?_
  refine rd_ist5 (pc := 3) d_S_owedBy_3 rfl ?_
  exact lq_S_owedBy hI hm hr hy hk hQ _ 0 0 rfl (by omega) (by omega) rfl
theorem c_H_ins {M M' : rd_M} {n : Nat} {o : Int → Int} {p : Int} (hH : c_H M n o) (p0 : 0 ≤ p) (p1 : p ≤ n) (e12 : M' 12 = M 12) (h1 : ∀ i : Int, 0 ≤ i → i < p → M' 15 i = M 15 i) (h2 : M' 15 p = n) (h3 : ∀ i : Int, p < i → i ≤ n → M' 15 i = M 15 (i - 1)) (h4 : ∀ i : Int, p ≤ i → i < n → M 12 n < M 12 (M 15 i)) (h5 : 0 < p → M 12 (M 15 (p - 1)) ≤ M 12 n) : c_H M' (n + 1) (fun k => if k = n then p else if o k < p then o k else o k + 1) := by
  obtain ⟨g1, g2, g3⟩ := hH
  refine ⟨fun k k0 k1 => ?_, fun i i0 i1 => ?_, fun i j i0 ij j1 => ?_⟩
  · by_cases hk : k = n
    · simp only [if_pos hk]; exact ⟨by omega, by rw [h2, hk]⟩
    · have := g1 k k0 (by omega)
      simp only [if_neg hk]
      by_cases ho : o k < p
      · simp only [if_pos ho]; exact ⟨by omega, by rw [h1 _ this.1.1 ho]; exact this.2⟩
      · simp only [if_neg ho]; exact ⟨by omega, by rw [h3 _ (by omega) (by omega), show o k + 1 - 1 = o k by omega]; exact this.2⟩
  · by_cases hi : i = p
    · rw [hi, h2]; exact ⟨by omega, if_pos rfl⟩
    · by_cases hl : i < p
      · have := g2 i i0 (by omega)
        rw [h1 i i0 hl]
        refine ⟨by omega, ?_⟩
        simp only [if_neg (show ¬ M 15 i = n by omega), this.2, if_pos hl]
      · have := g2 (i - 1) (by omega) (by omega)
        rw [h3 i (by omega) (by omega)]
        refine ⟨by omega, ?_⟩
        simp only [if_neg (show ¬ M 15 (i - 1) = n by omega), this.2, if_neg (show ¬ i - 1 < p by omega)]
        omega
  · rw [e12]
    show - M 12 (M' 15 j) < - M 12 (M' 15 i) ∨ (- M 12 (M' 15 i) = - M 12 (M' 15 j) ∧ M' 15 i < M' 15 j)
    have hs : ∀ a b : Int, 0 ≤ a → a < b → b < n → - M 12 (M 15 b) < - M 12 (M 15 a) ∨ (- M 12 (M 15 a) = - M 12 (M 15 b) ∧ M 15 a < M 15 b) := fun a b a0 ab b1 => g3 a b a0 ab b1
    by_cases hi : i < p
    · rw [h1 i i0 hi]
      by_cases hj : j < p
      · rw [h1 j (by omega) hj]; exact hs i j i0 ij (by omega)
      · by_cases hjp : j = p
        · rw [hjp, h2]
          have h6 := h5 (by omega)
          have h7 := (g2 i i0 (by omega)).1
          by_cases hip : i = p - 1
          · rw [hip] at h7 ⊢; omega
          · have := hs i (p - 1) i0 (by omega) (by omega); omega
        · rw [h3 j (by omega) (by omega)]; exact hs i (j - 1) i0 (by omega) (by omega)
    · by_cases hip : i = p
      · rw [hip, h2, h3 j (by omega) (by omega)]
        have := h4 (j - 1) (by omega) (by omega)
        omega
      · rw [h3 i (by omega) (by omega), h3 j (by omega) (by omega)]; exact hs (i - 1) (j - 1) (by omega) (by omega) (by omega)
set_option maxHeartbeats 4000000 in
set_option maxRecDepth 100000 in
theorem lq_C_placeByHour {n : Nat} {o : Int → Int} {M : rd_M} {Q : rd_R → rd_M → Prop} (hI : c_I M) (hn : n < 40) (hH : c_H M n o) (hQ : ∀ M' o', (∀ q, q ≠ 15 → M' q = M q) → c_H M' (n + 1) o' → (∀ i : Int, 0 ≤ i → i < 40 → 0 ≤ M' 15 i ∧ M' 15 i < 40) → Q (.inl none) M') : ∀ (d : Nat) (p : Int) (M1 : rd_M), (p).toNat = d → (0 ≤ p) → (p ≤ n) → (∀ q, q ≠ 15 → M1 q = M q) → (∀ i : Int, 0 ≤ i → i < p → M1 15 i = M 15 i) → (∀ i : Int, p < i → i ≤ n → M1 15 i = M 15 (i - 1)) → (∀ i : Int, p ≤ i → i < n → M 12 n < M 12 (M 15 i)) → (∀ i : Int, 0 ≤ i → i < 40 → 0 ≤ M1 15 i ∧ M1 15 i < 40) → rd_G x_C_placeByHour 2 [some (.ref 2), some (rd_i n), some (rd_i p)] [] M1 0 Q := by
  intro d
  induction d using Nat.strongRecOn with
  | ind d ih =>
    intro p M1 hd p0 p1 u1 u2 u3 u4 u5
    have e12 := u1 12 (by decide)
    refine rd_ildn (pc := 2) d_C_placeByHour_2 rfl ?_
    refine rd_if_le (pc := 3) (tgt := 48) d_C_placeByHour_3 rfl ⟨by omega, by omega⟩ (fun h3 => ?_) (fun h3 => ?_)
    · skip
      refine rd_aldn (pc := 48) d_C_placeByHour_48 rfl ?_
      refine rd_getr (pc := 49) d_C_placeByHour_49 fl_C_28 rfl rfl ?_
      refine rd_ildn (pc := 52) d_C_placeByHour_52 rfl ?_
      refine rd_ildn (pc := 53) d_C_placeByHour_53 rfl ?_
      refine rd_iast (pc := 54) d_C_placeByHour_54 rfl (by omega) (by omega) ?_
      exact rd_vret (pc := 55) d_C_placeByHour_55 rfl (Nat.le_of_ble_eq_true rfl) (hQ _ _ (fun q h => by rw [rd_up_ne h]; exact u1 q h) (c_H_ins hH p0 p1 (by rw [rd_up_ne (by decide)]; exact e12) (fun i a b => by rw [rd_up_at, if_neg (by omega)]; exact u2 i a b) rd_up_hit (fun i a b => by rw [rd_up_at, if_neg (by omega)]; exact u3 i a b) u4 (by omega)) (fun i a b => by rw [rd_up_at]; by_cases hi : i = p; (rw [if_pos hi]; omega); (rw [if_neg hi]; exact u5 i a b)))
    · skip
      have e15 := u2 (p - 1) (by omega) (by omega)
      obtain ⟨gb, _⟩ := hH.2.1 (p - 1) (by omega) (by omega)
      obtain ⟨_, _, gh, _⟩ := hI.claim gb.1 (by omega)
      obtain ⟨_, _, nh, _⟩ := hI.claim (k := n) (by omega) (by omega)
      refine rd_aldn (pc := 6) d_C_placeByHour_6 rfl ?_
      refine rd_getr (pc := 7) d_C_placeByHour_7 fl_C_18 rfl rfl ?_
      refine rd_aldn (pc := 10) d_C_placeByHour_10 rfl ?_
      refine rd_getr (pc := 11) d_C_placeByHour_11 fl_C_28 rfl rfl ?_
      refine rd_ildn (pc := 14) d_C_placeByHour_14 rfl ?_
      refine rd_iconst (pc := 15) d_C_placeByHour_15 ?_
      refine rd_isub (pc := 16) d_C_placeByHour_16 ?_
      refine rd_iald (pc := 17) d_C_placeByHour_17 rfl (by omega) (by omega) ?_
      first | simp (decide := true) only [rd_up_app, rd_up_hit, e12, e15] | simp (decide := true) only [rd_up_app, rd_up_hit, e12] | skip
      refine rd_iald (pc := 18) d_C_placeByHour_18 rfl (by omega) (by omega) ?_
      first | simp (decide := true) only [rd_up_app, rd_up_hit, e12, e15] | simp (decide := true) only [rd_up_app, rd_up_hit, e12] | skip
      refine rd_aldn (pc := 19) d_C_placeByHour_19 rfl ?_
      refine rd_getr (pc := 20) d_C_placeByHour_20 fl_C_18 rfl rfl ?_
      refine rd_ildn (pc := 23) d_C_placeByHour_23 rfl ?_
      refine rd_iald (pc := 24) d_C_placeByHour_24 rfl (by omega) (by omega) ?_
      first | simp (decide := true) only [rd_up_app, rd_up_hit, e12, e15] | simp (decide := true) only [rd_up_app, rd_up_hit, e12] | skip
      refine rd_icmp_le (pc := 25) (tgt := 48) d_C_placeByHour_25 rfl ⟨by omega, by omega⟩ ⟨by omega, by omega⟩ (fun h25 => ?_) (fun h25 => ?_)
      · skip
        refine rd_aldn (pc := 48) d_C_placeByHour_48 rfl ?_
        refine rd_getr (pc := 49) d_C_placeByHour_49 fl_C_28 rfl rfl ?_
        refine rd_ildn (pc := 52) d_C_placeByHour_52 rfl ?_
        refine rd_ildn (pc := 53) d_C_placeByHour_53 rfl ?_
        refine rd_iast (pc := 54) d_C_placeByHour_54 rfl (by omega) (by omega) ?_
        exact rd_vret (pc := 55) d_C_placeByHour_55 rfl (Nat.le_of_ble_eq_true rfl) (hQ _ _ (fun q h => by rw [rd_up_ne h]; exact u1 q h) (c_H_ins hH p0 p1 (by rw [rd_up_ne (by decide)]; exact e12) (fun i a b => by rw [rd_up_at, if_neg (by omega)]; exact u2 i a b) rd_up_hit (fun i a b => by rw [rd_up_at, if_neg (by omega)]; exact u3 i a b) u4 (by omega)) (fun i a b => by rw [rd_up_at]; by_cases hi : i = p; (rw [if_pos hi]; omega); (rw [if_neg hi]; exact u5 i a b)))
      · skip
        refine rd_aldn (pc := 28) d_C_placeByHour_28 rfl ?_
        refine rd_getr (pc := 29) d_C_placeByHour_29 fl_C_28 rfl rfl ?_
        refine rd_ildn (pc := 32) d_C_placeByHour_32 rfl ?_
        refine rd_aldn (pc := 33) d_C_placeByHour_33 rfl ?_
        refine rd_getr (pc := 34) d_C_placeByHour_34 fl_C_28 rfl rfl ?_
        refine rd_ildn (pc := 37) d_C_placeByHour_37 rfl ?_
        refine rd_iconst (pc := 38) d_C_placeByHour_38 ?_
        refine rd_isub (pc := 39) d_C_placeByHour_39 ?_
        refine rd_iald (pc := 40) d_C_placeByHour_40 rfl (by omega) (by omega) ?_
        first | simp (decide := true) only [rd_up_app, rd_up_hit, e12, e15] | simp (decide := true) only [rd_up_app, rd_up_hit, e12] | skip
        refine rd_iast (pc := 41) d_C_placeByHour_41 rfl (by omega) (by omega) ?_
        refine rd_iinc2 (pc := 42) d_C_placeByHour_42 rfl ?_
        refine rd_goto (pc := 45) (tgt := 2) d_C_placeByHour_45 rfl ?_
        refine ih _ (by omega) (p + -1) _ rfl (by omega) (by omega) (fun q h => by rw [rd_up_ne h]; exact u1 q h) ?_ ?_ ?_ ?_
        · intro i a b; rw [rd_up_at, if_neg (by omega)]; exact u2 i a (by omega)
        · intro i a b; rw [rd_up_at]; by_cases hi : i = p; (rw [if_pos hi, hi]); (rw [if_neg hi]; exact u3 i (by omega) b)
        · intro i a b; by_cases hi : i = p - 1; (rw [hi]; omega); (exact u4 i (by omega) b)
        · intro i a b; rw [rd_up_at]; by_cases hi : i = p; (rw [if_pos hi]; omega); (rw [if_neg hi]; exact u5 i a b)
set_option maxHeartbeats 4000000 in
set_option maxRecDepth 100000 in
theorem ev_C_placeByHour {n : Nat} {o : Int → Int} {M : rd_M} {Q : rd_R → rd_M → Prop} (hI : c_I M) (hn : n < 40) (hH : c_H M n o) (hQ : ∀ M' o', (∀ q, q ≠ 15 → M' q = M q) → c_H M' (n + 1) o' → (∀ i : Int, 0 ≤ i → i < 40 → 0 ≤ M' 15 i ∧ M' 15 i < 40) → Q (.inl none) M') : rd_G x_C_placeByHour 0 [some (.ref 2), some (rd_i n), none] [] M 0 Q := by
  refine rd_ildn (pc := 0) d_C_placeByHour_0 rfl ?_
  refine rd_ist2 (pc := 1) d_C_placeByHour_1 rfl ?_
  exact lq_C_placeByHour hI hn hH hQ _ n M rfl (by omega) (by omega) (fun _ _ => rfl) (fun _ _ _ => rfl) (fun i a b => by omega) (fun i a b => by omega) (fun i a b => (hI.claim a b).2.2.2.2.2)
abbrev sp_terms (k a b c d : Int) : Prop := (k = 0 ∧ (1 ≤ a ∧ a ≤ 1000000) ∧ (1 ≤ b ∧ b ≤ 1000000000) ∧ c = 0 ∧ d = 0) ∨ (k = 1 ∧ (1 ≤ a ∧ a ≤ 1000000000) ∧ (1 ≤ b ∧ b ≤ 20) ∧ c = 0 ∧ d = 0) ∨ ((k = 2 ∨ k = 3) ∧ (0 ≤ a ∧ a ≤ 1000000000) ∧ (1 ≤ b ∧ b ≤ 1000000000) ∧ (0 ≤ c ∧ c < 6) ∧ (0 ≤ d ∧ d ≤ 1000000000)) ∨ (k = 4 ∧ (0 ≤ a ∧ a ≤ 1000000000) ∧ (1 ≤ b ∧ b ≤ 1000000000) ∧ c = 0 ∧ d = 0)
set_option maxHeartbeats 4000000 in
set_option maxRecDepth 100000 in
theorem ev_D_areTerms {k a b c d : Int} {M : rd_M} {Q : rd_R → rd_M → Prop} (hk : 0 ≤ k ∧ k ≤ 4) (ha : rd_I a) (hb : rd_I b) (hc : rd_I c) (hd : rd_I d) (hT : sp_terms k a b c d → Q (.inl (some (rd_i 1))) M) (hF : ¬ (sp_terms k a b c d) → Q (.inl (some (rd_i 0))) M) : rd_G x_D_areTerms 0 [some (rd_i k), some (rd_i a), some (rd_i b), some (rd_i c), some (rd_i d)] [] M 0 Q := by
  refine rd_ildn (pc := 0) d_D_areTerms_0 rfl ?_
  by_cases q1_0 : k = 0
  · skip
    refine rd_tswI (pc := 1) (c := 0) (off := 31) (tgt := 32) d_D_areTerms_1 q1_0 rfl (by decide) (by decide) rfl rfl ?_
    refine rd_ildn (pc := 32) d_D_areTerms_32 rfl ?_
    refine rd_ldc (pc := 33) (v := 1000000) d_D_areTerms_33 kc_D_110 ?_
    refine rd_callSi (pc := 35) (n' := 0) [_, _] d_D_areTerms_35 ml_D_52 (Nat.le_of_ble_eq_true rfl) (Nat.le_of_ble_eq_true rfl) (Nat.le_of_ble_eq_true rfl) rfl rfl rfl (Nat.le_of_ble_eq_true rfl) (Nat.le_of_ble_eq_true rfl) ?_
    refine ev_D_isFromOne ⟨by omega, by omega⟩ ⟨by omega, by omega⟩ (fun c35 => ⟨_, rfl, ?_⟩) (fun c35 => ⟨_, rfl, ?_⟩)
    · skip
      refine rd_if_eq (pc := 38) (tgt := 63) d_D_areTerms_38 rfl ⟨by omega, by omega⟩ (fun h38 => ?_) (fun h38 => ?_)
      · exact absurd h38 (by decide)
      · skip
        refine rd_ildn (pc := 41) d_D_areTerms_41 rfl ?_
        refine rd_ldc (pc := 42) (v := 1000000000) d_D_areTerms_42 kc_D_51 ?_
        refine rd_callSi (pc := 44) (n' := 0) [_, _] d_D_areTerms_44 ml_D_52 (Nat.le_of_ble_eq_true rfl) (Nat.le_of_ble_eq_true rfl) (Nat.le_of_ble_eq_true rfl) rfl rfl rfl (Nat.le_of_ble_eq_true rfl) (Nat.le_of_ble_eq_true rfl) ?_
        refine ev_D_isFromOne ⟨by omega, by omega⟩ ⟨by omega, by omega⟩ (fun c44 => ⟨_, rfl, ?_⟩) (fun c44 => ⟨_, rfl, ?_⟩)
        · skip
          refine rd_if_eq (pc := 47) (tgt := 63) d_D_areTerms_47 rfl ⟨by omega, by omega⟩ (fun h47 => ?_) (fun h47 => ?_)
          · exact absurd h47 (by decide)
          · skip
            refine rd_ildn (pc := 50) d_D_areTerms_50 rfl ?_
            refine rd_if_ne (pc := 51) (tgt := 63) d_D_areTerms_51 rfl ⟨by omega, by omega⟩ (fun h51 => ?_) (fun h51 => ?_)
            · skip
              refine rd_iconst (pc := 63) d_D_areTerms_63 ?_
              exact rd_zret (pc := 64) d_D_areTerms_64 rfl (Nat.le_of_ble_eq_true rfl) (by omega) (by first | exact hT (by omega) | exact hF (by omega))
            · skip
              refine rd_ild (pc := 54) d_D_areTerms_54 rfl ?_
              refine rd_if_ne (pc := 56) (tgt := 63) d_D_areTerms_56 rfl ⟨by omega, by omega⟩ (fun h56 => ?_) (fun h56 => ?_)
              · skip
                refine rd_iconst (pc := 63) d_D_areTerms_63 ?_
                exact rd_zret (pc := 64) d_D_areTerms_64 rfl (Nat.le_of_ble_eq_true rfl) (by omega) (by first | exact hT (by omega) | exact hF (by omega))
              · skip
                refine rd_iconst (pc := 59) d_D_areTerms_59 ?_
                refine rd_goto (pc := 60) (tgt := 64) d_D_areTerms_60 rfl ?_
                exact rd_zret (pc := 64) d_D_areTerms_64 rfl (Nat.le_of_ble_eq_true rfl) (by omega) (by first | exact hT (by omega) | exact hF (by omega))
        · skip
          refine rd_if_eq (pc := 47) (tgt := 63) d_D_areTerms_47 rfl ⟨by omega, by omega⟩ (fun h47 => ?_) (fun h47 => ?_)
          · skip
            refine rd_iconst (pc := 63) d_D_areTerms_63 ?_
            exact rd_zret (pc := 64) d_D_areTerms_64 rfl (Nat.le_of_ble_eq_true rfl) (by omega) (by first | exact hT (by omega) | exact hF (by omega))
          · exact absurd h47 (by decide)
    · skip
      refine rd_if_eq (pc := 38) (tgt := 63) d_D_areTerms_38 rfl ⟨by omega, by omega⟩ (fun h38 => ?_) (fun h38 => ?_)
      · skip
        refine rd_iconst (pc := 63) d_D_areTerms_63 ?_
        exact rd_zret (pc := 64) d_D_areTerms_64 rfl (Nat.le_of_ble_eq_true rfl) (by omega) (by first | exact hT (by omega) | exact hF (by omega))
      · exact absurd h38 (by decide)
  by_cases q1_1 : k = 1
  · skip
    refine rd_tswI (pc := 1) (c := 1) (off := 64) (tgt := 65) d_D_areTerms_1 q1_1 rfl (by decide) (by decide) rfl rfl ?_
    refine rd_ildn (pc := 65) d_D_areTerms_65 rfl ?_
    refine rd_ldc (pc := 66) (v := 1000000000) d_D_areTerms_66 kc_D_51 ?_
    refine rd_callSi (pc := 68) (n' := 0) [_, _] d_D_areTerms_68 ml_D_52 (Nat.le_of_ble_eq_true rfl) (Nat.le_of_ble_eq_true rfl) (Nat.le_of_ble_eq_true rfl) rfl rfl rfl (Nat.le_of_ble_eq_true rfl) (Nat.le_of_ble_eq_true rfl) ?_
    refine ev_D_isFromOne ⟨by omega, by omega⟩ ⟨by omega, by omega⟩ (fun c68 => ⟨_, rfl, ?_⟩) (fun c68 => ⟨_, rfl, ?_⟩)
    · skip
      refine rd_if_eq (pc := 71) (tgt := 96) d_D_areTerms_71 rfl ⟨by omega, by omega⟩ (fun h71 => ?_) (fun h71 => ?_)
      · exact absurd h71 (by decide)
      · skip
        refine rd_ildn (pc := 74) d_D_areTerms_74 rfl ?_
        refine rd_bipush (pc := 75) d_D_areTerms_75 rfl ?_
        refine rd_callSi (pc := 77) (n' := 0) [_, _] d_D_areTerms_77 ml_D_52 (Nat.le_of_ble_eq_true rfl) (Nat.le_of_ble_eq_true rfl) (Nat.le_of_ble_eq_true rfl) rfl rfl rfl (Nat.le_of_ble_eq_true rfl) (Nat.le_of_ble_eq_true rfl) ?_
        refine ev_D_isFromOne ⟨by omega, by omega⟩ ⟨by omega, by omega⟩ (fun c77 => ⟨_, rfl, ?_⟩) (fun c77 => ⟨_, rfl, ?_⟩)
        · skip
          refine rd_if_eq (pc := 80) (tgt := 96) d_D_areTerms_80 rfl ⟨by omega, by omega⟩ (fun h80 => ?_) (fun h80 => ?_)
          · exact absurd h80 (by decide)
          · skip
            refine rd_ildn (pc := 83) d_D_areTerms_83 rfl ?_
            refine rd_if_ne (pc := 84) (tgt := 96) d_D_areTerms_84 rfl ⟨by omega, by omega⟩ (fun h84 => ?_) (fun h84 => ?_)
            · skip
              refine rd_iconst (pc := 96) d_D_areTerms_96 ?_
              exact rd_zret (pc := 97) d_D_areTerms_97 rfl (Nat.le_of_ble_eq_true rfl) (by omega) (by first | exact hT (by omega) | exact hF (by omega))
            · skip
              refine rd_ild (pc := 87) d_D_areTerms_87 rfl ?_
              refine rd_if_ne (pc := 89) (tgt := 96) d_D_areTerms_89 rfl ⟨by omega, by omega⟩ (fun h89 => ?_) (fun h89 => ?_)
              · skip
                refine rd_iconst (pc := 96) d_D_areTerms_96 ?_
                exact rd_zret (pc := 97) d_D_areTerms_97 rfl (Nat.le_of_ble_eq_true rfl) (by omega) (by first | exact hT (by omega) | exact hF (by omega))
              · skip
                refine rd_iconst (pc := 92) d_D_areTerms_92 ?_
                refine rd_goto (pc := 93) (tgt := 97) d_D_areTerms_93 rfl ?_
                exact rd_zret (pc := 97) d_D_areTerms_97 rfl (Nat.le_of_ble_eq_true rfl) (by omega) (by first | exact hT (by omega) | exact hF (by omega))
        · skip
          refine rd_if_eq (pc := 80) (tgt := 96) d_D_areTerms_80 rfl ⟨by omega, by omega⟩ (fun h80 => ?_) (fun h80 => ?_)
          · skip
            refine rd_iconst (pc := 96) d_D_areTerms_96 ?_
            exact rd_zret (pc := 97) d_D_areTerms_97 rfl (Nat.le_of_ble_eq_true rfl) (by omega) (by first | exact hT (by omega) | exact hF (by omega))
          · exact absurd h80 (by decide)
    · skip
      refine rd_if_eq (pc := 71) (tgt := 96) d_D_areTerms_71 rfl ⟨by omega, by omega⟩ (fun h71 => ?_) (fun h71 => ?_)
      · skip
        refine rd_iconst (pc := 96) d_D_areTerms_96 ?_
        exact rd_zret (pc := 97) d_D_areTerms_97 rfl (Nat.le_of_ble_eq_true rfl) (by omega) (by first | exact hT (by omega) | exact hF (by omega))
      · exact absurd h71 (by decide)
  by_cases q1_2 : k = 2
  · skip
    refine rd_tswI (pc := 1) (c := 2) (off := 97) (tgt := 98) d_D_areTerms_1 q1_2 rfl (by decide) (by decide) rfl rfl ?_
    refine rd_ildn (pc := 98) d_D_areTerms_98 rfl ?_
    refine rd_callSi (pc := 99) (n' := 0) [_] d_D_areTerms_99 ml_D_78 (Nat.le_of_ble_eq_true rfl) (Nat.le_of_ble_eq_true rfl) (Nat.le_of_ble_eq_true rfl) rfl rfl rfl (Nat.le_of_ble_eq_true rfl) (Nat.le_of_ble_eq_true rfl) ?_
    refine ev_D_isAmount ⟨by omega, by omega⟩ (fun c99 => ⟨_, rfl, ?_⟩) (fun c99 => ⟨_, rfl, ?_⟩)
    · skip
      refine rd_if_eq (pc := 102) (tgt := 135) d_D_areTerms_102 rfl ⟨by omega, by omega⟩ (fun h102 => ?_) (fun h102 => ?_)
      · exact absurd h102 (by decide)
      · skip
        refine rd_ildn (pc := 105) d_D_areTerms_105 rfl ?_
        refine rd_ldc (pc := 106) (v := 1000000000) d_D_areTerms_106 kc_D_51 ?_
        refine rd_callSi (pc := 108) (n' := 0) [_, _] d_D_areTerms_108 ml_D_52 (Nat.le_of_ble_eq_true rfl) (Nat.le_of_ble_eq_true rfl) (Nat.le_of_ble_eq_true rfl) rfl rfl rfl (Nat.le_of_ble_eq_true rfl) (Nat.le_of_ble_eq_true rfl) ?_
        refine ev_D_isFromOne ⟨by omega, by omega⟩ ⟨by omega, by omega⟩ (fun c108 => ⟨_, rfl, ?_⟩) (fun c108 => ⟨_, rfl, ?_⟩)
        · skip
          refine rd_if_eq (pc := 111) (tgt := 135) d_D_areTerms_111 rfl ⟨by omega, by omega⟩ (fun h111 => ?_) (fun h111 => ?_)
          · exact absurd h111 (by decide)
          · skip
            refine rd_ildn (pc := 114) d_D_areTerms_114 rfl ?_
            refine rd_bipush (pc := 115) d_D_areTerms_115 rfl ?_
            refine rd_callSi (pc := 117) (n' := 0) [_, _] d_D_areTerms_117 ml_D_47 (Nat.le_of_ble_eq_true rfl) (Nat.le_of_ble_eq_true rfl) (Nat.le_of_ble_eq_true rfl) rfl rfl rfl (Nat.le_of_ble_eq_true rfl) (Nat.le_of_ble_eq_true rfl) ?_
            refine ev_D_isBelow ⟨by omega, by omega⟩ ⟨by omega, by omega⟩ (fun c117 => ⟨_, rfl, ?_⟩) (fun c117 => ⟨_, rfl, ?_⟩)
            · skip
              refine rd_if_eq (pc := 120) (tgt := 135) d_D_areTerms_120 rfl ⟨by omega, by omega⟩ (fun h120 => ?_) (fun h120 => ?_)
              · exact absurd h120 (by decide)
              · skip
                refine rd_ild (pc := 123) d_D_areTerms_123 rfl ?_
                refine rd_callSi (pc := 125) (n' := 0) [_] d_D_areTerms_125 ml_D_78 (Nat.le_of_ble_eq_true rfl) (Nat.le_of_ble_eq_true rfl) (Nat.le_of_ble_eq_true rfl) rfl rfl rfl (Nat.le_of_ble_eq_true rfl) (Nat.le_of_ble_eq_true rfl) ?_
                refine ev_D_isAmount ⟨by omega, by omega⟩ (fun c125 => ⟨_, rfl, ?_⟩) (fun c125 => ⟨_, rfl, ?_⟩)
                · skip
                  refine rd_if_eq (pc := 128) (tgt := 135) d_D_areTerms_128 rfl ⟨by omega, by omega⟩ (fun h128 => ?_) (fun h128 => ?_)
                  · exact absurd h128 (by decide)
                  · skip
                    refine rd_iconst (pc := 131) d_D_areTerms_131 ?_
                    refine rd_goto (pc := 132) (tgt := 136) d_D_areTerms_132 rfl ?_
                    exact rd_zret (pc := 136) d_D_areTerms_136 rfl (Nat.le_of_ble_eq_true rfl) (by omega) (by first | exact hT (by omega) | exact hF (by omega))
                · skip
                  refine rd_if_eq (pc := 128) (tgt := 135) d_D_areTerms_128 rfl ⟨by omega, by omega⟩ (fun h128 => ?_) (fun h128 => ?_)
                  · skip
                    refine rd_iconst (pc := 135) d_D_areTerms_135 ?_
                    exact rd_zret (pc := 136) d_D_areTerms_136 rfl (Nat.le_of_ble_eq_true rfl) (by omega) (by first | exact hT (by omega) | exact hF (by omega))
                  · exact absurd h128 (by decide)
            · skip
              refine rd_if_eq (pc := 120) (tgt := 135) d_D_areTerms_120 rfl ⟨by omega, by omega⟩ (fun h120 => ?_) (fun h120 => ?_)
              · skip
                refine rd_iconst (pc := 135) d_D_areTerms_135 ?_
                exact rd_zret (pc := 136) d_D_areTerms_136 rfl (Nat.le_of_ble_eq_true rfl) (by omega) (by first | exact hT (by omega) | exact hF (by omega))
              · exact absurd h120 (by decide)
        · skip
          refine rd_if_eq (pc := 111) (tgt := 135) d_D_areTerms_111 rfl ⟨by omega, by omega⟩ (fun h111 => ?_) (fun h111 => ?_)
          · skip
            refine rd_iconst (pc := 135) d_D_areTerms_135 ?_
            exact rd_zret (pc := 136) d_D_areTerms_136 rfl (Nat.le_of_ble_eq_true rfl) (by omega) (by first | exact hT (by omega) | exact hF (by omega))
          · exact absurd h111 (by decide)
    · skip
      refine rd_if_eq (pc := 102) (tgt := 135) d_D_areTerms_102 rfl ⟨by omega, by omega⟩ (fun h102 => ?_) (fun h102 => ?_)
      · skip
        refine rd_iconst (pc := 135) d_D_areTerms_135 ?_
        exact rd_zret (pc := 136) d_D_areTerms_136 rfl (Nat.le_of_ble_eq_true rfl) (by omega) (by first | exact hT (by omega) | exact hF (by omega))
      · exact absurd h102 (by decide)
  by_cases q1_3 : k = 3
  · skip
    refine rd_tswI (pc := 1) (c := 3) (off := 97) (tgt := 98) d_D_areTerms_1 q1_3 rfl (by decide) (by decide) rfl rfl ?_
    refine rd_ildn (pc := 98) d_D_areTerms_98 rfl ?_
    refine rd_callSi (pc := 99) (n' := 0) [_] d_D_areTerms_99 ml_D_78 (Nat.le_of_ble_eq_true rfl) (Nat.le_of_ble_eq_true rfl) (Nat.le_of_ble_eq_true rfl) rfl rfl rfl (Nat.le_of_ble_eq_true rfl) (Nat.le_of_ble_eq_true rfl) ?_
    refine ev_D_isAmount ⟨by omega, by omega⟩ (fun c99 => ⟨_, rfl, ?_⟩) (fun c99 => ⟨_, rfl, ?_⟩)
    · skip
      refine rd_if_eq (pc := 102) (tgt := 135) d_D_areTerms_102 rfl ⟨by omega, by omega⟩ (fun h102 => ?_) (fun h102 => ?_)
      · exact absurd h102 (by decide)
      · skip
        refine rd_ildn (pc := 105) d_D_areTerms_105 rfl ?_
        refine rd_ldc (pc := 106) (v := 1000000000) d_D_areTerms_106 kc_D_51 ?_
        refine rd_callSi (pc := 108) (n' := 0) [_, _] d_D_areTerms_108 ml_D_52 (Nat.le_of_ble_eq_true rfl) (Nat.le_of_ble_eq_true rfl) (Nat.le_of_ble_eq_true rfl) rfl rfl rfl (Nat.le_of_ble_eq_true rfl) (Nat.le_of_ble_eq_true rfl) ?_
        refine ev_D_isFromOne ⟨by omega, by omega⟩ ⟨by omega, by omega⟩ (fun c108 => ⟨_, rfl, ?_⟩) (fun c108 => ⟨_, rfl, ?_⟩)
        · skip
          refine rd_if_eq (pc := 111) (tgt := 135) d_D_areTerms_111 rfl ⟨by omega, by omega⟩ (fun h111 => ?_) (fun h111 => ?_)
          · exact absurd h111 (by decide)
          · skip
            refine rd_ildn (pc := 114) d_D_areTerms_114 rfl ?_
            refine rd_bipush (pc := 115) d_D_areTerms_115 rfl ?_
            refine rd_callSi (pc := 117) (n' := 0) [_, _] d_D_areTerms_117 ml_D_47 (Nat.le_of_ble_eq_true rfl) (Nat.le_of_ble_eq_true rfl) (Nat.le_of_ble_eq_true rfl) rfl rfl rfl (Nat.le_of_ble_eq_true rfl) (Nat.le_of_ble_eq_true rfl) ?_
            refine ev_D_isBelow ⟨by omega, by omega⟩ ⟨by omega, by omega⟩ (fun c117 => ⟨_, rfl, ?_⟩) (fun c117 => ⟨_, rfl, ?_⟩)
            · skip
              refine rd_if_eq (pc := 120) (tgt := 135) d_D_areTerms_120 rfl ⟨by omega, by omega⟩ (fun h120 => ?_) (fun h120 => ?_)
              · exact absurd h120 (by decide)
              · skip
                refine rd_ild (pc := 123) d_D_areTerms_123 rfl ?_
                refine rd_callSi (pc := 125) (n' := 0) [_] d_D_areTerms_125 ml_D_78 (Nat.le_of_ble_eq_true rfl) (Nat.le_of_ble_eq_true rfl) (Nat.le_of_ble_eq_true rfl) rfl rfl rfl (Nat.le_of_ble_eq_true rfl) (Nat.le_of_ble_eq_true rfl) ?_
                refine ev_D_isAmount ⟨by omega, by omega⟩ (fun c125 => ⟨_, rfl, ?_⟩) (fun c125 => ⟨_, rfl, ?_⟩)
                · skip
                  refine rd_if_eq (pc := 128) (tgt := 135) d_D_areTerms_128 rfl ⟨by omega, by omega⟩ (fun h128 => ?_) (fun h128 => ?_)
                  · exact absurd h128 (by decide)
                  · skip
                    refine rd_iconst (pc := 131) d_D_areTerms_131 ?_
                    refine rd_goto (pc := 132) (tgt := 136) d_D_areTerms_132 rfl ?_
                    exact rd_zret (pc := 136) d_D_areTerms_136 rfl (Nat.le_of_ble_eq_true rfl) (by omega) (by first | exact hT (by omega) | exact hF (by omega))
                · skip
                  refine rd_if_eq (pc := 128) (tgt := 135) d_D_areTerms_128 rfl ⟨by omega, by omega⟩ (fun h128 => ?_) (fun h128 => ?_)
                  · skip
                    refine rd_iconst (pc := 135) d_D_areTerms_135 ?_
                    exact rd_zret (pc := 136) d_D_areTerms_136 rfl (Nat.le_of_ble_eq_true rfl) (by omega) (by first | exact hT (by omega) | exact hF (by omega))
                  · exact absurd h128 (by decide)
            · skip
              refine rd_if_eq (pc := 120) (tgt := 135) d_D_areTerms_120 rfl ⟨by omega, by omega⟩ (fun h120 => ?_) (fun h120 => ?_)
              · skip
                refine rd_iconst (pc := 135) d_D_areTerms_135 ?_
                exact rd_zret (pc := 136) d_D_areTerms_136 rfl (Nat.le_of_ble_eq_true rfl) (by omega) (by first | exact hT (by omega) | exact hF (by omega))
              · exact absurd h120 (by decide)
        · skip
          refine rd_if_eq (pc := 111) (tgt := 135) d_D_areTerms_111 rfl ⟨by omega, by omega⟩ (fun h111 => ?_) (fun h111 => ?_)
          · skip
            refine rd_iconst (pc := 135) d_D_areTerms_135 ?_
            exact rd_zret (pc := 136) d_D_areTerms_136 rfl (Nat.le_of_ble_eq_true rfl) (by omega) (by first | exact hT (by omega) | exact hF (by omega))
          · exact absurd h111 (by decide)
    · skip
      refine rd_if_eq (pc := 102) (tgt := 135) d_D_areTerms_102 rfl ⟨by omega, by omega⟩ (fun h102 => ?_) (fun h102 => ?_)
      · skip
        refine rd_iconst (pc := 135) d_D_areTerms_135 ?_
        exact rd_zret (pc := 136) d_D_areTerms_136 rfl (Nat.le_of_ble_eq_true rfl) (by omega) (by first | exact hT (by omega) | exact hF (by omega))
      · exact absurd h102 (by decide)
  refine rd_tswO (pc := 1) (tgt := 137) d_D_areTerms_1 ⟨by omega, by omega⟩ (by omega) rfl ?_
  refine rd_ildn (pc := 137) d_D_areTerms_137 rfl ?_
  refine rd_callSi (pc := 138) (n' := 0) [_] d_D_areTerms_138 ml_D_78 (Nat.le_of_ble_eq_true rfl) (Nat.le_of_ble_eq_true rfl) (Nat.le_of_ble_eq_true rfl) rfl rfl rfl (Nat.le_of_ble_eq_true rfl) (Nat.le_of_ble_eq_true rfl) ?_
  refine ev_D_isAmount ⟨by omega, by omega⟩ (fun c138 => ⟨_, rfl, ?_⟩) (fun c138 => ⟨_, rfl, ?_⟩)
  · skip
    refine rd_if_eq (pc := 141) (tgt := 166) d_D_areTerms_141 rfl ⟨by omega, by omega⟩ (fun h141 => ?_) (fun h141 => ?_)
    · exact absurd h141 (by decide)
    · skip
      refine rd_ildn (pc := 144) d_D_areTerms_144 rfl ?_
      refine rd_ldc (pc := 145) (v := 1000000000) d_D_areTerms_145 kc_D_51 ?_
      refine rd_callSi (pc := 147) (n' := 0) [_, _] d_D_areTerms_147 ml_D_52 (Nat.le_of_ble_eq_true rfl) (Nat.le_of_ble_eq_true rfl) (Nat.le_of_ble_eq_true rfl) rfl rfl rfl (Nat.le_of_ble_eq_true rfl) (Nat.le_of_ble_eq_true rfl) ?_
      refine ev_D_isFromOne ⟨by omega, by omega⟩ ⟨by omega, by omega⟩ (fun c147 => ⟨_, rfl, ?_⟩) (fun c147 => ⟨_, rfl, ?_⟩)
      · skip
        refine rd_if_eq (pc := 150) (tgt := 166) d_D_areTerms_150 rfl ⟨by omega, by omega⟩ (fun h150 => ?_) (fun h150 => ?_)
        · exact absurd h150 (by decide)
        · skip
          refine rd_ildn (pc := 153) d_D_areTerms_153 rfl ?_
          refine rd_if_ne (pc := 154) (tgt := 166) d_D_areTerms_154 rfl ⟨by omega, by omega⟩ (fun h154 => ?_) (fun h154 => ?_)
          · skip
            refine rd_iconst (pc := 166) d_D_areTerms_166 ?_
            exact rd_zret (pc := 167) d_D_areTerms_167 rfl (Nat.le_of_ble_eq_true rfl) (by omega) (by first | exact hT (by omega) | exact hF (by omega))
          · skip
            refine rd_ild (pc := 157) d_D_areTerms_157 rfl ?_
            refine rd_if_ne (pc := 159) (tgt := 166) d_D_areTerms_159 rfl ⟨by omega, by omega⟩ (fun h159 => ?_) (fun h159 => ?_)
            · skip
              refine rd_iconst (pc := 166) d_D_areTerms_166 ?_
              exact rd_zret (pc := 167) d_D_areTerms_167 rfl (Nat.le_of_ble_eq_true rfl) (by omega) (by first | exact hT (by omega) | exact hF (by omega))
            · skip
              refine rd_iconst (pc := 162) d_D_areTerms_162 ?_
              refine rd_goto (pc := 163) (tgt := 167) d_D_areTerms_163 rfl ?_
              exact rd_zret (pc := 167) d_D_areTerms_167 rfl (Nat.le_of_ble_eq_true rfl) (by omega) (by first | exact hT (by omega) | exact hF (by omega))
      · skip
        refine rd_if_eq (pc := 150) (tgt := 166) d_D_areTerms_150 rfl ⟨by omega, by omega⟩ (fun h150 => ?_) (fun h150 => ?_)
        · skip
          refine rd_iconst (pc := 166) d_D_areTerms_166 ?_
          exact rd_zret (pc := 167) d_D_areTerms_167 rfl (Nat.le_of_ble_eq_true rfl) (by omega) (by first | exact hT (by omega) | exact hF (by omega))
        · exact absurd h150 (by decide)
  · skip
    refine rd_if_eq (pc := 141) (tgt := 166) d_D_areTerms_141 rfl ⟨by omega, by omega⟩ (fun h141 => ?_) (fun h141 => ?_)
    · skip
      refine rd_iconst (pc := 166) d_D_areTerms_166 ?_
      exact rd_zret (pc := 167) d_D_areTerms_167 rfl (Nat.le_of_ble_eq_true rfl) (by omega) (by first | exact hT (by omega) | exact hF (by omega))
    · exact absurd h141 (by decide)
set_option maxHeartbeats 4000000 in
set_option maxRecDepth 100000 in
theorem ev_D_yearOfClaim {k : Int} {M : rd_M} {Q : rd_R → rd_M → Prop} (hI : c_I M) (k0 : 0 ≤ k) (k1 : k < 40) (hQ : Q (.inl (some (rd_i (M 9 (M 10 k))))) (M)) : rd_G x_D_yearOfClaim 0 [some (.ref 0), some (rd_i k)] [] M 0 Q := by
  obtain ⟨hr, _⟩ := hI.claim k0 k1
  obtain ⟨_, _, hy⟩ := hI.risk hr.1 hr.2
  refine rd_aldn (pc := 0) d_D_yearOfClaim_0 rfl ?_
  refine rd_getr (pc := 1) d_D_yearOfClaim_1 fl_D_10 rfl rfl ?_
  refine rd_getr (pc := 4) d_D_yearOfClaim_4 fl_D_75 rfl rfl ?_
  refine rd_aldn (pc := 7) d_D_yearOfClaim_7 rfl ?_
  refine rd_getr (pc := 8) d_D_yearOfClaim_8 fl_D_19 rfl rfl ?_
  refine rd_getr (pc := 11) d_D_yearOfClaim_11 fl_D_224 rfl rfl ?_
  refine rd_ildn (pc := 14) d_D_yearOfClaim_14 rfl ?_
  refine rd_iald (pc := 15) d_D_yearOfClaim_15 rfl (by omega) (by omega) ?_
  refine rd_iald (pc := 16) d_D_yearOfClaim_16 rfl (by omega) (by omega) ?_
  exact rd_iret (pc := 17) d_D_yearOfClaim_17 rfl (Nat.le_of_ble_eq_true rfl) (hQ)

/-! loops of treaties, and what fills arrays -/
def rd_fill (M : rd_M) (q : Nat) (len v : Int) : rd_M := fun p j => if p = q ∧ 0 ≤ j ∧ j < len then v else M p j
theorem rd_fill_0 {M : rd_M} {q : Nat} {v : Int} : rd_fill M q 0 v = M := by
  funext p j
  unfold rd_fill
  rw [if_neg (by omega)]
theorem rd_fill_s {M : rd_M} {q : Nat} {i v : Int} (h : 0 ≤ i) : rd_up (rd_fill M q i v) q i v = rd_fill M q (i + 1) v := by
  funext p j
  simp only [rd_fill, rd_up]
  by_cases c1 : p = q ∧ j = i
  · rw [if_pos c1, if_pos ⟨c1.1, by omega, by omega⟩]
  · rw [if_neg c1]
    by_cases c2 : p = q ∧ 0 ≤ j ∧ j < i
    · rw [if_pos c2, if_pos ⟨c2.1, by omega, by omega⟩]
    · rw [if_neg c2, if_neg (by omega)]
set_option maxHeartbeats 4000000 in
set_option maxRecDepth 100000 in
theorem lq_J_fillI {q len : Nat} {v : Int} {M : rd_M} {Q : rd_R → rd_M → Prop} (hq : rd_SH[q]? = some (.inl (0, len))) (hl : len ≤ 1000) (hQ : Q (.inl none) (rd_fill M q len v)) : ∀ (d : Nat) (i : Int) (M1 : rd_M), (len - i).toNat = d → (0 ≤ i) → (i ≤ len) → (M1 = rd_fill M q i v) → rd_G x_J_fillI 5 [some (.ref q), some (rd_i v), some (rd_i i), some (rd_i len)] [] M1 0 Q := by
  intro d
  induction d using Nat.strongRecOn with
  | ind d ih =>
    intro i M1 hd h0 h1 hM
    refine rd_ildn (pc := 5) d_J_fillI_5 rfl ?_
    refine rd_ildn (pc := 6) d_J_fillI_6 rfl ?_
    refine rd_icmp_ge (pc := 7) (tgt := 20) d_J_fillI_7 rfl ⟨by omega, by omega⟩ ⟨by omega, by omega⟩ (fun h7 => ?_) (fun h7 => ?_)
    · skip
      exact rd_vret (pc := 20) d_J_fillI_20 rfl (Nat.le_of_ble_eq_true rfl) (by rw [hM, show i = (len : Int) by omega]; exact hQ)
    · skip
      refine rd_aldn (pc := 10) d_J_fillI_10 rfl ?_
      refine rd_ildn (pc := 11) d_J_fillI_11 rfl ?_
      refine rd_ildn (pc := 12) d_J_fillI_12 rfl ?_
      refine rd_iast (pc := 13) d_J_fillI_13 hq (by omega) (by omega) ?_
      refine rd_iinc2 (pc := 14) d_J_fillI_14 rfl ?_
      refine rd_goto (pc := 17) (tgt := 5) d_J_fillI_17 rfl ?_
      subst hM
      exact ih _ (by omega) (i + 1) _ rfl (by omega) (by omega) (rd_fill_s h0)
set_option maxHeartbeats 4000000 in
set_option maxRecDepth 100000 in
theorem ev_J_fillI {q len : Nat} {v : Int} {M : rd_M} {Q : rd_R → rd_M → Prop} (hq : rd_SH[q]? = some (.inl (0, len))) (hl : len ≤ 1000) (hQ : Q (.inl none) (rd_fill M q len v)) : rd_G x_J_fillI 0 [some (.ref q), some (rd_i v), none, none] [] M 0 Q := by
  refine rd_iconst (pc := 0) d_J_fillI_0 ?_
  refine rd_ist2 (pc := 1) d_J_fillI_1 rfl ?_
  refine rd_aldn (pc := 2) d_J_fillI_2 rfl ?_
  refine rd_alen (pc := 3) d_J_fillI_3 hq (by decide) ?_
  refine rd_ist3 (pc := 4) d_J_fillI_4 rfl ?_
  exact lq_J_fillI hq hl hQ _ 0 M rfl (by omega) (by omega) rd_fill_0.symm
set_option maxHeartbeats 4000000 in
set_option maxRecDepth 100000 in
theorem lq_J_fillJ {q len : Nat} {v : Int} {M : rd_M} {Q : rd_R → rd_M → Prop} (hq : rd_SH[q]? = some (.inl (1, len))) (hl : len ≤ 1000) (hQ : Q (.inl none) (rd_fill M q len v)) : ∀ (d : Nat) (i : Int) (M1 : rd_M), (len - i).toNat = d → (0 ≤ i) → (i ≤ len) → (M1 = rd_fill M q i v) → rd_G x_J_fillJ 6 [some (.ref q), some (rd_l v), none, some (rd_i i), some (rd_i len)] [] M1 0 Q := by
  intro d
  induction d using Nat.strongRecOn with
  | ind d ih =>
    intro i M1 hd h0 h1 hM
    refine rd_ildn (pc := 6) d_J_fillJ_6 rfl ?_
    refine rd_ild (pc := 7) d_J_fillJ_7 rfl ?_
    refine rd_icmp_ge (pc := 9) (tgt := 22) d_J_fillJ_9 rfl ⟨by omega, by omega⟩ ⟨by omega, by omega⟩ (fun h9 => ?_) (fun h9 => ?_)
    · skip
      exact rd_vret (pc := 22) d_J_fillJ_22 rfl (Nat.le_of_ble_eq_true rfl) (by rw [hM, show i = (len : Int) by omega]; exact hQ)
    · skip
      refine rd_aldn (pc := 12) d_J_fillJ_12 rfl ?_
      refine rd_ildn (pc := 13) d_J_fillJ_13 rfl ?_
      refine rd_lldn (pc := 14) d_J_fillJ_14 rfl ?_
      refine rd_last (pc := 15) d_J_fillJ_15 hq (by omega) (by omega) ?_
      refine rd_iinc3 (pc := 16) d_J_fillJ_16 rfl ?_
      refine rd_goto (pc := 19) (tgt := 6) d_J_fillJ_19 rfl ?_
      subst hM
      exact ih _ (by omega) (i + 1) _ rfl (by omega) (by omega) (rd_fill_s h0)
set_option maxHeartbeats 4000000 in
set_option maxRecDepth 100000 in
theorem ev_J_fillJ {q len : Nat} {v : Int} {M : rd_M} {Q : rd_R → rd_M → Prop} (hq : rd_SH[q]? = some (.inl (1, len))) (hl : len ≤ 1000) (hQ : Q (.inl none) (rd_fill M q len v)) : rd_G x_J_fillJ 0 [some (.ref q), some (rd_l v), none, none, none] [] M 0 Q := by
  refine rd_iconst (pc := 0) d_J_fillJ_0 ?_
  refine rd_ist3 (pc := 1) d_J_fillJ_1 rfl ?_
  refine rd_aldn (pc := 2) d_J_fillJ_2 rfl ?_
  refine rd_alen (pc := 3) d_J_fillJ_3 hq (by decide) ?_
  refine rd_ist4 (pc := 4) d_J_fillJ_4 rfl ?_
  exact lq_J_fillJ hq hl hQ _ 0 M rfl (by omega) (by omega) rd_fill_0.symm
set_option maxHeartbeats 4000000 in
set_option maxRecDepth 100000 in
theorem lq_T_partsOfOthers {t r : Int} {M : rd_M} {Q : rd_R → rd_M → Prop} (hI : c_I M) (h0 : 0 ≤ t) (h1 : t < 10) (hr : rd_I r) (hQ : Q (.inl (some (rd_i (rd_sm (fun o => if o = r then 0 else M 22 (t * 6 + o)) 6)))) M) : ∀ (d : Nat) (i a : Int), (6 - i).toNat = d → (0 ≤ i) → (i ≤ 6) → (a = rd_sm (fun o => if o = r then 0 else M 22 (t * 6 + o)) i.toNat) → rd_G x_T_partsOfOthers 5 [some (.ref 3), some (rd_i t), some (rd_i r), some (rd_i a), some (rd_i i)] [] M 0 Q := by
  intro d
  induction d using Nat.strongRecOn with
  | ind d ih =>
    intro i a hd i0 i1 ha
    refine rd_ild (pc := 5) d_T_partsOfOthers_5 rfl ?_
    refine rd_bipush (pc := 7) d_T_partsOfOthers_7 rfl ?_
    refine rd_icmp_ge (pc := 9) (tgt := 39) d_T_partsOfOthers_9 rfl ⟨by omega, by omega⟩ ⟨by omega, by omega⟩ (fun h9 => ?_) (fun h9 => ?_)
    · skip
      refine rd_ildn (pc := 39) d_T_partsOfOthers_39 rfl ?_
      exact rd_iret (pc := 40) d_T_partsOfOthers_40 rfl (Nat.le_of_ble_eq_true rfl) (by rw [show i = 6 by omega] at ha; rw [ha]; exact hQ)
    · skip
      have hs := rd_sm_s (f := (fun o => if o = r then 0 else M 22 (t * 6 + o))) i0
      refine rd_ild (pc := 12) d_T_partsOfOthers_12 rfl ?_
      refine rd_ildn (pc := 14) d_T_partsOfOthers_14 rfl ?_
      refine rd_icmp_eq (pc := 15) (tgt := 33) d_T_partsOfOthers_15 rfl ⟨by omega, by omega⟩ ⟨by omega, by omega⟩ (fun h15 => ?_) (fun h15 => ?_)
      · skip
        refine rd_iinc4 (pc := 33) d_T_partsOfOthers_33 rfl ?_
        refine rd_goto (pc := 36) (tgt := 5) d_T_partsOfOthers_36 rfl ?_
        exact ih _ (by omega) (i + 1) _ rfl (by omega) (by omega) (by rw [hs, ha]; first | (rw [if_pos (by omega)]; omega) | (rw [if_neg (by omega)]))
      · skip
        refine rd_ildn (pc := 18) d_T_partsOfOthers_18 rfl ?_
        refine rd_aldn (pc := 19) d_T_partsOfOthers_19 rfl ?_
        refine rd_getr (pc := 20) d_T_partsOfOthers_20 fl_T_31 rfl rfl ?_
        refine rd_ildn (pc := 23) d_T_partsOfOthers_23 rfl ?_
        refine rd_bipush (pc := 24) d_T_partsOfOthers_24 rfl ?_
        refine rd_imul (pc := 26) d_T_partsOfOthers_26 ?_
        refine rd_ild (pc := 27) d_T_partsOfOthers_27 rfl ?_
        refine rd_iadd (pc := 29) d_T_partsOfOthers_29 ?_
        refine rd_iald (pc := 30) d_T_partsOfOthers_30 rfl (by omega) (by omega) ?_
        refine rd_iadd (pc := 31) d_T_partsOfOthers_31 ?_
        refine rd_ist3 (pc := 32) d_T_partsOfOthers_32 rfl ?_
        refine rd_iinc4 (pc := 33) d_T_partsOfOthers_33 rfl ?_
        refine rd_goto (pc := 36) (tgt := 5) d_T_partsOfOthers_36 rfl ?_
        exact ih _ (by omega) (i + 1) _ rfl (by omega) (by omega) (by rw [hs, ha]; first | (rw [if_pos (by omega)]; omega) | (rw [if_neg (by omega)]))
set_option maxHeartbeats 4000000 in
set_option maxRecDepth 100000 in
theorem ev_T_partsOfOthers {t r : Int} {M : rd_M} {Q : rd_R → rd_M → Prop} (hI : c_I M) (h0 : 0 ≤ t) (h1 : t < 10) (hr : rd_I r) (hQ : Q (.inl (some (rd_i (rd_sm (fun o => if o = r then 0 else M 22 (t * 6 + o)) 6)))) (M)) : rd_G x_T_partsOfOthers 0 [some (.ref 3), some (rd_i t), some (rd_i r), none, none] [] M 0 Q := by
  refine rd_iconst (pc := 0) d_T_partsOfOthers_0 ?_
  refine rd_ist3 (pc := 1) d_T_partsOfOthers_1 rfl ?_
  refine rd_iconst (pc := 2) d_T_partsOfOthers_2 ?_
  refine rd_ist4 (pc := 3) d_T_partsOfOthers_3 rfl ?_
  exact lq_T_partsOfOthers hI h0 h1 hr hQ _ 0 0 rfl (by omega) (by omega) rfl
set_option maxHeartbeats 4000000 in
set_option maxRecDepth 100000 in
theorem ev_T_partOf {v t r : Int} {M : rd_M} {Q : rd_R → rd_M → Prop} (hI : c_I M) (h0 : 0 ≤ t) (h1 : t < 10) (h2 : 0 ≤ r) (h3 : r < 6) (hv : 0 ≤ v ∧ v ≤ 1000000000000) (hQ : Q (.inl (some (rd_l ((v * M 22 (t * 6 + r)).tdiv 1000000)))) (M)) : rd_G x_T_partOf 0 [some (.ref 3), some (rd_l v), none, some (rd_i t), some (rd_i r)] [] M 0 Q := by
  have hp := hI.part (i := t * 6 + r) (by omega) (by omega)
  have hm := rd_mulb hv.1 hv.2 hp.1 hp.2
  refine rd_lldn (pc := 0) d_T_partOf_0 rfl ?_
  refine rd_aldn (pc := 1) d_T_partOf_1 rfl ?_
  refine rd_getr (pc := 2) d_T_partOf_2 fl_T_31 rfl rfl ?_
  refine rd_ildn (pc := 5) d_T_partOf_5 rfl ?_
  refine rd_bipush (pc := 6) d_T_partOf_6 rfl ?_
  refine rd_imul (pc := 8) d_T_partOf_8 ?_
  refine rd_ild (pc := 9) d_T_partOf_9 rfl ?_
  refine rd_iadd (pc := 11) d_T_partOf_11 ?_
  refine rd_iald (pc := 12) d_T_partOf_12 rfl (by omega) (by omega) ?_
  refine rd_i2l (pc := 13) d_T_partOf_13 ⟨by omega, by omega⟩ ?_
  refine rd_lmul (pc := 14) d_T_partOf_14 ?_
  refine rd_ldc2 (pc := 15) (v := 1000000) d_T_partOf_15 kl_T_38 ?_
  refine rd_ldiv (pc := 18) d_T_partOf_18 ⟨by omega, by omega⟩ ⟨by omega, by omega⟩ (by omega) ?_
  exact rd_lret (pc := 19) d_T_partOf_19 rfl (Nat.le_of_ble_eq_true rfl) (hQ)
set_option maxHeartbeats 4000000 in
set_option maxRecDepth 100000 in
theorem ev_T_partOfRisk {t s : Int} {M : rd_M} {Q : rd_R → rd_M → Prop} (hI : c_I M) (h0 : 0 ≤ t) (h1 : t < 10) (hs : 0 ≤ s ∧ s ≤ 1000000000) (hQ : Q (.inl (some (rd_l (sp_part (M 16 t) (M 18 t) (M 19 t) s)))) (M)) : rd_G x_T_partOfRisk 0 [some (.ref 3), some (rd_i t), some (rd_l s), none, none, none] [] M 0 Q := by
  obtain ⟨hk, hy, ha, hb, hc, hdd⟩ := hI.treaty h0 h1
  have hm := rd_mulb ha.1 ha.2 hb.1 hb.2
  have hz : 0 ≤ min (max (s - M 18 t) 0) (M 18 t * M 19 t) ∧ min (max (s - M 18 t) 0) (M 18 t * M 19 t) ≤ 1000000000 := by omega
  unfold sp_part at hQ
  refine rd_lldn (pc := 0) d_T_partOfRisk_0 rfl ?_
  refine rd_lconst (pc := 1) (v := 0) d_T_partOfRisk_1 rfl ?_
  refine rd_lcmp_gt (pc := 2) (tgt := 8) d_T_partOfRisk_2 d_T_partOfRisk_3 rfl ⟨by omega, by omega⟩ ⟨by omega, by omega⟩ (fun h2 => ?_) (fun h2 => ?_)
  · skip
    refine rd_aldn (pc := 8) d_T_partOfRisk_8 rfl ?_
    refine rd_getr (pc := 9) d_T_partOfRisk_9 fl_T_9 rfl rfl ?_
    refine rd_ildn (pc := 12) d_T_partOfRisk_12 rfl ?_
    refine rd_iald (pc := 13) d_T_partOfRisk_13 rfl (by omega) (by omega) ?_
    refine rd_if_ne (pc := 14) (tgt := 53) d_T_partOfRisk_14 rfl ⟨by omega, by omega⟩ (fun h14 => ?_) (fun h14 => ?_)
    · skip
      refine rd_lldn (pc := 53) d_T_partOfRisk_53 rfl ?_
      refine rd_aldn (pc := 54) d_T_partOfRisk_54 rfl ?_
      refine rd_getr (pc := 55) d_T_partOfRisk_55 fl_T_18 rfl rfl ?_
      refine rd_ildn (pc := 58) d_T_partOfRisk_58 rfl ?_
      refine rd_lald (pc := 59) d_T_partOfRisk_59 rfl (by omega) (by omega) ?_
      refine rd_lsub (pc := 60) d_T_partOfRisk_60 ?_
      refine rd_lconst (pc := 61) (v := 0) d_T_partOfRisk_61 rfl ?_
      refine rd_callSl (pc := 62) (n' := 0) [_, _] d_T_partOfRisk_62 ml_T_40 (Nat.le_of_ble_eq_true rfl) (Nat.le_of_ble_eq_true rfl) (Nat.le_of_ble_eq_true rfl) rfl rfl rfl (Nat.le_of_ble_eq_true rfl) (Nat.le_of_ble_eq_true rfl) ?_
      refine ev_J_max ⟨by omega, by omega⟩ ⟨by omega, by omega⟩ ?_
      refine ⟨_, rfl, ?_⟩
      refine rd_lst4 (pc := 65) d_T_partOfRisk_65 rfl ?_
      refine rd_ldc2 (pc := 67) (v := 1000000) d_T_partOfRisk_67 kl_T_38 ?_
      refine rd_lld (pc := 70) d_T_partOfRisk_70 rfl ?_
      refine rd_aldn (pc := 72) d_T_partOfRisk_72 rfl ?_
      refine rd_getr (pc := 73) d_T_partOfRisk_73 fl_T_18 rfl rfl ?_
      refine rd_ildn (pc := 76) d_T_partOfRisk_76 rfl ?_
      refine rd_lald (pc := 77) d_T_partOfRisk_77 rfl (by omega) (by omega) ?_
      refine rd_aldn (pc := 78) d_T_partOfRisk_78 rfl ?_
      refine rd_getr (pc := 79) d_T_partOfRisk_79 fl_T_22 rfl rfl ?_
      refine rd_ildn (pc := 82) d_T_partOfRisk_82 rfl ?_
      refine rd_lald (pc := 83) d_T_partOfRisk_83 rfl (by omega) (by omega) ?_
      refine rd_lmul (pc := 84) d_T_partOfRisk_84 ?_
      refine rd_callSl (pc := 85) (n' := 0) [_, _] d_T_partOfRisk_85 ml_T_46 (Nat.le_of_ble_eq_true rfl) (Nat.le_of_ble_eq_true rfl) (Nat.le_of_ble_eq_true rfl) rfl rfl rfl (Nat.le_of_ble_eq_true rfl) (Nat.le_of_ble_eq_true rfl) ?_
      refine ev_J_min ⟨by omega, by omega⟩ ⟨by omega, by omega⟩ ?_
      refine ⟨_, rfl, ?_⟩
      refine rd_lmul (pc := 88) d_T_partOfRisk_88 ?_
      refine rd_lldn (pc := 89) d_T_partOfRisk_89 rfl ?_
      refine rd_ldiv (pc := 90) d_T_partOfRisk_90 ⟨by omega, by omega⟩ ⟨by omega, by omega⟩ (by omega) ?_
      exact rd_lret (pc := 91) d_T_partOfRisk_91 rfl (Nat.le_of_ble_eq_true rfl) (by first | (rw [if_pos (by omega)] at hQ; exact hQ) | (rw [if_neg (by omega), if_pos (by omega), if_pos (by omega)] at hQ; exact hQ) | (rw [if_neg (by omega), if_pos (by omega), if_neg (by omega)] at hQ; exact hQ) | (rw [if_neg (by omega), if_neg (by omega)] at hQ; exact hQ))
    · skip
      refine rd_lldn (pc := 17) d_T_partOfRisk_17 rfl ?_
      refine rd_aldn (pc := 18) d_T_partOfRisk_18 rfl ?_
      refine rd_getr (pc := 19) d_T_partOfRisk_19 fl_T_22 rfl rfl ?_
      refine rd_ildn (pc := 22) d_T_partOfRisk_22 rfl ?_
      refine rd_lald (pc := 23) d_T_partOfRisk_23 rfl (by omega) (by omega) ?_
      refine rd_lcmp_gt (pc := 24) (tgt := 37) d_T_partOfRisk_24 d_T_partOfRisk_25 rfl ⟨by omega, by omega⟩ ⟨by omega, by omega⟩ (fun h24 => ?_) (fun h24 => ?_)
      · skip
        refine rd_aldn (pc := 37) d_T_partOfRisk_37 rfl ?_
        refine rd_getr (pc := 38) d_T_partOfRisk_38 fl_T_18 rfl rfl ?_
        refine rd_ildn (pc := 41) d_T_partOfRisk_41 rfl ?_
        refine rd_lald (pc := 42) d_T_partOfRisk_42 rfl (by omega) (by omega) ?_
        refine rd_aldn (pc := 43) d_T_partOfRisk_43 rfl ?_
        refine rd_getr (pc := 44) d_T_partOfRisk_44 fl_T_22 rfl rfl ?_
        refine rd_ildn (pc := 47) d_T_partOfRisk_47 rfl ?_
        refine rd_lald (pc := 48) d_T_partOfRisk_48 rfl (by omega) (by omega) ?_
        refine rd_lmul (pc := 49) d_T_partOfRisk_49 ?_
        refine rd_lldn (pc := 50) d_T_partOfRisk_50 rfl ?_
        refine rd_ldiv (pc := 51) d_T_partOfRisk_51 ⟨by omega, by omega⟩ ⟨by omega, by omega⟩ (by omega) ?_
        exact rd_lret (pc := 52) d_T_partOfRisk_52 rfl (Nat.le_of_ble_eq_true rfl) (by first | (rw [if_pos (by omega)] at hQ; exact hQ) | (rw [if_neg (by omega), if_pos (by omega), if_pos (by omega)] at hQ; exact hQ) | (rw [if_neg (by omega), if_pos (by omega), if_neg (by omega)] at hQ; exact hQ) | (rw [if_neg (by omega), if_neg (by omega)] at hQ; exact hQ))
      · skip
        refine rd_aldn (pc := 28) d_T_partOfRisk_28 rfl ?_
        refine rd_getr (pc := 29) d_T_partOfRisk_29 fl_T_18 rfl rfl ?_
        refine rd_ildn (pc := 32) d_T_partOfRisk_32 rfl ?_
        refine rd_lald (pc := 33) d_T_partOfRisk_33 rfl (by omega) (by omega) ?_
        refine rd_goto (pc := 34) (tgt := 52) d_T_partOfRisk_34 rfl ?_
        exact rd_lret (pc := 52) d_T_partOfRisk_52 rfl (Nat.le_of_ble_eq_true rfl) (by first | (rw [if_pos (by omega)] at hQ; exact hQ) | (rw [if_neg (by omega), if_pos (by omega), if_pos (by omega)] at hQ; exact hQ) | (rw [if_neg (by omega), if_pos (by omega), if_neg (by omega)] at hQ; exact hQ) | (rw [if_neg (by omega), if_neg (by omega)] at hQ; exact hQ))
  · skip
    refine rd_lconst (pc := 6) (v := 0) d_T_partOfRisk_6 rfl ?_
    exact rd_lret (pc := 7) d_T_partOfRisk_7 rfl (Nat.le_of_ble_eq_true rfl) (by first | (rw [if_pos (by omega)] at hQ; exact hQ) | (rw [if_neg (by omega), if_pos (by omega), if_pos (by omega)] at hQ; exact hQ) | (rw [if_neg (by omega), if_pos (by omega), if_neg (by omega)] at hQ; exact hQ) | (rw [if_neg (by omega), if_neg (by omega)] at hQ; exact hQ))

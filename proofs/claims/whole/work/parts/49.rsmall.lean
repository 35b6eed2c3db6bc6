/-! the reference: questions -/
set_option maxHeartbeats 4000000 in
set_option maxRecDepth 100000 in
theorem ev_M_thrown  {M : rd_M} {Q : rd_R → rd_M → Prop}  (hQ : Q (.inl (some (rd_i (M 32 0)))) (M)) : rd_G x_M_thrown 0 [some (.ref 32)] [] M 0 Q := by
  refine rd_aldn (pc := 0) d_M_thrown_0 rfl ?_
  refine rd_gi (pc := 1) (ki := 0) d_M_thrown_1 fl_M_87 rfl rfl rfl ?_
  exact rd_iret (pc := 4) d_M_thrown_4 rfl (Nat.le_of_ble_eq_true rfl) (hQ)
set_option maxHeartbeats 4000000 in
set_option maxRecDepth 100000 in
theorem lq_M_share {t r p : Int} {n nt : Nat} {M : rd_M} {Q : rd_R → rd_M → Prop} (hB : r_B M n nt) (ht : 0 ≤ t ∧ t < nt) (hr : 0 ≤ r ∧ r < 6) (hp : 0 ≤ p ∧ p ≤ 1000000) (hX : ∀ i : Int, rd_G x_M_share 92 [some (.ref 32), some (rd_i t), some (rd_i r), some (rd_i p), some (rd_i 0), some (rd_l (p + rd_sm (fun o => if o = r then 0 else M 46 (t * 6 + o)) 6)), none, some (rd_i i)] [] M 0 Q) : ∀ (d : Nat) (i a : Int), (6 - i).toNat = d → (0 ≤ i) → (i ≤ 6) → (a = p + rd_sm (fun o => if o = r then 0 else M 46 (t * 6 + o)) i.toNat) → rd_G x_M_share 46 [some (.ref 32), some (rd_i t), some (rd_i r), some (rd_i p), some (rd_i 0), some (rd_l a), none, some (rd_i i)] [] M 0 Q := by
  intro d
  induction d using Nat.strongRecOn with
  | ind d ih =>
    intro i a hd i0 i1 ha
    have hm10 := hB.2.2.2.1
    refine rd_ild (pc := 46) d_M_share_46 rfl ?_
    refine rd_bipush (pc := 48) d_M_share_48 rfl ?_
    refine rd_icmp_ge (pc := 50) (tgt := 92) d_M_share_50 rfl ⟨by omega, by omega⟩ ⟨by omega, by omega⟩ (fun h50 => ?_) (fun h50 => ?_)
    · skip
      first | (exfalso; omega) | (have hh := hX i; rw [show (6 : Nat) = i.toNat by omega, ← ha] at hh; exact hh)
    · skip
      refine rd_ild (pc := 53) d_M_share_53 rfl ?_
      refine rd_if_ne (pc := 55) (tgt := 92) d_M_share_55 rfl ⟨by omega, by omega⟩ (fun h55 => ?_) (fun h55 => ?_)
      · skip
        first | (exfalso; omega) | (have hh := hX i; rw [show (6 : Nat) = i.toNat by omega, ← ha] at hh; exact hh)
      · skip
        have hs := rd_sm_s (f := (fun o => if o = r then 0 else M 46 (t * 6 + o))) i0
        have hpb := hB.2.2.2.2.2.2.1 (t * 6 + i) (by omega) (by omega)
        have e6 : 6 * t + i = t * 6 + i := by omega
        refine rd_lld (pc := 58) d_M_share_58 rfl ?_
        refine rd_ild (pc := 60) d_M_share_60 rfl ?_
        refine rd_ildn (pc := 62) d_M_share_62 rfl ?_
        refine rd_icmp_ne (pc := 63) (tgt := 70) d_M_share_63 rfl ⟨by omega, by omega⟩ ⟨by omega, by omega⟩ (fun h63 => ?_) (fun h63 => ?_)
        · skip
          refine rd_aldn (pc := 70) d_M_share_70 rfl ?_
          refine rd_getr (pc := 71) d_M_share_71 fl_M_50 rfl rfl ?_
          refine rd_bipush (pc := 74) d_M_share_74 rfl ?_
          refine rd_ildn (pc := 76) d_M_share_76 rfl ?_
          refine rd_imul (pc := 77) d_M_share_77 ?_
          refine rd_ild (pc := 78) d_M_share_78 rfl ?_
          refine rd_iadd (pc := 80) d_M_share_80 ?_
          refine rd_iald (pc := 81) d_M_share_81 rfl (by omega) (by omega) ?_
          refine rd_i2l (pc := 82) d_M_share_82 (by rw [e6]; exact ⟨by omega, by omega⟩) ?_
          refine rd_ladd (pc := 83) d_M_share_83 ?_
          refine rd_lst5 (pc := 84) d_M_share_84 rfl ?_
          refine rd_iinc7 (pc := 86) d_M_share_86 rfl ?_
          refine rd_goto (pc := 89) (tgt := 46) d_M_share_89 rfl ?_
          first | (exfalso; omega) | (refine ih _ (by omega) (i + 1) _ rfl (by omega) (by omega) (by rw [hs, ha, if_pos (by omega)]; omega)) | (rw [e6]; refine ih _ (by omega) (i + 1) _ rfl (by omega) (by omega) (by rw [hs, ha, if_neg (by omega)]; omega))
        · skip
          refine rd_lconst (pc := 66) (v := 0) d_M_share_66 rfl ?_
          refine rd_goto (pc := 67) (tgt := 83) d_M_share_67 rfl ?_
          refine rd_ladd (pc := 83) d_M_share_83 ?_
          refine rd_lst5 (pc := 84) d_M_share_84 rfl ?_
          refine rd_iinc7 (pc := 86) d_M_share_86 rfl ?_
          refine rd_goto (pc := 89) (tgt := 46) d_M_share_89 rfl ?_
          first | (exfalso; omega) | (refine ih _ (by omega) (i + 1) _ rfl (by omega) (by omega) (by rw [hs, ha, if_pos (by omega)]; omega)) | (rw [e6]; refine ih _ (by omega) (i + 1) _ rfl (by omega) (by omega) (by rw [hs, ha, if_neg (by omega)]; omega))
set_option maxHeartbeats 4000000 in
set_option maxRecDepth 100000 in
theorem ev_M_shareOf {t r v : Int} {n nt : Nat} {M : rd_M} {Q : rd_R → rd_M → Prop} (hB : r_B M n nt) (h0 : 0 ≤ t) (h1 : t < 10) (r0 : 0 ≤ r) (r1 : r < 6) (hv : 0 ≤ v ∧ v ≤ 1000000000000) (hQ : Q (.inl (some (rd_l (sp_sh (M 46 (t * 6 + r)) v)))) (M)) : rd_G x_M_shareOf 0 [some (.ref 32), some (rd_i t), some (rd_i r), some (rd_l v), none] [] M 0 Q := by
  have hpb := hB.2.2.2.2.2.2.1 (t * 6 + r) (by omega) (by omega)
  have hmul := rd_mulb hv.1 hv.2 hpb.1 hpb.2
  have e6 : 6 * t + r = t * 6 + r := by omega
  refine rd_lldn (pc := 0) d_M_shareOf_0 rfl ?_
  refine rd_aldn (pc := 1) d_M_shareOf_1 rfl ?_
  refine rd_getr (pc := 2) d_M_shareOf_2 fl_M_50 rfl rfl ?_
  refine rd_bipush (pc := 5) d_M_shareOf_5 rfl ?_
  refine rd_ildn (pc := 7) d_M_shareOf_7 rfl ?_
  refine rd_imul (pc := 8) d_M_shareOf_8 ?_
  refine rd_ildn (pc := 9) d_M_shareOf_9 rfl ?_
  refine rd_iadd (pc := 10) d_M_shareOf_10 ?_
  refine rd_iald (pc := 11) d_M_shareOf_11 rfl (by omega) (by omega) ?_
  rw [e6]
  refine rd_i2l (pc := 12) d_M_shareOf_12 ⟨by omega, by omega⟩ ?_
  refine rd_lmul (pc := 13) d_M_shareOf_13 ?_
  refine rd_ldc2 (pc := 14) (v := 1000000) d_M_shareOf_14 kl_M_115 ?_
  refine rd_ldiv (pc := 17) d_M_shareOf_17 ⟨by omega, by omega⟩ ⟨by omega, by omega⟩ (by omega) ?_
  exact rd_lret (pc := 18) d_M_shareOf_18 rfl (Nat.le_of_ble_eq_true rfl) (hQ)
set_option maxHeartbeats 4000000 in
set_option maxRecDepth 100000 in
theorem ev_M_ratio {t : Int} {n nt : Nat} {M : rd_M} {Q : rd_R → rd_M → Prop} (hB : r_B M n nt) (h0 : 0 ≤ t) (h1 : t < 10) (bk : 0 ≤ M 51 t ∧ M 51 t ≤ 40000000000) (bp : 0 ≤ M 52 t ∧ M 52 t ≤ 12000000000) (hz : ¬ (M 41 t).tdiv 10 < 2 → M 52 t = 0) (hQ : Q (.inl (some (rd_l (sp_ratio (M 52 t) (M 51 t))))) (M)) : rd_G x_M_ratio 0 [some (.ref 32), some (rd_i t), none, none] [] M 0 Q := by
  have hs := hB.sh h0 h1
  refine rd_aldn (pc := 0) d_M_ratio_0 rfl ?_
  refine rd_ildn (pc := 1) d_M_ratio_1 rfl ?_
  refine rd_callVi (pc := 2) (n' := 0) [_] d_M_ratio_2 ml_M_144 rfl (Nat.le_of_ble_eq_true rfl) (Nat.le_of_ble_eq_true rfl) (Nat.le_of_ble_eq_true rfl) rfl rfl rfl (Nat.le_of_ble_eq_true rfl) (Nat.le_of_ble_eq_true rfl) ?_
  refine ev_M_kindOf hB h0 h1 ?_
  refine ⟨_, rfl, ?_⟩
  refine rd_iconst (pc := 5) d_M_ratio_5 ?_
  refine rd_icmp_gt (pc := 6) (tgt := 20) d_M_ratio_6 rfl ⟨by omega, by omega⟩ ⟨by omega, by omega⟩ (fun h6 => ?_) (fun h6 => ?_)
  · skip
    refine rd_lconst (pc := 20) (v := 0) d_M_ratio_20 rfl ?_
    exact rd_lret (pc := 21) d_M_ratio_21 rfl (Nat.le_of_ble_eq_true rfl) (by unfold sp_ratio at hQ; rw [if_pos (by omega)] at hQ; exact hQ)
  · skip
    refine rd_aldn (pc := 9) d_M_ratio_9 rfl ?_
    refine rd_getr (pc := 10) d_M_ratio_10 fl_M_69 rfl rfl ?_
    refine rd_ildn (pc := 13) d_M_ratio_13 rfl ?_
    refine rd_lald (pc := 14) d_M_ratio_14 rfl (by omega) (by omega) ?_
    refine rd_lconst (pc := 15) (v := 0) d_M_ratio_15 rfl ?_
    refine rd_lcmp_ne (pc := 16) (tgt := 22) d_M_ratio_16 d_M_ratio_17 rfl ⟨by omega, by omega⟩ ⟨by omega, by omega⟩ (fun h16 => ?_) (fun h16 => ?_)
    · skip
      have hq := rd_tdivb (a := M 51 t * 1000000) (b := M 52 t) (by omega) (by omega)
      refine rd_aldn (pc := 22) d_M_ratio_22 rfl ?_
      refine rd_getr (pc := 23) d_M_ratio_23 fl_M_66 rfl rfl ?_
      refine rd_ildn (pc := 26) d_M_ratio_26 rfl ?_
      refine rd_lald (pc := 27) d_M_ratio_27 rfl (by omega) (by omega) ?_
      refine rd_ldc2 (pc := 28) (v := 1000000) d_M_ratio_28 kl_M_115 ?_
      refine rd_lmul (pc := 31) d_M_ratio_31 ?_
      refine rd_aldn (pc := 32) d_M_ratio_32 rfl ?_
      refine rd_getr (pc := 33) d_M_ratio_33 fl_M_69 rfl rfl ?_
      refine rd_ildn (pc := 36) d_M_ratio_36 rfl ?_
      refine rd_lald (pc := 37) d_M_ratio_37 rfl (by omega) (by omega) ?_
      refine rd_ldiv (pc := 38) d_M_ratio_38 ⟨by omega, by omega⟩ ⟨by omega, by omega⟩ (by omega) ?_
      refine rd_lst2 (pc := 39) d_M_ratio_39 rfl ?_
      refine rd_lldn (pc := 40) d_M_ratio_40 rfl ?_
      refine rd_ldc2 (pc := 41) (v := 9000000) d_M_ratio_41 kl_M_197 ?_
      refine rd_lcmp_ge (pc := 44) (tgt := 52) d_M_ratio_44 d_M_ratio_45 rfl ⟨by omega, by omega⟩ ⟨by omega, by omega⟩ (fun h44 => ?_) (fun h44 => ?_)
      · skip
        refine rd_ldc2 (pc := 52) (v := 9000000) d_M_ratio_52 kl_M_197 ?_
        exact rd_lret (pc := 55) d_M_ratio_55 rfl (Nat.le_of_ble_eq_true rfl) (by unfold sp_ratio at hQ; rw [if_neg (by omega)] at hQ; first | (rw [show min ((M 51 t * 1000000).tdiv (M 52 t)) 9000000 = (M 51 t * 1000000).tdiv (M 52 t) by omega] at hQ; exact hQ) | (rw [show min ((M 51 t * 1000000).tdiv (M 52 t)) 9000000 = 9000000 by omega] at hQ; exact hQ))
      · skip
        refine rd_lldn (pc := 48) d_M_ratio_48 rfl ?_
        refine rd_goto (pc := 49) (tgt := 55) d_M_ratio_49 rfl ?_
        exact rd_lret (pc := 55) d_M_ratio_55 rfl (Nat.le_of_ble_eq_true rfl) (by unfold sp_ratio at hQ; rw [if_neg (by omega)] at hQ; first | (rw [show min ((M 51 t * 1000000).tdiv (M 52 t)) 9000000 = (M 51 t * 1000000).tdiv (M 52 t) by omega] at hQ; exact hQ) | (rw [show min ((M 51 t * 1000000).tdiv (M 52 t)) 9000000 = 9000000 by omega] at hQ; exact hQ))
    · skip
      refine rd_lconst (pc := 20) (v := 0) d_M_ratio_20 rfl ?_
      exact rd_lret (pc := 21) d_M_ratio_21 rfl (Nat.le_of_ble_eq_true rfl) (by unfold sp_ratio at hQ; rw [if_pos (by omega)] at hQ; exact hQ)
set_option maxHeartbeats 4000000 in
set_option maxRecDepth 100000 in
theorem ev_M_commission {t : Int} {n nt : Nat} {M : rd_M} {Q : rd_R → rd_M → Prop} (hB : r_B M n nt) (h0 : 0 ≤ t) (h1 : t < 10) (bk : 0 ≤ M 51 t ∧ M 51 t ≤ 40000000000) (bp : 0 ≤ M 52 t ∧ M 52 t ≤ 12000000000) (hz : ¬ (M 41 t).tdiv 10 < 2 → M 52 t = 0) (hQ : Q (.inl (some (rd_l (sp_com (M 52 t) (M 51 t))))) (M)) : rd_G x_M_commission 0 [some (.ref 32), some (rd_i t), none, none, none, none] [] M 0 Q := by
  have hs := hB.sh h0 h1
  have hr := sp_ratio_b bp bk
  have hm := rd_mulb (b := max (300000 - max (sp_ratio (M 52 t) (M 51 t) - 400000) 0) 100000) (B := 300000) bp.1 bp.2 (by omega) (by omega)
  have m1 := rd_mulb (b := 300000) (B := 300000) bp.1 bp.2 (by omega) (by omega)
  have m2 := rd_mulb (b := 100000) (B := 300000) bp.1 bp.2 (by omega) (by omega)
  refine rd_aldn (pc := 0) d_M_commission_0 rfl ?_
  refine rd_ildn (pc := 1) d_M_commission_1 rfl ?_
  refine rd_callVi (pc := 2) (n' := 0) [_] d_M_commission_2 ml_M_144 rfl (Nat.le_of_ble_eq_true rfl) (Nat.le_of_ble_eq_true rfl) (Nat.le_of_ble_eq_true rfl) rfl rfl rfl (Nat.le_of_ble_eq_true rfl) (Nat.le_of_ble_eq_true rfl) ?_
  refine ev_M_kindOf hB h0 h1 ?_
  refine ⟨_, rfl, ?_⟩
  refine rd_iconst (pc := 5) d_M_commission_5 ?_
  refine rd_icmp_le (pc := 6) (tgt := 11) d_M_commission_6 rfl ⟨by omega, by omega⟩ ⟨by omega, by omega⟩ (fun h6 => ?_) (fun h6 => ?_)
  · skip
    refine rd_aldn (pc := 11) d_M_commission_11 rfl ?_
    refine rd_ildn (pc := 12) d_M_commission_12 rfl ?_
    refine rd_callVl (pc := 13) (n' := 0) [_] d_M_commission_13 ml_M_199 rfl (Nat.le_of_ble_eq_true rfl) (Nat.le_of_ble_eq_true rfl) (Nat.le_of_ble_eq_true rfl) rfl rfl rfl (Nat.le_of_ble_eq_true rfl) (Nat.le_of_ble_eq_true rfl) ?_
    refine ev_M_ratio hB h0 h1 bk bp hz ?_
    refine ⟨_, rfl, ?_⟩
    refine rd_lst2 (pc := 16) d_M_commission_16 rfl ?_
    refine rd_lldn (pc := 17) d_M_commission_17 rfl ?_
    refine rd_ldc2 (pc := 18) (v := 400000) d_M_commission_18 kl_M_203 ?_
    refine rd_lcmp_gt (pc := 21) (tgt := 31) d_M_commission_21 d_M_commission_22 rfl ⟨by omega, by omega⟩ ⟨by omega, by omega⟩ (fun h21 => ?_) (fun h21 => ?_)
    · skip
      refine rd_ldc2 (pc := 31) (v := 300000) d_M_commission_31 kl_M_205 ?_
      refine rd_lldn (pc := 34) d_M_commission_34 rfl ?_
      refine rd_ldc2 (pc := 35) (v := 400000) d_M_commission_35 kl_M_203 ?_
      refine rd_lsub (pc := 38) d_M_commission_38 ?_
      refine rd_lsub (pc := 39) d_M_commission_39 ?_
      refine rd_lst4 (pc := 40) d_M_commission_40 rfl ?_
      refine rd_aldn (pc := 42) d_M_commission_42 rfl ?_
      refine rd_getr (pc := 43) d_M_commission_43 fl_M_69 rfl rfl ?_
      refine rd_ildn (pc := 46) d_M_commission_46 rfl ?_
      refine rd_lald (pc := 47) d_M_commission_47 rfl (by omega) (by omega) ?_
      refine rd_lld (pc := 48) d_M_commission_48 rfl ?_
      refine rd_ldc2 (pc := 50) (v := 100000) d_M_commission_50 kl_M_136 ?_
      refine rd_lcmp_ge (pc := 53) (tgt := 63) d_M_commission_53 d_M_commission_54 rfl ⟨by omega, by omega⟩ ⟨by omega, by omega⟩ (fun h53 => ?_) (fun h53 => ?_)
      · skip
        refine rd_lld (pc := 63) d_M_commission_63 rfl ?_
        have m3 : 300000 - (sp_ratio (M 52 t) (M 51 t) - 400000) < 100000 ∨ (100000 ≤ 300000 - (sp_ratio (M 52 t) (M 51 t) - 400000)) := by omega
        refine rd_lmul (pc := 65) d_M_commission_65 ?_
        refine rd_ldc2 (pc := 66) (v := 1000000) d_M_commission_66 kl_M_115 ?_
        refine rd_ldiv (pc := 69) d_M_commission_69 (by first | exact ⟨by omega, by omega⟩ | (have m4 := rd_mulb (b := 300000 - (sp_ratio (M 52 t) (M 51 t) - 400000)) (B := 300000) bp.1 bp.2 (by omega) (by omega); exact ⟨by omega, by omega⟩)) ⟨by omega, by omega⟩ (by omega) ?_
        exact rd_lret (pc := 70) d_M_commission_70 rfl (Nat.le_of_ble_eq_true rfl) (by unfold sp_com at hQ; first | (exfalso; omega) | (rw [show max (300000 - max (sp_ratio (M 52 t) (M 51 t) - 400000) 0) 100000 = 300000 by omega] at hQ; exact hQ) | (rw [show max (300000 - max (sp_ratio (M 52 t) (M 51 t) - 400000) 0) 100000 = 300000 - (sp_ratio (M 52 t) (M 51 t) - 400000) by omega] at hQ; exact hQ) | (rw [show max (300000 - max (sp_ratio (M 52 t) (M 51 t) - 400000) 0) 100000 = 100000 by omega] at hQ; exact hQ))
      · skip
        refine rd_ldc2 (pc := 57) (v := 100000) d_M_commission_57 kl_M_136 ?_
        refine rd_goto (pc := 60) (tgt := 65) d_M_commission_60 rfl ?_
        have m3 : 300000 - (sp_ratio (M 52 t) (M 51 t) - 400000) < 100000 ∨ (100000 ≤ 300000 - (sp_ratio (M 52 t) (M 51 t) - 400000)) := by omega
        refine rd_lmul (pc := 65) d_M_commission_65 ?_
        refine rd_ldc2 (pc := 66) (v := 1000000) d_M_commission_66 kl_M_115 ?_
        refine rd_ldiv (pc := 69) d_M_commission_69 (by first | exact ⟨by omega, by omega⟩ | (have m4 := rd_mulb (b := 300000 - (sp_ratio (M 52 t) (M 51 t) - 400000)) (B := 300000) bp.1 bp.2 (by omega) (by omega); exact ⟨by omega, by omega⟩)) ⟨by omega, by omega⟩ (by omega) ?_
        exact rd_lret (pc := 70) d_M_commission_70 rfl (Nat.le_of_ble_eq_true rfl) (by unfold sp_com at hQ; first | (exfalso; omega) | (rw [show max (300000 - max (sp_ratio (M 52 t) (M 51 t) - 400000) 0) 100000 = 300000 by omega] at hQ; exact hQ) | (rw [show max (300000 - max (sp_ratio (M 52 t) (M 51 t) - 400000) 0) 100000 = 300000 - (sp_ratio (M 52 t) (M 51 t) - 400000) by omega] at hQ; exact hQ) | (rw [show max (300000 - max (sp_ratio (M 52 t) (M 51 t) - 400000) 0) 100000 = 100000 by omega] at hQ; exact hQ))
    · skip
      refine rd_ldc2 (pc := 25) (v := 300000) d_M_commission_25 kl_M_205 ?_
      refine rd_goto (pc := 28) (tgt := 40) d_M_commission_28 rfl ?_
      refine rd_lst4 (pc := 40) d_M_commission_40 rfl ?_
      refine rd_aldn (pc := 42) d_M_commission_42 rfl ?_
      refine rd_getr (pc := 43) d_M_commission_43 fl_M_69 rfl rfl ?_
      refine rd_ildn (pc := 46) d_M_commission_46 rfl ?_
      refine rd_lald (pc := 47) d_M_commission_47 rfl (by omega) (by omega) ?_
      refine rd_lld (pc := 48) d_M_commission_48 rfl ?_
      refine rd_ldc2 (pc := 50) (v := 100000) d_M_commission_50 kl_M_136 ?_
      refine rd_lcmp_ge (pc := 53) (tgt := 63) d_M_commission_53 d_M_commission_54 rfl ⟨by omega, by omega⟩ ⟨by omega, by omega⟩ (fun h53 => ?_) (fun h53 => ?_)
      · skip
        refine rd_lld (pc := 63) d_M_commission_63 rfl ?_
        have m3 : 300000 - (sp_ratio (M 52 t) (M 51 t) - 400000) < 100000 ∨ (100000 ≤ 300000 - (sp_ratio (M 52 t) (M 51 t) - 400000)) := by omega
        refine rd_lmul (pc := 65) d_M_commission_65 ?_
        refine rd_ldc2 (pc := 66) (v := 1000000) d_M_commission_66 kl_M_115 ?_
        refine rd_ldiv (pc := 69) d_M_commission_69 (by first | exact ⟨by omega, by omega⟩ | (have m4 := rd_mulb (b := 300000 - (sp_ratio (M 52 t) (M 51 t) - 400000)) (B := 300000) bp.1 bp.2 (by omega) (by omega); exact ⟨by omega, by omega⟩)) ⟨by omega, by omega⟩ (by omega) ?_
        exact rd_lret (pc := 70) d_M_commission_70 rfl (Nat.le_of_ble_eq_true rfl) (by unfold sp_com at hQ; first | (exfalso; omega) | (rw [show max (300000 - max (sp_ratio (M 52 t) (M 51 t) - 400000) 0) 100000 = 300000 by omega] at hQ; exact hQ) | (rw [show max (300000 - max (sp_ratio (M 52 t) (M 51 t) - 400000) 0) 100000 = 300000 - (sp_ratio (M 52 t) (M 51 t) - 400000) by omega] at hQ; exact hQ) | (rw [show max (300000 - max (sp_ratio (M 52 t) (M 51 t) - 400000) 0) 100000 = 100000 by omega] at hQ; exact hQ))
      · skip
        refine rd_ldc2 (pc := 57) (v := 100000) d_M_commission_57 kl_M_136 ?_
        refine rd_goto (pc := 60) (tgt := 65) d_M_commission_60 rfl ?_
        have m3 : 300000 - (sp_ratio (M 52 t) (M 51 t) - 400000) < 100000 ∨ (100000 ≤ 300000 - (sp_ratio (M 52 t) (M 51 t) - 400000)) := by omega
        refine rd_lmul (pc := 65) d_M_commission_65 ?_
        refine rd_ldc2 (pc := 66) (v := 1000000) d_M_commission_66 kl_M_115 ?_
        refine rd_ldiv (pc := 69) d_M_commission_69 (by first | exact ⟨by omega, by omega⟩ | (have m4 := rd_mulb (b := 300000 - (sp_ratio (M 52 t) (M 51 t) - 400000)) (B := 300000) bp.1 bp.2 (by omega) (by omega); exact ⟨by omega, by omega⟩)) ⟨by omega, by omega⟩ (by omega) ?_
        exact rd_lret (pc := 70) d_M_commission_70 rfl (Nat.le_of_ble_eq_true rfl) (by unfold sp_com at hQ; first | (exfalso; omega) | (rw [show max (300000 - max (sp_ratio (M 52 t) (M 51 t) - 400000) 0) 100000 = 300000 by omega] at hQ; exact hQ) | (rw [show max (300000 - max (sp_ratio (M 52 t) (M 51 t) - 400000) 0) 100000 = 300000 - (sp_ratio (M 52 t) (M 51 t) - 400000) by omega] at hQ; exact hQ) | (rw [show max (300000 - max (sp_ratio (M 52 t) (M 51 t) - 400000) 0) 100000 = 100000 by omega] at hQ; exact hQ))
  · skip
    refine rd_lconst (pc := 9) (v := 0) d_M_commission_9 rfl ?_
    exact rd_lret (pc := 10) d_M_commission_10 rfl (Nat.le_of_ble_eq_true rfl) (by have z := hz (by omega); unfold sp_com at hQ; rw [z, Int.zero_mul] at hQ; exact hQ)
set_option maxHeartbeats 4000000 in
set_option maxRecDepth 100000 in
theorem ev_M_reinstatement {t r : Int} {n nt : Nat} {M : rd_M} {Q : rd_R → rd_M → Prop} (hB : r_B M n nt) (h0 : 0 ≤ t) (h1 : t < 10) (bk : 0 ≤ M 51 t ∧ M 51 t ≤ 40000000000) (bp : 0 ≤ M 52 t ∧ M 52 t ≤ 12000000000) (r0 : 0 ≤ r) (r1 : r < 6) (hb0 : 0 < M 43 t) (hQ : Q (.inl (some (rd_l (sp_sh (M 46 (t * 6 + r)) (sp_rei ((M 41 t).tdiv 10) (M 43 t) (M 44 t) (M 51 t)))))) (M)) : rd_G x_M_reinstatement 0 [some (.ref 32), some (rd_i t), some (rd_i r), none, none, none, none] [] M 0 Q := by
  obtain ⟨s1, s2, s3, ta, tb, tc, td⟩ := hB.sh h0 h1
  have hbc := rd_mulb tb.1 tb.2 tc.1 tc.2
  have hp : 0 ≤ (M 43 t * 100000).tdiv 1000000 ∧ (M 43 t * 100000).tdiv 1000000 ≤ M 43 t := rd_part_b tb.1 (by omega) (by omega)
  refine rd_aldn (pc := 0) d_M_reinstatement_0 rfl ?_
  refine rd_ildn (pc := 1) d_M_reinstatement_1 rfl ?_
  refine rd_callVi (pc := 2) (n' := 0) [_] d_M_reinstatement_2 ml_M_144 rfl (Nat.le_of_ble_eq_true rfl) (Nat.le_of_ble_eq_true rfl) (Nat.le_of_ble_eq_true rfl) rfl rfl rfl (Nat.le_of_ble_eq_true rfl) (Nat.le_of_ble_eq_true rfl) ?_
  refine ev_M_kindOf hB h0 h1 ?_
  refine ⟨_, rfl, ?_⟩
  refine rd_iconst (pc := 5) d_M_reinstatement_5 ?_
  refine rd_icmp_eq (pc := 6) (tgt := 20) d_M_reinstatement_6 rfl ⟨by omega, by omega⟩ ⟨by omega, by omega⟩ (fun h6 => ?_) (fun h6 => ?_)
  · skip
    refine rd_aldn (pc := 20) d_M_reinstatement_20 rfl ?_
    refine rd_getr (pc := 21) d_M_reinstatement_21 fl_M_41 rfl rfl ?_
    refine rd_ildn (pc := 24) d_M_reinstatement_24 rfl ?_
    refine rd_iald (pc := 25) d_M_reinstatement_25 rfl (by omega) (by omega) ?_
    refine rd_i2l (pc := 26) d_M_reinstatement_26 ⟨by omega, by omega⟩ ?_
    refine rd_aldn (pc := 27) d_M_reinstatement_27 rfl ?_
    refine rd_getr (pc := 28) d_M_reinstatement_28 fl_M_44 rfl rfl ?_
    refine rd_ildn (pc := 31) d_M_reinstatement_31 rfl ?_
    refine rd_iald (pc := 32) d_M_reinstatement_32 rfl (by omega) (by omega) ?_
    refine rd_i2l (pc := 33) d_M_reinstatement_33 ⟨by omega, by omega⟩ ?_
    refine rd_lmul (pc := 34) d_M_reinstatement_34 ?_
    refine rd_lst3 (pc := 35) d_M_reinstatement_35 rfl ?_
    refine rd_aldn (pc := 36) d_M_reinstatement_36 rfl ?_
    refine rd_getr (pc := 37) d_M_reinstatement_37 fl_M_66 rfl rfl ?_
    refine rd_ildn (pc := 40) d_M_reinstatement_40 rfl ?_
    refine rd_lald (pc := 41) d_M_reinstatement_41 rfl (by omega) (by omega) ?_
    refine rd_lldn (pc := 42) d_M_reinstatement_42 rfl ?_
    refine rd_lcmp_ge (pc := 43) (tgt := 56) d_M_reinstatement_43 d_M_reinstatement_44 rfl ⟨by omega, by omega⟩ ⟨by omega, by omega⟩ (fun h43 => ?_) (fun h43 => ?_)
    · skip
      refine rd_lldn (pc := 56) d_M_reinstatement_56 rfl ?_
      refine rd_lst5 (pc := 57) d_M_reinstatement_57 rfl ?_
      refine rd_aldn (pc := 59) d_M_reinstatement_59 rfl ?_
      refine rd_ildn (pc := 60) d_M_reinstatement_60 rfl ?_
      refine rd_ildn (pc := 61) d_M_reinstatement_61 rfl ?_
      refine rd_aldn (pc := 62) d_M_reinstatement_62 rfl ?_
      refine rd_getr (pc := 63) d_M_reinstatement_63 fl_M_41 rfl rfl ?_
      refine rd_ildn (pc := 66) d_M_reinstatement_66 rfl ?_
      refine rd_iald (pc := 67) d_M_reinstatement_67 rfl (by omega) (by omega) ?_
      refine rd_i2l (pc := 68) d_M_reinstatement_68 ⟨by omega, by omega⟩ ?_
      refine rd_ldc2 (pc := 69) (v := 100000) d_M_reinstatement_69 kl_M_136 ?_
      refine rd_lmul (pc := 72) d_M_reinstatement_72 ?_
      refine rd_ldc2 (pc := 73) (v := 1000000) d_M_reinstatement_73 kl_M_115 ?_
      refine rd_ldiv (pc := 76) d_M_reinstatement_76 ⟨by omega, by omega⟩ ⟨by omega, by omega⟩ (by omega) ?_
      refine rd_lld (pc := 77) d_M_reinstatement_77 rfl ?_
      refine rd_lmul (pc := 79) d_M_reinstatement_79 ?_
      refine rd_aldn (pc := 80) d_M_reinstatement_80 rfl ?_
      refine rd_getr (pc := 81) d_M_reinstatement_81 fl_M_41 rfl rfl ?_
      refine rd_ildn (pc := 84) d_M_reinstatement_84 rfl ?_
      refine rd_iald (pc := 85) d_M_reinstatement_85 rfl (by omega) (by omega) ?_
      refine rd_i2l (pc := 86) d_M_reinstatement_86 ⟨by omega, by omega⟩ ?_
      refine rd_ldiv (pc := 87) d_M_reinstatement_87 (by first | (have hpm := rd_mulb (b := M 51 t) (B := 5000000000) hp.1 (show _ ≤ 1000000000 by omega) (by omega) (by omega); exact ⟨by omega, by omega⟩) | (have hpm := rd_mulb (b := M 43 t * M 44 t) (B := 5000000000) hp.1 (show _ ≤ 1000000000 by omega) (by omega) (by omega); exact ⟨by omega, by omega⟩)) ⟨by omega, by omega⟩ (by omega) ?_
      refine rd_callVl (pc := 88) (n' := 0) [_, _, _] d_M_reinstatement_88 ml_M_210 rfl (Nat.le_of_ble_eq_true rfl) (Nat.le_of_ble_eq_true rfl) (Nat.le_of_ble_eq_true rfl) rfl rfl rfl (Nat.le_of_ble_eq_true rfl) (Nat.le_of_ble_eq_true rfl) ?_
      have hrb := sp_rei_b (kd := (M 41 t).tdiv 10) tb tc bk
      have er : sp_rei ((M 41 t).tdiv 10) (M 43 t) (M 44 t) (M 51 t) = ((M 43 t * 100000).tdiv 1000000 * min (M 51 t) (M 43 t * M 44 t)).tdiv (M 43 t) := if_pos ⟨by omega, hb0⟩
      first | rw [show min (M 51 t) (M 43 t * M 44 t) = M 51 t by omega] at er | rw [show min (M 51 t) (M 43 t * M 44 t) = M 43 t * M 44 t by omega] at er
      rw [← er]
      refine ev_M_shareOf hB h0 h1 r0 r1 ⟨by omega, by omega⟩ ?_
      refine ⟨_, rfl, ?_⟩
      exact rd_lret (pc := 91) d_M_reinstatement_91 rfl (Nat.le_of_ble_eq_true rfl) (hQ)
    · skip
      refine rd_aldn (pc := 47) d_M_reinstatement_47 rfl ?_
      refine rd_getr (pc := 48) d_M_reinstatement_48 fl_M_66 rfl rfl ?_
      refine rd_ildn (pc := 51) d_M_reinstatement_51 rfl ?_
      refine rd_lald (pc := 52) d_M_reinstatement_52 rfl (by omega) (by omega) ?_
      refine rd_goto (pc := 53) (tgt := 57) d_M_reinstatement_53 rfl ?_
      refine rd_lst5 (pc := 57) d_M_reinstatement_57 rfl ?_
      refine rd_aldn (pc := 59) d_M_reinstatement_59 rfl ?_
      refine rd_ildn (pc := 60) d_M_reinstatement_60 rfl ?_
      refine rd_ildn (pc := 61) d_M_reinstatement_61 rfl ?_
      refine rd_aldn (pc := 62) d_M_reinstatement_62 rfl ?_
      refine rd_getr (pc := 63) d_M_reinstatement_63 fl_M_41 rfl rfl ?_
      refine rd_ildn (pc := 66) d_M_reinstatement_66 rfl ?_
      refine rd_iald (pc := 67) d_M_reinstatement_67 rfl (by omega) (by omega) ?_
      refine rd_i2l (pc := 68) d_M_reinstatement_68 ⟨by omega, by omega⟩ ?_
      refine rd_ldc2 (pc := 69) (v := 100000) d_M_reinstatement_69 kl_M_136 ?_
      refine rd_lmul (pc := 72) d_M_reinstatement_72 ?_
      refine rd_ldc2 (pc := 73) (v := 1000000) d_M_reinstatement_73 kl_M_115 ?_
      refine rd_ldiv (pc := 76) d_M_reinstatement_76 ⟨by omega, by omega⟩ ⟨by omega, by omega⟩ (by omega) ?_
      refine rd_lld (pc := 77) d_M_reinstatement_77 rfl ?_
      refine rd_lmul (pc := 79) d_M_reinstatement_79 ?_
      refine rd_aldn (pc := 80) d_M_reinstatement_80 rfl ?_
      refine rd_getr (pc := 81) d_M_reinstatement_81 fl_M_41 rfl rfl ?_
      refine rd_ildn (pc := 84) d_M_reinstatement_84 rfl ?_
      refine rd_iald (pc := 85) d_M_reinstatement_85 rfl (by omega) (by omega) ?_
      refine rd_i2l (pc := 86) d_M_reinstatement_86 ⟨by omega, by omega⟩ ?_
      refine rd_ldiv (pc := 87) d_M_reinstatement_87 (by first | (have hpm := rd_mulb (b := M 51 t) (B := 5000000000) hp.1 (show _ ≤ 1000000000 by omega) (by omega) (by omega); exact ⟨by omega, by omega⟩) | (have hpm := rd_mulb (b := M 43 t * M 44 t) (B := 5000000000) hp.1 (show _ ≤ 1000000000 by omega) (by omega) (by omega); exact ⟨by omega, by omega⟩)) ⟨by omega, by omega⟩ (by omega) ?_
      refine rd_callVl (pc := 88) (n' := 0) [_, _, _] d_M_reinstatement_88 ml_M_210 rfl (Nat.le_of_ble_eq_true rfl) (Nat.le_of_ble_eq_true rfl) (Nat.le_of_ble_eq_true rfl) rfl rfl rfl (Nat.le_of_ble_eq_true rfl) (Nat.le_of_ble_eq_true rfl) ?_
      have hrb := sp_rei_b (kd := (M 41 t).tdiv 10) tb tc bk
      have er : sp_rei ((M 41 t).tdiv 10) (M 43 t) (M 44 t) (M 51 t) = ((M 43 t * 100000).tdiv 1000000 * min (M 51 t) (M 43 t * M 44 t)).tdiv (M 43 t) := if_pos ⟨by omega, hb0⟩
      first | rw [show min (M 51 t) (M 43 t * M 44 t) = M 51 t by omega] at er | rw [show min (M 51 t) (M 43 t * M 44 t) = M 43 t * M 44 t by omega] at er
      rw [← er]
      refine ev_M_shareOf hB h0 h1 r0 r1 ⟨by omega, by omega⟩ ?_
      refine ⟨_, rfl, ?_⟩
      exact rd_lret (pc := 91) d_M_reinstatement_91 rfl (Nat.le_of_ble_eq_true rfl) (hQ)
  · skip
    refine rd_aldn (pc := 9) d_M_reinstatement_9 rfl ?_
    refine rd_ildn (pc := 10) d_M_reinstatement_10 rfl ?_
    refine rd_callVi (pc := 11) (n' := 0) [_] d_M_reinstatement_11 ml_M_144 rfl (Nat.le_of_ble_eq_true rfl) (Nat.le_of_ble_eq_true rfl) (Nat.le_of_ble_eq_true rfl) rfl rfl rfl (Nat.le_of_ble_eq_true rfl) (Nat.le_of_ble_eq_true rfl) ?_
    refine ev_M_kindOf hB h0 h1 ?_
    refine ⟨_, rfl, ?_⟩
    refine rd_iconst (pc := 14) d_M_reinstatement_14 ?_
    refine rd_icmp_eq (pc := 15) (tgt := 20) d_M_reinstatement_15 rfl ⟨by omega, by omega⟩ ⟨by omega, by omega⟩ (fun h15 => ?_) (fun h15 => ?_)
    · skip
      refine rd_aldn (pc := 20) d_M_reinstatement_20 rfl ?_
      refine rd_getr (pc := 21) d_M_reinstatement_21 fl_M_41 rfl rfl ?_
      refine rd_ildn (pc := 24) d_M_reinstatement_24 rfl ?_
      refine rd_iald (pc := 25) d_M_reinstatement_25 rfl (by omega) (by omega) ?_
      refine rd_i2l (pc := 26) d_M_reinstatement_26 ⟨by omega, by omega⟩ ?_
      refine rd_aldn (pc := 27) d_M_reinstatement_27 rfl ?_
      refine rd_getr (pc := 28) d_M_reinstatement_28 fl_M_44 rfl rfl ?_
      refine rd_ildn (pc := 31) d_M_reinstatement_31 rfl ?_
      refine rd_iald (pc := 32) d_M_reinstatement_32 rfl (by omega) (by omega) ?_
      refine rd_i2l (pc := 33) d_M_reinstatement_33 ⟨by omega, by omega⟩ ?_
      refine rd_lmul (pc := 34) d_M_reinstatement_34 ?_
      refine rd_lst3 (pc := 35) d_M_reinstatement_35 rfl ?_
      refine rd_aldn (pc := 36) d_M_reinstatement_36 rfl ?_
      refine rd_getr (pc := 37) d_M_reinstatement_37 fl_M_66 rfl rfl ?_
      refine rd_ildn (pc := 40) d_M_reinstatement_40 rfl ?_
      refine rd_lald (pc := 41) d_M_reinstatement_41 rfl (by omega) (by omega) ?_
      refine rd_lldn (pc := 42) d_M_reinstatement_42 rfl ?_
      refine rd_lcmp_ge (pc := 43) (tgt := 56) d_M_reinstatement_43 d_M_reinstatement_44 rfl ⟨by omega, by omega⟩ ⟨by omega, by omega⟩ (fun h43 => ?_) (fun h43 => ?_)
      · skip
        refine rd_lldn (pc := 56) d_M_reinstatement_56 rfl ?_
        refine rd_lst5 (pc := 57) d_M_reinstatement_57 rfl ?_
        refine rd_aldn (pc := 59) d_M_reinstatement_59 rfl ?_
        refine rd_ildn (pc := 60) d_M_reinstatement_60 rfl ?_
        refine rd_ildn (pc := 61) d_M_reinstatement_61 rfl ?_
        refine rd_aldn (pc := 62) d_M_reinstatement_62 rfl ?_
        refine rd_getr (pc := 63) d_M_reinstatement_63 fl_M_41 rfl rfl ?_
        refine rd_ildn (pc := 66) d_M_reinstatement_66 rfl ?_
        refine rd_iald (pc := 67) d_M_reinstatement_67 rfl (by omega) (by omega) ?_
        refine rd_i2l (pc := 68) d_M_reinstatement_68 ⟨by omega, by omega⟩ ?_
        refine rd_ldc2 (pc := 69) (v := 100000) d_M_reinstatement_69 kl_M_136 ?_
        refine rd_lmul (pc := 72) d_M_reinstatement_72 ?_
        refine rd_ldc2 (pc := 73) (v := 1000000) d_M_reinstatement_73 kl_M_115 ?_
        refine rd_ldiv (pc := 76) d_M_reinstatement_76 ⟨by omega, by omega⟩ ⟨by omega, by omega⟩ (by omega) ?_
        refine rd_lld (pc := 77) d_M_reinstatement_77 rfl ?_
        refine rd_lmul (pc := 79) d_M_reinstatement_79 ?_
        refine rd_aldn (pc := 80) d_M_reinstatement_80 rfl ?_
        refine rd_getr (pc := 81) d_M_reinstatement_81 fl_M_41 rfl rfl ?_
        refine rd_ildn (pc := 84) d_M_reinstatement_84 rfl ?_
        refine rd_iald (pc := 85) d_M_reinstatement_85 rfl (by omega) (by omega) ?_
        refine rd_i2l (pc := 86) d_M_reinstatement_86 ⟨by omega, by omega⟩ ?_
        refine rd_ldiv (pc := 87) d_M_reinstatement_87 (by first | (have hpm := rd_mulb (b := M 51 t) (B := 5000000000) hp.1 (show _ ≤ 1000000000 by omega) (by omega) (by omega); exact ⟨by omega, by omega⟩) | (have hpm := rd_mulb (b := M 43 t * M 44 t) (B := 5000000000) hp.1 (show _ ≤ 1000000000 by omega) (by omega) (by omega); exact ⟨by omega, by omega⟩)) ⟨by omega, by omega⟩ (by omega) ?_
        refine rd_callVl (pc := 88) (n' := 0) [_, _, _] d_M_reinstatement_88 ml_M_210 rfl (Nat.le_of_ble_eq_true rfl) (Nat.le_of_ble_eq_true rfl) (Nat.le_of_ble_eq_true rfl) rfl rfl rfl (Nat.le_of_ble_eq_true rfl) (Nat.le_of_ble_eq_true rfl) ?_
        have hrb := sp_rei_b (kd := (M 41 t).tdiv 10) tb tc bk
        have er : sp_rei ((M 41 t).tdiv 10) (M 43 t) (M 44 t) (M 51 t) = ((M 43 t * 100000).tdiv 1000000 * min (M 51 t) (M 43 t * M 44 t)).tdiv (M 43 t) := if_pos ⟨by omega, hb0⟩
        first | rw [show min (M 51 t) (M 43 t * M 44 t) = M 51 t by omega] at er | rw [show min (M 51 t) (M 43 t * M 44 t) = M 43 t * M 44 t by omega] at er
        rw [← er]
        refine ev_M_shareOf hB h0 h1 r0 r1 ⟨by omega, by omega⟩ ?_
        refine ⟨_, rfl, ?_⟩
        exact rd_lret (pc := 91) d_M_reinstatement_91 rfl (Nat.le_of_ble_eq_true rfl) (hQ)
      · skip
        refine rd_aldn (pc := 47) d_M_reinstatement_47 rfl ?_
        refine rd_getr (pc := 48) d_M_reinstatement_48 fl_M_66 rfl rfl ?_
        refine rd_ildn (pc := 51) d_M_reinstatement_51 rfl ?_
        refine rd_lald (pc := 52) d_M_reinstatement_52 rfl (by omega) (by omega) ?_
        refine rd_goto (pc := 53) (tgt := 57) d_M_reinstatement_53 rfl ?_
        refine rd_lst5 (pc := 57) d_M_reinstatement_57 rfl ?_
        refine rd_aldn (pc := 59) d_M_reinstatement_59 rfl ?_
        refine rd_ildn (pc := 60) d_M_reinstatement_60 rfl ?_
        refine rd_ildn (pc := 61) d_M_reinstatement_61 rfl ?_
        refine rd_aldn (pc := 62) d_M_reinstatement_62 rfl ?_
        refine rd_getr (pc := 63) d_M_reinstatement_63 fl_M_41 rfl rfl ?_
        refine rd_ildn (pc := 66) d_M_reinstatement_66 rfl ?_
        refine rd_iald (pc := 67) d_M_reinstatement_67 rfl (by omega) (by omega) ?_
        refine rd_i2l (pc := 68) d_M_reinstatement_68 ⟨by omega, by omega⟩ ?_
        refine rd_ldc2 (pc := 69) (v := 100000) d_M_reinstatement_69 kl_M_136 ?_
        refine rd_lmul (pc := 72) d_M_reinstatement_72 ?_
        refine rd_ldc2 (pc := 73) (v := 1000000) d_M_reinstatement_73 kl_M_115 ?_
        refine rd_ldiv (pc := 76) d_M_reinstatement_76 ⟨by omega, by omega⟩ ⟨by omega, by omega⟩ (by omega) ?_
        refine rd_lld (pc := 77) d_M_reinstatement_77 rfl ?_
        refine rd_lmul (pc := 79) d_M_reinstatement_79 ?_
        refine rd_aldn (pc := 80) d_M_reinstatement_80 rfl ?_
        refine rd_getr (pc := 81) d_M_reinstatement_81 fl_M_41 rfl rfl ?_
        refine rd_ildn (pc := 84) d_M_reinstatement_84 rfl ?_
        refine rd_iald (pc := 85) d_M_reinstatement_85 rfl (by omega) (by omega) ?_
        refine rd_i2l (pc := 86) d_M_reinstatement_86 ⟨by omega, by omega⟩ ?_
        refine rd_ldiv (pc := 87) d_M_reinstatement_87 (by first | (have hpm := rd_mulb (b := M 51 t) (B := 5000000000) hp.1 (show _ ≤ 1000000000 by omega) (by omega) (by omega); exact ⟨by omega, by omega⟩) | (have hpm := rd_mulb (b := M 43 t * M 44 t) (B := 5000000000) hp.1 (show _ ≤ 1000000000 by omega) (by omega) (by omega); exact ⟨by omega, by omega⟩)) ⟨by omega, by omega⟩ (by omega) ?_
        refine rd_callVl (pc := 88) (n' := 0) [_, _, _] d_M_reinstatement_88 ml_M_210 rfl (Nat.le_of_ble_eq_true rfl) (Nat.le_of_ble_eq_true rfl) (Nat.le_of_ble_eq_true rfl) rfl rfl rfl (Nat.le_of_ble_eq_true rfl) (Nat.le_of_ble_eq_true rfl) ?_
        have hrb := sp_rei_b (kd := (M 41 t).tdiv 10) tb tc bk
        have er : sp_rei ((M 41 t).tdiv 10) (M 43 t) (M 44 t) (M 51 t) = ((M 43 t * 100000).tdiv 1000000 * min (M 51 t) (M 43 t * M 44 t)).tdiv (M 43 t) := if_pos ⟨by omega, hb0⟩
        first | rw [show min (M 51 t) (M 43 t * M 44 t) = M 51 t by omega] at er | rw [show min (M 51 t) (M 43 t * M 44 t) = M 43 t * M 44 t by omega] at er
        rw [← er]
        refine ev_M_shareOf hB h0 h1 r0 r1 ⟨by omega, by omega⟩ ?_
        refine ⟨_, rfl, ?_⟩
        exact rd_lret (pc := 91) d_M_reinstatement_91 rfl (Nat.le_of_ble_eq_true rfl) (hQ)
    · skip
      refine rd_lconst (pc := 18) (v := 0) d_M_reinstatement_18 rfl ?_
      exact rd_lret (pc := 19) d_M_reinstatement_19 rfl (Nat.le_of_ble_eq_true rfl) (by have er : sp_rei ((M 41 t).tdiv 10) (M 43 t) (M 44 t) (M 51 t) = 0 := if_neg (by omega); rw [er] at hQ; unfold sp_sh at hQ; rw [Int.zero_mul] at hQ; exact hQ)

/-! the reference: questions -/
set_option maxHeartbeats 4000000 in
set_option maxRecDepth 100000 in
theorem lq_M_shareB {t r p a : Int} {M : rd_M} {Q : rd_R → rd_M → Prop} (hA : Q (.inl none) (rd_up M 32 0 1)) : rd_G x_M_share 46 [some (.ref 32), some (rd_i t), some (rd_i r), some (rd_i p), some (rd_i 1), some (rd_l a), none, some (rd_i 0)] [] M 0 Q := by
  refine rd_ild (pc := 46) d_M_share_46 rfl ?_
  refine rd_bipush (pc := 48) d_M_share_48 rfl ?_
  refine rd_icmp_ge (pc := 50) (tgt := 92) d_M_share_50 rfl ⟨by omega, by omega⟩ ⟨by omega, by omega⟩ (fun h50 => ?_) (fun h50 => ?_)
  · skip
    refine rd_aldn (pc := 92) d_M_share_92 rfl ?_
    refine rd_ild (pc := 93) d_M_share_93 rfl ?_
    refine rd_ild (pc := 95) d_M_share_95 rfl ?_
    refine rd_if_ne (pc := 97) (tgt := 126) d_M_share_97 rfl ⟨by omega, by omega⟩ (fun h97 => ?_) (fun h97 => ?_)
    · skip
      refine rd_iconst (pc := 126) d_M_share_126 ?_
      refine rd_callVi (pc := 127) (n' := 0) [_, _] d_M_share_127 ml_M_107 rfl (Nat.le_of_ble_eq_true rfl) (Nat.le_of_ble_eq_true rfl) (Nat.le_of_ble_eq_true rfl) rfl rfl rfl (Nat.le_of_ble_eq_true rfl) (Nat.le_of_ble_eq_true rfl) ?_
      refine ev_M_throwing1 ?_
      refine ⟨_, rfl, ?_⟩
      refine rd_if_eq (pc := 130) (tgt := 134) d_M_share_130 rfl ⟨by omega, by omega⟩ (fun h130 => ?_) (fun h130 => ?_)
      · exact absurd h130 (by decide)
      · skip
        exact rd_vret (pc := 133) d_M_share_133 rfl (Nat.le_of_ble_eq_true rfl) (hA)
    · exact absurd h97 (by decide)
  · skip
    refine rd_ild (pc := 53) d_M_share_53 rfl ?_
    refine rd_if_ne (pc := 55) (tgt := 92) d_M_share_55 rfl ⟨by omega, by omega⟩ (fun h55 => ?_) (fun h55 => ?_)
    · skip
      refine rd_aldn (pc := 92) d_M_share_92 rfl ?_
      refine rd_ild (pc := 93) d_M_share_93 rfl ?_
      refine rd_ild (pc := 95) d_M_share_95 rfl ?_
      refine rd_if_ne (pc := 97) (tgt := 126) d_M_share_97 rfl ⟨by omega, by omega⟩ (fun h97 => ?_) (fun h97 => ?_)
      · skip
        refine rd_iconst (pc := 126) d_M_share_126 ?_
        refine rd_callVi (pc := 127) (n' := 0) [_, _] d_M_share_127 ml_M_107 rfl (Nat.le_of_ble_eq_true rfl) (Nat.le_of_ble_eq_true rfl) (Nat.le_of_ble_eq_true rfl) rfl rfl rfl (Nat.le_of_ble_eq_true rfl) (Nat.le_of_ble_eq_true rfl) ?_
        refine ev_M_throwing1 ?_
        refine ⟨_, rfl, ?_⟩
        refine rd_if_eq (pc := 130) (tgt := 134) d_M_share_130 rfl ⟨by omega, by omega⟩ (fun h130 => ?_) (fun h130 => ?_)
        · exact absurd h130 (by decide)
        · skip
          exact rd_vret (pc := 133) d_M_share_133 rfl (Nat.le_of_ble_eq_true rfl) (hA)
      · exact absurd h97 (by decide)
    · exact absurd h55 (by decide)
set_option maxHeartbeats 4000000 in
set_option maxRecDepth 100000 in
theorem ev_M_share {t r p : Int} {n nt : Nat} {M : rd_M} {Q : rd_R → rd_M → Prop} (hB : r_B M n nt) (ht : rd_I t) (hr : rd_I r) (hp : rd_I p) (hA : ¬ ((0 ≤ t ∧ t < nt) ∧ (0 ≤ r ∧ r < 6) ∧ (0 ≤ p ∧ p ≤ 1000000)) → Q (.inl none) (rd_up M 32 0 1)) (hS : ((0 ≤ t ∧ t < nt) ∧ (0 ≤ r ∧ r < 6) ∧ (0 ≤ p ∧ p ≤ 1000000)) → (M 48 ((M 41 t).tmod 10) ≠ 0 ∨ 1000000 < rd_sm (fun o => if o = r then 0 else M 46 (t * 6 + o)) 6 + p) → Q (.inl none) (rd_up M 32 0 2)) (hQ : ((0 ≤ t ∧ t < nt) ∧ (0 ≤ r ∧ r < 6) ∧ (0 ≤ p ∧ p ≤ 1000000)) → ¬ (M 48 ((M 41 t).tmod 10) ≠ 0 ∨ 1000000 < rd_sm (fun o => if o = r then 0 else M 46 (t * 6 + o)) 6 + p) → Q (.inl none) (rd_up (rd_up M 32 0 0) 46 (t * 6 + r) p)) : rd_G x_M_share 0 [some (.ref 32), some (rd_i t), some (rd_i r), some (rd_i p), none, none, none, none] [] M 0 Q := by
  have hn := hB.1
  have hm := hB.2.1
  have hn4 := hB.2.2.1
  have hm10 := hB.2.2.2.1
  have hcl : ∀ y : Int, 0 ≤ y → y < 4 → 0 ≤ M 48 y ∧ M 48 y ≤ 1 := hB.2.2.2.2.2.2.2
  refine rd_aldn (pc := 0) d_M_share_0 rfl ?_
  refine rd_ildn (pc := 1) d_M_share_1 rfl ?_
  refine rd_callVi (pc := 2) (n' := 0) [_] d_M_share_2 ml_M_127 rfl (Nat.le_of_ble_eq_true rfl) (Nat.le_of_ble_eq_true rfl) (Nat.le_of_ble_eq_true rfl) rfl rfl rfl (Nat.le_of_ble_eq_true rfl) (Nat.le_of_ble_eq_true rfl) ?_
  refine ev_M_isTreaty hB ⟨by omega, by omega⟩ (fun c2 => ⟨_, rfl, ?_⟩) (fun c2 => ⟨_, rfl, ?_⟩)
  · skip
    refine rd_if_eq (pc := 5) (tgt := 32) d_M_share_5 rfl ⟨by omega, by omega⟩ (fun h5 => ?_) (fun h5 => ?_)
    · exact absurd h5 (by decide)
    · skip
      refine rd_ildn (pc := 8) d_M_share_8 rfl ?_
      refine rd_i2l (pc := 9) d_M_share_9 ⟨by omega, by omega⟩ ?_
      refine rd_lconst (pc := 10) (v := 0) d_M_share_10 rfl ?_
      refine rd_ldc2 (pc := 11) (v := 5) d_M_share_11 kl_M_119 ?_
      refine rd_callSi (pc := 14) (n' := 0) [_, _, _] d_M_share_14 ml_M_93 (Nat.le_of_ble_eq_true rfl) (Nat.le_of_ble_eq_true rfl) (Nat.le_of_ble_eq_true rfl) rfl rfl rfl (Nat.le_of_ble_eq_true rfl) (Nat.le_of_ble_eq_true rfl) ?_
      refine ev_M_in ⟨by omega, by omega⟩ ⟨by omega, by omega⟩ ⟨by omega, by omega⟩ (fun c14 => ⟨_, rfl, ?_⟩) (fun c14 => ⟨_, rfl, ?_⟩)
      · skip
        refine rd_if_eq (pc := 17) (tgt := 32) d_M_share_17 rfl ⟨by omega, by omega⟩ (fun h17 => ?_) (fun h17 => ?_)
        · exact absurd h17 (by decide)
        · skip
          refine rd_ildn (pc := 20) d_M_share_20 rfl ?_
          refine rd_i2l (pc := 21) d_M_share_21 ⟨by omega, by omega⟩ ?_
          refine rd_lconst (pc := 22) (v := 0) d_M_share_22 rfl ?_
          refine rd_ldc2 (pc := 23) (v := 1000000) d_M_share_23 kl_M_115 ?_
          refine rd_callSi (pc := 26) (n' := 0) [_, _, _] d_M_share_26 ml_M_93 (Nat.le_of_ble_eq_true rfl) (Nat.le_of_ble_eq_true rfl) (Nat.le_of_ble_eq_true rfl) rfl rfl rfl (Nat.le_of_ble_eq_true rfl) (Nat.le_of_ble_eq_true rfl) ?_
          refine ev_M_in ⟨by omega, by omega⟩ ⟨by omega, by omega⟩ ⟨by omega, by omega⟩ (fun c26 => ⟨_, rfl, ?_⟩) (fun c26 => ⟨_, rfl, ?_⟩)
          · skip
            refine rd_if_ne (pc := 29) (tgt := 36) d_M_share_29 rfl ⟨by omega, by omega⟩ (fun h29 => ?_) (fun h29 => ?_)
            · skip
              refine rd_iconst (pc := 36) d_M_share_36 ?_
              refine rd_ist4 (pc := 37) d_M_share_37 rfl ?_
              refine rd_ildn (pc := 39) d_M_share_39 rfl ?_
              refine rd_i2l (pc := 40) d_M_share_40 ⟨by omega, by omega⟩ ?_
              refine rd_lst5 (pc := 41) d_M_share_41 rfl ?_
              refine rd_iconst (pc := 43) d_M_share_43 ?_
              refine rd_ist7 (pc := 44) d_M_share_44 rfl ?_
              first
                | exact lq_M_shareB (hA (by omega))
                | (refine lq_M_share hB (by omega) (by omega) (by omega) (fun i2 => ?_) _ 0 p rfl (by omega) (by omega) (by show p = p + 0; omega)
                   have hob := rd_sm_b (f := (fun o => if o = r then 0 else M 46 (t * 6 + o))) (A := 0) (B := 1000000) 6 (fun i a b => by have := hB.2.2.2.2.2.2.1 (t * 6 + i) (by omega) (by omega); split <;> omega)
                   obtain ⟨s1, s2, s3, _⟩ := hB.sh (t := t) (by omega) (by omega)
                   have hc := hcl ((M 41 t).tmod 10) (by omega) (by omega)
                   refine rd_aldn (pc := 92) d_M_share_92 rfl ?_
                   refine rd_ild (pc := 93) d_M_share_93 rfl ?_
                   refine rd_ild (pc := 95) d_M_share_95 rfl ?_
                   refine rd_if_ne (pc := 97) (tgt := 126) d_M_share_97 rfl ⟨by omega, by omega⟩ (fun h97 => ?_) (fun h97 => ?_)
                   · exact absurd h97 (by decide)
                   · skip
                     refine rd_lld (pc := 100) d_M_share_100 rfl ?_
                     refine rd_ldc2 (pc := 102) (v := 1000000) d_M_share_102 kl_M_115 ?_
                     refine rd_lcmp_gt (pc := 105) (tgt := 122) d_M_share_105 d_M_share_106 rfl ⟨by omega, by omega⟩ ⟨by omega, by omega⟩ (fun h105 => ?_) (fun h105 => ?_)
                     · skip
                       refine rd_iconst (pc := 122) d_M_share_122 ?_
                       refine rd_goto (pc := 123) (tgt := 127) d_M_share_123 rfl ?_
                       refine rd_callVi (pc := 127) (n' := 0) [_, _] d_M_share_127 ml_M_107 rfl (Nat.le_of_ble_eq_true rfl) (Nat.le_of_ble_eq_true rfl) (Nat.le_of_ble_eq_true rfl) rfl rfl rfl (Nat.le_of_ble_eq_true rfl) (Nat.le_of_ble_eq_true rfl) ?_
                       refine ev_M_throwing2 ?_
                       refine ⟨_, rfl, ?_⟩
                       refine rd_if_eq (pc := 130) (tgt := 134) d_M_share_130 rfl ⟨by omega, by omega⟩ (fun h130 => ?_) (fun h130 => ?_)
                       · exact absurd h130 (by decide)
                       · skip
                         exact rd_vret (pc := 133) d_M_share_133 rfl (Nat.le_of_ble_eq_true rfl) (hS (by omega) (by omega))
                     · skip
                       refine rd_aldn (pc := 109) d_M_share_109 rfl ?_
                       refine rd_getr (pc := 110) d_M_share_110 fl_M_57 rfl rfl ?_
                       refine rd_aldn (pc := 113) d_M_share_113 rfl ?_
                       refine rd_ildn (pc := 114) d_M_share_114 rfl ?_
                       refine rd_callVi (pc := 115) (n' := 0) [_] d_M_share_115 ml_M_130 rfl (Nat.le_of_ble_eq_true rfl) (Nat.le_of_ble_eq_true rfl) (Nat.le_of_ble_eq_true rfl) rfl rfl rfl (Nat.le_of_ble_eq_true rfl) (Nat.le_of_ble_eq_true rfl) ?_
                       refine ev_M_treatyYear hB (by omega) (by omega) ?_
                       refine ⟨_, rfl, ?_⟩
                       refine rd_zald (pc := 118) d_M_share_118 rfl (by omega) (by omega) ?_
                       refine rd_if_eq (pc := 119) (tgt := 126) d_M_share_119 rfl ⟨by omega, by omega⟩ (fun h119 => ?_) (fun h119 => ?_)
                       · skip
                         refine rd_iconst (pc := 126) d_M_share_126 ?_
                         refine rd_callVi (pc := 127) (n' := 0) [_, _] d_M_share_127 ml_M_107 rfl (Nat.le_of_ble_eq_true rfl) (Nat.le_of_ble_eq_true rfl) (Nat.le_of_ble_eq_true rfl) rfl rfl rfl (Nat.le_of_ble_eq_true rfl) (Nat.le_of_ble_eq_true rfl) ?_
                         refine ev_M_throwing0 ?_
                         refine ⟨_, rfl, ?_⟩
                         refine rd_if_eq (pc := 130) (tgt := 134) d_M_share_130 rfl ⟨by omega, by omega⟩ (fun h130 => ?_) (fun h130 => ?_)
                         · skip
                           refine rd_aldn (pc := 134) d_M_share_134 rfl ?_
                           refine rd_getr (pc := 135) d_M_share_135 fl_M_50 rfl rfl ?_
                           refine rd_bipush (pc := 138) d_M_share_138 rfl ?_
                           refine rd_ildn (pc := 140) d_M_share_140 rfl ?_
                           refine rd_imul (pc := 141) d_M_share_141 ?_
                           refine rd_ildn (pc := 142) d_M_share_142 rfl ?_
                           refine rd_iadd (pc := 143) d_M_share_143 ?_
                           refine rd_ildn (pc := 144) d_M_share_144 rfl ?_
                           refine rd_iast (pc := 145) d_M_share_145 rfl (by omega) (by omega) ?_
                           exact rd_vret (pc := 146) d_M_share_146 rfl (Nat.le_of_ble_eq_true rfl) (by have hq := hQ (by omega) (by omega); rw [show t * 6 + r = 6 * t + r by omega] at hq; exact hq)
                         · exact absurd h130 (by decide)
                       · skip
                         refine rd_iconst (pc := 122) d_M_share_122 ?_
                         refine rd_goto (pc := 123) (tgt := 127) d_M_share_123 rfl ?_
                         refine rd_callVi (pc := 127) (n' := 0) [_, _] d_M_share_127 ml_M_107 rfl (Nat.le_of_ble_eq_true rfl) (Nat.le_of_ble_eq_true rfl) (Nat.le_of_ble_eq_true rfl) rfl rfl rfl (Nat.le_of_ble_eq_true rfl) (Nat.le_of_ble_eq_true rfl) ?_
                         refine ev_M_throwing2 ?_
                         refine ⟨_, rfl, ?_⟩
                         refine rd_if_eq (pc := 130) (tgt := 134) d_M_share_130 rfl ⟨by omega, by omega⟩ (fun h130 => ?_) (fun h130 => ?_)
                         · exact absurd h130 (by decide)
                         · skip
                           exact rd_vret (pc := 133) d_M_share_133 rfl (Nat.le_of_ble_eq_true rfl) (hS (by omega) (by omega))
                  )
            · exact absurd h29 (by decide)
          · skip
            refine rd_if_ne (pc := 29) (tgt := 36) d_M_share_29 rfl ⟨by omega, by omega⟩ (fun h29 => ?_) (fun h29 => ?_)
            · exact absurd h29 (by decide)
            · skip
              refine rd_iconst (pc := 32) d_M_share_32 ?_
              refine rd_goto (pc := 33) (tgt := 37) d_M_share_33 rfl ?_
              refine rd_ist4 (pc := 37) d_M_share_37 rfl ?_
              refine rd_ildn (pc := 39) d_M_share_39 rfl ?_
              refine rd_i2l (pc := 40) d_M_share_40 ⟨by omega, by omega⟩ ?_
              refine rd_lst5 (pc := 41) d_M_share_41 rfl ?_
              refine rd_iconst (pc := 43) d_M_share_43 ?_
              refine rd_ist7 (pc := 44) d_M_share_44 rfl ?_
              first
                | exact lq_M_shareB (hA (by omega))
                | (refine lq_M_share hB (by omega) (by omega) (by omega) (fun i2 => ?_) _ 0 p rfl (by omega) (by omega) (by show p = p + 0; omega)
                   have hob := rd_sm_b (f := (fun o => if o = r then 0 else M 46 (t * 6 + o))) (A := 0) (B := 1000000) 6 (fun i a b => by have := hB.2.2.2.2.2.2.1 (t * 6 + i) (by omega) (by omega); split <;> omega)
                   obtain ⟨s1, s2, s3, _⟩ := hB.sh (t := t) (by omega) (by omega)
                   have hc := hcl ((M 41 t).tmod 10) (by omega) (by omega)
                   refine rd_aldn (pc := 92) d_M_share_92 rfl ?_
                   refine rd_ild (pc := 93) d_M_share_93 rfl ?_
                   refine rd_ild (pc := 95) d_M_share_95 rfl ?_
                   refine rd_if_ne (pc := 97) (tgt := 126) d_M_share_97 rfl ⟨by omega, by omega⟩ (fun h97 => ?_) (fun h97 => ?_)
                   · exact absurd h97 (by decide)
                   · skip
                     refine rd_lld (pc := 100) d_M_share_100 rfl ?_
                     refine rd_ldc2 (pc := 102) (v := 1000000) d_M_share_102 kl_M_115 ?_
                     refine rd_lcmp_gt (pc := 105) (tgt := 122) d_M_share_105 d_M_share_106 rfl ⟨by omega, by omega⟩ ⟨by omega, by omega⟩ (fun h105 => ?_) (fun h105 => ?_)
                     · skip
                       refine rd_iconst (pc := 122) d_M_share_122 ?_
                       refine rd_goto (pc := 123) (tgt := 127) d_M_share_123 rfl ?_
                       refine rd_callVi (pc := 127) (n' := 0) [_, _] d_M_share_127 ml_M_107 rfl (Nat.le_of_ble_eq_true rfl) (Nat.le_of_ble_eq_true rfl) (Nat.le_of_ble_eq_true rfl) rfl rfl rfl (Nat.le_of_ble_eq_true rfl) (Nat.le_of_ble_eq_true rfl) ?_
                       refine ev_M_throwing2 ?_
                       refine ⟨_, rfl, ?_⟩
                       refine rd_if_eq (pc := 130) (tgt := 134) d_M_share_130 rfl ⟨by omega, by omega⟩ (fun h130 => ?_) (fun h130 => ?_)
                       · exact absurd h130 (by decide)
                       · skip
                         exact rd_vret (pc := 133) d_M_share_133 rfl (Nat.le_of_ble_eq_true rfl) (hS (by omega) (by omega))
                     · skip
                       refine rd_aldn (pc := 109) d_M_share_109 rfl ?_
                       refine rd_getr (pc := 110) d_M_share_110 fl_M_57 rfl rfl ?_
                       refine rd_aldn (pc := 113) d_M_share_113 rfl ?_
                       refine rd_ildn (pc := 114) d_M_share_114 rfl ?_
                       refine rd_callVi (pc := 115) (n' := 0) [_] d_M_share_115 ml_M_130 rfl (Nat.le_of_ble_eq_true rfl) (Nat.le_of_ble_eq_true rfl) (Nat.le_of_ble_eq_true rfl) rfl rfl rfl (Nat.le_of_ble_eq_true rfl) (Nat.le_of_ble_eq_true rfl) ?_
                       refine ev_M_treatyYear hB (by omega) (by omega) ?_
                       refine ⟨_, rfl, ?_⟩
                       refine rd_zald (pc := 118) d_M_share_118 rfl (by omega) (by omega) ?_
                       refine rd_if_eq (pc := 119) (tgt := 126) d_M_share_119 rfl ⟨by omega, by omega⟩ (fun h119 => ?_) (fun h119 => ?_)
                       · skip
                         refine rd_iconst (pc := 126) d_M_share_126 ?_
                         refine rd_callVi (pc := 127) (n' := 0) [_, _] d_M_share_127 ml_M_107 rfl (Nat.le_of_ble_eq_true rfl) (Nat.le_of_ble_eq_true rfl) (Nat.le_of_ble_eq_true rfl) rfl rfl rfl (Nat.le_of_ble_eq_true rfl) (Nat.le_of_ble_eq_true rfl) ?_
                         refine ev_M_throwing0 ?_
                         refine ⟨_, rfl, ?_⟩
                         refine rd_if_eq (pc := 130) (tgt := 134) d_M_share_130 rfl ⟨by omega, by omega⟩ (fun h130 => ?_) (fun h130 => ?_)
                         · skip
                           refine rd_aldn (pc := 134) d_M_share_134 rfl ?_
                           refine rd_getr (pc := 135) d_M_share_135 fl_M_50 rfl rfl ?_
                           refine rd_bipush (pc := 138) d_M_share_138 rfl ?_
                           refine rd_ildn (pc := 140) d_M_share_140 rfl ?_
                           refine rd_imul (pc := 141) d_M_share_141 ?_
                           refine rd_ildn (pc := 142) d_M_share_142 rfl ?_
                           refine rd_iadd (pc := 143) d_M_share_143 ?_
                           refine rd_ildn (pc := 144) d_M_share_144 rfl ?_
                           refine rd_iast (pc := 145) d_M_share_145 rfl (by omega) (by omega) ?_
                           exact rd_vret (pc := 146) d_M_share_146 rfl (Nat.le_of_ble_eq_true rfl) (by have hq := hQ (by omega) (by omega); rw [show t * 6 + r = 6 * t + r by omega] at hq; exact hq)
                         · exact absurd h130 (by decide)
                       · skip
                         refine rd_iconst (pc := 122) d_M_share_122 ?_
                         refine rd_goto (pc := 123) (tgt := 127) d_M_share_123 rfl ?_
                         refine rd_callVi (pc := 127) (n' := 0) [_, _] d_M_share_127 ml_M_107 rfl (Nat.le_of_ble_eq_true rfl) (Nat.le_of_ble_eq_true rfl) (Nat.le_of_ble_eq_true rfl) rfl rfl rfl (Nat.le_of_ble_eq_true rfl) (Nat.le_of_ble_eq_true rfl) ?_
                         refine ev_M_throwing2 ?_
                         refine ⟨_, rfl, ?_⟩
                         refine rd_if_eq (pc := 130) (tgt := 134) d_M_share_130 rfl ⟨by omega, by omega⟩ (fun h130 => ?_) (fun h130 => ?_)
                         · exact absurd h130 (by decide)
                         · skip
                           exact rd_vret (pc := 133) d_M_share_133 rfl (Nat.le_of_ble_eq_true rfl) (hS (by omega) (by omega))
                  )
      · skip
        refine rd_if_eq (pc := 17) (tgt := 32) d_M_share_17 rfl ⟨by omega, by omega⟩ (fun h17 => ?_) (fun h17 => ?_)
        · skip
          refine rd_iconst (pc := 32) d_M_share_32 ?_
          refine rd_goto (pc := 33) (tgt := 37) d_M_share_33 rfl ?_
          refine rd_ist4 (pc := 37) d_M_share_37 rfl ?_
          refine rd_ildn (pc := 39) d_M_share_39 rfl ?_
          refine rd_i2l (pc := 40) d_M_share_40 ⟨by omega, by omega⟩ ?_
          refine rd_lst5 (pc := 41) d_M_share_41 rfl ?_
          refine rd_iconst (pc := 43) d_M_share_43 ?_
          refine rd_ist7 (pc := 44) d_M_share_44 rfl ?_
          first
            | exact lq_M_shareB (hA (by omega))
            | (refine lq_M_share hB (by omega) (by omega) (by omega) (fun i2 => ?_) _ 0 p rfl (by omega) (by omega) (by show p = p + 0; omega)
               have hob := rd_sm_b (f := (fun o => if o = r then 0 else M 46 (t * 6 + o))) (A := 0) (B := 1000000) 6 (fun i a b => by have := hB.2.2.2.2.2.2.1 (t * 6 + i) (by omega) (by omega); split <;> omega)
               obtain ⟨s1, s2, s3, _⟩ := hB.sh (t := t) (by omega) (by omega)
               have hc := hcl ((M 41 t).tmod 10) (by omega) (by omega)
               refine rd_aldn (pc := 92) d_M_share_92 rfl ?_
               refine rd_ild (pc := 93) d_M_share_93 rfl ?_
               refine rd_ild (pc := 95) d_M_share_95 rfl ?_
               refine rd_if_ne (pc := 97) (tgt := 126) d_M_share_97 rfl ⟨by omega, by omega⟩ (fun h97 => ?_) (fun h97 => ?_)
               · exact absurd h97 (by decide)
               · skip
                 refine rd_lld (pc := 100) d_M_share_100 rfl ?_
                 refine rd_ldc2 (pc := 102) (v := 1000000) d_M_share_102 kl_M_115 ?_
                 refine rd_lcmp_gt (pc := 105) (tgt := 122) d_M_share_105 d_M_share_106 rfl ⟨by omega, by omega⟩ ⟨by omega, by omega⟩ (fun h105 => ?_) (fun h105 => ?_)
                 · skip
                   refine rd_iconst (pc := 122) d_M_share_122 ?_
                   refine rd_goto (pc := 123) (tgt := 127) d_M_share_123 rfl ?_
                   refine rd_callVi (pc := 127) (n' := 0) [_, _] d_M_share_127 ml_M_107 rfl (Nat.le_of_ble_eq_true rfl) (Nat.le_of_ble_eq_true rfl) (Nat.le_of_ble_eq_true rfl) rfl rfl rfl (Nat.le_of_ble_eq_true rfl) (Nat.le_of_ble_eq_true rfl) ?_
                   refine ev_M_throwing2 ?_
                   refine ⟨_, rfl, ?_⟩
                   refine rd_if_eq (pc := 130) (tgt := 134) d_M_share_130 rfl ⟨by omega, by omega⟩ (fun h130 => ?_) (fun h130 => ?_)
                   · exact absurd h130 (by decide)
                   · skip
                     exact rd_vret (pc := 133) d_M_share_133 rfl (Nat.le_of_ble_eq_true rfl) (hS (by omega) (by omega))
                 · skip
                   refine rd_aldn (pc := 109) d_M_share_109 rfl ?_
                   refine rd_getr (pc := 110) d_M_share_110 fl_M_57 rfl rfl ?_
                   refine rd_aldn (pc := 113) d_M_share_113 rfl ?_
                   refine rd_ildn (pc := 114) d_M_share_114 rfl ?_
                   refine rd_callVi (pc := 115) (n' := 0) [_] d_M_share_115 ml_M_130 rfl (Nat.le_of_ble_eq_true rfl) (Nat.le_of_ble_eq_true rfl) (Nat.le_of_ble_eq_true rfl) rfl rfl rfl (Nat.le_of_ble_eq_true rfl) (Nat.le_of_ble_eq_true rfl) ?_
                   refine ev_M_treatyYear hB (by omega) (by omega) ?_
                   refine ⟨_, rfl, ?_⟩
                   refine rd_zald (pc := 118) d_M_share_118 rfl (by omega) (by omega) ?_
                   refine rd_if_eq (pc := 119) (tgt := 126) d_M_share_119 rfl ⟨by omega, by omega⟩ (fun h119 => ?_) (fun h119 => ?_)
                   · skip
                     refine rd_iconst (pc := 126) d_M_share_126 ?_
                     refine rd_callVi (pc := 127) (n' := 0) [_, _] d_M_share_127 ml_M_107 rfl (Nat.le_of_ble_eq_true rfl) (Nat.le_of_ble_eq_true rfl) (Nat.le_of_ble_eq_true rfl) rfl rfl rfl (Nat.le_of_ble_eq_true rfl) (Nat.le_of_ble_eq_true rfl) ?_
                     refine ev_M_throwing0 ?_
                     refine ⟨_, rfl, ?_⟩
                     refine rd_if_eq (pc := 130) (tgt := 134) d_M_share_130 rfl ⟨by omega, by omega⟩ (fun h130 => ?_) (fun h130 => ?_)
                     · skip
                       refine rd_aldn (pc := 134) d_M_share_134 rfl ?_
                       refine rd_getr (pc := 135) d_M_share_135 fl_M_50 rfl rfl ?_
                       refine rd_bipush (pc := 138) d_M_share_138 rfl ?_
                       refine rd_ildn (pc := 140) d_M_share_140 rfl ?_
                       refine rd_imul (pc := 141) d_M_share_141 ?_
                       refine rd_ildn (pc := 142) d_M_share_142 rfl ?_
                       refine rd_iadd (pc := 143) d_M_share_143 ?_
                       refine rd_ildn (pc := 144) d_M_share_144 rfl ?_
                       refine rd_iast (pc := 145) d_M_share_145 rfl (by omega) (by omega) ?_
                       exact rd_vret (pc := 146) d_M_share_146 rfl (Nat.le_of_ble_eq_true rfl) (by have hq := hQ (by omega) (by omega); rw [show t * 6 + r = 6 * t + r by omega] at hq; exact hq)
                     · exact absurd h130 (by decide)
                   · skip
                     refine rd_iconst (pc := 122) d_M_share_122 ?_
                     refine rd_goto (pc := 123) (tgt := 127) d_M_share_123 rfl ?_
                     refine rd_callVi (pc := 127) (n' := 0) [_, _] d_M_share_127 ml_M_107 rfl (Nat.le_of_ble_eq_true rfl) (Nat.le_of_ble_eq_true rfl) (Nat.le_of_ble_eq_true rfl) rfl rfl rfl (Nat.le_of_ble_eq_true rfl) (Nat.le_of_ble_eq_true rfl) ?_
                     refine ev_M_throwing2 ?_
                     refine ⟨_, rfl, ?_⟩
                     refine rd_if_eq (pc := 130) (tgt := 134) d_M_share_130 rfl ⟨by omega, by omega⟩ (fun h130 => ?_) (fun h130 => ?_)
                     · exact absurd h130 (by decide)
                     · skip
                       exact rd_vret (pc := 133) d_M_share_133 rfl (Nat.le_of_ble_eq_true rfl) (hS (by omega) (by omega))
              )
        · exact absurd h17 (by decide)
  · skip
    refine rd_if_eq (pc := 5) (tgt := 32) d_M_share_5 rfl ⟨by omega, by omega⟩ (fun h5 => ?_) (fun h5 => ?_)
    · skip
      refine rd_iconst (pc := 32) d_M_share_32 ?_
      refine rd_goto (pc := 33) (tgt := 37) d_M_share_33 rfl ?_
      refine rd_ist4 (pc := 37) d_M_share_37 rfl ?_
      refine rd_ildn (pc := 39) d_M_share_39 rfl ?_
      refine rd_i2l (pc := 40) d_M_share_40 ⟨by omega, by omega⟩ ?_
      refine rd_lst5 (pc := 41) d_M_share_41 rfl ?_
      refine rd_iconst (pc := 43) d_M_share_43 ?_
      refine rd_ist7 (pc := 44) d_M_share_44 rfl ?_
      first
        | exact lq_M_shareB (hA (by omega))
        | (refine lq_M_share hB (by omega) (by omega) (by omega) (fun i2 => ?_) _ 0 p rfl (by omega) (by omega) (by show p = p + 0; omega)
           have hob := rd_sm_b (f := (fun o => if o = r then 0 else M 46 (t * 6 + o))) (A := 0) (B := 1000000) 6 (fun i a b => by have := hB.2.2.2.2.2.2.1 (t * 6 + i) (by omega) (by omega); split <;> omega)
           obtain ⟨s1, s2, s3, _⟩ := hB.sh (t := t) (by omega) (by omega)
           have hc := hcl ((M 41 t).tmod 10) (by omega) (by omega)
           refine rd_aldn (pc := 92) d_M_share_92 rfl ?_
           refine rd_ild (pc := 93) d_M_share_93 rfl ?_
           refine rd_ild (pc := 95) d_M_share_95 rfl ?_
           refine rd_if_ne (pc := 97) (tgt := 126) d_M_share_97 rfl ⟨by omega, by omega⟩ (fun h97 => ?_) (fun h97 => ?_)
           · exact absurd h97 (by decide)
           · skip
             refine rd_lld (pc := 100) d_M_share_100 rfl ?_
             refine rd_ldc2 (pc := 102) (v := 1000000) d_M_share_102 kl_M_115 ?_
             refine rd_lcmp_gt (pc := 105) (tgt := 122) d_M_share_105 d_M_share_106 rfl ⟨by omega, by omega⟩ ⟨by omega, by omega⟩ (fun h105 => ?_) (fun h105 => ?_)
             · skip
               refine rd_iconst (pc := 122) d_M_share_122 ?_
               refine rd_goto (pc := 123) (tgt := 127) d_M_share_123 rfl ?_
               refine rd_callVi (pc := 127) (n' := 0) [_, _] d_M_share_127 ml_M_107 rfl (Nat.le_of_ble_eq_true rfl) (Nat.le_of_ble_eq_true rfl) (Nat.le_of_ble_eq_true rfl) rfl rfl rfl (Nat.le_of_ble_eq_true rfl) (Nat.le_of_ble_eq_true rfl) ?_
               refine ev_M_throwing2 ?_
               refine ⟨_, rfl, ?_⟩
               refine rd_if_eq (pc := 130) (tgt := 134) d_M_share_130 rfl ⟨by omega, by omega⟩ (fun h130 => ?_) (fun h130 => ?_)
               · exact absurd h130 (by decide)
               · skip
                 exact rd_vret (pc := 133) d_M_share_133 rfl (Nat.le_of_ble_eq_true rfl) (hS (by omega) (by omega))
             · skip
               refine rd_aldn (pc := 109) d_M_share_109 rfl ?_
               refine rd_getr (pc := 110) d_M_share_110 fl_M_57 rfl rfl ?_
               refine rd_aldn (pc := 113) d_M_share_113 rfl ?_
               refine rd_ildn (pc := 114) d_M_share_114 rfl ?_
               refine rd_callVi (pc := 115) (n' := 0) [_] d_M_share_115 ml_M_130 rfl (Nat.le_of_ble_eq_true rfl) (Nat.le_of_ble_eq_true rfl) (Nat.le_of_ble_eq_true rfl) rfl rfl rfl (Nat.le_of_ble_eq_true rfl) (Nat.le_of_ble_eq_true rfl) ?_
               refine ev_M_treatyYear hB (by omega) (by omega) ?_
               refine ⟨_, rfl, ?_⟩
               refine rd_zald (pc := 118) d_M_share_118 rfl (by omega) (by omega) ?_
               refine rd_if_eq (pc := 119) (tgt := 126) d_M_share_119 rfl ⟨by omega, by omega⟩ (fun h119 => ?_) (fun h119 => ?_)
               · skip
                 refine rd_iconst (pc := 126) d_M_share_126 ?_
                 refine rd_callVi (pc := 127) (n' := 0) [_, _] d_M_share_127 ml_M_107 rfl (Nat.le_of_ble_eq_true rfl) (Nat.le_of_ble_eq_true rfl) (Nat.le_of_ble_eq_true rfl) rfl rfl rfl (Nat.le_of_ble_eq_true rfl) (Nat.le_of_ble_eq_true rfl) ?_
                 refine ev_M_throwing0 ?_
                 refine ⟨_, rfl, ?_⟩
                 refine rd_if_eq (pc := 130) (tgt := 134) d_M_share_130 rfl ⟨by omega, by omega⟩ (fun h130 => ?_) (fun h130 => ?_)
                 · skip
                   refine rd_aldn (pc := 134) d_M_share_134 rfl ?_
                   refine rd_getr (pc := 135) d_M_share_135 fl_M_50 rfl rfl ?_
                   refine rd_bipush (pc := 138) d_M_share_138 rfl ?_
                   refine rd_ildn (pc := 140) d_M_share_140 rfl ?_
                   refine rd_imul (pc := 141) d_M_share_141 ?_
                   refine rd_ildn (pc := 142) d_M_share_142 rfl ?_
                   refine rd_iadd (pc := 143) d_M_share_143 ?_
                   refine rd_ildn (pc := 144) d_M_share_144 rfl ?_
                   refine rd_iast (pc := 145) d_M_share_145 rfl (by omega) (by omega) ?_
                   exact rd_vret (pc := 146) d_M_share_146 rfl (Nat.le_of_ble_eq_true rfl) (by have hq := hQ (by omega) (by omega); rw [show t * 6 + r = 6 * t + r by omega] at hq; exact hq)
                 · exact absurd h130 (by decide)
               · skip
                 refine rd_iconst (pc := 122) d_M_share_122 ?_
                 refine rd_goto (pc := 123) (tgt := 127) d_M_share_123 rfl ?_
                 refine rd_callVi (pc := 127) (n' := 0) [_, _] d_M_share_127 ml_M_107 rfl (Nat.le_of_ble_eq_true rfl) (Nat.le_of_ble_eq_true rfl) (Nat.le_of_ble_eq_true rfl) rfl rfl rfl (Nat.le_of_ble_eq_true rfl) (Nat.le_of_ble_eq_true rfl) ?_
                 refine ev_M_throwing2 ?_
                 refine ⟨_, rfl, ?_⟩
                 refine rd_if_eq (pc := 130) (tgt := 134) d_M_share_130 rfl ⟨by omega, by omega⟩ (fun h130 => ?_) (fun h130 => ?_)
                 · exact absurd h130 (by decide)
                 · skip
                   exact rd_vret (pc := 133) d_M_share_133 rfl (Nat.le_of_ble_eq_true rfl) (hS (by omega) (by omega))
          )
    · exact absurd h5 (by decide)
set_option maxHeartbeats 4000000 in
set_option maxRecDepth 100000 in
theorem lq_M_dissolve {e y : Int} {n nt : Nat} {M : rd_M} {Q : rd_R → rd_M → Prop} (hB : r_B M n nt) (he : 1 ≤ e ∧ e ≤ 9) (hy : 0 ≤ y ∧ y < 4) (hQ : ∀ M', (∀ q, q ≠ 37 → M' q = M q) → (∀ k : Int, M' 37 k = if (0 ≤ k ∧ k < n) ∧ sp_dc (r_d M) e y k then 0 else M 37 k) → Q (.inl (some (rd_i (rd_sm (fun k => if sp_dc (r_d M) e y k then 1 else 0) n)))) M') : ∀ (d : Nat) (i a : Int) (M1 : rd_M), (n - i).toNat = d → (0 ≤ i) → (i ≤ n) → (a = rd_sm (fun k => if sp_dc (r_d M) e y k then 1 else 0) i.toNat) → (∀ q, q ≠ 37 → M1 q = M q) → (∀ k : Int, M1 37 k = if (0 ≤ k ∧ k < i) ∧ sp_dc (r_d M) e y k then 0 else M 37 k) → rd_G x_M_dissolve 64 [some (.ref 32), some (rd_i e), some (rd_i y), none, some (rd_i a), some (rd_i i)] [] M1 0 Q := by
  intro d
  induction d using Nat.strongRecOn with
  | ind d ih =>
    intro i a M1 hd i0 i1 ha hS hv
    have hn := hB.1
    have hn4 := hB.2.2.1
    have e32 : M1 32 = M 32 := hS 32 (by decide)
    have e35 : M1 35 = M 35 := hS 35 (by decide)
    have e36 : M1 36 = M 36 := hS 36 (by decide)
    have e40 : M1 40 = M 40 := hS 40 (by decide)
    have hB1 : r_B M1 n nt := by
      obtain ⟨b1, b2, b3, b4, bD, b6, b7, b8⟩ := hB
      unfold r_B
      rw [hS 32 (by decide), hS 41 (by decide), hS 46 (by decide), hS 48 (by decide)]
      refine ⟨b1, b2, b3, b4, ?_, b6, b7, b8⟩
      have hd : ∀ q, q ≠ 4 → r_d M1 q = r_d M q := fun q h => by
        unfold r_d
        split <;> first | exact absurd rfl h | exact hS _ (by decide) | rw [hS 41 (by decide)]
      obtain ⟨d1, d2, d3⟩ := bD
      refine ⟨?_, fun k k0 k1 => ?_, ?_⟩
      · rw [hd 0 (by decide), hd 1 (by decide), hd 2 (by decide)]; exact d1
      · rw [hd 3 (by decide), hd 5 (by decide), hd 6 (by decide), hd 7 (by decide)]
        obtain ⟨x1, x2, x3⟩ := d2 k k0 k1
        refine ⟨x1, ?_, x3⟩
        have x2b : 0 ≤ M 37 k ∧ M 37 k ≤ 9 := x2
        show 0 ≤ M1 37 k ∧ M1 37 k ≤ 9
        rw [hv k]; split <;> omega
      · unfold sp_tm at *
        rw [hd 8 (by decide), hd 9 (by decide), hd 10 (by decide), hd 11 (by decide), hd 12 (by decide), hd 13 (by decide)]; exact d3
    refine rd_ild (pc := 64) d_M_dissolve_64 rfl ?_
    refine rd_aldn (pc := 66) d_M_dissolve_66 rfl ?_
    refine rd_gi (pc := 67) (ki := 9) d_M_dissolve_67 fl_M_97 rfl rfl rfl ?_
    first | simp (decide := true) only [rd_up_app, rd_up_hit, e32, e35, e36, e40, e37] | simp (decide := true) only [rd_up_app, rd_up_hit, e32, e35, e36, e40] | skip
    refine rd_icmp_ge (pc := 70) (tgt := 121) d_M_dissolve_70 rfl ⟨by omega, by omega⟩ ⟨by omega, by omega⟩ (fun h70 => ?_) (fun h70 => ?_)
    · skip
      refine rd_ild (pc := 121) d_M_dissolve_121 rfl ?_
      exact rd_iret (pc := 123) d_M_dissolve_123 rfl (Nat.le_of_ble_eq_true rfl) (by have en : i.toNat = n := (by omega); rw [ha, en]; exact hQ _ hS (fun k => by rw [hv k, show i = n by omega]))
    · skip
      obtain ⟨c1, c2, c3, c4, c5⟩ := hB.claim (k := i) (by omega) (by omega)
      obtain ⟨r1, r2, r3⟩ := hB.risk (r := M 36 i) (by omega) (by omega)
      have e37 : M1 37 i = M 37 i := by rw [hv i, if_neg (by omega)]
      have hs := rd_sm_s (f := fun k => if sp_dc (r_d M) e y k then 1 else 0) i0
      refine rd_aldn (pc := 73) d_M_dissolve_73 rfl ?_
      refine rd_getr (pc := 74) d_M_dissolve_74 fl_M_31 rfl rfl ?_
      refine rd_ild (pc := 77) d_M_dissolve_77 rfl ?_
      refine rd_zald (pc := 79) d_M_dissolve_79 rfl (by omega) (by omega) ?_
      first | simp (decide := true) only [rd_up_app, rd_up_hit, e32, e35, e36, e40, e37] | simp (decide := true) only [rd_up_app, rd_up_hit, e32, e35, e36, e40] | skip
      refine rd_if_ne (pc := 80) (tgt := 115) d_M_dissolve_80 rfl ⟨by omega, by omega⟩ (fun h80 => ?_) (fun h80 => ?_)
      · skip
        refine rd_iinc5 (pc := 115) d_M_dissolve_115 rfl ?_
        refine rd_goto (pc := 118) (tgt := 64) d_M_dissolve_118 rfl ?_
        by_cases hc : M 37 i = e ∧ M 40 i = 0 ∧ M 35 (M 36 i) = y
        · first | (exfalso; omega) | (refine ih _ (by omega) (i + 1) _ _ rfl (by omega) (by omega) (by rw [hs, ha, if_pos (show sp_dc (r_d M) e y i from hc)]) (fun q h => by rw [rd_up_ne h]; exact hS q h) (fun k => ?_)
                                      rw [rd_up_at, hv k]
                                      by_cases hk : k = i
                                      · subst hk; rw [if_pos rfl, if_pos ⟨by omega, hc⟩]
                                      · rw [if_neg hk]
                                        by_cases hd : (0 ≤ k ∧ k < i) ∧ sp_dc (r_d M) e y k
                                        · rw [if_pos hd, if_pos ⟨by omega, hd.2⟩]
                                        · rw [if_neg hd, if_neg (fun z => hd ⟨by omega, z.2⟩)])
        · first | (exfalso; omega) | (refine ih _ (by omega) (i + 1) _ _ rfl (by omega) (by omega) (by rw [hs, ha, if_neg (show ¬ sp_dc (r_d M) e y i from hc)]; omega) hS (fun k => ?_)
                                      rw [hv k]
                                      by_cases hk : k = i
                                      · subst hk; rw [if_neg (by omega), if_neg (fun z => hc z.2)]
                                      · by_cases hd : (0 ≤ k ∧ k < i) ∧ sp_dc (r_d M) e y k
                                        · rw [if_pos hd, if_pos ⟨by omega, hd.2⟩]
                                        · rw [if_neg hd, if_neg (fun z => hd ⟨by omega, z.2⟩)])
      · skip
        refine rd_aldn (pc := 83) d_M_dissolve_83 rfl ?_
        refine rd_getr (pc := 84) d_M_dissolve_84 fl_M_22 rfl rfl ?_
        refine rd_ild (pc := 87) d_M_dissolve_87 rfl ?_
        refine rd_iald (pc := 89) d_M_dissolve_89 rfl (by omega) (by omega) ?_
        first | simp (decide := true) only [rd_up_app, rd_up_hit, e32, e35, e36, e40, e37] | simp (decide := true) only [rd_up_app, rd_up_hit, e32, e35, e36, e40] | skip
        refine rd_ildn (pc := 90) d_M_dissolve_90 rfl ?_
        refine rd_icmp_ne (pc := 91) (tgt := 115) d_M_dissolve_91 rfl ⟨by omega, by omega⟩ ⟨by omega, by omega⟩ (fun h91 => ?_) (fun h91 => ?_)
        · skip
          refine rd_iinc5 (pc := 115) d_M_dissolve_115 rfl ?_
          refine rd_goto (pc := 118) (tgt := 64) d_M_dissolve_118 rfl ?_
          by_cases hc : M 37 i = e ∧ M 40 i = 0 ∧ M 35 (M 36 i) = y
          · first | (exfalso; omega) | (refine ih _ (by omega) (i + 1) _ _ rfl (by omega) (by omega) (by rw [hs, ha, if_pos (show sp_dc (r_d M) e y i from hc)]) (fun q h => by rw [rd_up_ne h]; exact hS q h) (fun k => ?_)
                                        rw [rd_up_at, hv k]
                                        by_cases hk : k = i
                                        · subst hk; rw [if_pos rfl, if_pos ⟨by omega, hc⟩]
                                        · rw [if_neg hk]
                                          by_cases hd : (0 ≤ k ∧ k < i) ∧ sp_dc (r_d M) e y k
                                          · rw [if_pos hd, if_pos ⟨by omega, hd.2⟩]
                                          · rw [if_neg hd, if_neg (fun z => hd ⟨by omega, z.2⟩)])
          · first | (exfalso; omega) | (refine ih _ (by omega) (i + 1) _ _ rfl (by omega) (by omega) (by rw [hs, ha, if_neg (show ¬ sp_dc (r_d M) e y i from hc)]; omega) hS (fun k => ?_)
                                        rw [hv k]
                                        by_cases hk : k = i
                                        · subst hk; rw [if_neg (by omega), if_neg (fun z => hc z.2)]
                                        · by_cases hd : (0 ≤ k ∧ k < i) ∧ sp_dc (r_d M) e y k
                                          · rw [if_pos hd, if_pos ⟨by omega, hd.2⟩]
                                          · rw [if_neg hd, if_neg (fun z => hd ⟨by omega, z.2⟩)])
        · skip
          refine rd_aldn (pc := 94) d_M_dissolve_94 rfl ?_
          refine rd_ild (pc := 95) d_M_dissolve_95 rfl ?_
          refine rd_callVi (pc := 97) (n' := 0) [_] d_M_dissolve_97 ml_M_141 rfl (Nat.le_of_ble_eq_true rfl) (Nat.le_of_ble_eq_true rfl) (Nat.le_of_ble_eq_true rfl) rfl rfl rfl (Nat.le_of_ble_eq_true rfl) (Nat.le_of_ble_eq_true rfl) ?_
          refine ev_M_claimYear hB1 (by omega) (by omega) ?_
          refine ⟨_, rfl, ?_⟩
          first | simp (decide := true) only [rd_up_app, rd_up_hit, e32, e35, e36, e40, e37] | simp (decide := true) only [rd_up_app, rd_up_hit, e32, e35, e36, e40] | skip
          refine rd_ildn (pc := 100) d_M_dissolve_100 rfl ?_
          refine rd_icmp_ne (pc := 101) (tgt := 115) d_M_dissolve_101 rfl ⟨by omega, by omega⟩ ⟨by omega, by omega⟩ (fun h101 => ?_) (fun h101 => ?_)
          · skip
            refine rd_iinc5 (pc := 115) d_M_dissolve_115 rfl ?_
            refine rd_goto (pc := 118) (tgt := 64) d_M_dissolve_118 rfl ?_
            by_cases hc : M 37 i = e ∧ M 40 i = 0 ∧ M 35 (M 36 i) = y
            · first | (exfalso; omega) | (refine ih _ (by omega) (i + 1) _ _ rfl (by omega) (by omega) (by rw [hs, ha, if_pos (show sp_dc (r_d M) e y i from hc)]) (fun q h => by rw [rd_up_ne h]; exact hS q h) (fun k => ?_)
                                          rw [rd_up_at, hv k]
                                          by_cases hk : k = i
                                          · subst hk; rw [if_pos rfl, if_pos ⟨by omega, hc⟩]
                                          · rw [if_neg hk]
                                            by_cases hd : (0 ≤ k ∧ k < i) ∧ sp_dc (r_d M) e y k
                                            · rw [if_pos hd, if_pos ⟨by omega, hd.2⟩]
                                            · rw [if_neg hd, if_neg (fun z => hd ⟨by omega, z.2⟩)])
            · first | (exfalso; omega) | (refine ih _ (by omega) (i + 1) _ _ rfl (by omega) (by omega) (by rw [hs, ha, if_neg (show ¬ sp_dc (r_d M) e y i from hc)]; omega) hS (fun k => ?_)
                                          rw [hv k]
                                          by_cases hk : k = i
                                          · subst hk; rw [if_neg (by omega), if_neg (fun z => hc z.2)]
                                          · by_cases hd : (0 ≤ k ∧ k < i) ∧ sp_dc (r_d M) e y k
                                            · rw [if_pos hd, if_pos ⟨by omega, hd.2⟩]
                                            · rw [if_neg hd, if_neg (fun z => hd ⟨by omega, z.2⟩)])
          · skip
            refine rd_aldn (pc := 104) d_M_dissolve_104 rfl ?_
            refine rd_getr (pc := 105) d_M_dissolve_105 fl_M_22 rfl rfl ?_
            refine rd_ild (pc := 108) d_M_dissolve_108 rfl ?_
            refine rd_iconst (pc := 110) d_M_dissolve_110 ?_
            refine rd_iast (pc := 111) d_M_dissolve_111 rfl (by omega) (by omega) ?_
            refine rd_iinc4 (pc := 112) d_M_dissolve_112 rfl ?_
            refine rd_iinc5 (pc := 115) d_M_dissolve_115 rfl ?_
            refine rd_goto (pc := 118) (tgt := 64) d_M_dissolve_118 rfl ?_
            by_cases hc : M 37 i = e ∧ M 40 i = 0 ∧ M 35 (M 36 i) = y
            · first | (exfalso; omega) | (refine ih _ (by omega) (i + 1) _ _ rfl (by omega) (by omega) (by rw [hs, ha, if_pos (show sp_dc (r_d M) e y i from hc)]) (fun q h => by rw [rd_up_ne h]; exact hS q h) (fun k => ?_)
                                          rw [rd_up_at, hv k]
                                          by_cases hk : k = i
                                          · subst hk; rw [if_pos rfl, if_pos ⟨by omega, hc⟩]
                                          · rw [if_neg hk]
                                            by_cases hd : (0 ≤ k ∧ k < i) ∧ sp_dc (r_d M) e y k
                                            · rw [if_pos hd, if_pos ⟨by omega, hd.2⟩]
                                            · rw [if_neg hd, if_neg (fun z => hd ⟨by omega, z.2⟩)])
            · first | (exfalso; omega) | (refine ih _ (by omega) (i + 1) _ _ rfl (by omega) (by omega) (by rw [hs, ha, if_neg (show ¬ sp_dc (r_d M) e y i from hc)]; omega) hS (fun k => ?_)
                                          rw [hv k]
                                          by_cases hk : k = i
                                          · subst hk; rw [if_neg (by omega), if_neg (fun z => hc z.2)]
                                          · by_cases hd : (0 ≤ k ∧ k < i) ∧ sp_dc (r_d M) e y k
                                            · rw [if_pos hd, if_pos ⟨by omega, hd.2⟩]
                                            · rw [if_neg hd, if_neg (fun z => hd ⟨by omega, z.2⟩)])
set_option maxHeartbeats 4000000 in
set_option maxRecDepth 100000 in
theorem ev_M_dissolve {e y : Int} {n nt : Nat} {M : rd_M} {Q : rd_R → rd_M → Prop} (hB : r_B M n nt) (he : rd_I e) (hy : rd_I y) (hA : ¬ ((1 ≤ e ∧ e ≤ 9) ∧ (0 ≤ y ∧ y < 4)) → Q (.inl (some (rd_i 0))) (rd_up M 32 0 1)) (hS : ((1 ≤ e ∧ e ≤ 9) ∧ (0 ≤ y ∧ y < 4)) → (M 48 y ≠ 0) → Q (.inl (some (rd_i 0))) (rd_up M 32 0 2)) (hQ : ((1 ≤ e ∧ e ≤ 9) ∧ (0 ≤ y ∧ y < 4)) → ¬ (M 48 y ≠ 0) → (∀ M', (∀ q, q ≠ 37 → M' q = rd_up M 32 0 0 q) → (∀ k : Int, M' 37 k = if (0 ≤ k ∧ k < n) ∧ sp_dc (r_d M) e y k then 0 else M 37 k) → Q (.inl (some (rd_i (rd_sm (fun k => if sp_dc (r_d M) e y k then 1 else 0) n)))) M')) : rd_G x_M_dissolve 0 [some (.ref 32), some (rd_i e), some (rd_i y), none, none, none] [] M 0 Q := by
  have hn := hB.1
  have hm := hB.2.1
  have hn4 := hB.2.2.1
  have hm10 := hB.2.2.2.1
  have hcl : ∀ y : Int, 0 ≤ y → y < 4 → 0 ≤ M 48 y ∧ M 48 y ≤ 1 := hB.2.2.2.2.2.2.2
  refine rd_ildn (pc := 0) d_M_dissolve_0 rfl ?_
  refine rd_i2l (pc := 1) d_M_dissolve_1 ⟨by omega, by omega⟩ ?_
  refine rd_lconst (pc := 2) (v := 1) d_M_dissolve_2 rfl ?_
  refine rd_ldc2 (pc := 3) (v := 9) d_M_dissolve_3 kl_M_134 ?_
  refine rd_callSi (pc := 6) (n' := 0) [_, _, _] d_M_dissolve_6 ml_M_93 (Nat.le_of_ble_eq_true rfl) (Nat.le_of_ble_eq_true rfl) (Nat.le_of_ble_eq_true rfl) rfl rfl rfl (Nat.le_of_ble_eq_true rfl) (Nat.le_of_ble_eq_true rfl) ?_
  refine ev_M_in ⟨by omega, by omega⟩ ⟨by omega, by omega⟩ ⟨by omega, by omega⟩ (fun c6 => ⟨_, rfl, ?_⟩) (fun c6 => ⟨_, rfl, ?_⟩)
  · skip
    refine rd_if_eq (pc := 9) (tgt := 24) d_M_dissolve_9 rfl ⟨by omega, by omega⟩ (fun h9 => ?_) (fun h9 => ?_)
    · exact absurd h9 (by decide)
    · skip
      refine rd_ildn (pc := 12) d_M_dissolve_12 rfl ?_
      refine rd_i2l (pc := 13) d_M_dissolve_13 ⟨by omega, by omega⟩ ?_
      refine rd_lconst (pc := 14) (v := 0) d_M_dissolve_14 rfl ?_
      refine rd_ldc2 (pc := 15) (v := 3) d_M_dissolve_15 kl_M_105 ?_
      refine rd_callSi (pc := 18) (n' := 0) [_, _, _] d_M_dissolve_18 ml_M_93 (Nat.le_of_ble_eq_true rfl) (Nat.le_of_ble_eq_true rfl) (Nat.le_of_ble_eq_true rfl) rfl rfl rfl (Nat.le_of_ble_eq_true rfl) (Nat.le_of_ble_eq_true rfl) ?_
      refine ev_M_in ⟨by omega, by omega⟩ ⟨by omega, by omega⟩ ⟨by omega, by omega⟩ (fun c18 => ⟨_, rfl, ?_⟩) (fun c18 => ⟨_, rfl, ?_⟩)
      · skip
        refine rd_if_ne (pc := 21) (tgt := 28) d_M_dissolve_21 rfl ⟨by omega, by omega⟩ (fun h21 => ?_) (fun h21 => ?_)
        · skip
          refine rd_iconst (pc := 28) d_M_dissolve_28 ?_
          refine rd_ist3 (pc := 29) d_M_dissolve_29 rfl ?_
          refine rd_aldn (pc := 30) d_M_dissolve_30 rfl ?_
          refine rd_ildn (pc := 31) d_M_dissolve_31 rfl ?_
          refine rd_ildn (pc := 32) d_M_dissolve_32 rfl ?_
          refine rd_if_ne (pc := 33) (tgt := 49) d_M_dissolve_33 rfl ⟨by omega, by omega⟩ (fun h33 => ?_) (fun h33 => ?_)
          · exact absurd h33 (by decide)
          · skip
            have hc := hcl y (by omega) (by omega)
            refine rd_aldn (pc := 36) d_M_dissolve_36 rfl ?_
            refine rd_getr (pc := 37) d_M_dissolve_37 fl_M_57 rfl rfl ?_
            refine rd_ildn (pc := 40) d_M_dissolve_40 rfl ?_
            refine rd_zald (pc := 41) d_M_dissolve_41 rfl (by omega) (by omega) ?_
            refine rd_if_eq (pc := 42) (tgt := 49) d_M_dissolve_42 rfl ⟨by omega, by omega⟩ (fun h42 => ?_) (fun h42 => ?_)
            · skip
              refine rd_iconst (pc := 49) d_M_dissolve_49 ?_
              refine rd_callVi (pc := 50) (n' := 0) [_, _] d_M_dissolve_50 ml_M_107 rfl (Nat.le_of_ble_eq_true rfl) (Nat.le_of_ble_eq_true rfl) (Nat.le_of_ble_eq_true rfl) rfl rfl rfl (Nat.le_of_ble_eq_true rfl) (Nat.le_of_ble_eq_true rfl) ?_
              refine ev_M_throwing0 ?_
              refine ⟨_, rfl, ?_⟩
              refine rd_if_eq (pc := 53) (tgt := 58) d_M_dissolve_53 rfl ⟨by omega, by omega⟩ (fun h53 => ?_) (fun h53 => ?_)
              · skip
                refine rd_iconst (pc := 58) d_M_dissolve_58 ?_
                refine rd_ist4 (pc := 59) d_M_dissolve_59 rfl ?_
                refine rd_iconst (pc := 61) d_M_dissolve_61 ?_
                refine rd_ist5 (pc := 62) d_M_dissolve_62 rfl ?_
                refine rd_weak (L' := [some (.ref 32), some (rd_i e), some (rd_i y), none, some (rd_i 0), some (rd_i 0)]) (by simp [rd_le]) ?_
                refine lq_M_dissolve (M := rd_up M 32 0 0) (r_fq.th.B hB) (by omega) (by omega) (fun M' h1 h2 => ?_) _ 0 0 _ rfl (by omega) (by omega) rfl (fun _ _ => rfl) (fun k => by rw [if_neg (by omega)])
                rw [r_fq.th.d] at h2 ⊢
                exact hQ (by omega) (by omega) M' h1 h2
              · exact absurd h53 (by decide)
            · skip
              refine rd_iconst (pc := 45) d_M_dissolve_45 ?_
              refine rd_goto (pc := 46) (tgt := 50) d_M_dissolve_46 rfl ?_
              refine rd_callVi (pc := 50) (n' := 0) [_, _] d_M_dissolve_50 ml_M_107 rfl (Nat.le_of_ble_eq_true rfl) (Nat.le_of_ble_eq_true rfl) (Nat.le_of_ble_eq_true rfl) rfl rfl rfl (Nat.le_of_ble_eq_true rfl) (Nat.le_of_ble_eq_true rfl) ?_
              refine ev_M_throwing2 ?_
              refine ⟨_, rfl, ?_⟩
              refine rd_if_eq (pc := 53) (tgt := 58) d_M_dissolve_53 rfl ⟨by omega, by omega⟩ (fun h53 => ?_) (fun h53 => ?_)
              · exact absurd h53 (by decide)
              · skip
                refine rd_iconst (pc := 56) d_M_dissolve_56 ?_
                exact rd_iret (pc := 57) d_M_dissolve_57 rfl (Nat.le_of_ble_eq_true rfl) (by first | exact hA (by omega) | exact hS (by omega) (by omega))
        · exact absurd h21 (by decide)
      · skip
        refine rd_if_ne (pc := 21) (tgt := 28) d_M_dissolve_21 rfl ⟨by omega, by omega⟩ (fun h21 => ?_) (fun h21 => ?_)
        · exact absurd h21 (by decide)
        · skip
          refine rd_iconst (pc := 24) d_M_dissolve_24 ?_
          refine rd_goto (pc := 25) (tgt := 29) d_M_dissolve_25 rfl ?_
          refine rd_ist3 (pc := 29) d_M_dissolve_29 rfl ?_
          refine rd_aldn (pc := 30) d_M_dissolve_30 rfl ?_
          refine rd_ildn (pc := 31) d_M_dissolve_31 rfl ?_
          refine rd_ildn (pc := 32) d_M_dissolve_32 rfl ?_
          refine rd_if_ne (pc := 33) (tgt := 49) d_M_dissolve_33 rfl ⟨by omega, by omega⟩ (fun h33 => ?_) (fun h33 => ?_)
          · skip
            refine rd_iconst (pc := 49) d_M_dissolve_49 ?_
            refine rd_callVi (pc := 50) (n' := 0) [_, _] d_M_dissolve_50 ml_M_107 rfl (Nat.le_of_ble_eq_true rfl) (Nat.le_of_ble_eq_true rfl) (Nat.le_of_ble_eq_true rfl) rfl rfl rfl (Nat.le_of_ble_eq_true rfl) (Nat.le_of_ble_eq_true rfl) ?_
            refine ev_M_throwing1 ?_
            refine ⟨_, rfl, ?_⟩
            refine rd_if_eq (pc := 53) (tgt := 58) d_M_dissolve_53 rfl ⟨by omega, by omega⟩ (fun h53 => ?_) (fun h53 => ?_)
            · exact absurd h53 (by decide)
            · skip
              refine rd_iconst (pc := 56) d_M_dissolve_56 ?_
              exact rd_iret (pc := 57) d_M_dissolve_57 rfl (Nat.le_of_ble_eq_true rfl) (by first | exact hA (by omega) | exact hS (by omega) (by omega))
          · exact absurd h33 (by decide)
  · skip
    refine rd_if_eq (pc := 9) (tgt := 24) d_M_dissolve_9 rfl ⟨by omega, by omega⟩ (fun h9 => ?_) (fun h9 => ?_)
    · skip
      refine rd_iconst (pc := 24) d_M_dissolve_24 ?_
      refine rd_goto (pc := 25) (tgt := 29) d_M_dissolve_25 rfl ?_
      refine rd_ist3 (pc := 29) d_M_dissolve_29 rfl ?_
      refine rd_aldn (pc := 30) d_M_dissolve_30 rfl ?_
      refine rd_ildn (pc := 31) d_M_dissolve_31 rfl ?_
      refine rd_ildn (pc := 32) d_M_dissolve_32 rfl ?_
      refine rd_if_ne (pc := 33) (tgt := 49) d_M_dissolve_33 rfl ⟨by omega, by omega⟩ (fun h33 => ?_) (fun h33 => ?_)
      · skip
        refine rd_iconst (pc := 49) d_M_dissolve_49 ?_
        refine rd_callVi (pc := 50) (n' := 0) [_, _] d_M_dissolve_50 ml_M_107 rfl (Nat.le_of_ble_eq_true rfl) (Nat.le_of_ble_eq_true rfl) (Nat.le_of_ble_eq_true rfl) rfl rfl rfl (Nat.le_of_ble_eq_true rfl) (Nat.le_of_ble_eq_true rfl) ?_
        refine ev_M_throwing1 ?_
        refine ⟨_, rfl, ?_⟩
        refine rd_if_eq (pc := 53) (tgt := 58) d_M_dissolve_53 rfl ⟨by omega, by omega⟩ (fun h53 => ?_) (fun h53 => ?_)
        · exact absurd h53 (by decide)
        · skip
          refine rd_iconst (pc := 56) d_M_dissolve_56 ?_
          exact rd_iret (pc := 57) d_M_dissolve_57 rfl (Nat.le_of_ble_eq_true rfl) (by first | exact hA (by omega) | exact hS (by omega) (by omega))
      · exact absurd h33 (by decide)
    · exact absurd h9 (by decide)
set_option maxHeartbeats 4000000 in
set_option maxRecDepth 100000 in
theorem ev_M_kept {k : Int} {n nt : Nat} {M : rd_M} {Q : rd_R → rd_M → Prop} (hB : r_B M n nt) (hT : r_T M n) (hk : rd_I k) (hA : ¬ (0 ≤ k ∧ k < n) → Q (.inl (some (rd_i 0))) (rd_up M 32 0 1)) (hQ : (0 ≤ k ∧ k < n) → (∀ M' Z v, r_fq M' M → M' 32 0 = 0 → r_Z0 (r_d M) n (-1) 0 Z → v = r_runK (r_d M) n nt Z 5 0 k → (0 ≤ v ∧ v ≤ 1000000000) → Q (.inl (some (rd_i v))) M')) : rd_G x_M_kept 0 [some (.ref 32), some (rd_i k)] [] M 0 Q := by
  have hn := hB.1
  have hm := hB.2.1
  have hn4 := hB.2.2.1
  have hm10 := hB.2.2.2.1
  have hcl : ∀ y : Int, 0 ≤ y → y < 4 → 0 ≤ M 48 y ∧ M 48 y ≤ 1 := hB.2.2.2.2.2.2.2
  refine rd_aldn (pc := 0) d_M_kept_0 rfl ?_
  refine rd_aldn (pc := 1) d_M_kept_1 rfl ?_
  refine rd_ildn (pc := 2) d_M_kept_2 rfl ?_
  refine rd_callVi (pc := 3) (n' := 0) [_] d_M_kept_3 ml_M_138 rfl (Nat.le_of_ble_eq_true rfl) (Nat.le_of_ble_eq_true rfl) (Nat.le_of_ble_eq_true rfl) rfl rfl rfl (Nat.le_of_ble_eq_true rfl) (Nat.le_of_ble_eq_true rfl) ?_
  refine ev_M_isClaim hB ⟨by omega, by omega⟩ (fun c3 => ⟨_, rfl, ?_⟩) (fun c3 => ⟨_, rfl, ?_⟩)
  · skip
    refine rd_if_ne (pc := 6) (tgt := 13) d_M_kept_6 rfl ⟨by omega, by omega⟩ (fun h6 => ?_) (fun h6 => ?_)
    · skip
      refine rd_iconst (pc := 13) d_M_kept_13 ?_
      refine rd_iconst (pc := 14) d_M_kept_14 ?_
      refine rd_callVi (pc := 15) (n' := 0) [_, _] d_M_kept_15 ml_M_107 rfl (Nat.le_of_ble_eq_true rfl) (Nat.le_of_ble_eq_true rfl) (Nat.le_of_ble_eq_true rfl) rfl rfl rfl (Nat.le_of_ble_eq_true rfl) (Nat.le_of_ble_eq_true rfl) ?_
      refine ev_M_throwing0 ?_
      refine ⟨_, rfl, ?_⟩
      refine rd_if_eq (pc := 18) (tgt := 23) d_M_kept_18 rfl ⟨by omega, by omega⟩ (fun h18 => ?_) (fun h18 => ?_)
      · skip
        refine rd_aldn (pc := 23) d_M_kept_23 rfl ?_
        refine rd_callVv (pc := 24) (n' := 0) [] d_M_kept_24 ml_M_194 rfl (Nat.le_of_ble_eq_true rfl) (Nat.le_of_ble_eq_true rfl) (Nat.le_of_ble_eq_true rfl) rfl rfl rfl (Nat.le_of_ble_eq_true rfl) (Nat.le_of_ble_eq_true rfl) ?_
        refine ev_M_reckon (r_fq.th.B hB) (r_fq.th.T hT) (fun M2 Z hF2 hZ2 hz2 hk2 => ?_)
        rw [r_fq.th.d] at hZ2 hz2
        have hq2 : r_fq M2 M := hF2.q.trans r_fq.th
        have h0 : M2 32 0 = 0 := by rw [hF2.2 0 (by decide) (by decide), rd_up_hit]
        have hB2 := hq2.B hB
        have g41 : M2 41 = M 41 := hq2.low 41 (by decide) (by decide)
        have g43 : M2 43 = M 43 := hq2.low 43 (by decide) (by decide)
        have g44 : M2 44 = M 44 := hq2.low 44 (by decide) (by decide)
        have g46 : M2 46 = M 46 := hq2.low 46 (by decide) (by decide)
        have g48 : M2 48 = M 48 := hq2.low 48 (by decide) (by decide)
        refine ⟨rfl, ?_⟩
        skip
        refine rd_aldn (pc := 27) d_M_kept_27 rfl ?_
        refine rd_getr (pc := 28) d_M_kept_28 fl_M_60 rfl rfl ?_
        refine rd_ildn (pc := 31) d_M_kept_31 rfl ?_
        refine rd_lald (pc := 32) d_M_kept_32 rfl (by omega) (by omega) ?_
        skip
        refine rd_l2i (pc := 33) d_M_kept_33 ?_
        exact rd_iret (pc := 34) d_M_kept_34 rfl (Nat.le_of_ble_eq_true rfl) (hQ (by omega) M2 Z _ hq2 h0 hZ2 (by rw [← hz2]; rfl) (hk2.1 k (by omega) (by omega)))
      · exact absurd h18 (by decide)
    · exact absurd h6 (by decide)
  · skip
    refine rd_if_ne (pc := 6) (tgt := 13) d_M_kept_6 rfl ⟨by omega, by omega⟩ (fun h6 => ?_) (fun h6 => ?_)
    · exact absurd h6 (by decide)
    · skip
      refine rd_iconst (pc := 9) d_M_kept_9 ?_
      refine rd_goto (pc := 10) (tgt := 14) d_M_kept_10 rfl ?_
      refine rd_iconst (pc := 14) d_M_kept_14 ?_
      refine rd_callVi (pc := 15) (n' := 0) [_, _] d_M_kept_15 ml_M_107 rfl (Nat.le_of_ble_eq_true rfl) (Nat.le_of_ble_eq_true rfl) (Nat.le_of_ble_eq_true rfl) rfl rfl rfl (Nat.le_of_ble_eq_true rfl) (Nat.le_of_ble_eq_true rfl) ?_
      refine ev_M_throwing1 ?_
      refine ⟨_, rfl, ?_⟩
      refine rd_if_eq (pc := 18) (tgt := 23) d_M_kept_18 rfl ⟨by omega, by omega⟩ (fun h18 => ?_) (fun h18 => ?_)
      · exact absurd h18 (by decide)
      · skip
        refine rd_iconst (pc := 21) d_M_kept_21 ?_
        exact rd_iret (pc := 22) d_M_kept_22 rfl (Nat.le_of_ble_eq_true rfl) (hA (by omega))
set_option maxHeartbeats 4000000 in
set_option maxRecDepth 100000 in
theorem ev_M_ceded {k t : Int} {n nt : Nat} {M : rd_M} {Q : rd_R → rd_M → Prop} (hB : r_B M n nt) (hT : r_T M n) (hk : rd_I k) (ht : rd_I t) (hA : ¬ ((0 ≤ k ∧ k < n) ∧ (0 ≤ t ∧ t < nt)) → Q (.inl (some (rd_i 0))) (rd_up M 32 0 1)) (hQ : ((0 ≤ k ∧ k < n) ∧ (0 ≤ t ∧ t < nt)) → (∀ M' Z v, r_fq M' M → M' 32 0 = 0 → r_Z0 (r_d M) n (-1) 0 Z → v = r_runK (r_d M) n nt Z 5 1 (t * 40 + k) → (0 ≤ v ∧ v ≤ 1000000000) → Q (.inl (some (rd_i v))) M')) : rd_G x_M_ceded 0 [some (.ref 32), some (rd_i k), some (rd_i t)] [] M 0 Q := by
  have hn := hB.1
  have hm := hB.2.1
  have hn4 := hB.2.2.1
  have hm10 := hB.2.2.2.1
  have hcl : ∀ y : Int, 0 ≤ y → y < 4 → 0 ≤ M 48 y ∧ M 48 y ≤ 1 := hB.2.2.2.2.2.2.2
  refine rd_aldn (pc := 0) d_M_ceded_0 rfl ?_
  refine rd_aldn (pc := 1) d_M_ceded_1 rfl ?_
  refine rd_ildn (pc := 2) d_M_ceded_2 rfl ?_
  refine rd_callVi (pc := 3) (n' := 0) [_] d_M_ceded_3 ml_M_138 rfl (Nat.le_of_ble_eq_true rfl) (Nat.le_of_ble_eq_true rfl) (Nat.le_of_ble_eq_true rfl) rfl rfl rfl (Nat.le_of_ble_eq_true rfl) (Nat.le_of_ble_eq_true rfl) ?_
  refine ev_M_isClaim hB ⟨by omega, by omega⟩ (fun c3 => ⟨_, rfl, ?_⟩) (fun c3 => ⟨_, rfl, ?_⟩)
  · skip
    refine rd_if_eq (pc := 6) (tgt := 17) d_M_ceded_6 rfl ⟨by omega, by omega⟩ (fun h6 => ?_) (fun h6 => ?_)
    · exact absurd h6 (by decide)
    · skip
      refine rd_aldn (pc := 9) d_M_ceded_9 rfl ?_
      refine rd_ildn (pc := 10) d_M_ceded_10 rfl ?_
      refine rd_callVi (pc := 11) (n' := 0) [_] d_M_ceded_11 ml_M_127 rfl (Nat.le_of_ble_eq_true rfl) (Nat.le_of_ble_eq_true rfl) (Nat.le_of_ble_eq_true rfl) rfl rfl rfl (Nat.le_of_ble_eq_true rfl) (Nat.le_of_ble_eq_true rfl) ?_
      refine ev_M_isTreaty hB ⟨by omega, by omega⟩ (fun c11 => ⟨_, rfl, ?_⟩) (fun c11 => ⟨_, rfl, ?_⟩)
      · skip
        refine rd_if_ne (pc := 14) (tgt := 21) d_M_ceded_14 rfl ⟨by omega, by omega⟩ (fun h14 => ?_) (fun h14 => ?_)
        · skip
          refine rd_iconst (pc := 21) d_M_ceded_21 ?_
          refine rd_iconst (pc := 22) d_M_ceded_22 ?_
          refine rd_callVi (pc := 23) (n' := 0) [_, _] d_M_ceded_23 ml_M_107 rfl (Nat.le_of_ble_eq_true rfl) (Nat.le_of_ble_eq_true rfl) (Nat.le_of_ble_eq_true rfl) rfl rfl rfl (Nat.le_of_ble_eq_true rfl) (Nat.le_of_ble_eq_true rfl) ?_
          refine ev_M_throwing0 ?_
          refine ⟨_, rfl, ?_⟩
          refine rd_if_eq (pc := 26) (tgt := 31) d_M_ceded_26 rfl ⟨by omega, by omega⟩ (fun h26 => ?_) (fun h26 => ?_)
          · skip
            refine rd_aldn (pc := 31) d_M_ceded_31 rfl ?_
            refine rd_callVv (pc := 32) (n' := 0) [] d_M_ceded_32 ml_M_194 rfl (Nat.le_of_ble_eq_true rfl) (Nat.le_of_ble_eq_true rfl) (Nat.le_of_ble_eq_true rfl) rfl rfl rfl (Nat.le_of_ble_eq_true rfl) (Nat.le_of_ble_eq_true rfl) ?_
            refine ev_M_reckon (r_fq.th.B hB) (r_fq.th.T hT) (fun M2 Z hF2 hZ2 hz2 hk2 => ?_)
            rw [r_fq.th.d] at hZ2 hz2
            have hq2 : r_fq M2 M := hF2.q.trans r_fq.th
            have h0 : M2 32 0 = 0 := by rw [hF2.2 0 (by decide) (by decide), rd_up_hit]
            have hB2 := hq2.B hB
            have g41 : M2 41 = M 41 := hq2.low 41 (by decide) (by decide)
            have g43 : M2 43 = M 43 := hq2.low 43 (by decide) (by decide)
            have g44 : M2 44 = M 44 := hq2.low 44 (by decide) (by decide)
            have g46 : M2 46 = M 46 := hq2.low 46 (by decide) (by decide)
            have g48 : M2 48 = M 48 := hq2.low 48 (by decide) (by decide)
            refine ⟨rfl, ?_⟩
            skip
            refine rd_aldn (pc := 35) d_M_ceded_35 rfl ?_
            refine rd_getr (pc := 36) d_M_ceded_36 fl_M_63 rfl rfl ?_
            refine rd_bipush (pc := 39) d_M_ceded_39 rfl ?_
            refine rd_ildn (pc := 41) d_M_ceded_41 rfl ?_
            refine rd_imul (pc := 42) d_M_ceded_42 ?_
            refine rd_ildn (pc := 43) d_M_ceded_43 rfl ?_
            refine rd_iadd (pc := 44) d_M_ceded_44 ?_
            refine rd_lald (pc := 45) d_M_ceded_45 rfl (by omega) (by omega) ?_
            skip
            rw [show 40 * t + k = t * 40 + k by omega]
            refine rd_l2i (pc := 46) d_M_ceded_46 ?_
            exact rd_iret (pc := 47) d_M_ceded_47 rfl (Nat.le_of_ble_eq_true rfl) (hQ (by omega) M2 Z _ hq2 h0 hZ2 (by rw [← hz2]; rfl) (hk2.2.1 (t * 40 + k) (by omega) (by omega)))
          · exact absurd h26 (by decide)
        · exact absurd h14 (by decide)
      · skip
        refine rd_if_ne (pc := 14) (tgt := 21) d_M_ceded_14 rfl ⟨by omega, by omega⟩ (fun h14 => ?_) (fun h14 => ?_)
        · exact absurd h14 (by decide)
        · skip
          refine rd_iconst (pc := 17) d_M_ceded_17 ?_
          refine rd_goto (pc := 18) (tgt := 22) d_M_ceded_18 rfl ?_
          refine rd_iconst (pc := 22) d_M_ceded_22 ?_
          refine rd_callVi (pc := 23) (n' := 0) [_, _] d_M_ceded_23 ml_M_107 rfl (Nat.le_of_ble_eq_true rfl) (Nat.le_of_ble_eq_true rfl) (Nat.le_of_ble_eq_true rfl) rfl rfl rfl (Nat.le_of_ble_eq_true rfl) (Nat.le_of_ble_eq_true rfl) ?_
          refine ev_M_throwing1 ?_
          refine ⟨_, rfl, ?_⟩
          refine rd_if_eq (pc := 26) (tgt := 31) d_M_ceded_26 rfl ⟨by omega, by omega⟩ (fun h26 => ?_) (fun h26 => ?_)
          · exact absurd h26 (by decide)
          · skip
            refine rd_iconst (pc := 29) d_M_ceded_29 ?_
            exact rd_iret (pc := 30) d_M_ceded_30 rfl (Nat.le_of_ble_eq_true rfl) (hA (by omega))
  · skip
    refine rd_if_eq (pc := 6) (tgt := 17) d_M_ceded_6 rfl ⟨by omega, by omega⟩ (fun h6 => ?_) (fun h6 => ?_)
    · skip
      refine rd_iconst (pc := 17) d_M_ceded_17 ?_
      refine rd_goto (pc := 18) (tgt := 22) d_M_ceded_18 rfl ?_
      refine rd_iconst (pc := 22) d_M_ceded_22 ?_
      refine rd_callVi (pc := 23) (n' := 0) [_, _] d_M_ceded_23 ml_M_107 rfl (Nat.le_of_ble_eq_true rfl) (Nat.le_of_ble_eq_true rfl) (Nat.le_of_ble_eq_true rfl) rfl rfl rfl (Nat.le_of_ble_eq_true rfl) (Nat.le_of_ble_eq_true rfl) ?_
      refine ev_M_throwing1 ?_
      refine ⟨_, rfl, ?_⟩
      refine rd_if_eq (pc := 26) (tgt := 31) d_M_ceded_26 rfl ⟨by omega, by omega⟩ (fun h26 => ?_) (fun h26 => ?_)
      · exact absurd h26 (by decide)
      · skip
        refine rd_iconst (pc := 29) d_M_ceded_29 ?_
        exact rd_iret (pc := 30) d_M_ceded_30 rfl (Nat.le_of_ble_eq_true rfl) (hA (by omega))
    · exact absurd h6 (by decide)
set_option maxHeartbeats 4000000 in
set_option maxRecDepth 100000 in
theorem ev_M_left {t : Int} {n nt : Nat} {M : rd_M} {Q : rd_R → rd_M → Prop} (hB : r_B M n nt) (hT : r_T M n) (ht : rd_I t) (hA : ¬ ((0 ≤ t ∧ t < nt) ∧ ((M 41 t).tdiv 10 = 2 ∨ (M 41 t).tdiv 10 = 3)) → Q (.inl (some (rd_l 0))) (rd_up M 32 0 1)) (hQ : ((0 ≤ t ∧ t < nt) ∧ ((M 41 t).tdiv 10 = 2 ∨ (M 41 t).tdiv 10 = 3)) → (∀ M' Z v, r_fq M' M → M' 32 0 = 0 → r_Z0 (r_d M) n (-1) 0 Z → v = sp_lim (M 43 t) (M 44 t) - r_runK (r_d M) n nt Z 5 2 t → Q (.inl (some (rd_l v))) M')) : rd_G x_M_left 0 [some (.ref 32), some (rd_i t)] [] M 0 Q := by
  have hn := hB.1
  have hm := hB.2.1
  have hn4 := hB.2.2.1
  have hm10 := hB.2.2.2.1
  have hcl : ∀ y : Int, 0 ≤ y → y < 4 → 0 ≤ M 48 y ∧ M 48 y ≤ 1 := hB.2.2.2.2.2.2.2
  refine rd_aldn (pc := 0) d_M_left_0 rfl ?_
  refine rd_aldn (pc := 1) d_M_left_1 rfl ?_
  refine rd_ildn (pc := 2) d_M_left_2 rfl ?_
  refine rd_callVi (pc := 3) (n' := 0) [_] d_M_left_3 ml_M_127 rfl (Nat.le_of_ble_eq_true rfl) (Nat.le_of_ble_eq_true rfl) (Nat.le_of_ble_eq_true rfl) rfl rfl rfl (Nat.le_of_ble_eq_true rfl) (Nat.le_of_ble_eq_true rfl) ?_
  refine ev_M_isTreaty hB ⟨by omega, by omega⟩ (fun c3 => ⟨_, rfl, ?_⟩) (fun c3 => ⟨_, rfl, ?_⟩)
  · skip
    refine rd_if_eq (pc := 6) (tgt := 27) d_M_left_6 rfl ⟨by omega, by omega⟩ (fun h6 => ?_) (fun h6 => ?_)
    · exact absurd h6 (by decide)
    · skip
      obtain ⟨s1, s2, s3, ta, tb, tc, td⟩ := hB.sh (t := t) (by omega) (by omega)
      refine rd_aldn (pc := 9) d_M_left_9 rfl ?_
      refine rd_ildn (pc := 10) d_M_left_10 rfl ?_
      refine rd_callVi (pc := 11) (n' := 0) [_] d_M_left_11 ml_M_144 rfl (Nat.le_of_ble_eq_true rfl) (Nat.le_of_ble_eq_true rfl) (Nat.le_of_ble_eq_true rfl) rfl rfl rfl (Nat.le_of_ble_eq_true rfl) (Nat.le_of_ble_eq_true rfl) ?_
      refine ev_M_kindOf hB (by omega) (by omega) ?_
      refine ⟨_, rfl, ?_⟩
      refine rd_iconst (pc := 14) d_M_left_14 ?_
      refine rd_icmp_eq (pc := 15) (tgt := 31) d_M_left_15 rfl ⟨by omega, by omega⟩ ⟨by omega, by omega⟩ (fun h15 => ?_) (fun h15 => ?_)
      · skip
        refine rd_iconst (pc := 31) d_M_left_31 ?_
        refine rd_iconst (pc := 32) d_M_left_32 ?_
        refine rd_callVi (pc := 33) (n' := 0) [_, _] d_M_left_33 ml_M_107 rfl (Nat.le_of_ble_eq_true rfl) (Nat.le_of_ble_eq_true rfl) (Nat.le_of_ble_eq_true rfl) rfl rfl rfl (Nat.le_of_ble_eq_true rfl) (Nat.le_of_ble_eq_true rfl) ?_
        refine ev_M_throwing0 ?_
        refine ⟨_, rfl, ?_⟩
        refine rd_if_eq (pc := 36) (tgt := 41) d_M_left_36 rfl ⟨by omega, by omega⟩ (fun h36 => ?_) (fun h36 => ?_)
        · skip
          refine rd_aldn (pc := 41) d_M_left_41 rfl ?_
          refine rd_callVv (pc := 42) (n' := 0) [] d_M_left_42 ml_M_194 rfl (Nat.le_of_ble_eq_true rfl) (Nat.le_of_ble_eq_true rfl) (Nat.le_of_ble_eq_true rfl) rfl rfl rfl (Nat.le_of_ble_eq_true rfl) (Nat.le_of_ble_eq_true rfl) ?_
          refine ev_M_reckon (r_fq.th.B hB) (r_fq.th.T hT) (fun M2 Z hF2 hZ2 hz2 hk2 => ?_)
          rw [r_fq.th.d] at hZ2 hz2
          have hq2 : r_fq M2 M := hF2.q.trans r_fq.th
          have h0 : M2 32 0 = 0 := by rw [hF2.2 0 (by decide) (by decide), rd_up_hit]
          have hB2 := hq2.B hB
          have g41 : M2 41 = M 41 := hq2.low 41 (by decide) (by decide)
          have g43 : M2 43 = M 43 := hq2.low 43 (by decide) (by decide)
          have g44 : M2 44 = M 44 := hq2.low 44 (by decide) (by decide)
          have g46 : M2 46 = M 46 := hq2.low 46 (by decide) (by decide)
          have g48 : M2 48 = M 48 := hq2.low 48 (by decide) (by decide)
          refine ⟨rfl, ?_⟩
          skip
          have tk2 := hk2.2.2.1 t (by omega) (by omega)
          have eZ2 : M2 51 t = r_runK (r_d M) n nt Z 5 2 t := by rw [← hz2]; rfl
          have eZ5 : M2 52 t = r_runK (r_d M) n nt Z 5 5 t := by rw [← hz2]; rfl
          have b51 : 0 ≤ M2 51 t ∧ M2 51 t ≤ 40000000000 := tk2.1
          have b52 : 0 ≤ M2 52 t ∧ M2 52 t ≤ 12000000000 := tk2.2
          have hz5 : ¬ (M2 41 t).tdiv 10 < 2 → M2 52 t = 0 := fun h => by rw [eZ5]; exact r_runK_5 (by rw [g41] at h; exact h) (hZ2.2.2.1 t (by omega) (by omega)).2 5
          obtain ⟨u1, u2, u3, ua, ub, uc, ud⟩ := hB2.sh (t := t) (by omega) (by omega)
          refine rd_aldn (pc := 45) d_M_left_45 rfl ?_
          refine rd_getr (pc := 46) d_M_left_46 fl_M_41 rfl rfl ?_
          refine rd_ildn (pc := 49) d_M_left_49 rfl ?_
          refine rd_iald (pc := 50) d_M_left_50 rfl (by omega) (by omega) ?_
          skip
          refine rd_i2l (pc := 51) d_M_left_51 ⟨by omega, by omega⟩ ?_
          refine rd_iconst (pc := 52) d_M_left_52 ?_
          refine rd_aldn (pc := 53) d_M_left_53 rfl ?_
          refine rd_getr (pc := 54) d_M_left_54 fl_M_44 rfl rfl ?_
          refine rd_ildn (pc := 57) d_M_left_57 rfl ?_
          refine rd_iald (pc := 58) d_M_left_58 rfl (by omega) (by omega) ?_
          skip
          refine rd_iadd (pc := 59) d_M_left_59 ?_
          refine rd_i2l (pc := 60) d_M_left_60 ⟨by omega, by omega⟩ ?_
          refine rd_lmul (pc := 61) d_M_left_61 ?_
          refine rd_aldn (pc := 62) d_M_left_62 rfl ?_
          refine rd_getr (pc := 63) d_M_left_63 fl_M_66 rfl rfl ?_
          refine rd_ildn (pc := 66) d_M_left_66 rfl ?_
          refine rd_lald (pc := 67) d_M_left_67 rfl (by omega) (by omega) ?_
          skip
          refine rd_lsub (pc := 68) d_M_left_68 ?_
          exact rd_lret (pc := 69) d_M_left_69 rfl (Nat.le_of_ble_eq_true rfl) (hQ (by omega) M2 Z _ hq2 h0 hZ2 (by rw [← eZ2, g43, g44]; rfl))
        · exact absurd h36 (by decide)
      · skip
        refine rd_aldn (pc := 18) d_M_left_18 rfl ?_
        refine rd_ildn (pc := 19) d_M_left_19 rfl ?_
        refine rd_callVi (pc := 20) (n' := 0) [_] d_M_left_20 ml_M_144 rfl (Nat.le_of_ble_eq_true rfl) (Nat.le_of_ble_eq_true rfl) (Nat.le_of_ble_eq_true rfl) rfl rfl rfl (Nat.le_of_ble_eq_true rfl) (Nat.le_of_ble_eq_true rfl) ?_
        refine ev_M_kindOf hB (by omega) (by omega) ?_
        refine ⟨_, rfl, ?_⟩
        refine rd_iconst (pc := 23) d_M_left_23 ?_
        refine rd_icmp_eq (pc := 24) (tgt := 31) d_M_left_24 rfl ⟨by omega, by omega⟩ ⟨by omega, by omega⟩ (fun h24 => ?_) (fun h24 => ?_)
        · skip
          refine rd_iconst (pc := 31) d_M_left_31 ?_
          refine rd_iconst (pc := 32) d_M_left_32 ?_
          refine rd_callVi (pc := 33) (n' := 0) [_, _] d_M_left_33 ml_M_107 rfl (Nat.le_of_ble_eq_true rfl) (Nat.le_of_ble_eq_true rfl) (Nat.le_of_ble_eq_true rfl) rfl rfl rfl (Nat.le_of_ble_eq_true rfl) (Nat.le_of_ble_eq_true rfl) ?_
          refine ev_M_throwing0 ?_
          refine ⟨_, rfl, ?_⟩
          refine rd_if_eq (pc := 36) (tgt := 41) d_M_left_36 rfl ⟨by omega, by omega⟩ (fun h36 => ?_) (fun h36 => ?_)
          · skip
            refine rd_aldn (pc := 41) d_M_left_41 rfl ?_
            refine rd_callVv (pc := 42) (n' := 0) [] d_M_left_42 ml_M_194 rfl (Nat.le_of_ble_eq_true rfl) (Nat.le_of_ble_eq_true rfl) (Nat.le_of_ble_eq_true rfl) rfl rfl rfl (Nat.le_of_ble_eq_true rfl) (Nat.le_of_ble_eq_true rfl) ?_
            refine ev_M_reckon (r_fq.th.B hB) (r_fq.th.T hT) (fun M2 Z hF2 hZ2 hz2 hk2 => ?_)
            rw [r_fq.th.d] at hZ2 hz2
            have hq2 : r_fq M2 M := hF2.q.trans r_fq.th
            have h0 : M2 32 0 = 0 := by rw [hF2.2 0 (by decide) (by decide), rd_up_hit]
            have hB2 := hq2.B hB
            have g41 : M2 41 = M 41 := hq2.low 41 (by decide) (by decide)
            have g43 : M2 43 = M 43 := hq2.low 43 (by decide) (by decide)
            have g44 : M2 44 = M 44 := hq2.low 44 (by decide) (by decide)
            have g46 : M2 46 = M 46 := hq2.low 46 (by decide) (by decide)
            have g48 : M2 48 = M 48 := hq2.low 48 (by decide) (by decide)
            refine ⟨rfl, ?_⟩
            skip
            have tk2 := hk2.2.2.1 t (by omega) (by omega)
            have eZ2 : M2 51 t = r_runK (r_d M) n nt Z 5 2 t := by rw [← hz2]; rfl
            have eZ5 : M2 52 t = r_runK (r_d M) n nt Z 5 5 t := by rw [← hz2]; rfl
            have b51 : 0 ≤ M2 51 t ∧ M2 51 t ≤ 40000000000 := tk2.1
            have b52 : 0 ≤ M2 52 t ∧ M2 52 t ≤ 12000000000 := tk2.2
            have hz5 : ¬ (M2 41 t).tdiv 10 < 2 → M2 52 t = 0 := fun h => by rw [eZ5]; exact r_runK_5 (by rw [g41] at h; exact h) (hZ2.2.2.1 t (by omega) (by omega)).2 5
            obtain ⟨u1, u2, u3, ua, ub, uc, ud⟩ := hB2.sh (t := t) (by omega) (by omega)
            refine rd_aldn (pc := 45) d_M_left_45 rfl ?_
            refine rd_getr (pc := 46) d_M_left_46 fl_M_41 rfl rfl ?_
            refine rd_ildn (pc := 49) d_M_left_49 rfl ?_
            refine rd_iald (pc := 50) d_M_left_50 rfl (by omega) (by omega) ?_
            skip
            refine rd_i2l (pc := 51) d_M_left_51 ⟨by omega, by omega⟩ ?_
            refine rd_iconst (pc := 52) d_M_left_52 ?_
            refine rd_aldn (pc := 53) d_M_left_53 rfl ?_
            refine rd_getr (pc := 54) d_M_left_54 fl_M_44 rfl rfl ?_
            refine rd_ildn (pc := 57) d_M_left_57 rfl ?_
            refine rd_iald (pc := 58) d_M_left_58 rfl (by omega) (by omega) ?_
            skip
            refine rd_iadd (pc := 59) d_M_left_59 ?_
            refine rd_i2l (pc := 60) d_M_left_60 ⟨by omega, by omega⟩ ?_
            refine rd_lmul (pc := 61) d_M_left_61 ?_
            refine rd_aldn (pc := 62) d_M_left_62 rfl ?_
            refine rd_getr (pc := 63) d_M_left_63 fl_M_66 rfl rfl ?_
            refine rd_ildn (pc := 66) d_M_left_66 rfl ?_
            refine rd_lald (pc := 67) d_M_left_67 rfl (by omega) (by omega) ?_
            skip
            refine rd_lsub (pc := 68) d_M_left_68 ?_
            exact rd_lret (pc := 69) d_M_left_69 rfl (Nat.le_of_ble_eq_true rfl) (hQ (by omega) M2 Z _ hq2 h0 hZ2 (by rw [← eZ2, g43, g44]; rfl))
          · exact absurd h36 (by decide)
        · skip
          refine rd_iconst (pc := 27) d_M_left_27 ?_
          refine rd_goto (pc := 28) (tgt := 32) d_M_left_28 rfl ?_
          refine rd_iconst (pc := 32) d_M_left_32 ?_
          refine rd_callVi (pc := 33) (n' := 0) [_, _] d_M_left_33 ml_M_107 rfl (Nat.le_of_ble_eq_true rfl) (Nat.le_of_ble_eq_true rfl) (Nat.le_of_ble_eq_true rfl) rfl rfl rfl (Nat.le_of_ble_eq_true rfl) (Nat.le_of_ble_eq_true rfl) ?_
          refine ev_M_throwing1 ?_
          refine ⟨_, rfl, ?_⟩
          refine rd_if_eq (pc := 36) (tgt := 41) d_M_left_36 rfl ⟨by omega, by omega⟩ (fun h36 => ?_) (fun h36 => ?_)
          · exact absurd h36 (by decide)
          · skip
            refine rd_lconst (pc := 39) (v := 0) d_M_left_39 rfl ?_
            exact rd_lret (pc := 40) d_M_left_40 rfl (Nat.le_of_ble_eq_true rfl) (hA (by omega))
  · skip
    refine rd_if_eq (pc := 6) (tgt := 27) d_M_left_6 rfl ⟨by omega, by omega⟩ (fun h6 => ?_) (fun h6 => ?_)
    · skip
      refine rd_iconst (pc := 27) d_M_left_27 ?_
      refine rd_goto (pc := 28) (tgt := 32) d_M_left_28 rfl ?_
      refine rd_iconst (pc := 32) d_M_left_32 ?_
      refine rd_callVi (pc := 33) (n' := 0) [_, _] d_M_left_33 ml_M_107 rfl (Nat.le_of_ble_eq_true rfl) (Nat.le_of_ble_eq_true rfl) (Nat.le_of_ble_eq_true rfl) rfl rfl rfl (Nat.le_of_ble_eq_true rfl) (Nat.le_of_ble_eq_true rfl) ?_
      refine ev_M_throwing1 ?_
      refine ⟨_, rfl, ?_⟩
      refine rd_if_eq (pc := 36) (tgt := 41) d_M_left_36 rfl ⟨by omega, by omega⟩ (fun h36 => ?_) (fun h36 => ?_)
      · exact absurd h36 (by decide)
      · skip
        refine rd_lconst (pc := 39) (v := 0) d_M_left_39 rfl ?_
        exact rd_lret (pc := 40) d_M_left_40 rfl (Nat.le_of_ble_eq_true rfl) (hA (by omega))
    · exact absurd h6 (by decide)
set_option maxHeartbeats 4000000 in
set_option maxRecDepth 100000 in
theorem ev_M_window {t e : Int} {n nt : Nat} {M : rd_M} {Q : rd_R → rd_M → Prop} (hB : r_B M n nt) (hT : r_T M n) (ht : rd_I t) (he : rd_I e) (hA : ¬ ((0 ≤ t ∧ t < nt) ∧ (M 41 t).tdiv 10 = 3 ∧ (1 ≤ e ∧ e ≤ 9)) → Q (.inl (some (rd_i 0))) (rd_up M 32 0 1)) (hQ : ((0 ≤ t ∧ t < nt) ∧ (M 41 t).tdiv 10 = 3 ∧ (1 ≤ e ∧ e ≤ 9)) → (∀ M' Z v, r_fq M' M → M' 32 0 = 0 → r_Z0 (r_d M) n (-1) 0 Z → v = r_runK (r_d M) n nt Z 5 3 (t * 10 + e) → (-1 ≤ v ∧ v ≤ 100000) → Q (.inl (some (rd_i v))) M')) : rd_G x_M_window 0 [some (.ref 32), some (rd_i t), some (rd_i e)] [] M 0 Q := by
  have hn := hB.1
  have hm := hB.2.1
  have hn4 := hB.2.2.1
  have hm10 := hB.2.2.2.1
  have hcl : ∀ y : Int, 0 ≤ y → y < 4 → 0 ≤ M 48 y ∧ M 48 y ≤ 1 := hB.2.2.2.2.2.2.2
  refine rd_aldn (pc := 0) d_M_window_0 rfl ?_
  refine rd_aldn (pc := 1) d_M_window_1 rfl ?_
  refine rd_ildn (pc := 2) d_M_window_2 rfl ?_
  refine rd_callVi (pc := 3) (n' := 0) [_] d_M_window_3 ml_M_127 rfl (Nat.le_of_ble_eq_true rfl) (Nat.le_of_ble_eq_true rfl) (Nat.le_of_ble_eq_true rfl) rfl rfl rfl (Nat.le_of_ble_eq_true rfl) (Nat.le_of_ble_eq_true rfl) ?_
  refine ev_M_isTreaty hB ⟨by omega, by omega⟩ (fun c3 => ⟨_, rfl, ?_⟩) (fun c3 => ⟨_, rfl, ?_⟩)
  · skip
    refine rd_if_eq (pc := 6) (tgt := 30) d_M_window_6 rfl ⟨by omega, by omega⟩ (fun h6 => ?_) (fun h6 => ?_)
    · exact absurd h6 (by decide)
    · skip
      obtain ⟨s1, s2, s3, ta, tb, tc, td⟩ := hB.sh (t := t) (by omega) (by omega)
      refine rd_aldn (pc := 9) d_M_window_9 rfl ?_
      refine rd_ildn (pc := 10) d_M_window_10 rfl ?_
      refine rd_callVi (pc := 11) (n' := 0) [_] d_M_window_11 ml_M_144 rfl (Nat.le_of_ble_eq_true rfl) (Nat.le_of_ble_eq_true rfl) (Nat.le_of_ble_eq_true rfl) rfl rfl rfl (Nat.le_of_ble_eq_true rfl) (Nat.le_of_ble_eq_true rfl) ?_
      refine ev_M_kindOf hB (by omega) (by omega) ?_
      refine ⟨_, rfl, ?_⟩
      refine rd_iconst (pc := 14) d_M_window_14 ?_
      refine rd_icmp_ne (pc := 15) (tgt := 30) d_M_window_15 rfl ⟨by omega, by omega⟩ ⟨by omega, by omega⟩ (fun h15 => ?_) (fun h15 => ?_)
      · skip
        refine rd_iconst (pc := 30) d_M_window_30 ?_
        refine rd_goto (pc := 31) (tgt := 35) d_M_window_31 rfl ?_
        refine rd_iconst (pc := 35) d_M_window_35 ?_
        refine rd_callVi (pc := 36) (n' := 0) [_, _] d_M_window_36 ml_M_107 rfl (Nat.le_of_ble_eq_true rfl) (Nat.le_of_ble_eq_true rfl) (Nat.le_of_ble_eq_true rfl) rfl rfl rfl (Nat.le_of_ble_eq_true rfl) (Nat.le_of_ble_eq_true rfl) ?_
        refine ev_M_throwing1 ?_
        refine ⟨_, rfl, ?_⟩
        refine rd_if_eq (pc := 39) (tgt := 44) d_M_window_39 rfl ⟨by omega, by omega⟩ (fun h39 => ?_) (fun h39 => ?_)
        · exact absurd h39 (by decide)
        · skip
          refine rd_iconst (pc := 42) d_M_window_42 ?_
          exact rd_iret (pc := 43) d_M_window_43 rfl (Nat.le_of_ble_eq_true rfl) (hA (by omega))
      · skip
        refine rd_ildn (pc := 18) d_M_window_18 rfl ?_
        refine rd_i2l (pc := 19) d_M_window_19 ⟨by omega, by omega⟩ ?_
        refine rd_lconst (pc := 20) (v := 1) d_M_window_20 rfl ?_
        refine rd_ldc2 (pc := 21) (v := 9) d_M_window_21 kl_M_134 ?_
        refine rd_callSi (pc := 24) (n' := 0) [_, _, _] d_M_window_24 ml_M_93 (Nat.le_of_ble_eq_true rfl) (Nat.le_of_ble_eq_true rfl) (Nat.le_of_ble_eq_true rfl) rfl rfl rfl (Nat.le_of_ble_eq_true rfl) (Nat.le_of_ble_eq_true rfl) ?_
        refine ev_M_in ⟨by omega, by omega⟩ ⟨by omega, by omega⟩ ⟨by omega, by omega⟩ (fun c24 => ⟨_, rfl, ?_⟩) (fun c24 => ⟨_, rfl, ?_⟩)
        · skip
          refine rd_if_ne (pc := 27) (tgt := 34) d_M_window_27 rfl ⟨by omega, by omega⟩ (fun h27 => ?_) (fun h27 => ?_)
          · skip
            refine rd_iconst (pc := 34) d_M_window_34 ?_
            refine rd_iconst (pc := 35) d_M_window_35 ?_
            refine rd_callVi (pc := 36) (n' := 0) [_, _] d_M_window_36 ml_M_107 rfl (Nat.le_of_ble_eq_true rfl) (Nat.le_of_ble_eq_true rfl) (Nat.le_of_ble_eq_true rfl) rfl rfl rfl (Nat.le_of_ble_eq_true rfl) (Nat.le_of_ble_eq_true rfl) ?_
            refine ev_M_throwing0 ?_
            refine ⟨_, rfl, ?_⟩
            refine rd_if_eq (pc := 39) (tgt := 44) d_M_window_39 rfl ⟨by omega, by omega⟩ (fun h39 => ?_) (fun h39 => ?_)
            · skip
              refine rd_aldn (pc := 44) d_M_window_44 rfl ?_
              refine rd_callVv (pc := 45) (n' := 0) [] d_M_window_45 ml_M_194 rfl (Nat.le_of_ble_eq_true rfl) (Nat.le_of_ble_eq_true rfl) (Nat.le_of_ble_eq_true rfl) rfl rfl rfl (Nat.le_of_ble_eq_true rfl) (Nat.le_of_ble_eq_true rfl) ?_
              refine ev_M_reckon (r_fq.th.B hB) (r_fq.th.T hT) (fun M2 Z hF2 hZ2 hz2 hk2 => ?_)
              rw [r_fq.th.d] at hZ2 hz2
              have hq2 : r_fq M2 M := hF2.q.trans r_fq.th
              have h0 : M2 32 0 = 0 := by rw [hF2.2 0 (by decide) (by decide), rd_up_hit]
              have hB2 := hq2.B hB
              have g41 : M2 41 = M 41 := hq2.low 41 (by decide) (by decide)
              have g43 : M2 43 = M 43 := hq2.low 43 (by decide) (by decide)
              have g44 : M2 44 = M 44 := hq2.low 44 (by decide) (by decide)
              have g46 : M2 46 = M 46 := hq2.low 46 (by decide) (by decide)
              have g48 : M2 48 = M 48 := hq2.low 48 (by decide) (by decide)
              refine ⟨rfl, ?_⟩
              skip
              refine rd_aldn (pc := 48) d_M_window_48 rfl ?_
              refine rd_getr (pc := 49) d_M_window_49 fl_M_72 rfl rfl ?_
              refine rd_bipush (pc := 52) d_M_window_52 rfl ?_
              refine rd_ildn (pc := 54) d_M_window_54 rfl ?_
              refine rd_imul (pc := 55) d_M_window_55 ?_
              refine rd_ildn (pc := 56) d_M_window_56 rfl ?_
              refine rd_iadd (pc := 57) d_M_window_57 ?_
              refine rd_iald (pc := 58) d_M_window_58 rfl (by omega) (by omega) ?_
              skip
              rw [show 10 * t + e = t * 10 + e by omega]
              exact rd_iret (pc := 59) d_M_window_59 rfl (Nat.le_of_ble_eq_true rfl) (hQ (by omega) M2 Z _ hq2 h0 hZ2 (by rw [← hz2]; rfl) (hk2.2.2.2.1 (t * 10 + e) (by omega) (by omega)))
            · exact absurd h39 (by decide)
          · exact absurd h27 (by decide)
        · skip
          refine rd_if_ne (pc := 27) (tgt := 34) d_M_window_27 rfl ⟨by omega, by omega⟩ (fun h27 => ?_) (fun h27 => ?_)
          · exact absurd h27 (by decide)
          · skip
            refine rd_iconst (pc := 30) d_M_window_30 ?_
            refine rd_goto (pc := 31) (tgt := 35) d_M_window_31 rfl ?_
            refine rd_iconst (pc := 35) d_M_window_35 ?_
            refine rd_callVi (pc := 36) (n' := 0) [_, _] d_M_window_36 ml_M_107 rfl (Nat.le_of_ble_eq_true rfl) (Nat.le_of_ble_eq_true rfl) (Nat.le_of_ble_eq_true rfl) rfl rfl rfl (Nat.le_of_ble_eq_true rfl) (Nat.le_of_ble_eq_true rfl) ?_
            refine ev_M_throwing1 ?_
            refine ⟨_, rfl, ?_⟩
            refine rd_if_eq (pc := 39) (tgt := 44) d_M_window_39 rfl ⟨by omega, by omega⟩ (fun h39 => ?_) (fun h39 => ?_)
            · exact absurd h39 (by decide)
            · skip
              refine rd_iconst (pc := 42) d_M_window_42 ?_
              exact rd_iret (pc := 43) d_M_window_43 rfl (Nat.le_of_ble_eq_true rfl) (hA (by omega))
  · skip
    refine rd_if_eq (pc := 6) (tgt := 30) d_M_window_6 rfl ⟨by omega, by omega⟩ (fun h6 => ?_) (fun h6 => ?_)
    · skip
      refine rd_iconst (pc := 30) d_M_window_30 ?_
      refine rd_goto (pc := 31) (tgt := 35) d_M_window_31 rfl ?_
      refine rd_iconst (pc := 35) d_M_window_35 ?_
      refine rd_callVi (pc := 36) (n' := 0) [_, _] d_M_window_36 ml_M_107 rfl (Nat.le_of_ble_eq_true rfl) (Nat.le_of_ble_eq_true rfl) (Nat.le_of_ble_eq_true rfl) rfl rfl rfl (Nat.le_of_ble_eq_true rfl) (Nat.le_of_ble_eq_true rfl) ?_
      refine ev_M_throwing1 ?_
      refine ⟨_, rfl, ?_⟩
      refine rd_if_eq (pc := 39) (tgt := 44) d_M_window_39 rfl ⟨by omega, by omega⟩ (fun h39 => ?_) (fun h39 => ?_)
      · exact absurd h39 (by decide)
      · skip
        refine rd_iconst (pc := 42) d_M_window_42 ?_
        exact rd_iret (pc := 43) d_M_window_43 rfl (Nat.le_of_ble_eq_true rfl) (hA (by omega))
    · exact absurd h6 (by decide)
set_option maxHeartbeats 4000000 in
set_option maxRecDepth 100000 in
theorem ev_M_total {t w : Int} {n nt : Nat} {M : rd_M} {Q : rd_R → rd_M → Prop} (hB : r_B M n nt) (hT : r_T M n) (ht : rd_I t) (hw : rd_I w) (hA : ¬ ((0 ≤ t ∧ t < nt) ∧ (0 ≤ w ∧ w ≤ 3)) → Q (.inl (some (rd_l 0))) (rd_up M 32 0 1)) (hQ : ((0 ≤ t ∧ t < nt) ∧ (0 ≤ w ∧ w ≤ 3)) → (∀ M' Z v, r_fq M' M → M' 32 0 = 0 → r_Z0 (r_d M) n (-1) 0 Z → v = sp_tot w (r_runK (r_d M) n nt Z 5 5 t) (r_runK (r_d M) n nt Z 5 2 t) → Q (.inl (some (rd_l v))) M')) : rd_G x_M_total 0 [some (.ref 32), some (rd_i t), some (rd_i w)] [] M 0 Q := by
  have hn := hB.1
  have hm := hB.2.1
  have hn4 := hB.2.2.1
  have hm10 := hB.2.2.2.1
  have hcl : ∀ y : Int, 0 ≤ y → y < 4 → 0 ≤ M 48 y ∧ M 48 y ≤ 1 := hB.2.2.2.2.2.2.2
  refine rd_aldn (pc := 0) d_M_total_0 rfl ?_
  refine rd_aldn (pc := 1) d_M_total_1 rfl ?_
  refine rd_ildn (pc := 2) d_M_total_2 rfl ?_
  refine rd_callVi (pc := 3) (n' := 0) [_] d_M_total_3 ml_M_127 rfl (Nat.le_of_ble_eq_true rfl) (Nat.le_of_ble_eq_true rfl) (Nat.le_of_ble_eq_true rfl) rfl rfl rfl (Nat.le_of_ble_eq_true rfl) (Nat.le_of_ble_eq_true rfl) ?_
  refine ev_M_isTreaty hB ⟨by omega, by omega⟩ (fun c3 => ⟨_, rfl, ?_⟩) (fun c3 => ⟨_, rfl, ?_⟩)
  · skip
    refine rd_if_eq (pc := 6) (tgt := 21) d_M_total_6 rfl ⟨by omega, by omega⟩ (fun h6 => ?_) (fun h6 => ?_)
    · exact absurd h6 (by decide)
    · skip
      refine rd_ildn (pc := 9) d_M_total_9 rfl ?_
      refine rd_i2l (pc := 10) d_M_total_10 ⟨by omega, by omega⟩ ?_
      refine rd_lconst (pc := 11) (v := 0) d_M_total_11 rfl ?_
      refine rd_ldc2 (pc := 12) (v := 3) d_M_total_12 kl_M_105 ?_
      refine rd_callSi (pc := 15) (n' := 0) [_, _, _] d_M_total_15 ml_M_93 (Nat.le_of_ble_eq_true rfl) (Nat.le_of_ble_eq_true rfl) (Nat.le_of_ble_eq_true rfl) rfl rfl rfl (Nat.le_of_ble_eq_true rfl) (Nat.le_of_ble_eq_true rfl) ?_
      refine ev_M_in ⟨by omega, by omega⟩ ⟨by omega, by omega⟩ ⟨by omega, by omega⟩ (fun c15 => ⟨_, rfl, ?_⟩) (fun c15 => ⟨_, rfl, ?_⟩)
      · skip
        refine rd_if_ne (pc := 18) (tgt := 25) d_M_total_18 rfl ⟨by omega, by omega⟩ (fun h18 => ?_) (fun h18 => ?_)
        · skip
          refine rd_iconst (pc := 25) d_M_total_25 ?_
          refine rd_iconst (pc := 26) d_M_total_26 ?_
          refine rd_callVi (pc := 27) (n' := 0) [_, _] d_M_total_27 ml_M_107 rfl (Nat.le_of_ble_eq_true rfl) (Nat.le_of_ble_eq_true rfl) (Nat.le_of_ble_eq_true rfl) rfl rfl rfl (Nat.le_of_ble_eq_true rfl) (Nat.le_of_ble_eq_true rfl) ?_
          refine ev_M_throwing0 ?_
          refine ⟨_, rfl, ?_⟩
          refine rd_if_eq (pc := 30) (tgt := 35) d_M_total_30 rfl ⟨by omega, by omega⟩ (fun h30 => ?_) (fun h30 => ?_)
          · skip
            refine rd_aldn (pc := 35) d_M_total_35 rfl ?_
            refine rd_callVv (pc := 36) (n' := 0) [] d_M_total_36 ml_M_194 rfl (Nat.le_of_ble_eq_true rfl) (Nat.le_of_ble_eq_true rfl) (Nat.le_of_ble_eq_true rfl) rfl rfl rfl (Nat.le_of_ble_eq_true rfl) (Nat.le_of_ble_eq_true rfl) ?_
            refine ev_M_reckon (r_fq.th.B hB) (r_fq.th.T hT) (fun M2 Z hF2 hZ2 hz2 hk2 => ?_)
            rw [r_fq.th.d] at hZ2 hz2
            have hq2 : r_fq M2 M := hF2.q.trans r_fq.th
            have h0 : M2 32 0 = 0 := by rw [hF2.2 0 (by decide) (by decide), rd_up_hit]
            have hB2 := hq2.B hB
            have g41 : M2 41 = M 41 := hq2.low 41 (by decide) (by decide)
            have g43 : M2 43 = M 43 := hq2.low 43 (by decide) (by decide)
            have g44 : M2 44 = M 44 := hq2.low 44 (by decide) (by decide)
            have g46 : M2 46 = M 46 := hq2.low 46 (by decide) (by decide)
            have g48 : M2 48 = M 48 := hq2.low 48 (by decide) (by decide)
            refine ⟨rfl, ?_⟩
            skip
            have tk2 := hk2.2.2.1 t (by omega) (by omega)
            have eZ2 : M2 51 t = r_runK (r_d M) n nt Z 5 2 t := by rw [← hz2]; rfl
            have eZ5 : M2 52 t = r_runK (r_d M) n nt Z 5 5 t := by rw [← hz2]; rfl
            have b51 : 0 ≤ M2 51 t ∧ M2 51 t ≤ 40000000000 := tk2.1
            have b52 : 0 ≤ M2 52 t ∧ M2 52 t ≤ 12000000000 := tk2.2
            have hz5 : ¬ (M2 41 t).tdiv 10 < 2 → M2 52 t = 0 := fun h => by rw [eZ5]; exact r_runK_5 (by rw [g41] at h; exact h) (hZ2.2.2.1 t (by omega) (by omega)).2 5
            refine rd_ildn (pc := 39) d_M_total_39 rfl ?_
            refine rd_if_ne (pc := 40) (tgt := 52) d_M_total_40 rfl ⟨by omega, by omega⟩ (fun h40 => ?_) (fun h40 => ?_)
            · skip
              refine rd_ildn (pc := 52) d_M_total_52 rfl ?_
              refine rd_iconst (pc := 53) d_M_total_53 ?_
              refine rd_icmp_ne (pc := 54) (tgt := 66) d_M_total_54 rfl ⟨by omega, by omega⟩ ⟨by omega, by omega⟩ (fun h54 => ?_) (fun h54 => ?_)
              · skip
                refine rd_ildn (pc := 66) d_M_total_66 rfl ?_
                refine rd_iconst (pc := 67) d_M_total_67 ?_
                refine rd_icmp_ne (pc := 68) (tgt := 79) d_M_total_68 rfl ⟨by omega, by omega⟩ ⟨by omega, by omega⟩ (fun h68 => ?_) (fun h68 => ?_)
                · skip
                  refine rd_aldn (pc := 79) d_M_total_79 rfl ?_
                  refine rd_ildn (pc := 80) d_M_total_80 rfl ?_
                  refine rd_callVl (pc := 81) (n' := 0) [_] d_M_total_81 ml_M_207 rfl (Nat.le_of_ble_eq_true rfl) (Nat.le_of_ble_eq_true rfl) (Nat.le_of_ble_eq_true rfl) rfl rfl rfl (Nat.le_of_ble_eq_true rfl) (Nat.le_of_ble_eq_true rfl) ?_
                  refine ev_M_commission hB2 (by omega) (by omega) b51 b52 hz5 ?_
                  refine ⟨_, rfl, ?_⟩
                  skip
                  exact rd_lret (pc := 84) d_M_total_84 rfl (Nat.le_of_ble_eq_true rfl) (hQ (by omega) M2 Z _ hq2 h0 hZ2 (by rw [← eZ2, ← eZ5]; unfold sp_tot; first | (rw [if_pos (by omega)]) | (rw [if_neg (by omega), if_pos (by omega)]) | (rw [if_neg (by omega), if_neg (by omega), if_pos (by omega)]) | (rw [if_neg (by omega), if_neg (by omega), if_neg (by omega)])))
                · skip
                  refine rd_aldn (pc := 71) d_M_total_71 rfl ?_
                  refine rd_ildn (pc := 72) d_M_total_72 rfl ?_
                  refine rd_callVl (pc := 73) (n' := 0) [_] d_M_total_73 ml_M_199 rfl (Nat.le_of_ble_eq_true rfl) (Nat.le_of_ble_eq_true rfl) (Nat.le_of_ble_eq_true rfl) rfl rfl rfl (Nat.le_of_ble_eq_true rfl) (Nat.le_of_ble_eq_true rfl) ?_
                  refine ev_M_ratio hB2 (by omega) (by omega) b51 b52 hz5 ?_
                  refine ⟨_, rfl, ?_⟩
                  skip
                  refine rd_goto (pc := 76) (tgt := 84) d_M_total_76 rfl ?_
                  exact rd_lret (pc := 84) d_M_total_84 rfl (Nat.le_of_ble_eq_true rfl) (hQ (by omega) M2 Z _ hq2 h0 hZ2 (by rw [← eZ2, ← eZ5]; unfold sp_tot; first | (rw [if_pos (by omega)]) | (rw [if_neg (by omega), if_pos (by omega)]) | (rw [if_neg (by omega), if_neg (by omega), if_pos (by omega)]) | (rw [if_neg (by omega), if_neg (by omega), if_neg (by omega)])))
              · skip
                refine rd_aldn (pc := 57) d_M_total_57 rfl ?_
                refine rd_getr (pc := 58) d_M_total_58 fl_M_69 rfl rfl ?_
                refine rd_ildn (pc := 61) d_M_total_61 rfl ?_
                refine rd_lald (pc := 62) d_M_total_62 rfl (by omega) (by omega) ?_
                skip
                refine rd_goto (pc := 63) (tgt := 84) d_M_total_63 rfl ?_
                exact rd_lret (pc := 84) d_M_total_84 rfl (Nat.le_of_ble_eq_true rfl) (hQ (by omega) M2 Z _ hq2 h0 hZ2 (by rw [← eZ2, ← eZ5]; unfold sp_tot; first | (rw [if_pos (by omega)]) | (rw [if_neg (by omega), if_pos (by omega)]) | (rw [if_neg (by omega), if_neg (by omega), if_pos (by omega)]) | (rw [if_neg (by omega), if_neg (by omega), if_neg (by omega)])))
            · skip
              refine rd_aldn (pc := 43) d_M_total_43 rfl ?_
              refine rd_getr (pc := 44) d_M_total_44 fl_M_66 rfl rfl ?_
              refine rd_ildn (pc := 47) d_M_total_47 rfl ?_
              refine rd_lald (pc := 48) d_M_total_48 rfl (by omega) (by omega) ?_
              skip
              refine rd_goto (pc := 49) (tgt := 84) d_M_total_49 rfl ?_
              exact rd_lret (pc := 84) d_M_total_84 rfl (Nat.le_of_ble_eq_true rfl) (hQ (by omega) M2 Z _ hq2 h0 hZ2 (by rw [← eZ2, ← eZ5]; unfold sp_tot; first | (rw [if_pos (by omega)]) | (rw [if_neg (by omega), if_pos (by omega)]) | (rw [if_neg (by omega), if_neg (by omega), if_pos (by omega)]) | (rw [if_neg (by omega), if_neg (by omega), if_neg (by omega)])))
          · exact absurd h30 (by decide)
        · exact absurd h18 (by decide)
      · skip
        refine rd_if_ne (pc := 18) (tgt := 25) d_M_total_18 rfl ⟨by omega, by omega⟩ (fun h18 => ?_) (fun h18 => ?_)
        · exact absurd h18 (by decide)
        · skip
          refine rd_iconst (pc := 21) d_M_total_21 ?_
          refine rd_goto (pc := 22) (tgt := 26) d_M_total_22 rfl ?_
          refine rd_iconst (pc := 26) d_M_total_26 ?_
          refine rd_callVi (pc := 27) (n' := 0) [_, _] d_M_total_27 ml_M_107 rfl (Nat.le_of_ble_eq_true rfl) (Nat.le_of_ble_eq_true rfl) (Nat.le_of_ble_eq_true rfl) rfl rfl rfl (Nat.le_of_ble_eq_true rfl) (Nat.le_of_ble_eq_true rfl) ?_
          refine ev_M_throwing1 ?_
          refine ⟨_, rfl, ?_⟩
          refine rd_if_eq (pc := 30) (tgt := 35) d_M_total_30 rfl ⟨by omega, by omega⟩ (fun h30 => ?_) (fun h30 => ?_)
          · exact absurd h30 (by decide)
          · skip
            refine rd_lconst (pc := 33) (v := 0) d_M_total_33 rfl ?_
            exact rd_lret (pc := 34) d_M_total_34 rfl (Nat.le_of_ble_eq_true rfl) (hA (by omega))
  · skip
    refine rd_if_eq (pc := 6) (tgt := 21) d_M_total_6 rfl ⟨by omega, by omega⟩ (fun h6 => ?_) (fun h6 => ?_)
    · skip
      refine rd_iconst (pc := 21) d_M_total_21 ?_
      refine rd_goto (pc := 22) (tgt := 26) d_M_total_22 rfl ?_
      refine rd_iconst (pc := 26) d_M_total_26 ?_
      refine rd_callVi (pc := 27) (n' := 0) [_, _] d_M_total_27 ml_M_107 rfl (Nat.le_of_ble_eq_true rfl) (Nat.le_of_ble_eq_true rfl) (Nat.le_of_ble_eq_true rfl) rfl rfl rfl (Nat.le_of_ble_eq_true rfl) (Nat.le_of_ble_eq_true rfl) ?_
      refine ev_M_throwing1 ?_
      refine ⟨_, rfl, ?_⟩
      refine rd_if_eq (pc := 30) (tgt := 35) d_M_total_30 rfl ⟨by omega, by omega⟩ (fun h30 => ?_) (fun h30 => ?_)
      · exact absurd h30 (by decide)
      · skip
        refine rd_lconst (pc := 33) (v := 0) d_M_total_33 rfl ?_
        exact rd_lret (pc := 34) d_M_total_34 rfl (Nat.le_of_ble_eq_true rfl) (hA (by omega))
    · exact absurd h6 (by decide)
set_option maxHeartbeats 4000000 in
set_option maxRecDepth 100000 in
theorem ev_M_due {t r w : Int} {n nt : Nat} {M : rd_M} {Q : rd_R → rd_M → Prop} (hB : r_B M n nt) (hT : r_T M n) (hb0 : ∀ t : Int, 0 ≤ t → t < nt → 0 < M 43 t) (ht : rd_I t) (hr : rd_I r) (hw : rd_I w) (hA : ¬ ((0 ≤ t ∧ t < nt) ∧ (0 ≤ r ∧ r < 6) ∧ (0 ≤ w ∧ w ≤ 1)) → Q (.inl (some (rd_l 0))) (rd_up M 32 0 1)) (hQ : ((0 ≤ t ∧ t < nt) ∧ (0 ≤ r ∧ r < 6) ∧ (0 ≤ w ∧ w ≤ 1)) → (∀ M' Z v, r_fq M' M → M' 32 0 = 0 → r_Z0 (r_d M) n (-1) 0 Z → v = sp_sh (M 46 (t * 6 + r)) (if w = 0 then r_runK (r_d M) n nt Z 5 2 t else sp_rei ((M 41 t).tdiv 10) (M 43 t) (M 44 t) (r_runK (r_d M) n nt Z 5 2 t)) → Q (.inl (some (rd_l v))) M')) : rd_G x_M_due 0 [some (.ref 32), some (rd_i t), some (rd_i r), some (rd_i w)] [] M 0 Q := by
  have hn := hB.1
  have hm := hB.2.1
  have hn4 := hB.2.2.1
  have hm10 := hB.2.2.2.1
  have hcl : ∀ y : Int, 0 ≤ y → y < 4 → 0 ≤ M 48 y ∧ M 48 y ≤ 1 := hB.2.2.2.2.2.2.2
  refine rd_aldn (pc := 0) d_M_due_0 rfl ?_
  refine rd_aldn (pc := 1) d_M_due_1 rfl ?_
  refine rd_ildn (pc := 2) d_M_due_2 rfl ?_
  refine rd_callVi (pc := 3) (n' := 0) [_] d_M_due_3 ml_M_127 rfl (Nat.le_of_ble_eq_true rfl) (Nat.le_of_ble_eq_true rfl) (Nat.le_of_ble_eq_true rfl) rfl rfl rfl (Nat.le_of_ble_eq_true rfl) (Nat.le_of_ble_eq_true rfl) ?_
  refine ev_M_isTreaty hB ⟨by omega, by omega⟩ (fun c3 => ⟨_, rfl, ?_⟩) (fun c3 => ⟨_, rfl, ?_⟩)
  · skip
    refine rd_if_eq (pc := 6) (tgt := 31) d_M_due_6 rfl ⟨by omega, by omega⟩ (fun h6 => ?_) (fun h6 => ?_)
    · exact absurd h6 (by decide)
    · skip
      refine rd_ildn (pc := 9) d_M_due_9 rfl ?_
      refine rd_i2l (pc := 10) d_M_due_10 ⟨by omega, by omega⟩ ?_
      refine rd_lconst (pc := 11) (v := 0) d_M_due_11 rfl ?_
      refine rd_ldc2 (pc := 12) (v := 5) d_M_due_12 kl_M_119 ?_
      refine rd_callSi (pc := 15) (n' := 0) [_, _, _] d_M_due_15 ml_M_93 (Nat.le_of_ble_eq_true rfl) (Nat.le_of_ble_eq_true rfl) (Nat.le_of_ble_eq_true rfl) rfl rfl rfl (Nat.le_of_ble_eq_true rfl) (Nat.le_of_ble_eq_true rfl) ?_
      refine ev_M_in ⟨by omega, by omega⟩ ⟨by omega, by omega⟩ ⟨by omega, by omega⟩ (fun c15 => ⟨_, rfl, ?_⟩) (fun c15 => ⟨_, rfl, ?_⟩)
      · skip
        refine rd_if_eq (pc := 18) (tgt := 31) d_M_due_18 rfl ⟨by omega, by omega⟩ (fun h18 => ?_) (fun h18 => ?_)
        · exact absurd h18 (by decide)
        · skip
          refine rd_ildn (pc := 21) d_M_due_21 rfl ?_
          refine rd_i2l (pc := 22) d_M_due_22 ⟨by omega, by omega⟩ ?_
          refine rd_lconst (pc := 23) (v := 0) d_M_due_23 rfl ?_
          refine rd_lconst (pc := 24) (v := 1) d_M_due_24 rfl ?_
          refine rd_callSi (pc := 25) (n' := 0) [_, _, _] d_M_due_25 ml_M_93 (Nat.le_of_ble_eq_true rfl) (Nat.le_of_ble_eq_true rfl) (Nat.le_of_ble_eq_true rfl) rfl rfl rfl (Nat.le_of_ble_eq_true rfl) (Nat.le_of_ble_eq_true rfl) ?_
          refine ev_M_in ⟨by omega, by omega⟩ ⟨by omega, by omega⟩ ⟨by omega, by omega⟩ (fun c25 => ⟨_, rfl, ?_⟩) (fun c25 => ⟨_, rfl, ?_⟩)
          · skip
            refine rd_if_ne (pc := 28) (tgt := 35) d_M_due_28 rfl ⟨by omega, by omega⟩ (fun h28 => ?_) (fun h28 => ?_)
            · skip
              refine rd_iconst (pc := 35) d_M_due_35 ?_
              refine rd_iconst (pc := 36) d_M_due_36 ?_
              refine rd_callVi (pc := 37) (n' := 0) [_, _] d_M_due_37 ml_M_107 rfl (Nat.le_of_ble_eq_true rfl) (Nat.le_of_ble_eq_true rfl) (Nat.le_of_ble_eq_true rfl) rfl rfl rfl (Nat.le_of_ble_eq_true rfl) (Nat.le_of_ble_eq_true rfl) ?_
              refine ev_M_throwing0 ?_
              refine ⟨_, rfl, ?_⟩
              refine rd_if_eq (pc := 40) (tgt := 45) d_M_due_40 rfl ⟨by omega, by omega⟩ (fun h40 => ?_) (fun h40 => ?_)
              · skip
                refine rd_aldn (pc := 45) d_M_due_45 rfl ?_
                refine rd_callVv (pc := 46) (n' := 0) [] d_M_due_46 ml_M_194 rfl (Nat.le_of_ble_eq_true rfl) (Nat.le_of_ble_eq_true rfl) (Nat.le_of_ble_eq_true rfl) rfl rfl rfl (Nat.le_of_ble_eq_true rfl) (Nat.le_of_ble_eq_true rfl) ?_
                refine ev_M_reckon (r_fq.th.B hB) (r_fq.th.T hT) (fun M2 Z hF2 hZ2 hz2 hk2 => ?_)
                rw [r_fq.th.d] at hZ2 hz2
                have hq2 : r_fq M2 M := hF2.q.trans r_fq.th
                have h0 : M2 32 0 = 0 := by rw [hF2.2 0 (by decide) (by decide), rd_up_hit]
                have hB2 := hq2.B hB
                have g41 : M2 41 = M 41 := hq2.low 41 (by decide) (by decide)
                have g43 : M2 43 = M 43 := hq2.low 43 (by decide) (by decide)
                have g44 : M2 44 = M 44 := hq2.low 44 (by decide) (by decide)
                have g46 : M2 46 = M 46 := hq2.low 46 (by decide) (by decide)
                have g48 : M2 48 = M 48 := hq2.low 48 (by decide) (by decide)
                refine ⟨rfl, ?_⟩
                skip
                have tk2 := hk2.2.2.1 t (by omega) (by omega)
                have eZ2 : M2 51 t = r_runK (r_d M) n nt Z 5 2 t := by rw [← hz2]; rfl
                have eZ5 : M2 52 t = r_runK (r_d M) n nt Z 5 5 t := by rw [← hz2]; rfl
                have b51 : 0 ≤ M2 51 t ∧ M2 51 t ≤ 40000000000 := tk2.1
                have b52 : 0 ≤ M2 52 t ∧ M2 52 t ≤ 12000000000 := tk2.2
                have hz5 : ¬ (M2 41 t).tdiv 10 < 2 → M2 52 t = 0 := fun h => by rw [eZ5]; exact r_runK_5 (by rw [g41] at h; exact h) (hZ2.2.2.1 t (by omega) (by omega)).2 5
                refine rd_ildn (pc := 49) d_M_due_49 rfl ?_
                refine rd_if_ne (pc := 50) (tgt := 68) d_M_due_50 rfl ⟨by omega, by omega⟩ (fun h50 => ?_) (fun h50 => ?_)
                · skip
                  refine rd_aldn (pc := 68) d_M_due_68 rfl ?_
                  refine rd_ildn (pc := 69) d_M_due_69 rfl ?_
                  refine rd_ildn (pc := 70) d_M_due_70 rfl ?_
                  refine rd_callVl (pc := 71) (n' := 0) [_, _] d_M_due_71 ml_M_214 rfl (Nat.le_of_ble_eq_true rfl) (Nat.le_of_ble_eq_true rfl) (Nat.le_of_ble_eq_true rfl) rfl rfl rfl (Nat.le_of_ble_eq_true rfl) (Nat.le_of_ble_eq_true rfl) ?_
                  refine ev_M_reinstatement hB2 (by omega) (by omega) b51 b52 (by omega) (by omega) (by rw [g43]; exact hb0 t (by omega) (by omega)) ?_
                  refine ⟨_, rfl, ?_⟩
                  skip
                  exact rd_lret (pc := 74) d_M_due_74 rfl (Nat.le_of_ble_eq_true rfl) (hQ (by omega) M2 Z _ hq2 h0 hZ2 (by rw [← eZ2, ← g46, ← g41, ← g43, ← g44]; first | rw [if_pos (by omega)] | rw [if_neg (by omega)]))
                · skip
                  refine rd_aldn (pc := 53) d_M_due_53 rfl ?_
                  refine rd_ildn (pc := 54) d_M_due_54 rfl ?_
                  refine rd_ildn (pc := 55) d_M_due_55 rfl ?_
                  refine rd_aldn (pc := 56) d_M_due_56 rfl ?_
                  refine rd_getr (pc := 57) d_M_due_57 fl_M_66 rfl rfl ?_
                  refine rd_ildn (pc := 60) d_M_due_60 rfl ?_
                  refine rd_lald (pc := 61) d_M_due_61 rfl (by omega) (by omega) ?_
                  skip
                  refine rd_callVl (pc := 62) (n' := 0) [_, _, _] d_M_due_62 ml_M_210 rfl (Nat.le_of_ble_eq_true rfl) (Nat.le_of_ble_eq_true rfl) (Nat.le_of_ble_eq_true rfl) rfl rfl rfl (Nat.le_of_ble_eq_true rfl) (Nat.le_of_ble_eq_true rfl) ?_
                  refine ev_M_shareOf hB2 (by omega) (by omega) (by omega) (by omega) ⟨by omega, by omega⟩ ?_
                  refine ⟨_, rfl, ?_⟩
                  skip
                  refine rd_goto (pc := 65) (tgt := 74) d_M_due_65 rfl ?_
                  exact rd_lret (pc := 74) d_M_due_74 rfl (Nat.le_of_ble_eq_true rfl) (hQ (by omega) M2 Z _ hq2 h0 hZ2 (by rw [← eZ2, ← g46, ← g41, ← g43, ← g44]; first | rw [if_pos (by omega)] | rw [if_neg (by omega)]))
              · exact absurd h40 (by decide)
            · exact absurd h28 (by decide)
          · skip
            refine rd_if_ne (pc := 28) (tgt := 35) d_M_due_28 rfl ⟨by omega, by omega⟩ (fun h28 => ?_) (fun h28 => ?_)
            · exact absurd h28 (by decide)
            · skip
              refine rd_iconst (pc := 31) d_M_due_31 ?_
              refine rd_goto (pc := 32) (tgt := 36) d_M_due_32 rfl ?_
              refine rd_iconst (pc := 36) d_M_due_36 ?_
              refine rd_callVi (pc := 37) (n' := 0) [_, _] d_M_due_37 ml_M_107 rfl (Nat.le_of_ble_eq_true rfl) (Nat.le_of_ble_eq_true rfl) (Nat.le_of_ble_eq_true rfl) rfl rfl rfl (Nat.le_of_ble_eq_true rfl) (Nat.le_of_ble_eq_true rfl) ?_
              refine ev_M_throwing1 ?_
              refine ⟨_, rfl, ?_⟩
              refine rd_if_eq (pc := 40) (tgt := 45) d_M_due_40 rfl ⟨by omega, by omega⟩ (fun h40 => ?_) (fun h40 => ?_)
              · exact absurd h40 (by decide)
              · skip
                refine rd_lconst (pc := 43) (v := 0) d_M_due_43 rfl ?_
                exact rd_lret (pc := 44) d_M_due_44 rfl (Nat.le_of_ble_eq_true rfl) (hA (by omega))
      · skip
        refine rd_if_eq (pc := 18) (tgt := 31) d_M_due_18 rfl ⟨by omega, by omega⟩ (fun h18 => ?_) (fun h18 => ?_)
        · skip
          refine rd_iconst (pc := 31) d_M_due_31 ?_
          refine rd_goto (pc := 32) (tgt := 36) d_M_due_32 rfl ?_
          refine rd_iconst (pc := 36) d_M_due_36 ?_
          refine rd_callVi (pc := 37) (n' := 0) [_, _] d_M_due_37 ml_M_107 rfl (Nat.le_of_ble_eq_true rfl) (Nat.le_of_ble_eq_true rfl) (Nat.le_of_ble_eq_true rfl) rfl rfl rfl (Nat.le_of_ble_eq_true rfl) (Nat.le_of_ble_eq_true rfl) ?_
          refine ev_M_throwing1 ?_
          refine ⟨_, rfl, ?_⟩
          refine rd_if_eq (pc := 40) (tgt := 45) d_M_due_40 rfl ⟨by omega, by omega⟩ (fun h40 => ?_) (fun h40 => ?_)
          · exact absurd h40 (by decide)
          · skip
            refine rd_lconst (pc := 43) (v := 0) d_M_due_43 rfl ?_
            exact rd_lret (pc := 44) d_M_due_44 rfl (Nat.le_of_ble_eq_true rfl) (hA (by omega))
        · exact absurd h18 (by decide)
  · skip
    refine rd_if_eq (pc := 6) (tgt := 31) d_M_due_6 rfl ⟨by omega, by omega⟩ (fun h6 => ?_) (fun h6 => ?_)
    · skip
      refine rd_iconst (pc := 31) d_M_due_31 ?_
      refine rd_goto (pc := 32) (tgt := 36) d_M_due_32 rfl ?_
      refine rd_iconst (pc := 36) d_M_due_36 ?_
      refine rd_callVi (pc := 37) (n' := 0) [_, _] d_M_due_37 ml_M_107 rfl (Nat.le_of_ble_eq_true rfl) (Nat.le_of_ble_eq_true rfl) (Nat.le_of_ble_eq_true rfl) rfl rfl rfl (Nat.le_of_ble_eq_true rfl) (Nat.le_of_ble_eq_true rfl) ?_
      refine ev_M_throwing1 ?_
      refine ⟨_, rfl, ?_⟩
      refine rd_if_eq (pc := 40) (tgt := 45) d_M_due_40 rfl ⟨by omega, by omega⟩ (fun h40 => ?_) (fun h40 => ?_)
      · exact absurd h40 (by decide)
      · skip
        refine rd_lconst (pc := 43) (v := 0) d_M_due_43 rfl ?_
        exact rd_lret (pc := 44) d_M_due_44 rfl (Nat.le_of_ble_eq_true rfl) (hA (by omega))
    · exact absurd h6 (by decide)

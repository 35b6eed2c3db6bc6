/-! the reference: a treaty -/
set_option maxHeartbeats 4000000 in
set_option maxRecDepth 100000 in
theorem ev_M_areSo {k a b c d : Int} {M : rd_M} {Q : rd_R → rd_M → Prop} (hk : 0 ≤ k ∧ k ≤ 4) (ha : rd_I a) (hb : rd_I b) (hc : rd_I c) (hd : rd_I d) (hT : sp_terms k a b c d → Q (.inl (some (rd_i 1))) M) (hF : ¬ (sp_terms k a b c d) → Q (.inl (some (rd_i 0))) M) : rd_G x_M_areSo 0 [some (rd_i k), some (rd_i a), some (rd_i b), some (rd_i c), some (rd_i d)] [] M 0 Q := by
  refine rd_ildn (pc := 0) d_M_areSo_0 rfl ?_
  refine rd_if_ne (pc := 1) (tgt := 43) d_M_areSo_1 rfl ⟨by omega, by omega⟩ (fun h1 => ?_) (fun h1 => ?_)
  · skip
    refine rd_ildn (pc := 43) d_M_areSo_43 rfl ?_
    refine rd_iconst (pc := 44) d_M_areSo_44 ?_
    refine rd_icmp_ne (pc := 45) (tgt := 87) d_M_areSo_45 rfl ⟨by omega, by omega⟩ ⟨by omega, by omega⟩ (fun h45 => ?_) (fun h45 => ?_)
    · skip
      refine rd_ildn (pc := 87) d_M_areSo_87 rfl ?_
      refine rd_iconst (pc := 88) d_M_areSo_88 ?_
      refine rd_icmp_ne (pc := 89) (tgt := 131) d_M_areSo_89 rfl ⟨by omega, by omega⟩ ⟨by omega, by omega⟩ (fun h89 => ?_) (fun h89 => ?_)
      · skip
        refine rd_ildn (pc := 131) d_M_areSo_131 rfl ?_
        refine rd_i2l (pc := 132) d_M_areSo_132 ⟨by omega, by omega⟩ ?_
        refine rd_lconst (pc := 133) (v := 0) d_M_areSo_133 rfl ?_
        refine rd_ldc2 (pc := 134) (v := 1000000000) d_M_areSo_134 kl_M_103 ?_
        refine rd_callSi (pc := 137) (n' := 0) [_, _, _] d_M_areSo_137 ml_M_93 (Nat.le_of_ble_eq_true rfl) (Nat.le_of_ble_eq_true rfl) (Nat.le_of_ble_eq_true rfl) rfl rfl rfl (Nat.le_of_ble_eq_true rfl) (Nat.le_of_ble_eq_true rfl) ?_
        refine ev_M_in ⟨by omega, by omega⟩ ⟨by omega, by omega⟩ ⟨by omega, by omega⟩ (fun c137 => ⟨_, rfl, ?_⟩) (fun c137 => ⟨_, rfl, ?_⟩)
        · skip
          refine rd_if_eq (pc := 140) (tgt := 184) d_M_areSo_140 rfl ⟨by omega, by omega⟩ (fun h140 => ?_) (fun h140 => ?_)
          · exact absurd h140 (by decide)
          · skip
            refine rd_ildn (pc := 143) d_M_areSo_143 rfl ?_
            refine rd_i2l (pc := 144) d_M_areSo_144 ⟨by omega, by omega⟩ ?_
            refine rd_lconst (pc := 145) (v := 1) d_M_areSo_145 rfl ?_
            refine rd_ldc2 (pc := 146) (v := 1000000000) d_M_areSo_146 kl_M_103 ?_
            refine rd_callSi (pc := 149) (n' := 0) [_, _, _] d_M_areSo_149 ml_M_93 (Nat.le_of_ble_eq_true rfl) (Nat.le_of_ble_eq_true rfl) (Nat.le_of_ble_eq_true rfl) rfl rfl rfl (Nat.le_of_ble_eq_true rfl) (Nat.le_of_ble_eq_true rfl) ?_
            refine ev_M_in ⟨by omega, by omega⟩ ⟨by omega, by omega⟩ ⟨by omega, by omega⟩ (fun c149 => ⟨_, rfl, ?_⟩) (fun c149 => ⟨_, rfl, ?_⟩)
            · skip
              refine rd_if_eq (pc := 152) (tgt := 184) d_M_areSo_152 rfl ⟨by omega, by omega⟩ (fun h152 => ?_) (fun h152 => ?_)
              · exact absurd h152 (by decide)
              · skip
                refine rd_ildn (pc := 155) d_M_areSo_155 rfl ?_
                refine rd_i2l (pc := 156) d_M_areSo_156 ⟨by omega, by omega⟩ ?_
                refine rd_lconst (pc := 157) (v := 0) d_M_areSo_157 rfl ?_
                refine rd_ldc2 (pc := 158) (v := 5) d_M_areSo_158 kl_M_119 ?_
                refine rd_callSi (pc := 161) (n' := 0) [_, _, _] d_M_areSo_161 ml_M_93 (Nat.le_of_ble_eq_true rfl) (Nat.le_of_ble_eq_true rfl) (Nat.le_of_ble_eq_true rfl) rfl rfl rfl (Nat.le_of_ble_eq_true rfl) (Nat.le_of_ble_eq_true rfl) ?_
                refine ev_M_in ⟨by omega, by omega⟩ ⟨by omega, by omega⟩ ⟨by omega, by omega⟩ (fun c161 => ⟨_, rfl, ?_⟩) (fun c161 => ⟨_, rfl, ?_⟩)
                · skip
                  refine rd_if_eq (pc := 164) (tgt := 184) d_M_areSo_164 rfl ⟨by omega, by omega⟩ (fun h164 => ?_) (fun h164 => ?_)
                  · exact absurd h164 (by decide)
                  · skip
                    refine rd_ild (pc := 167) d_M_areSo_167 rfl ?_
                    refine rd_i2l (pc := 169) d_M_areSo_169 ⟨by omega, by omega⟩ ?_
                    refine rd_lconst (pc := 170) (v := 0) d_M_areSo_170 rfl ?_
                    refine rd_ldc2 (pc := 171) (v := 1000000000) d_M_areSo_171 kl_M_103 ?_
                    refine rd_callSi (pc := 174) (n' := 0) [_, _, _] d_M_areSo_174 ml_M_93 (Nat.le_of_ble_eq_true rfl) (Nat.le_of_ble_eq_true rfl) (Nat.le_of_ble_eq_true rfl) rfl rfl rfl (Nat.le_of_ble_eq_true rfl) (Nat.le_of_ble_eq_true rfl) ?_
                    refine ev_M_in ⟨by omega, by omega⟩ ⟨by omega, by omega⟩ ⟨by omega, by omega⟩ (fun c174 => ⟨_, rfl, ?_⟩) (fun c174 => ⟨_, rfl, ?_⟩)
                    · skip
                      refine rd_if_eq (pc := 177) (tgt := 184) d_M_areSo_177 rfl ⟨by omega, by omega⟩ (fun h177 => ?_) (fun h177 => ?_)
                      · exact absurd h177 (by decide)
                      · skip
                        refine rd_iconst (pc := 180) d_M_areSo_180 ?_
                        refine rd_goto (pc := 181) (tgt := 185) d_M_areSo_181 rfl ?_
                        exact rd_zret (pc := 185) d_M_areSo_185 rfl (Nat.le_of_ble_eq_true rfl) (by omega) (by first | exact hT (by omega) | exact hF (by omega))
                    · skip
                      refine rd_if_eq (pc := 177) (tgt := 184) d_M_areSo_177 rfl ⟨by omega, by omega⟩ (fun h177 => ?_) (fun h177 => ?_)
                      · skip
                        refine rd_iconst (pc := 184) d_M_areSo_184 ?_
                        exact rd_zret (pc := 185) d_M_areSo_185 rfl (Nat.le_of_ble_eq_true rfl) (by omega) (by first | exact hT (by omega) | exact hF (by omega))
                      · exact absurd h177 (by decide)
                · skip
                  refine rd_if_eq (pc := 164) (tgt := 184) d_M_areSo_164 rfl ⟨by omega, by omega⟩ (fun h164 => ?_) (fun h164 => ?_)
                  · skip
                    refine rd_iconst (pc := 184) d_M_areSo_184 ?_
                    exact rd_zret (pc := 185) d_M_areSo_185 rfl (Nat.le_of_ble_eq_true rfl) (by omega) (by first | exact hT (by omega) | exact hF (by omega))
                  · exact absurd h164 (by decide)
            · skip
              refine rd_if_eq (pc := 152) (tgt := 184) d_M_areSo_152 rfl ⟨by omega, by omega⟩ (fun h152 => ?_) (fun h152 => ?_)
              · skip
                refine rd_iconst (pc := 184) d_M_areSo_184 ?_
                exact rd_zret (pc := 185) d_M_areSo_185 rfl (Nat.le_of_ble_eq_true rfl) (by omega) (by first | exact hT (by omega) | exact hF (by omega))
              · exact absurd h152 (by decide)
        · skip
          refine rd_if_eq (pc := 140) (tgt := 184) d_M_areSo_140 rfl ⟨by omega, by omega⟩ (fun h140 => ?_) (fun h140 => ?_)
          · skip
            refine rd_iconst (pc := 184) d_M_areSo_184 ?_
            exact rd_zret (pc := 185) d_M_areSo_185 rfl (Nat.le_of_ble_eq_true rfl) (by omega) (by first | exact hT (by omega) | exact hF (by omega))
          · exact absurd h140 (by decide)
      · skip
        refine rd_ildn (pc := 92) d_M_areSo_92 rfl ?_
        refine rd_i2l (pc := 93) d_M_areSo_93 ⟨by omega, by omega⟩ ?_
        refine rd_lconst (pc := 94) (v := 0) d_M_areSo_94 rfl ?_
        refine rd_ldc2 (pc := 95) (v := 1000000000) d_M_areSo_95 kl_M_103 ?_
        refine rd_callSi (pc := 98) (n' := 0) [_, _, _] d_M_areSo_98 ml_M_93 (Nat.le_of_ble_eq_true rfl) (Nat.le_of_ble_eq_true rfl) (Nat.le_of_ble_eq_true rfl) rfl rfl rfl (Nat.le_of_ble_eq_true rfl) (Nat.le_of_ble_eq_true rfl) ?_
        refine ev_M_in ⟨by omega, by omega⟩ ⟨by omega, by omega⟩ ⟨by omega, by omega⟩ (fun c98 => ⟨_, rfl, ?_⟩) (fun c98 => ⟨_, rfl, ?_⟩)
        · skip
          refine rd_if_eq (pc := 101) (tgt := 129) d_M_areSo_101 rfl ⟨by omega, by omega⟩ (fun h101 => ?_) (fun h101 => ?_)
          · exact absurd h101 (by decide)
          · skip
            refine rd_ildn (pc := 104) d_M_areSo_104 rfl ?_
            refine rd_i2l (pc := 105) d_M_areSo_105 ⟨by omega, by omega⟩ ?_
            refine rd_lconst (pc := 106) (v := 1) d_M_areSo_106 rfl ?_
            refine rd_ldc2 (pc := 107) (v := 1000000000) d_M_areSo_107 kl_M_103 ?_
            refine rd_callSi (pc := 110) (n' := 0) [_, _, _] d_M_areSo_110 ml_M_93 (Nat.le_of_ble_eq_true rfl) (Nat.le_of_ble_eq_true rfl) (Nat.le_of_ble_eq_true rfl) rfl rfl rfl (Nat.le_of_ble_eq_true rfl) (Nat.le_of_ble_eq_true rfl) ?_
            refine ev_M_in ⟨by omega, by omega⟩ ⟨by omega, by omega⟩ ⟨by omega, by omega⟩ (fun c110 => ⟨_, rfl, ?_⟩) (fun c110 => ⟨_, rfl, ?_⟩)
            · skip
              refine rd_if_eq (pc := 113) (tgt := 129) d_M_areSo_113 rfl ⟨by omega, by omega⟩ (fun h113 => ?_) (fun h113 => ?_)
              · exact absurd h113 (by decide)
              · skip
                refine rd_ildn (pc := 116) d_M_areSo_116 rfl ?_
                refine rd_if_ne (pc := 117) (tgt := 129) d_M_areSo_117 rfl ⟨by omega, by omega⟩ (fun h117 => ?_) (fun h117 => ?_)
                · skip
                  refine rd_iconst (pc := 129) d_M_areSo_129 ?_
                  exact rd_zret (pc := 130) d_M_areSo_130 rfl (Nat.le_of_ble_eq_true rfl) (by omega) (by first | exact hT (by omega) | exact hF (by omega))
                · skip
                  refine rd_ild (pc := 120) d_M_areSo_120 rfl ?_
                  refine rd_if_ne (pc := 122) (tgt := 129) d_M_areSo_122 rfl ⟨by omega, by omega⟩ (fun h122 => ?_) (fun h122 => ?_)
                  · skip
                    refine rd_iconst (pc := 129) d_M_areSo_129 ?_
                    exact rd_zret (pc := 130) d_M_areSo_130 rfl (Nat.le_of_ble_eq_true rfl) (by omega) (by first | exact hT (by omega) | exact hF (by omega))
                  · skip
                    refine rd_iconst (pc := 125) d_M_areSo_125 ?_
                    refine rd_goto (pc := 126) (tgt := 130) d_M_areSo_126 rfl ?_
                    exact rd_zret (pc := 130) d_M_areSo_130 rfl (Nat.le_of_ble_eq_true rfl) (by omega) (by first | exact hT (by omega) | exact hF (by omega))
            · skip
              refine rd_if_eq (pc := 113) (tgt := 129) d_M_areSo_113 rfl ⟨by omega, by omega⟩ (fun h113 => ?_) (fun h113 => ?_)
              · skip
                refine rd_iconst (pc := 129) d_M_areSo_129 ?_
                exact rd_zret (pc := 130) d_M_areSo_130 rfl (Nat.le_of_ble_eq_true rfl) (by omega) (by first | exact hT (by omega) | exact hF (by omega))
              · exact absurd h113 (by decide)
        · skip
          refine rd_if_eq (pc := 101) (tgt := 129) d_M_areSo_101 rfl ⟨by omega, by omega⟩ (fun h101 => ?_) (fun h101 => ?_)
          · skip
            refine rd_iconst (pc := 129) d_M_areSo_129 ?_
            exact rd_zret (pc := 130) d_M_areSo_130 rfl (Nat.le_of_ble_eq_true rfl) (by omega) (by first | exact hT (by omega) | exact hF (by omega))
          · exact absurd h101 (by decide)
    · skip
      refine rd_ildn (pc := 48) d_M_areSo_48 rfl ?_
      refine rd_i2l (pc := 49) d_M_areSo_49 ⟨by omega, by omega⟩ ?_
      refine rd_lconst (pc := 50) (v := 1) d_M_areSo_50 rfl ?_
      refine rd_ldc2 (pc := 51) (v := 1000000000) d_M_areSo_51 kl_M_103 ?_
      refine rd_callSi (pc := 54) (n' := 0) [_, _, _] d_M_areSo_54 ml_M_93 (Nat.le_of_ble_eq_true rfl) (Nat.le_of_ble_eq_true rfl) (Nat.le_of_ble_eq_true rfl) rfl rfl rfl (Nat.le_of_ble_eq_true rfl) (Nat.le_of_ble_eq_true rfl) ?_
      refine ev_M_in ⟨by omega, by omega⟩ ⟨by omega, by omega⟩ ⟨by omega, by omega⟩ (fun c54 => ⟨_, rfl, ?_⟩) (fun c54 => ⟨_, rfl, ?_⟩)
      · skip
        refine rd_if_eq (pc := 57) (tgt := 85) d_M_areSo_57 rfl ⟨by omega, by omega⟩ (fun h57 => ?_) (fun h57 => ?_)
        · exact absurd h57 (by decide)
        · skip
          refine rd_ildn (pc := 60) d_M_areSo_60 rfl ?_
          refine rd_i2l (pc := 61) d_M_areSo_61 ⟨by omega, by omega⟩ ?_
          refine rd_lconst (pc := 62) (v := 1) d_M_areSo_62 rfl ?_
          refine rd_ldc2 (pc := 63) (v := 20) d_M_areSo_63 kl_M_117 ?_
          refine rd_callSi (pc := 66) (n' := 0) [_, _, _] d_M_areSo_66 ml_M_93 (Nat.le_of_ble_eq_true rfl) (Nat.le_of_ble_eq_true rfl) (Nat.le_of_ble_eq_true rfl) rfl rfl rfl (Nat.le_of_ble_eq_true rfl) (Nat.le_of_ble_eq_true rfl) ?_
          refine ev_M_in ⟨by omega, by omega⟩ ⟨by omega, by omega⟩ ⟨by omega, by omega⟩ (fun c66 => ⟨_, rfl, ?_⟩) (fun c66 => ⟨_, rfl, ?_⟩)
          · skip
            refine rd_if_eq (pc := 69) (tgt := 85) d_M_areSo_69 rfl ⟨by omega, by omega⟩ (fun h69 => ?_) (fun h69 => ?_)
            · exact absurd h69 (by decide)
            · skip
              refine rd_ildn (pc := 72) d_M_areSo_72 rfl ?_
              refine rd_if_ne (pc := 73) (tgt := 85) d_M_areSo_73 rfl ⟨by omega, by omega⟩ (fun h73 => ?_) (fun h73 => ?_)
              · skip
                refine rd_iconst (pc := 85) d_M_areSo_85 ?_
                exact rd_zret (pc := 86) d_M_areSo_86 rfl (Nat.le_of_ble_eq_true rfl) (by omega) (by first | exact hT (by omega) | exact hF (by omega))
              · skip
                refine rd_ild (pc := 76) d_M_areSo_76 rfl ?_
                refine rd_if_ne (pc := 78) (tgt := 85) d_M_areSo_78 rfl ⟨by omega, by omega⟩ (fun h78 => ?_) (fun h78 => ?_)
                · skip
                  refine rd_iconst (pc := 85) d_M_areSo_85 ?_
                  exact rd_zret (pc := 86) d_M_areSo_86 rfl (Nat.le_of_ble_eq_true rfl) (by omega) (by first | exact hT (by omega) | exact hF (by omega))
                · skip
                  refine rd_iconst (pc := 81) d_M_areSo_81 ?_
                  refine rd_goto (pc := 82) (tgt := 86) d_M_areSo_82 rfl ?_
                  exact rd_zret (pc := 86) d_M_areSo_86 rfl (Nat.le_of_ble_eq_true rfl) (by omega) (by first | exact hT (by omega) | exact hF (by omega))
          · skip
            refine rd_if_eq (pc := 69) (tgt := 85) d_M_areSo_69 rfl ⟨by omega, by omega⟩ (fun h69 => ?_) (fun h69 => ?_)
            · skip
              refine rd_iconst (pc := 85) d_M_areSo_85 ?_
              exact rd_zret (pc := 86) d_M_areSo_86 rfl (Nat.le_of_ble_eq_true rfl) (by omega) (by first | exact hT (by omega) | exact hF (by omega))
            · exact absurd h69 (by decide)
      · skip
        refine rd_if_eq (pc := 57) (tgt := 85) d_M_areSo_57 rfl ⟨by omega, by omega⟩ (fun h57 => ?_) (fun h57 => ?_)
        · skip
          refine rd_iconst (pc := 85) d_M_areSo_85 ?_
          exact rd_zret (pc := 86) d_M_areSo_86 rfl (Nat.le_of_ble_eq_true rfl) (by omega) (by first | exact hT (by omega) | exact hF (by omega))
        · exact absurd h57 (by decide)
  · skip
    refine rd_ildn (pc := 4) d_M_areSo_4 rfl ?_
    refine rd_i2l (pc := 5) d_M_areSo_5 ⟨by omega, by omega⟩ ?_
    refine rd_lconst (pc := 6) (v := 1) d_M_areSo_6 rfl ?_
    refine rd_ldc2 (pc := 7) (v := 1000000) d_M_areSo_7 kl_M_115 ?_
    refine rd_callSi (pc := 10) (n' := 0) [_, _, _] d_M_areSo_10 ml_M_93 (Nat.le_of_ble_eq_true rfl) (Nat.le_of_ble_eq_true rfl) (Nat.le_of_ble_eq_true rfl) rfl rfl rfl (Nat.le_of_ble_eq_true rfl) (Nat.le_of_ble_eq_true rfl) ?_
    refine ev_M_in ⟨by omega, by omega⟩ ⟨by omega, by omega⟩ ⟨by omega, by omega⟩ (fun c10 => ⟨_, rfl, ?_⟩) (fun c10 => ⟨_, rfl, ?_⟩)
    · skip
      refine rd_if_eq (pc := 13) (tgt := 41) d_M_areSo_13 rfl ⟨by omega, by omega⟩ (fun h13 => ?_) (fun h13 => ?_)
      · exact absurd h13 (by decide)
      · skip
        refine rd_ildn (pc := 16) d_M_areSo_16 rfl ?_
        refine rd_i2l (pc := 17) d_M_areSo_17 ⟨by omega, by omega⟩ ?_
        refine rd_lconst (pc := 18) (v := 1) d_M_areSo_18 rfl ?_
        refine rd_ldc2 (pc := 19) (v := 1000000000) d_M_areSo_19 kl_M_103 ?_
        refine rd_callSi (pc := 22) (n' := 0) [_, _, _] d_M_areSo_22 ml_M_93 (Nat.le_of_ble_eq_true rfl) (Nat.le_of_ble_eq_true rfl) (Nat.le_of_ble_eq_true rfl) rfl rfl rfl (Nat.le_of_ble_eq_true rfl) (Nat.le_of_ble_eq_true rfl) ?_
        refine ev_M_in ⟨by omega, by omega⟩ ⟨by omega, by omega⟩ ⟨by omega, by omega⟩ (fun c22 => ⟨_, rfl, ?_⟩) (fun c22 => ⟨_, rfl, ?_⟩)
        · skip
          refine rd_if_eq (pc := 25) (tgt := 41) d_M_areSo_25 rfl ⟨by omega, by omega⟩ (fun h25 => ?_) (fun h25 => ?_)
          · exact absurd h25 (by decide)
          · skip
            refine rd_ildn (pc := 28) d_M_areSo_28 rfl ?_
            refine rd_if_ne (pc := 29) (tgt := 41) d_M_areSo_29 rfl ⟨by omega, by omega⟩ (fun h29 => ?_) (fun h29 => ?_)
            · skip
              refine rd_iconst (pc := 41) d_M_areSo_41 ?_
              exact rd_zret (pc := 42) d_M_areSo_42 rfl (Nat.le_of_ble_eq_true rfl) (by omega) (by first | exact hT (by omega) | exact hF (by omega))
            · skip
              refine rd_ild (pc := 32) d_M_areSo_32 rfl ?_
              refine rd_if_ne (pc := 34) (tgt := 41) d_M_areSo_34 rfl ⟨by omega, by omega⟩ (fun h34 => ?_) (fun h34 => ?_)
              · skip
                refine rd_iconst (pc := 41) d_M_areSo_41 ?_
                exact rd_zret (pc := 42) d_M_areSo_42 rfl (Nat.le_of_ble_eq_true rfl) (by omega) (by first | exact hT (by omega) | exact hF (by omega))
              · skip
                refine rd_iconst (pc := 37) d_M_areSo_37 ?_
                refine rd_goto (pc := 38) (tgt := 42) d_M_areSo_38 rfl ?_
                exact rd_zret (pc := 42) d_M_areSo_42 rfl (Nat.le_of_ble_eq_true rfl) (by omega) (by first | exact hT (by omega) | exact hF (by omega))
        · skip
          refine rd_if_eq (pc := 25) (tgt := 41) d_M_areSo_25 rfl ⟨by omega, by omega⟩ (fun h25 => ?_) (fun h25 => ?_)
          · skip
            refine rd_iconst (pc := 41) d_M_areSo_41 ?_
            exact rd_zret (pc := 42) d_M_areSo_42 rfl (Nat.le_of_ble_eq_true rfl) (by omega) (by first | exact hT (by omega) | exact hF (by omega))
          · exact absurd h25 (by decide)
    · skip
      refine rd_if_eq (pc := 13) (tgt := 41) d_M_areSo_13 rfl ⟨by omega, by omega⟩ (fun h13 => ?_) (fun h13 => ?_)
      · skip
        refine rd_iconst (pc := 41) d_M_areSo_41 ?_
        exact rd_zret (pc := 42) d_M_areSo_42 rfl (Nat.le_of_ble_eq_true rfl) (by omega) (by first | exact hT (by omega) | exact hF (by omega))
      · exact absurd h13 (by decide)
set_option maxHeartbeats 4000000 in
set_option maxRecDepth 100000 in
theorem ev_M_treaty {s a b c d : Int} {n nt : Nat} {M : rd_M} {Q : rd_R → rd_M → Prop} (hB : r_B M n nt) (hs : rd_I s) (ha : rd_I a) (hb : rd_I b) (hc : rd_I c) (hd : rd_I d) (hA : ¬ (((0 ≤ s ∧ s < 50) ∧ s.tmod 10 < 4) ∧ sp_terms (s.tdiv 10) a b c d) → Q (.inl (some (rd_i 0))) (rd_up M 32 0 1)) (hS : (((0 ≤ s ∧ s < 50) ∧ s.tmod 10 < 4) ∧ sp_terms (s.tdiv 10) a b c d) → ((10 : Int) ≤ nt ∨ M 48 (s.tmod 10) ≠ 0) → Q (.inl (some (rd_i 0))) (rd_up M 32 0 2)) (hQ : (((0 ≤ s ∧ s < 50) ∧ s.tmod 10 < 4) ∧ sp_terms (s.tdiv 10) a b c d) → ¬ ((10 : Int) ≤ nt ∨ M 48 (s.tmod 10) ≠ 0) → Q (.inl (some (rd_i ((nt : Int) + 1 - 1)))) (rd_up (rd_up (rd_up (rd_up (rd_up (rd_up (rd_up M 32 0 0) 41 nt s) 42 nt a) 43 nt b) 44 nt c) 45 nt d) 32 15 (nt + 1))) : rd_G x_M_treaty 0 [some (.ref 32), some (rd_i s), some (rd_i a), some (rd_i b), some (rd_i c), some (rd_i d), none] [] M 0 Q := by
  have hn := hB.1
  have hm := hB.2.1
  have hn4 := hB.2.2.1
  have hm10 := hB.2.2.2.1
  have hcl : ∀ y : Int, 0 ≤ y → y < 4 → 0 ≤ M 48 y ∧ M 48 y ≤ 1 := hB.2.2.2.2.2.2.2
  refine rd_ildn (pc := 0) d_M_treaty_0 rfl ?_
  refine rd_i2l (pc := 1) d_M_treaty_1 ⟨by omega, by omega⟩ ?_
  refine rd_lconst (pc := 2) (v := 0) d_M_treaty_2 rfl ?_
  refine rd_ldc2 (pc := 3) (v := 43) d_M_treaty_3 kl_M_121 ?_
  refine rd_callSi (pc := 6) (n' := 0) [_, _, _] d_M_treaty_6 ml_M_93 (Nat.le_of_ble_eq_true rfl) (Nat.le_of_ble_eq_true rfl) (Nat.le_of_ble_eq_true rfl) rfl rfl rfl (Nat.le_of_ble_eq_true rfl) (Nat.le_of_ble_eq_true rfl) ?_
  refine ev_M_in ⟨by omega, by omega⟩ ⟨by omega, by omega⟩ ⟨by omega, by omega⟩ (fun c6 => ⟨_, rfl, ?_⟩) (fun c6 => ⟨_, rfl, ?_⟩)
  · skip
    refine rd_if_eq (pc := 9) (tgt := 36) d_M_treaty_9 rfl ⟨by omega, by omega⟩ (fun h9 => ?_) (fun h9 => ?_)
    · exact absurd h9 (by decide)
    · skip
      have hdv : 0 ≤ s.tdiv 10 ∧ s.tdiv 10 ≤ 4 ∧ s = 10 * s.tdiv 10 + s.tmod 10 := by (rw [Int.tdiv_eq_ediv_of_nonneg (by omega), Int.tmod_eq_emod_of_nonneg (by omega)]; omega)
      have hmd : 0 ≤ s.tmod 10 ∧ s.tmod 10 < 10 := by (rw [Int.tmod_eq_emod_of_nonneg (by omega)]; omega)
      refine rd_ildn (pc := 12) d_M_treaty_12 rfl ?_
      refine rd_bipush (pc := 13) d_M_treaty_13 rfl ?_
      refine rd_irem (pc := 15) d_M_treaty_15 ⟨by omega, by omega⟩ ⟨by omega, by omega⟩ (by omega) ?_
      refine rd_iconst (pc := 16) d_M_treaty_16 ?_
      refine rd_icmp_gt (pc := 17) (tgt := 36) d_M_treaty_17 rfl ⟨by omega, by omega⟩ ⟨by omega, by omega⟩ (fun h17 => ?_) (fun h17 => ?_)
      · skip
        refine rd_iconst (pc := 36) d_M_treaty_36 ?_
        refine rd_goto (pc := 37) (tgt := 41) d_M_treaty_37 rfl ?_
        refine rd_ist6 (pc := 41) d_M_treaty_41 rfl ?_
        refine rd_aldn (pc := 43) d_M_treaty_43 rfl ?_
        refine rd_ild (pc := 44) d_M_treaty_44 rfl ?_
        refine rd_ild (pc := 46) d_M_treaty_46 rfl ?_
        refine rd_if_ne (pc := 48) (tgt := 76) d_M_treaty_48 rfl ⟨by omega, by omega⟩ (fun h48 => ?_) (fun h48 => ?_)
        · skip
          refine rd_iconst (pc := 76) d_M_treaty_76 ?_
          refine rd_callVi (pc := 77) (n' := 0) [_, _] d_M_treaty_77 ml_M_107 rfl (Nat.le_of_ble_eq_true rfl) (Nat.le_of_ble_eq_true rfl) (Nat.le_of_ble_eq_true rfl) rfl rfl rfl (Nat.le_of_ble_eq_true rfl) (Nat.le_of_ble_eq_true rfl) ?_
          refine ev_M_throwing1 ?_
          refine ⟨_, rfl, ?_⟩
          refine rd_if_eq (pc := 80) (tgt := 85) d_M_treaty_80 rfl ⟨by omega, by omega⟩ (fun h80 => ?_) (fun h80 => ?_)
          · exact absurd h80 (by decide)
          · skip
            refine rd_iconst (pc := 83) d_M_treaty_83 ?_
            exact rd_iret (pc := 84) d_M_treaty_84 rfl (Nat.le_of_ble_eq_true rfl) (by first | exact hA (fun z => by have z1 := z.1.1; have hx : s.tmod 10 = s % 10 := Int.tmod_eq_emod_of_nonneg (by omega); have z2 := z.1.2; omega) | exact hA (by omega) | exact hS (by omega) (by omega))
        · exact absurd h48 (by decide)
      · skip
        refine rd_ildn (pc := 20) d_M_treaty_20 rfl ?_
        refine rd_bipush (pc := 21) d_M_treaty_21 rfl ?_
        refine rd_idiv (pc := 23) d_M_treaty_23 ⟨by omega, by omega⟩ ⟨by omega, by omega⟩ (by omega) ?_
        refine rd_ildn (pc := 24) d_M_treaty_24 rfl ?_
        refine rd_ildn (pc := 25) d_M_treaty_25 rfl ?_
        refine rd_ild (pc := 26) d_M_treaty_26 rfl ?_
        refine rd_ild (pc := 28) d_M_treaty_28 rfl ?_
        refine rd_callSi (pc := 30) (n' := 0) [_, _, _, _, _] d_M_treaty_30 ml_M_123 (Nat.le_of_ble_eq_true rfl) (Nat.le_of_ble_eq_true rfl) (Nat.le_of_ble_eq_true rfl) rfl rfl rfl (Nat.le_of_ble_eq_true rfl) (Nat.le_of_ble_eq_true rfl) ?_
        refine ev_M_areSo ⟨by omega, by omega⟩ ⟨by omega, by omega⟩ ⟨by omega, by omega⟩ ⟨by omega, by omega⟩ ⟨by omega, by omega⟩ (fun c30 => ⟨_, rfl, ?_⟩) (fun c30 => ⟨_, rfl, ?_⟩)
        · skip
          refine rd_if_ne (pc := 33) (tgt := 40) d_M_treaty_33 rfl ⟨by omega, by omega⟩ (fun h33 => ?_) (fun h33 => ?_)
          · skip
            refine rd_iconst (pc := 40) d_M_treaty_40 ?_
            refine rd_ist6 (pc := 41) d_M_treaty_41 rfl ?_
            refine rd_aldn (pc := 43) d_M_treaty_43 rfl ?_
            refine rd_ild (pc := 44) d_M_treaty_44 rfl ?_
            refine rd_ild (pc := 46) d_M_treaty_46 rfl ?_
            refine rd_if_ne (pc := 48) (tgt := 76) d_M_treaty_48 rfl ⟨by omega, by omega⟩ (fun h48 => ?_) (fun h48 => ?_)
            · exact absurd h48 (by decide)
            · skip
              have hc2 := hcl (s.tmod 10) (by omega) (by omega)
              refine rd_aldn (pc := 51) d_M_treaty_51 rfl ?_
              refine rd_gi (pc := 52) (ki := 15) d_M_treaty_52 fl_M_100 rfl rfl rfl ?_
              refine rd_bipush (pc := 55) d_M_treaty_55 rfl ?_
              refine rd_icmp_eq (pc := 57) (tgt := 72) d_M_treaty_57 rfl ⟨by omega, by omega⟩ ⟨by omega, by omega⟩ (fun h57 => ?_) (fun h57 => ?_)
              · skip
                refine rd_iconst (pc := 72) d_M_treaty_72 ?_
                refine rd_goto (pc := 73) (tgt := 77) d_M_treaty_73 rfl ?_
                refine rd_callVi (pc := 77) (n' := 0) [_, _] d_M_treaty_77 ml_M_107 rfl (Nat.le_of_ble_eq_true rfl) (Nat.le_of_ble_eq_true rfl) (Nat.le_of_ble_eq_true rfl) rfl rfl rfl (Nat.le_of_ble_eq_true rfl) (Nat.le_of_ble_eq_true rfl) ?_
                refine ev_M_throwing2 ?_
                refine ⟨_, rfl, ?_⟩
                refine rd_if_eq (pc := 80) (tgt := 85) d_M_treaty_80 rfl ⟨by omega, by omega⟩ (fun h80 => ?_) (fun h80 => ?_)
                · exact absurd h80 (by decide)
                · skip
                  refine rd_iconst (pc := 83) d_M_treaty_83 ?_
                  exact rd_iret (pc := 84) d_M_treaty_84 rfl (Nat.le_of_ble_eq_true rfl) (by first | exact hA (fun z => by have z1 := z.1.1; have hx : s.tmod 10 = s % 10 := Int.tmod_eq_emod_of_nonneg (by omega); have z2 := z.1.2; omega) | exact hA (by omega) | exact hS (by omega) (by omega))
              · skip
                refine rd_aldn (pc := 60) d_M_treaty_60 rfl ?_
                refine rd_getr (pc := 61) d_M_treaty_61 fl_M_57 rfl rfl ?_
                refine rd_ildn (pc := 64) d_M_treaty_64 rfl ?_
                refine rd_bipush (pc := 65) d_M_treaty_65 rfl ?_
                refine rd_irem (pc := 67) d_M_treaty_67 ⟨by omega, by omega⟩ ⟨by omega, by omega⟩ (by omega) ?_
                refine rd_zald (pc := 68) d_M_treaty_68 rfl (by omega) (by omega) ?_
                refine rd_if_eq (pc := 69) (tgt := 76) d_M_treaty_69 rfl ⟨by omega, by omega⟩ (fun h69 => ?_) (fun h69 => ?_)
                · skip
                  refine rd_iconst (pc := 76) d_M_treaty_76 ?_
                  refine rd_callVi (pc := 77) (n' := 0) [_, _] d_M_treaty_77 ml_M_107 rfl (Nat.le_of_ble_eq_true rfl) (Nat.le_of_ble_eq_true rfl) (Nat.le_of_ble_eq_true rfl) rfl rfl rfl (Nat.le_of_ble_eq_true rfl) (Nat.le_of_ble_eq_true rfl) ?_
                  refine ev_M_throwing0 ?_
                  refine ⟨_, rfl, ?_⟩
                  refine rd_if_eq (pc := 80) (tgt := 85) d_M_treaty_80 rfl ⟨by omega, by omega⟩ (fun h80 => ?_) (fun h80 => ?_)
                  · skip
                    refine rd_aldn (pc := 85) d_M_treaty_85 rfl ?_
                    refine rd_getr (pc := 86) d_M_treaty_86 fl_M_35 rfl rfl ?_
                    refine rd_aldn (pc := 89) d_M_treaty_89 rfl ?_
                    refine rd_gi (pc := 90) (ki := 15) d_M_treaty_90 fl_M_100 rfl rfl rfl ?_
                    try simp (decide := true) only [rd_up_app, rd_up_hit, rd_up_32, hm]
                    refine rd_ildn (pc := 93) d_M_treaty_93 rfl ?_
                    refine rd_iast (pc := 94) d_M_treaty_94 rfl (by omega) (by omega) ?_
                    refine rd_aldn (pc := 95) d_M_treaty_95 rfl ?_
                    refine rd_getr (pc := 96) d_M_treaty_96 fl_M_38 rfl rfl ?_
                    refine rd_aldn (pc := 99) d_M_treaty_99 rfl ?_
                    refine rd_gi (pc := 100) (ki := 15) d_M_treaty_100 fl_M_100 rfl rfl rfl ?_
                    try simp (decide := true) only [rd_up_app, rd_up_hit, rd_up_32, hm]
                    refine rd_ildn (pc := 103) d_M_treaty_103 rfl ?_
                    refine rd_iast (pc := 104) d_M_treaty_104 rfl (by omega) (by omega) ?_
                    refine rd_aldn (pc := 105) d_M_treaty_105 rfl ?_
                    refine rd_getr (pc := 106) d_M_treaty_106 fl_M_41 rfl rfl ?_
                    refine rd_aldn (pc := 109) d_M_treaty_109 rfl ?_
                    refine rd_gi (pc := 110) (ki := 15) d_M_treaty_110 fl_M_100 rfl rfl rfl ?_
                    try simp (decide := true) only [rd_up_app, rd_up_hit, rd_up_32, hm]
                    refine rd_ildn (pc := 113) d_M_treaty_113 rfl ?_
                    refine rd_iast (pc := 114) d_M_treaty_114 rfl (by omega) (by omega) ?_
                    refine rd_aldn (pc := 115) d_M_treaty_115 rfl ?_
                    refine rd_getr (pc := 116) d_M_treaty_116 fl_M_44 rfl rfl ?_
                    refine rd_aldn (pc := 119) d_M_treaty_119 rfl ?_
                    refine rd_gi (pc := 120) (ki := 15) d_M_treaty_120 fl_M_100 rfl rfl rfl ?_
                    try simp (decide := true) only [rd_up_app, rd_up_hit, rd_up_32, hm]
                    refine rd_ild (pc := 123) d_M_treaty_123 rfl ?_
                    refine rd_iast (pc := 125) d_M_treaty_125 rfl (by omega) (by omega) ?_
                    refine rd_aldn (pc := 126) d_M_treaty_126 rfl ?_
                    refine rd_getr (pc := 127) d_M_treaty_127 fl_M_47 rfl rfl ?_
                    refine rd_aldn (pc := 130) d_M_treaty_130 rfl ?_
                    refine rd_gi (pc := 131) (ki := 15) d_M_treaty_131 fl_M_100 rfl rfl rfl ?_
                    try simp (decide := true) only [rd_up_app, rd_up_hit, rd_up_32, hm]
                    refine rd_ild (pc := 134) d_M_treaty_134 rfl ?_
                    refine rd_iast (pc := 136) d_M_treaty_136 rfl (by omega) (by omega) ?_
                    refine rd_aldn (pc := 137) d_M_treaty_137 rfl ?_
                    refine rd_dup (pc := 138) d_M_treaty_138 rfl ?_
                    refine rd_gi (pc := 139) (ki := 15) d_M_treaty_139 fl_M_100 rfl rfl rfl ?_
                    try simp (decide := true) only [rd_up_app, rd_up_hit, rd_up_32, hm]
                    refine rd_iconst (pc := 142) d_M_treaty_142 ?_
                    refine rd_iadd (pc := 143) d_M_treaty_143 ?_
                    refine rd_pi (pc := 144) (ki := 15) d_M_treaty_144 fl_M_100 fp_5_15 rfl rfl rfl ?_
                    refine rd_aldn (pc := 147) d_M_treaty_147 rfl ?_
                    refine rd_gi (pc := 148) (ki := 15) d_M_treaty_148 fl_M_100 rfl rfl rfl ?_
                    try simp (decide := true) only [rd_up_app, rd_up_hit, rd_up_32, hm]
                    refine rd_iconst (pc := 151) d_M_treaty_151 ?_
                    refine rd_isub (pc := 152) d_M_treaty_152 ?_
                    exact rd_iret (pc := 153) d_M_treaty_153 rfl (Nat.le_of_ble_eq_true rfl) (hQ (by omega) (by omega))
                  · exact absurd h80 (by decide)
                · skip
                  refine rd_iconst (pc := 72) d_M_treaty_72 ?_
                  refine rd_goto (pc := 73) (tgt := 77) d_M_treaty_73 rfl ?_
                  refine rd_callVi (pc := 77) (n' := 0) [_, _] d_M_treaty_77 ml_M_107 rfl (Nat.le_of_ble_eq_true rfl) (Nat.le_of_ble_eq_true rfl) (Nat.le_of_ble_eq_true rfl) rfl rfl rfl (Nat.le_of_ble_eq_true rfl) (Nat.le_of_ble_eq_true rfl) ?_
                  refine ev_M_throwing2 ?_
                  refine ⟨_, rfl, ?_⟩
                  refine rd_if_eq (pc := 80) (tgt := 85) d_M_treaty_80 rfl ⟨by omega, by omega⟩ (fun h80 => ?_) (fun h80 => ?_)
                  · exact absurd h80 (by decide)
                  · skip
                    refine rd_iconst (pc := 83) d_M_treaty_83 ?_
                    exact rd_iret (pc := 84) d_M_treaty_84 rfl (Nat.le_of_ble_eq_true rfl) (by first | exact hA (fun z => by have z1 := z.1.1; have hx : s.tmod 10 = s % 10 := Int.tmod_eq_emod_of_nonneg (by omega); have z2 := z.1.2; omega) | exact hA (by omega) | exact hS (by omega) (by omega))
          · exact absurd h33 (by decide)
        · skip
          refine rd_if_ne (pc := 33) (tgt := 40) d_M_treaty_33 rfl ⟨by omega, by omega⟩ (fun h33 => ?_) (fun h33 => ?_)
          · exact absurd h33 (by decide)
          · skip
            refine rd_iconst (pc := 36) d_M_treaty_36 ?_
            refine rd_goto (pc := 37) (tgt := 41) d_M_treaty_37 rfl ?_
            refine rd_ist6 (pc := 41) d_M_treaty_41 rfl ?_
            refine rd_aldn (pc := 43) d_M_treaty_43 rfl ?_
            refine rd_ild (pc := 44) d_M_treaty_44 rfl ?_
            refine rd_ild (pc := 46) d_M_treaty_46 rfl ?_
            refine rd_if_ne (pc := 48) (tgt := 76) d_M_treaty_48 rfl ⟨by omega, by omega⟩ (fun h48 => ?_) (fun h48 => ?_)
            · skip
              refine rd_iconst (pc := 76) d_M_treaty_76 ?_
              refine rd_callVi (pc := 77) (n' := 0) [_, _] d_M_treaty_77 ml_M_107 rfl (Nat.le_of_ble_eq_true rfl) (Nat.le_of_ble_eq_true rfl) (Nat.le_of_ble_eq_true rfl) rfl rfl rfl (Nat.le_of_ble_eq_true rfl) (Nat.le_of_ble_eq_true rfl) ?_
              refine ev_M_throwing1 ?_
              refine ⟨_, rfl, ?_⟩
              refine rd_if_eq (pc := 80) (tgt := 85) d_M_treaty_80 rfl ⟨by omega, by omega⟩ (fun h80 => ?_) (fun h80 => ?_)
              · exact absurd h80 (by decide)
              · skip
                refine rd_iconst (pc := 83) d_M_treaty_83 ?_
                exact rd_iret (pc := 84) d_M_treaty_84 rfl (Nat.le_of_ble_eq_true rfl) (by first | exact hA (fun z => by have z1 := z.1.1; have hx : s.tmod 10 = s % 10 := Int.tmod_eq_emod_of_nonneg (by omega); have z2 := z.1.2; omega) | exact hA (by omega) | exact hS (by omega) (by omega))
            · exact absurd h48 (by decide)
  · skip
    refine rd_if_eq (pc := 9) (tgt := 36) d_M_treaty_9 rfl ⟨by omega, by omega⟩ (fun h9 => ?_) (fun h9 => ?_)
    · skip
      refine rd_iconst (pc := 36) d_M_treaty_36 ?_
      refine rd_goto (pc := 37) (tgt := 41) d_M_treaty_37 rfl ?_
      refine rd_ist6 (pc := 41) d_M_treaty_41 rfl ?_
      refine rd_aldn (pc := 43) d_M_treaty_43 rfl ?_
      refine rd_ild (pc := 44) d_M_treaty_44 rfl ?_
      refine rd_ild (pc := 46) d_M_treaty_46 rfl ?_
      refine rd_if_ne (pc := 48) (tgt := 76) d_M_treaty_48 rfl ⟨by omega, by omega⟩ (fun h48 => ?_) (fun h48 => ?_)
      · skip
        refine rd_iconst (pc := 76) d_M_treaty_76 ?_
        refine rd_callVi (pc := 77) (n' := 0) [_, _] d_M_treaty_77 ml_M_107 rfl (Nat.le_of_ble_eq_true rfl) (Nat.le_of_ble_eq_true rfl) (Nat.le_of_ble_eq_true rfl) rfl rfl rfl (Nat.le_of_ble_eq_true rfl) (Nat.le_of_ble_eq_true rfl) ?_
        refine ev_M_throwing1 ?_
        refine ⟨_, rfl, ?_⟩
        refine rd_if_eq (pc := 80) (tgt := 85) d_M_treaty_80 rfl ⟨by omega, by omega⟩ (fun h80 => ?_) (fun h80 => ?_)
        · exact absurd h80 (by decide)
        · skip
          refine rd_iconst (pc := 83) d_M_treaty_83 ?_
          exact rd_iret (pc := 84) d_M_treaty_84 rfl (Nat.le_of_ble_eq_true rfl) (by first | exact hA (fun z => by have z1 := z.1.1; have hx : s.tmod 10 = s % 10 := Int.tmod_eq_emod_of_nonneg (by omega); have z2 := z.1.2; omega) | exact hA (by omega) | exact hS (by omega) (by omega))
      · exact absurd h48 (by decide)
    · exact absurd h9 (by decide)

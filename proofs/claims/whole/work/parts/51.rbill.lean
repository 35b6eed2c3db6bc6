/-! the reference: whatIf and bill -/
theorem r_d_39 {M : rd_M} {k a : Int} : r_d (rd_up M 39 k a) = sp_d6 (r_d M) (rd_up M 39 k a 39) := by
  funext q
  by_cases hq : q = 6
  · subst hq; rfl
  · have e : sp_d6 (r_d M) (rd_up M 39 k a 39) q = r_d M q := if_neg hq
    rw [e]
    unfold r_d
    split <;> first | exact absurd rfl hq | rfl
theorem r_B.est {M : rd_M} {n nt : Nat} {k a : Int} (hB : r_B M n nt) (ha : 0 ≤ a ∧ a ≤ 1000000000) : r_B (rd_up M 39 k a) n nt := by
  obtain ⟨b1, b2, b3, b4, bD, b6, b7, b8⟩ := hB
  refine ⟨b1, b2, b3, b4, ?_, b6, b7, b8⟩
  rw [r_d_39]
  obtain ⟨d1, d2, d3⟩ := bD
  refine ⟨d1, fun i i0 i1 => ?_, d3⟩
  obtain ⟨x1, x2, x3, x4, x5⟩ := d2 i i0 i1
  refine ⟨x1, x2, x3, ?_, x5⟩
  have x4b : 0 ≤ M 39 i ∧ M 39 i ≤ 1000000000 := x4
  show 0 ≤ rd_up M 39 k a 39 i ∧ rd_up M 39 k a 39 i ≤ 1000000000
  rw [rd_up_at]; split <;> omega
set_option maxHeartbeats 4000000 in
set_option maxRecDepth 100000 in
theorem ev_M_whatIf {k a t : Int} {n nt : Nat} {M : rd_M} {Q : rd_R → rd_M → Prop} (hB : r_B M n nt) (hT : r_T M n) (hk : rd_I k) (ha : rd_I a) (ht : rd_I t) (hA : ¬ ((0 ≤ k ∧ k < n) ∧ (0 ≤ a ∧ a ≤ 1000000000) ∧ (0 ≤ t ∧ t < nt)) → Q (.inl (some (rd_i 0))) (rd_up M 32 0 1)) (hS : ((0 ≤ k ∧ k < n) ∧ (0 ≤ a ∧ a ≤ 1000000000) ∧ (0 ≤ t ∧ t < nt)) → (M 40 k ≠ 0) → Q (.inl (some (rd_i 0))) (rd_up M 32 0 2)) (hQ : ((0 ≤ k ∧ k < n) ∧ (0 ≤ a ∧ a ≤ 1000000000) ∧ (0 ≤ t ∧ t < nt)) → ¬ (M 40 k ≠ 0) → (∀ M' Z v, r_fq M' M → M' 32 0 = 0 → r_Z0 (r_d M) n k a Z → v = r_runK (r_d M) n nt Z 5 1 (t * 40 + k) → (0 ≤ v ∧ v ≤ 1000000000) → Q (.inl (some (rd_i v))) M')) : rd_G x_M_whatIf 0 [some (.ref 32), some (rd_i k), some (rd_i a), some (rd_i t), none, none] [] M 0 Q := by
  have hn := hB.1
  have hm := hB.2.1
  have hn4 := hB.2.2.1
  have hm10 := hB.2.2.2.1
  have hcl : ∀ y : Int, 0 ≤ y → y < 4 → 0 ≤ M 48 y ∧ M 48 y ≤ 1 := hB.2.2.2.2.2.2.2
  refine rd_aldn (pc := 0) d_M_whatIf_0 rfl ?_
  refine rd_ildn (pc := 1) d_M_whatIf_1 rfl ?_
  refine rd_callVi (pc := 2) (n' := 0) [_] d_M_whatIf_2 ml_M_138 rfl (Nat.le_of_ble_eq_true rfl) (Nat.le_of_ble_eq_true rfl) (Nat.le_of_ble_eq_true rfl) rfl rfl rfl (Nat.le_of_ble_eq_true rfl) (Nat.le_of_ble_eq_true rfl) ?_
  refine ev_M_isClaim hB ⟨by omega, by omega⟩ (fun c2 => ⟨_, rfl, ?_⟩) (fun c2 => ⟨_, rfl, ?_⟩)
  · skip
    refine rd_if_eq (pc := 5) (tgt := 28) d_M_whatIf_5 rfl ⟨by omega, by omega⟩ (fun h5 => ?_) (fun h5 => ?_)
    · exact absurd h5 (by decide)
    · skip
      refine rd_ildn (pc := 8) d_M_whatIf_8 rfl ?_
      refine rd_i2l (pc := 9) d_M_whatIf_9 ⟨by omega, by omega⟩ ?_
      refine rd_lconst (pc := 10) (v := 0) d_M_whatIf_10 rfl ?_
      refine rd_ldc2 (pc := 11) (v := 1000000000) d_M_whatIf_11 kl_M_103 ?_
      refine rd_callSi (pc := 14) (n' := 0) [_, _, _] d_M_whatIf_14 ml_M_93 (Nat.le_of_ble_eq_true rfl) (Nat.le_of_ble_eq_true rfl) (Nat.le_of_ble_eq_true rfl) rfl rfl rfl (Nat.le_of_ble_eq_true rfl) (Nat.le_of_ble_eq_true rfl) ?_
      refine ev_M_in ⟨by omega, by omega⟩ ⟨by omega, by omega⟩ ⟨by omega, by omega⟩ (fun c14 => ⟨_, rfl, ?_⟩) (fun c14 => ⟨_, rfl, ?_⟩)
      · skip
        refine rd_if_eq (pc := 17) (tgt := 28) d_M_whatIf_17 rfl ⟨by omega, by omega⟩ (fun h17 => ?_) (fun h17 => ?_)
        · exact absurd h17 (by decide)
        · skip
          refine rd_aldn (pc := 20) d_M_whatIf_20 rfl ?_
          refine rd_ildn (pc := 21) d_M_whatIf_21 rfl ?_
          refine rd_callVi (pc := 22) (n' := 0) [_] d_M_whatIf_22 ml_M_127 rfl (Nat.le_of_ble_eq_true rfl) (Nat.le_of_ble_eq_true rfl) (Nat.le_of_ble_eq_true rfl) rfl rfl rfl (Nat.le_of_ble_eq_true rfl) (Nat.le_of_ble_eq_true rfl) ?_
          refine ev_M_isTreaty hB ⟨by omega, by omega⟩ (fun c22 => ⟨_, rfl, ?_⟩) (fun c22 => ⟨_, rfl, ?_⟩)
          · skip
            refine rd_if_ne (pc := 25) (tgt := 32) d_M_whatIf_25 rfl ⟨by omega, by omega⟩ (fun h25 => ?_) (fun h25 => ?_)
            · skip
              refine rd_iconst (pc := 32) d_M_whatIf_32 ?_
              refine rd_ist4 (pc := 33) d_M_whatIf_33 rfl ?_
              refine rd_aldn (pc := 35) d_M_whatIf_35 rfl ?_
              refine rd_ild (pc := 36) d_M_whatIf_36 rfl ?_
              refine rd_ild (pc := 38) d_M_whatIf_38 rfl ?_
              refine rd_if_ne (pc := 40) (tgt := 56) d_M_whatIf_40 rfl ⟨by omega, by omega⟩ (fun h40 => ?_) (fun h40 => ?_)
              · exact absurd h40 (by decide)
              · skip
                obtain ⟨c1, c2, c3, c4, c5⟩ := hB.claim (k := k) (by omega) (by omega)
                refine rd_aldn (pc := 43) d_M_whatIf_43 rfl ?_
                refine rd_getr (pc := 44) d_M_whatIf_44 fl_M_31 rfl rfl ?_
                refine rd_ildn (pc := 47) d_M_whatIf_47 rfl ?_
                refine rd_zald (pc := 48) d_M_whatIf_48 rfl (by omega) (by omega) ?_
                refine rd_if_eq (pc := 49) (tgt := 56) d_M_whatIf_49 rfl ⟨by omega, by omega⟩ (fun h49 => ?_) (fun h49 => ?_)
                · skip
                  refine rd_iconst (pc := 56) d_M_whatIf_56 ?_
                  refine rd_callVi (pc := 57) (n' := 0) [_, _] d_M_whatIf_57 ml_M_107 rfl (Nat.le_of_ble_eq_true rfl) (Nat.le_of_ble_eq_true rfl) (Nat.le_of_ble_eq_true rfl) rfl rfl rfl (Nat.le_of_ble_eq_true rfl) (Nat.le_of_ble_eq_true rfl) ?_
                  refine ev_M_throwing0 ?_
                  refine ⟨_, rfl, ?_⟩
                  refine rd_if_eq (pc := 60) (tgt := 65) d_M_whatIf_60 rfl ⟨by omega, by omega⟩ (fun h60 => ?_) (fun h60 => ?_)
                  · skip
                    refine rd_aldn (pc := 65) d_M_whatIf_65 rfl ?_
                    refine rd_getr (pc := 66) d_M_whatIf_66 fl_M_28 rfl rfl ?_
                    refine rd_ildn (pc := 69) d_M_whatIf_69 rfl ?_
                    refine rd_iald (pc := 70) d_M_whatIf_70 rfl (by omega) (by omega) ?_
                    try simp (decide := true) only [rd_up_app, rd_up_hit, rd_up_32]
                    refine rd_ist5 (pc := 71) d_M_whatIf_71 rfl ?_
                    refine rd_aldn (pc := 73) d_M_whatIf_73 rfl ?_
                    refine rd_getr (pc := 74) d_M_whatIf_74 fl_M_28 rfl rfl ?_
                    refine rd_ildn (pc := 77) d_M_whatIf_77 rfl ?_
                    refine rd_ildn (pc := 78) d_M_whatIf_78 rfl ?_
                    refine rd_iast (pc := 79) d_M_whatIf_79 rfl (by omega) (by omega) ?_
                    refine rd_aldn (pc := 80) d_M_whatIf_80 rfl ?_
                    refine rd_callVv (pc := 81) (n' := 0) [] d_M_whatIf_81 ml_M_194 rfl (Nat.le_of_ble_eq_true rfl) (Nat.le_of_ble_eq_true rfl) (Nat.le_of_ble_eq_true rfl) rfl rfl rfl (Nat.le_of_ble_eq_true rfl) (Nat.le_of_ble_eq_true rfl) ?_
                    have hdd : r_d (rd_up (rd_up M 32 0 0) 39 k a) = sp_d6 (r_d M) (rd_up M 39 k a 39) := by rw [r_d_39, r_fq.th.d]; rfl
                    have hT1 : r_T (rd_up (rd_up M 32 0 0) 39 k a) n := hT
                    refine ev_M_reckon (M := rd_up (rd_up M 32 0 0) 39 k a) ((r_fq.th.B hB).est ⟨by omega, by omega⟩) hT1 (fun M2 Z hF2 hZ2 hz2 hk2 => ?_)
                    rw [hdd] at hZ2 hz2
                    rw [r_runK_6] at hz2
                    have h0 : M2 32 0 = 0 := by rw [hF2.2 0 (by decide) (by decide), rd_up_app (by decide), rd_up_hit]
                    have hZ3 : r_Z0 (r_d M) n k a Z := by
                      obtain ⟨z1, z2, z3, z4, z5⟩ := hZ2
                      refine ⟨fun j j0 j1 => ?_, z2, z3, z4, z5⟩
                      rw [z1 j j0 j1, if_neg (show ¬ j = -1 by omega)]
                      show (if M 40 j = 0 then rd_up M 39 k a 39 j else 0) = if M 40 j = 0 then (if j = k then a else M 39 j) else 0
                      rw [rd_up_at]
                    have hq3 : r_fq (rd_up M2 39 k (M 39 k)) M := by
                      refine ⟨fun q a1 b1 => ?_, ?_, ?_⟩
                      · by_cases hq : q = 39
                        · subst hq
                          funext j
                          rw [rd_up_at, hF2.1 39 (by decide) (by decide), rd_up_at, rd_up_app (by decide)]
                          by_cases hj : j = k
                          · rw [if_pos hj, hj]
                          · rw [if_neg hj, if_neg hj]
                        · rw [rd_up_ne hq, hF2.1 q a1 b1, rd_up_ne hq, rd_up_ne a1]
                      · rw [rd_up_app (by decide), hF2.2 9 (by decide) (by decide), rd_up_app (by decide), rd_up_32 (by decide)]
                      · rw [rd_up_app (by decide), hF2.2 15 (by decide) (by decide), rd_up_app (by decide), rd_up_32 (by decide)]
                    refine ⟨rfl, ?_⟩
                    try simp (decide := true) only [rd_up_app, rd_up_hit, rd_up_32]
                    refine rd_aldn (pc := 84) d_M_whatIf_84 rfl ?_
                    refine rd_getr (pc := 85) d_M_whatIf_85 fl_M_28 rfl rfl ?_
                    refine rd_ildn (pc := 88) d_M_whatIf_88 rfl ?_
                    refine rd_ild (pc := 89) d_M_whatIf_89 rfl ?_
                    refine rd_iast (pc := 91) d_M_whatIf_91 rfl (by omega) (by omega) ?_
                    refine rd_aldn (pc := 92) d_M_whatIf_92 rfl ?_
                    refine rd_getr (pc := 93) d_M_whatIf_93 fl_M_63 rfl rfl ?_
                    refine rd_bipush (pc := 96) d_M_whatIf_96 rfl ?_
                    refine rd_ildn (pc := 98) d_M_whatIf_98 rfl ?_
                    refine rd_imul (pc := 99) d_M_whatIf_99 ?_
                    refine rd_ildn (pc := 100) d_M_whatIf_100 rfl ?_
                    refine rd_iadd (pc := 101) d_M_whatIf_101 ?_
                    refine rd_lald (pc := 102) d_M_whatIf_102 rfl (by omega) (by omega) ?_
                    try simp (decide := true) only [rd_up_app, rd_up_hit, rd_up_32]
                    rw [show 40 * t + k = t * 40 + k by omega]
                    refine rd_l2i (pc := 103) d_M_whatIf_103 ?_
                    exact rd_iret (pc := 104) d_M_whatIf_104 rfl (Nat.le_of_ble_eq_true rfl) (hQ (by omega) (by omega) _ Z _ hq3 (by rw [rd_up_app (by decide)]; exact h0) hZ3 (by rw [← hz2]; rfl) (hk2.2.1 (t * 40 + k) (by omega) (by omega)))
                  · exact absurd h60 (by decide)
                · skip
                  refine rd_iconst (pc := 52) d_M_whatIf_52 ?_
                  refine rd_goto (pc := 53) (tgt := 57) d_M_whatIf_53 rfl ?_
                  refine rd_callVi (pc := 57) (n' := 0) [_, _] d_M_whatIf_57 ml_M_107 rfl (Nat.le_of_ble_eq_true rfl) (Nat.le_of_ble_eq_true rfl) (Nat.le_of_ble_eq_true rfl) rfl rfl rfl (Nat.le_of_ble_eq_true rfl) (Nat.le_of_ble_eq_true rfl) ?_
                  refine ev_M_throwing2 ?_
                  refine ⟨_, rfl, ?_⟩
                  refine rd_if_eq (pc := 60) (tgt := 65) d_M_whatIf_60 rfl ⟨by omega, by omega⟩ (fun h60 => ?_) (fun h60 => ?_)
                  · exact absurd h60 (by decide)
                  · skip
                    refine rd_iconst (pc := 63) d_M_whatIf_63 ?_
                    exact rd_iret (pc := 64) d_M_whatIf_64 rfl (Nat.le_of_ble_eq_true rfl) (by first | exact hA (by omega) | exact hS (by omega) (by omega))
            · exact absurd h25 (by decide)
          · skip
            refine rd_if_ne (pc := 25) (tgt := 32) d_M_whatIf_25 rfl ⟨by omega, by omega⟩ (fun h25 => ?_) (fun h25 => ?_)
            · exact absurd h25 (by decide)
            · skip
              refine rd_iconst (pc := 28) d_M_whatIf_28 ?_
              refine rd_goto (pc := 29) (tgt := 33) d_M_whatIf_29 rfl ?_
              refine rd_ist4 (pc := 33) d_M_whatIf_33 rfl ?_
              refine rd_aldn (pc := 35) d_M_whatIf_35 rfl ?_
              refine rd_ild (pc := 36) d_M_whatIf_36 rfl ?_
              refine rd_ild (pc := 38) d_M_whatIf_38 rfl ?_
              refine rd_if_ne (pc := 40) (tgt := 56) d_M_whatIf_40 rfl ⟨by omega, by omega⟩ (fun h40 => ?_) (fun h40 => ?_)
              · skip
                refine rd_iconst (pc := 56) d_M_whatIf_56 ?_
                refine rd_callVi (pc := 57) (n' := 0) [_, _] d_M_whatIf_57 ml_M_107 rfl (Nat.le_of_ble_eq_true rfl) (Nat.le_of_ble_eq_true rfl) (Nat.le_of_ble_eq_true rfl) rfl rfl rfl (Nat.le_of_ble_eq_true rfl) (Nat.le_of_ble_eq_true rfl) ?_
                refine ev_M_throwing1 ?_
                refine ⟨_, rfl, ?_⟩
                refine rd_if_eq (pc := 60) (tgt := 65) d_M_whatIf_60 rfl ⟨by omega, by omega⟩ (fun h60 => ?_) (fun h60 => ?_)
                · exact absurd h60 (by decide)
                · skip
                  refine rd_iconst (pc := 63) d_M_whatIf_63 ?_
                  exact rd_iret (pc := 64) d_M_whatIf_64 rfl (Nat.le_of_ble_eq_true rfl) (by first | exact hA (by omega) | exact hS (by omega) (by omega))
              · exact absurd h40 (by decide)
      · skip
        refine rd_if_eq (pc := 17) (tgt := 28) d_M_whatIf_17 rfl ⟨by omega, by omega⟩ (fun h17 => ?_) (fun h17 => ?_)
        · skip
          refine rd_iconst (pc := 28) d_M_whatIf_28 ?_
          refine rd_goto (pc := 29) (tgt := 33) d_M_whatIf_29 rfl ?_
          refine rd_ist4 (pc := 33) d_M_whatIf_33 rfl ?_
          refine rd_aldn (pc := 35) d_M_whatIf_35 rfl ?_
          refine rd_ild (pc := 36) d_M_whatIf_36 rfl ?_
          refine rd_ild (pc := 38) d_M_whatIf_38 rfl ?_
          refine rd_if_ne (pc := 40) (tgt := 56) d_M_whatIf_40 rfl ⟨by omega, by omega⟩ (fun h40 => ?_) (fun h40 => ?_)
          · skip
            refine rd_iconst (pc := 56) d_M_whatIf_56 ?_
            refine rd_callVi (pc := 57) (n' := 0) [_, _] d_M_whatIf_57 ml_M_107 rfl (Nat.le_of_ble_eq_true rfl) (Nat.le_of_ble_eq_true rfl) (Nat.le_of_ble_eq_true rfl) rfl rfl rfl (Nat.le_of_ble_eq_true rfl) (Nat.le_of_ble_eq_true rfl) ?_
            refine ev_M_throwing1 ?_
            refine ⟨_, rfl, ?_⟩
            refine rd_if_eq (pc := 60) (tgt := 65) d_M_whatIf_60 rfl ⟨by omega, by omega⟩ (fun h60 => ?_) (fun h60 => ?_)
            · exact absurd h60 (by decide)
            · skip
              refine rd_iconst (pc := 63) d_M_whatIf_63 ?_
              exact rd_iret (pc := 64) d_M_whatIf_64 rfl (Nat.le_of_ble_eq_true rfl) (by first | exact hA (by omega) | exact hS (by omega) (by omega))
          · exact absurd h40 (by decide)
        · exact absurd h17 (by decide)
  · skip
    refine rd_if_eq (pc := 5) (tgt := 28) d_M_whatIf_5 rfl ⟨by omega, by omega⟩ (fun h5 => ?_) (fun h5 => ?_)
    · skip
      refine rd_iconst (pc := 28) d_M_whatIf_28 ?_
      refine rd_goto (pc := 29) (tgt := 33) d_M_whatIf_29 rfl ?_
      refine rd_ist4 (pc := 33) d_M_whatIf_33 rfl ?_
      refine rd_aldn (pc := 35) d_M_whatIf_35 rfl ?_
      refine rd_ild (pc := 36) d_M_whatIf_36 rfl ?_
      refine rd_ild (pc := 38) d_M_whatIf_38 rfl ?_
      refine rd_if_ne (pc := 40) (tgt := 56) d_M_whatIf_40 rfl ⟨by omega, by omega⟩ (fun h40 => ?_) (fun h40 => ?_)
      · skip
        refine rd_iconst (pc := 56) d_M_whatIf_56 ?_
        refine rd_callVi (pc := 57) (n' := 0) [_, _] d_M_whatIf_57 ml_M_107 rfl (Nat.le_of_ble_eq_true rfl) (Nat.le_of_ble_eq_true rfl) (Nat.le_of_ble_eq_true rfl) rfl rfl rfl (Nat.le_of_ble_eq_true rfl) (Nat.le_of_ble_eq_true rfl) ?_
        refine ev_M_throwing1 ?_
        refine ⟨_, rfl, ?_⟩
        refine rd_if_eq (pc := 60) (tgt := 65) d_M_whatIf_60 rfl ⟨by omega, by omega⟩ (fun h60 => ?_) (fun h60 => ?_)
        · exact absurd h60 (by decide)
        · skip
          refine rd_iconst (pc := 63) d_M_whatIf_63 ?_
          exact rd_iret (pc := 64) d_M_whatIf_64 rfl (Nat.le_of_ble_eq_true rfl) (by first | exact hA (by omega) | exact hS (by omega) (by omega))
      · exact absurd h40 (by decide)
    · exact absurd h5 (by decide)
set_option maxHeartbeats 4000000 in
set_option maxRecDepth 100000 in
theorem lq_M_bill {r : Int} {n nt : Nat} {M M2 Z : rd_M} {Q : rd_R → rd_M → Prop} (hB : r_B M n nt) (hb0 : ∀ t : Int, 0 ≤ t → t < nt → 0 < M 43 t) (hr : 0 ≤ r ∧ r < 6) (hq2 : r_fq M2 M) (h0 : M2 32 0 = 0) (hZ2 : r_Z0 (r_d M) n (-1) 0 Z) (hz2 : r_z M2 = r_runK (r_d M) n nt Z 5) (hk2 : sp_ok n (r_z M2)) (hQ : ∀ M' Z v, r_fq M' M → M' 32 0 = 0 → r_Z0 (r_d M) n (-1) 0 Z → v = rd_sm (fun t => if M 48 ((M 41 t).tmod 10) = 0 then sp_owe (r_d M) (r_runK (r_d M) n nt Z 5) r t else 0) nt → Q (.inl (some (rd_l (v - M 47 r)))) (rd_up M' 47 r v)) : ∀ (d : Nat) (i a : Int), (nt - i).toNat = d → (0 ≤ i) → (i ≤ nt) → (a = rd_sm (fun t => if M 48 ((M 41 t).tmod 10) = 0 then sp_owe (r_d M) (r_runK (r_d M) n nt Z 5) r t else 0) i.toNat) → rd_G x_M_bill 36 [some (.ref 32), some (rd_i r), some (rd_l a), none, some (rd_i i), none] [] M2 0 Q := by
  intro d
  induction d using Nat.strongRecOn with
  | ind d ih =>
    intro i a hd i0 i1 ha
    have hm10 := hB.2.2.2.1
    have hB2 := hq2.B hB
    have hm := hB2.2.1
    have g41 : M2 41 = M 41 := hq2.low 41 (by decide) (by decide)
    have g43 : M2 43 = M 43 := hq2.low 43 (by decide) (by decide)
    have g44 : M2 44 = M 44 := hq2.low 44 (by decide) (by decide)
    have g46 : M2 46 = M 46 := hq2.low 46 (by decide) (by decide)
    have g47 : M2 47 = M 47 := hq2.low 47 (by decide) (by decide)
    have g48 : M2 48 = M 48 := hq2.low 48 (by decide) (by decide)
    refine rd_ild (pc := 36) d_M_bill_36 rfl ?_
    refine rd_aldn (pc := 38) d_M_bill_38 rfl ?_
    refine rd_gi (pc := 39) (ki := 15) d_M_bill_39 fl_M_100 rfl rfl rfl ?_
    refine rd_icmp_ge (pc := 42) (tgt := 119) d_M_bill_42 rfl ⟨by omega, by omega⟩ ⟨by omega, by omega⟩ (fun h42 => ?_) (fun h42 => ?_)
    · skip
      refine rd_lldn (pc := 119) d_M_bill_119 rfl ?_
      refine rd_aldn (pc := 120) d_M_bill_120 rfl ?_
      refine rd_getr (pc := 121) d_M_bill_121 fl_M_53 rfl rfl ?_
      refine rd_ildn (pc := 124) d_M_bill_124 rfl ?_
      refine rd_lald (pc := 125) d_M_bill_125 rfl (by omega) (by omega) ?_
      refine rd_lsub (pc := 126) d_M_bill_126 ?_
      refine rd_lst4 (pc := 127) d_M_bill_127 rfl ?_
      refine rd_aldn (pc := 129) d_M_bill_129 rfl ?_
      refine rd_getr (pc := 130) d_M_bill_130 fl_M_53 rfl rfl ?_
      refine rd_ildn (pc := 133) d_M_bill_133 rfl ?_
      refine rd_lldn (pc := 134) d_M_bill_134 rfl ?_
      refine rd_last (pc := 135) d_M_bill_135 rfl (by omega) (by omega) ?_
      refine rd_lld (pc := 136) d_M_bill_136 rfl ?_
      exact rd_lret (pc := 138) d_M_bill_138 rfl (Nat.le_of_ble_eq_true rfl) (by have en : i.toNat = nt := (by omega); rw [en] at ha; rw [g47]; exact hQ M2 Z _ hq2 h0 hZ2 ha)
    · skip
      have hs := rd_sm_s (f := (fun t => if M 48 ((M 41 t).tmod 10) = 0 then sp_owe (r_d M) (r_runK (r_d M) n nt Z 5) r t else 0)) i0
      obtain ⟨s1, s2, s3, ta, tb, tc, td⟩ := hB2.sh (t := i) i0 (by omega)
      have tk2 := hk2.2.2.1 i i0 (by omega)
      have eZ2 : M2 51 i = r_runK (r_d M) n nt Z 5 2 i := by rw [← hz2]; rfl
      have eZ5 : M2 52 i = r_runK (r_d M) n nt Z 5 5 i := by rw [← hz2]; rfl
      have b51 : 0 ≤ M2 51 i ∧ M2 51 i ≤ 40000000000 := tk2.1
      have b52 : 0 ≤ M2 52 i ∧ M2 52 i ≤ 12000000000 := tk2.2
      have hz5 : ¬ (M2 41 i).tdiv 10 < 2 → M2 52 i = 0 := fun h => by rw [eZ5]; exact r_runK_5 (by rw [g41] at h; exact h) (hZ2.2.2.1 i i0 (by omega)).2 5
      have hc := hB2.2.2.2.2.2.2.2 ((M2 41 i).tmod 10) (by omega) (by omega)
      have hcb := sp_com_b b52 b51
      have hrb := sp_rei_b (kd := (M2 41 i).tdiv 10) tb tc b51
      refine rd_aldn (pc := 45) d_M_bill_45 rfl ?_
      refine rd_getr (pc := 46) d_M_bill_46 fl_M_57 rfl rfl ?_
      refine rd_aldn (pc := 49) d_M_bill_49 rfl ?_
      refine rd_ild (pc := 50) d_M_bill_50 rfl ?_
      refine rd_callVi (pc := 52) (n' := 0) [_] d_M_bill_52 ml_M_130 rfl (Nat.le_of_ble_eq_true rfl) (Nat.le_of_ble_eq_true rfl) (Nat.le_of_ble_eq_true rfl) rfl rfl rfl (Nat.le_of_ble_eq_true rfl) (Nat.le_of_ble_eq_true rfl) ?_
      refine ev_M_treatyYear hB2 (by omega) (by omega) ?_
      refine ⟨_, rfl, ?_⟩
      refine rd_zald (pc := 55) d_M_bill_55 rfl (by omega) (by omega) ?_
      refine rd_if_ne (pc := 56) (tgt := 113) d_M_bill_56 rfl ⟨by omega, by omega⟩ (fun h56 => ?_) (fun h56 => ?_)
      · skip
        refine rd_iinc4 (pc := 113) d_M_bill_113 rfl ?_
        refine rd_goto (pc := 116) (tgt := 36) d_M_bill_116 rfl ?_
        first
          | (refine ih _ (by omega) (i + 1) _ rfl (by omega) (by omega) ?_
             rw [hs, ha, if_pos (by rw [← g48, ← g41]; omega)]
             show _ = _ + (sp_sh (M 46 (i * 6 + r)) (r_runK (r_d M) n nt Z 5 2 i) + sp_sh (M 46 (i * 6 + r)) (sp_com (r_runK (r_d M) n nt Z 5 5 i) (r_runK (r_d M) n nt Z 5 2 i)) - sp_sh (M 46 (i * 6 + r)) (r_runK (r_d M) n nt Z 5 5 i) - sp_sh (M 46 (i * 6 + r)) (sp_rei ((M 41 i).tdiv 10) (M 43 i) (M 44 i) (r_runK (r_d M) n nt Z 5 2 i)))
             rw [← eZ2, ← eZ5, ← g46, ← g41, ← g43, ← g44])
          | (refine ih _ (by omega) (i + 1) _ rfl (by omega) (by omega) ?_
             rw [hs, ha, if_neg (by rw [← g48, ← g41]; omega)]; exact (Int.add_zero _).symm)
      · skip
        refine rd_lldn (pc := 59) d_M_bill_59 rfl ?_
        refine rd_aldn (pc := 60) d_M_bill_60 rfl ?_
        refine rd_ild (pc := 61) d_M_bill_61 rfl ?_
        refine rd_ildn (pc := 63) d_M_bill_63 rfl ?_
        refine rd_aldn (pc := 64) d_M_bill_64 rfl ?_
        refine rd_getr (pc := 65) d_M_bill_65 fl_M_66 rfl rfl ?_
        refine rd_ild (pc := 68) d_M_bill_68 rfl ?_
        refine rd_lald (pc := 70) d_M_bill_70 rfl (by omega) (by omega) ?_
        refine rd_callVl (pc := 71) (n' := 0) [_, _, _] d_M_bill_71 ml_M_210 rfl (Nat.le_of_ble_eq_true rfl) (Nat.le_of_ble_eq_true rfl) (Nat.le_of_ble_eq_true rfl) rfl rfl rfl (Nat.le_of_ble_eq_true rfl) (Nat.le_of_ble_eq_true rfl) ?_
        refine ev_M_shareOf hB2 (by omega) (by omega) (by omega) (by omega) ⟨by omega, by omega⟩ ?_
        refine ⟨_, rfl, ?_⟩
        refine rd_aldn (pc := 74) d_M_bill_74 rfl ?_
        refine rd_ild (pc := 75) d_M_bill_75 rfl ?_
        refine rd_ildn (pc := 77) d_M_bill_77 rfl ?_
        refine rd_aldn (pc := 78) d_M_bill_78 rfl ?_
        refine rd_ild (pc := 79) d_M_bill_79 rfl ?_
        refine rd_callVl (pc := 81) (n' := 0) [_] d_M_bill_81 ml_M_207 rfl (Nat.le_of_ble_eq_true rfl) (Nat.le_of_ble_eq_true rfl) (Nat.le_of_ble_eq_true rfl) rfl rfl rfl (Nat.le_of_ble_eq_true rfl) (Nat.le_of_ble_eq_true rfl) ?_
        refine ev_M_commission hB2 (by omega) (by omega) b51 b52 hz5 ?_
        refine ⟨_, rfl, ?_⟩
        refine rd_callVl (pc := 84) (n' := 0) [_, _, _] d_M_bill_84 ml_M_210 rfl (Nat.le_of_ble_eq_true rfl) (Nat.le_of_ble_eq_true rfl) (Nat.le_of_ble_eq_true rfl) rfl rfl rfl (Nat.le_of_ble_eq_true rfl) (Nat.le_of_ble_eq_true rfl) ?_
        refine ev_M_shareOf hB2 (by omega) (by omega) (by omega) (by omega) ⟨by omega, by omega⟩ ?_
        refine ⟨_, rfl, ?_⟩
        refine rd_ladd (pc := 87) d_M_bill_87 ?_
        refine rd_aldn (pc := 88) d_M_bill_88 rfl ?_
        refine rd_ild (pc := 89) d_M_bill_89 rfl ?_
        refine rd_ildn (pc := 91) d_M_bill_91 rfl ?_
        refine rd_aldn (pc := 92) d_M_bill_92 rfl ?_
        refine rd_getr (pc := 93) d_M_bill_93 fl_M_69 rfl rfl ?_
        refine rd_ild (pc := 96) d_M_bill_96 rfl ?_
        refine rd_lald (pc := 98) d_M_bill_98 rfl (by omega) (by omega) ?_
        refine rd_callVl (pc := 99) (n' := 0) [_, _, _] d_M_bill_99 ml_M_210 rfl (Nat.le_of_ble_eq_true rfl) (Nat.le_of_ble_eq_true rfl) (Nat.le_of_ble_eq_true rfl) rfl rfl rfl (Nat.le_of_ble_eq_true rfl) (Nat.le_of_ble_eq_true rfl) ?_
        refine ev_M_shareOf hB2 (by omega) (by omega) (by omega) (by omega) ⟨by omega, by omega⟩ ?_
        refine ⟨_, rfl, ?_⟩
        refine rd_lsub (pc := 102) d_M_bill_102 ?_
        refine rd_aldn (pc := 103) d_M_bill_103 rfl ?_
        refine rd_ild (pc := 104) d_M_bill_104 rfl ?_
        refine rd_ildn (pc := 106) d_M_bill_106 rfl ?_
        refine rd_callVl (pc := 107) (n' := 0) [_, _] d_M_bill_107 ml_M_214 rfl (Nat.le_of_ble_eq_true rfl) (Nat.le_of_ble_eq_true rfl) (Nat.le_of_ble_eq_true rfl) rfl rfl rfl (Nat.le_of_ble_eq_true rfl) (Nat.le_of_ble_eq_true rfl) ?_
        refine ev_M_reinstatement hB2 (by omega) (by omega) b51 b52 (by omega) (by omega) (by rw [g43]; exact hb0 i i0 (by omega)) ?_
        refine ⟨_, rfl, ?_⟩
        refine rd_lsub (pc := 110) d_M_bill_110 ?_
        refine rd_ladd (pc := 111) d_M_bill_111 ?_
        refine rd_lst2 (pc := 112) d_M_bill_112 rfl ?_
        refine rd_iinc4 (pc := 113) d_M_bill_113 rfl ?_
        refine rd_goto (pc := 116) (tgt := 36) d_M_bill_116 rfl ?_
        first
          | (refine ih _ (by omega) (i + 1) _ rfl (by omega) (by omega) ?_
             rw [hs, ha, if_pos (by rw [← g48, ← g41]; omega)]
             show _ = _ + (sp_sh (M 46 (i * 6 + r)) (r_runK (r_d M) n nt Z 5 2 i) + sp_sh (M 46 (i * 6 + r)) (sp_com (r_runK (r_d M) n nt Z 5 5 i) (r_runK (r_d M) n nt Z 5 2 i)) - sp_sh (M 46 (i * 6 + r)) (r_runK (r_d M) n nt Z 5 5 i) - sp_sh (M 46 (i * 6 + r)) (sp_rei ((M 41 i).tdiv 10) (M 43 i) (M 44 i) (r_runK (r_d M) n nt Z 5 2 i)))
             rw [← eZ2, ← eZ5, ← g46, ← g41, ← g43, ← g44])
          | (refine ih _ (by omega) (i + 1) _ rfl (by omega) (by omega) ?_
             rw [hs, ha, if_neg (by rw [← g48, ← g41]; omega)]; exact (Int.add_zero _).symm)
set_option maxHeartbeats 4000000 in
set_option maxRecDepth 100000 in
theorem ev_M_bill {r : Int} {n nt : Nat} {M : rd_M} {Q : rd_R → rd_M → Prop} (hB : r_B M n nt) (hT : r_T M n) (hb0 : ∀ t : Int, 0 ≤ t → t < nt → 0 < M 43 t) (hr : rd_I r) (hA : ¬ (0 ≤ r ∧ r < 6) → Q (.inl (some (rd_l 0))) (rd_up M 32 0 1)) (hQ : (0 ≤ r ∧ r < 6) → (∀ M' Z v, r_fq M' M → M' 32 0 = 0 → r_Z0 (r_d M) n (-1) 0 Z → v = rd_sm (fun t => if M 48 ((M 41 t).tmod 10) = 0 then sp_owe (r_d M) (r_runK (r_d M) n nt Z 5) r t else 0) nt → Q (.inl (some (rd_l (v - M 47 r)))) (rd_up M' 47 r v))) : rd_G x_M_bill 0 [some (.ref 32), some (rd_i r), none, none, none, none] [] M 0 Q := by
  have hn := hB.1
  have hm := hB.2.1
  have hn4 := hB.2.2.1
  have hm10 := hB.2.2.2.1
  have hcl : ∀ y : Int, 0 ≤ y → y < 4 → 0 ≤ M 48 y ∧ M 48 y ≤ 1 := hB.2.2.2.2.2.2.2
  refine rd_aldn (pc := 0) d_M_bill_0 rfl ?_
  refine rd_ildn (pc := 1) d_M_bill_1 rfl ?_
  refine rd_i2l (pc := 2) d_M_bill_2 ⟨by omega, by omega⟩ ?_
  refine rd_lconst (pc := 3) (v := 0) d_M_bill_3 rfl ?_
  refine rd_ldc2 (pc := 4) (v := 5) d_M_bill_4 kl_M_119 ?_
  refine rd_callSi (pc := 7) (n' := 0) [_, _, _] d_M_bill_7 ml_M_93 (Nat.le_of_ble_eq_true rfl) (Nat.le_of_ble_eq_true rfl) (Nat.le_of_ble_eq_true rfl) rfl rfl rfl (Nat.le_of_ble_eq_true rfl) (Nat.le_of_ble_eq_true rfl) ?_
  refine ev_M_in ⟨by omega, by omega⟩ ⟨by omega, by omega⟩ ⟨by omega, by omega⟩ (fun c7 => ⟨_, rfl, ?_⟩) (fun c7 => ⟨_, rfl, ?_⟩)
  · skip
    refine rd_if_ne (pc := 10) (tgt := 17) d_M_bill_10 rfl ⟨by omega, by omega⟩ (fun h10 => ?_) (fun h10 => ?_)
    · skip
      refine rd_iconst (pc := 17) d_M_bill_17 ?_
      refine rd_iconst (pc := 18) d_M_bill_18 ?_
      refine rd_callVi (pc := 19) (n' := 0) [_, _] d_M_bill_19 ml_M_107 rfl (Nat.le_of_ble_eq_true rfl) (Nat.le_of_ble_eq_true rfl) (Nat.le_of_ble_eq_true rfl) rfl rfl rfl (Nat.le_of_ble_eq_true rfl) (Nat.le_of_ble_eq_true rfl) ?_
      refine ev_M_throwing0 ?_
      refine ⟨_, rfl, ?_⟩
      refine rd_if_eq (pc := 22) (tgt := 27) d_M_bill_22 rfl ⟨by omega, by omega⟩ (fun h22 => ?_) (fun h22 => ?_)
      · skip
        refine rd_aldn (pc := 27) d_M_bill_27 rfl ?_
        refine rd_callVv (pc := 28) (n' := 0) [] d_M_bill_28 ml_M_194 rfl (Nat.le_of_ble_eq_true rfl) (Nat.le_of_ble_eq_true rfl) (Nat.le_of_ble_eq_true rfl) rfl rfl rfl (Nat.le_of_ble_eq_true rfl) (Nat.le_of_ble_eq_true rfl) ?_
        refine ev_M_reckon (r_fq.th.B hB) (r_fq.th.T hT) (fun M2 Z hF2 hZ2 hz2 hk2 => ?_)
        rw [r_fq.th.d] at hZ2 hz2
        have hq2 : r_fq M2 M := hF2.q.trans r_fq.th
        have h0 : M2 32 0 = 0 := by rw [hF2.2 0 (by decide) (by decide), rd_up_hit]
        have hB2 := hq2.B hB
        have g41 : M2 41 = M 41 := hq2.low 41 (by decide) (by decide)
        have g43 : M2 43 = M 43 := hq2.low 43 (by decide) (by decide)
        have g44 : M2 44 = M 44 := hq2.low 44 (by decide) (by decide)
        have g46 : M2 46 = M 46 := hq2.low 46 (by decide) (by decide)
        have g48 : M2 48 = M 48 := hq2.low 48 (by decide) (by decide)
        refine ⟨rfl, ?_⟩
        skip
        refine rd_lconst (pc := 31) (v := 0) d_M_bill_31 rfl ?_
        refine rd_lst2 (pc := 32) d_M_bill_32 rfl ?_
        refine rd_iconst (pc := 33) d_M_bill_33 ?_
        refine rd_ist4 (pc := 34) d_M_bill_34 rfl ?_
        exact lq_M_bill hB hb0 (by omega) hq2 h0 hZ2 hz2 hk2 (hQ (by omega)) _ 0 0 rfl (by omega) (by omega) rfl
      · exact absurd h22 (by decide)
    · exact absurd h10 (by decide)
  · skip
    refine rd_if_ne (pc := 10) (tgt := 17) d_M_bill_10 rfl ⟨by omega, by omega⟩ (fun h10 => ?_) (fun h10 => ?_)
    · exact absurd h10 (by decide)
    · skip
      refine rd_iconst (pc := 13) d_M_bill_13 ?_
      refine rd_goto (pc := 14) (tgt := 18) d_M_bill_14 rfl ?_
      refine rd_iconst (pc := 18) d_M_bill_18 ?_
      refine rd_callVi (pc := 19) (n' := 0) [_, _] d_M_bill_19 ml_M_107 rfl (Nat.le_of_ble_eq_true rfl) (Nat.le_of_ble_eq_true rfl) (Nat.le_of_ble_eq_true rfl) rfl rfl rfl (Nat.le_of_ble_eq_true rfl) (Nat.le_of_ble_eq_true rfl) ?_
      refine ev_M_throwing1 ?_
      refine ⟨_, rfl, ?_⟩
      refine rd_if_eq (pc := 22) (tgt := 27) d_M_bill_22 rfl ⟨by omega, by omega⟩ (fun h22 => ?_) (fun h22 => ?_)
      · exact absurd h22 (by decide)
      · skip
        refine rd_lconst (pc := 25) (v := 0) d_M_bill_25 rfl ?_
        exact rd_lret (pc := 26) d_M_bill_26 rfl (Nat.le_of_ble_eq_true rfl) (hA (by omega))

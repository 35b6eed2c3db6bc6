/-! the desk: its calls -/
set_option maxHeartbeats 4000000 in
set_option maxRecDepth 100000 in
theorem ev_T_add {s a b c d : Int} {M : rd_M} {Q : rd_R → rd_M → Prop} (hI : c_I M) (hn : M 3 0 < 10) (hs : 0 ≤ s ∧ s < 50) (ha : rd_I a) (hb : rd_I b) (hc : rd_I c) (hd : rd_I d) (hQ : Q (.inl (some (rd_i (M 3 0)))) (rd_up (rd_up (rd_up (rd_up (rd_up (rd_up (rd_up M 16 (M 3 0) (s.tdiv 10)) 17 (M 3 0) (s.tmod 10)) 18 (M 3 0) a) 19 (M 3 0) b) 20 (M 3 0) c) 21 (M 3 0) d) 3 0 (M 3 0 + 1))) : rd_G x_T_add 0 [some (.ref 3), some (rd_i s), some (rd_i a), some (rd_i b), some (rd_i c), some (rd_i d), none] [] M 0 Q := by
  have h3 := hI.2.1
  refine rd_aldn (pc := 0) d_T_add_0 rfl ?_
  refine rd_gi (pc := 1) (ki := 0) d_T_add_1 fl_T_34 rfl rfl rfl ?_
  refine rd_ist6 (pc := 4) d_T_add_4 rfl ?_
  refine rd_aldn (pc := 6) d_T_add_6 rfl ?_
  refine rd_getr (pc := 7) d_T_add_7 fl_T_9 rfl rfl ?_
  refine rd_ild (pc := 10) d_T_add_10 rfl ?_
  refine rd_ildn (pc := 12) d_T_add_12 rfl ?_
  refine rd_bipush (pc := 13) d_T_add_13 rfl ?_
  refine rd_idiv (pc := 15) d_T_add_15 ⟨by omega, by omega⟩ ⟨by omega, by omega⟩ (by omega) ?_
  refine rd_iast (pc := 16) d_T_add_16 rfl (by omega) (by omega) ?_
  refine rd_aldn (pc := 17) d_T_add_17 rfl ?_
  refine rd_getr (pc := 18) d_T_add_18 fl_T_15 rfl rfl ?_
  refine rd_ild (pc := 21) d_T_add_21 rfl ?_
  refine rd_ildn (pc := 23) d_T_add_23 rfl ?_
  refine rd_bipush (pc := 24) d_T_add_24 rfl ?_
  refine rd_irem (pc := 26) d_T_add_26 ⟨by omega, by omega⟩ ⟨by omega, by omega⟩ (by omega) ?_
  refine rd_iast (pc := 27) d_T_add_27 rfl (by omega) (by omega) ?_
  refine rd_aldn (pc := 28) d_T_add_28 rfl ?_
  refine rd_getr (pc := 29) d_T_add_29 fl_T_18 rfl rfl ?_
  refine rd_ild (pc := 32) d_T_add_32 rfl ?_
  refine rd_ildn (pc := 34) d_T_add_34 rfl ?_
  refine rd_i2l (pc := 35) d_T_add_35 ⟨by omega, by omega⟩ ?_
  refine rd_last (pc := 36) d_T_add_36 rfl (by omega) (by omega) ?_
  refine rd_aldn (pc := 37) d_T_add_37 rfl ?_
  refine rd_getr (pc := 38) d_T_add_38 fl_T_22 rfl rfl ?_
  refine rd_ild (pc := 41) d_T_add_41 rfl ?_
  refine rd_ildn (pc := 43) d_T_add_43 rfl ?_
  refine rd_i2l (pc := 44) d_T_add_44 ⟨by omega, by omega⟩ ?_
  refine rd_last (pc := 45) d_T_add_45 rfl (by omega) (by omega) ?_
  refine rd_aldn (pc := 46) d_T_add_46 rfl ?_
  refine rd_getr (pc := 47) d_T_add_47 fl_T_25 rfl rfl ?_
  refine rd_ild (pc := 50) d_T_add_50 rfl ?_
  refine rd_ild (pc := 52) d_T_add_52 rfl ?_
  refine rd_i2l (pc := 54) d_T_add_54 ⟨by omega, by omega⟩ ?_
  refine rd_last (pc := 55) d_T_add_55 rfl (by omega) (by omega) ?_
  refine rd_aldn (pc := 56) d_T_add_56 rfl ?_
  refine rd_getr (pc := 57) d_T_add_57 fl_T_28 rfl rfl ?_
  refine rd_ild (pc := 60) d_T_add_60 rfl ?_
  refine rd_ild (pc := 62) d_T_add_62 rfl ?_
  refine rd_i2l (pc := 64) d_T_add_64 ⟨by omega, by omega⟩ ?_
  refine rd_last (pc := 65) d_T_add_65 rfl (by omega) (by omega) ?_
  refine rd_aldn (pc := 66) d_T_add_66 rfl ?_
  refine rd_ild (pc := 67) d_T_add_67 rfl ?_
  refine rd_iconst (pc := 69) d_T_add_69 ?_
  refine rd_iadd (pc := 70) d_T_add_70 ?_
  refine rd_pi (pc := 71) (ki := 0) d_T_add_71 fl_T_34 fp_3_0 rfl rfl rfl ?_
  refine rd_ild (pc := 74) d_T_add_74 rfl ?_
  exact rd_iret (pc := 76) d_T_add_76 rfl (Nat.le_of_ble_eq_true rfl) (hQ)
theorem c_I_add {M : rd_M} {n : Nat} {r e h : Int} (hI : c_I M) (hn : (n : Int) < 40) (hr : 0 ≤ r ∧ r < 12) (he : 0 ≤ e ∧ e < 10) (hh : 0 ≤ h ∧ h ≤ 100000) : c_I (rd_up (rd_up (rd_up M 10 n r) 11 n e) 12 n h) := by
  obtain ⟨a, b, c, d, f⟩ := hI
  refine ⟨a, b, c, fun k k0 k1 => ?_, f⟩
  obtain ⟨d1, d2, d3, d4⟩ := d k k0 k1
  refine ⟨?_, ?_, ?_, d4⟩
  · rw [rd_up_app (by decide), rd_up_app (by decide), rd_up_at]; split <;> omega
  · rw [rd_up_app (by decide), rd_up_at]; rw [rd_up_app (by decide)]; split <;> omega
  · rw [rd_up_at]; rw [rd_up_app (by decide), rd_up_app (by decide)]; split <;> omega
set_option maxHeartbeats 4000000 in
set_option maxRecDepth 100000 in
theorem ev_C_add {r e h : Int} {n : Nat} {o : Int → Int} {M : rd_M} {Q : rd_R → rd_M → Prop} (hI : c_I M) (hn : M 2 0 = n) (hn4 : n < 40) (hH : c_H M n o) (hr : 0 ≤ r ∧ r < 12) (he : 0 ≤ e ∧ e < 10) (hh : 0 ≤ h ∧ h ≤ 100000) (hQ : ∀ M' o', (∀ q, q ≠ 2 → q ≠ 10 → q ≠ 11 → q ≠ 12 → q ≠ 15 → M' q = M q) → M' 10 = rd_up M 10 n r 10 → M' 11 = rd_up M 11 n e 11 → M' 12 = rd_up M 12 n h 12 → M' 2 = rd_up M 2 0 (n + 1) 2 → c_H M' (n + 1) o' → (∀ i : Int, 0 ≤ i → i < 40 → 0 ≤ M' 15 i ∧ M' 15 i < 40) → Q (.inl (some (rd_i n))) M') : rd_G x_C_add 0 [some (.ref 2), some (rd_i r), some (rd_i e), some (rd_i h), none] [] M 0 Q := by
  refine rd_aldn (pc := 0) d_C_add_0 rfl ?_
  refine rd_gi (pc := 1) (ki := 0) d_C_add_1 fl_C_31 rfl rfl rfl ?_
  first | simp (decide := true) only [rd_up_app, rd_up_hit, hn] | skip
  refine rd_ist4 (pc := 4) d_C_add_4 rfl ?_
  refine rd_aldn (pc := 6) d_C_add_6 rfl ?_
  refine rd_getr (pc := 7) d_C_add_7 fl_C_9 rfl rfl ?_
  refine rd_ild (pc := 10) d_C_add_10 rfl ?_
  refine rd_ildn (pc := 12) d_C_add_12 rfl ?_
  refine rd_iast (pc := 13) d_C_add_13 rfl (by omega) (by omega) ?_
  refine rd_aldn (pc := 14) d_C_add_14 rfl ?_
  refine rd_getr (pc := 15) d_C_add_15 fl_C_15 rfl rfl ?_
  refine rd_ild (pc := 18) d_C_add_18 rfl ?_
  refine rd_ildn (pc := 20) d_C_add_20 rfl ?_
  refine rd_iast (pc := 21) d_C_add_21 rfl (by omega) (by omega) ?_
  refine rd_aldn (pc := 22) d_C_add_22 rfl ?_
  refine rd_getr (pc := 23) d_C_add_23 fl_C_18 rfl rfl ?_
  refine rd_ild (pc := 26) d_C_add_26 rfl ?_
  refine rd_ildn (pc := 28) d_C_add_28 rfl ?_
  refine rd_iast (pc := 29) d_C_add_29 rfl (by omega) (by omega) ?_
  refine rd_aldn (pc := 30) d_C_add_30 rfl ?_
  refine rd_ild (pc := 31) d_C_add_31 rfl ?_
  refine rd_callVv (pc := 33) (n' := 0) [_] d_C_add_33 ml_C_35 rfl (Nat.le_of_ble_eq_true rfl) (Nat.le_of_ble_eq_true rfl) (Nat.le_of_ble_eq_true rfl) rfl rfl rfl (Nat.le_of_ble_eq_true rfl) (Nat.le_of_ble_eq_true rfl) ?_
  refine ev_C_placeByHour (n := n) (c_I_add hI (by omega) hr he hh) hn4 (o := o) ?_ (fun M1 o1 hS1 hH1 h15 => ?_)
  · obtain ⟨g1, g2, g3⟩ := hH
    refine ⟨g1, g2, fun i j i0 ij j1 => ?_⟩
    have e := g3 i j i0 ij j1
    have a1 := (g2 i i0 (by omega)).1
    have a2 := (g2 j (by omega) j1).1
    show - rd_up _ 12 n h 12 (M 15 j) < - rd_up _ 12 n h 12 (M 15 i) ∨ (- rd_up _ 12 n h 12 (M 15 i) = - rd_up _ 12 n h 12 (M 15 j) ∧ M 15 i < M 15 j)
    rw [rd_up_at, if_neg (by omega), rd_up_at, if_neg (by omega)]
    exact e
  refine ⟨rfl, ?_⟩
  first | simp (decide := true) only [rd_up_app, rd_up_hit, hn] | skip
  refine rd_aldn (pc := 36) d_C_add_36 rfl ?_
  refine rd_ild (pc := 37) d_C_add_37 rfl ?_
  refine rd_iconst (pc := 39) d_C_add_39 ?_
  refine rd_iadd (pc := 40) d_C_add_40 ?_
  refine rd_pi (pc := 41) (ki := 0) d_C_add_41 fl_C_31 fp_1_0 rfl rfl rfl ?_
  refine rd_ild (pc := 44) d_C_add_44 rfl ?_
  exact rd_iret (pc := 46) d_C_add_46 rfl (Nat.le_of_ble_eq_true rfl) (by
      refine hQ _ o1 (fun q a b c d e => ?_) ?_ ?_ ?_ ?_ ?_ ?_
      · rw [rd_up_ne a, hS1 q e, rd_up_ne d, rd_up_ne c, rd_up_ne b]
      · rw [rd_up_ne (by decide), hS1 10 (by decide), rd_up_ne (by decide), rd_up_ne (by decide)]
      · rw [rd_up_ne (by decide), hS1 11 (by decide), rd_up_ne (by decide)]; funext j; rw [rd_up_at, rd_up_at]; rw [rd_up_app (by decide)]
      · rw [rd_up_ne (by decide), hS1 12 (by decide)]; funext j; rw [rd_up_at, rd_up_at]; rw [rd_up_app (by decide), rd_up_app (by decide)]
      · funext j; rw [rd_up_at, rd_up_at, hS1 2 (by decide)]; rfl
      · exact hH1
      · exact h15)
set_option maxHeartbeats 4000000 in
set_option maxRecDepth 100000 in
theorem ev_D_risk {r s y : Int} {M : rd_M} {Q : rd_R → rd_M → Prop} (hI : c_I M) (hr : rd_I r) (hs : rd_I s) (hy : rd_I y) (hA : ¬ ((0 ≤ r ∧ r < 12) ∧ (1 ≤ s ∧ s ≤ 1000000000) ∧ (0 ≤ y ∧ y < 4)) → Q (.inr 0) M) (hS : ((0 ≤ r ∧ r < 12) ∧ (1 ≤ s ∧ s ≤ 1000000000) ∧ (0 ≤ y ∧ y < 4)) → (0 < M 7 r ∨ M 5 y ≠ 0) → Q (.inr 1) M) (hQ : ((0 ≤ r ∧ r < 12) ∧ (1 ≤ s ∧ s ≤ 1000000000) ∧ (0 ≤ y ∧ y < 4)) → ¬ (0 < M 7 r ∨ M 5 y ≠ 0) → Q (.inl none) (rd_up (rd_up M 7 r s) 9 r y)) : rd_G x_D_risk 0 [some (.ref 0), some (rd_i r), some (rd_i s), some (rd_i y)] [] M 0 Q := by
  refine rd_ildn (pc := 0) d_D_risk_0 rfl ?_
  refine rd_bipush (pc := 1) d_D_risk_1 rfl ?_
  refine rd_callSi (pc := 3) (n' := 0) [_, _] d_D_risk_3 ml_D_47 (Nat.le_of_ble_eq_true rfl) (Nat.le_of_ble_eq_true rfl) (Nat.le_of_ble_eq_true rfl) rfl rfl rfl (Nat.le_of_ble_eq_true rfl) (Nat.le_of_ble_eq_true rfl) ?_
  refine ev_D_isBelow ⟨by omega, by omega⟩ ⟨by omega, by omega⟩ (fun c3 => ⟨_, rfl, ?_⟩) (fun c3 => ⟨_, rfl, ?_⟩)
  · skip
    refine rd_if_eq (pc := 6) (tgt := 26) d_D_risk_6 rfl ⟨by omega, by omega⟩ (fun h6 => ?_) (fun h6 => ?_)
    · exact absurd h6 (by decide)
    · skip
      refine rd_ildn (pc := 9) d_D_risk_9 rfl ?_
      refine rd_ldc (pc := 10) (v := 1000000000) d_D_risk_10 kc_D_51 ?_
      refine rd_callSi (pc := 12) (n' := 0) [_, _] d_D_risk_12 ml_D_52 (Nat.le_of_ble_eq_true rfl) (Nat.le_of_ble_eq_true rfl) (Nat.le_of_ble_eq_true rfl) rfl rfl rfl (Nat.le_of_ble_eq_true rfl) (Nat.le_of_ble_eq_true rfl) ?_
      refine ev_D_isFromOne ⟨by omega, by omega⟩ ⟨by omega, by omega⟩ (fun c12 => ⟨_, rfl, ?_⟩) (fun c12 => ⟨_, rfl, ?_⟩)
      · skip
        refine rd_if_eq (pc := 15) (tgt := 26) d_D_risk_15 rfl ⟨by omega, by omega⟩ (fun h15 => ?_) (fun h15 => ?_)
        · exact absurd h15 (by decide)
        · skip
          refine rd_ildn (pc := 18) d_D_risk_18 rfl ?_
          refine rd_iconst (pc := 19) d_D_risk_19 ?_
          refine rd_callSi (pc := 20) (n' := 0) [_, _] d_D_risk_20 ml_D_47 (Nat.le_of_ble_eq_true rfl) (Nat.le_of_ble_eq_true rfl) (Nat.le_of_ble_eq_true rfl) rfl rfl rfl (Nat.le_of_ble_eq_true rfl) (Nat.le_of_ble_eq_true rfl) ?_
          refine ev_D_isBelow ⟨by omega, by omega⟩ ⟨by omega, by omega⟩ (fun c20 => ⟨_, rfl, ?_⟩) (fun c20 => ⟨_, rfl, ?_⟩)
          · skip
            refine rd_if_ne (pc := 23) (tgt := 36) d_D_risk_23 rfl ⟨by omega, by omega⟩ (fun h23 => ?_) (fun h23 => ?_)
            · skip
              have hcl := hI.closed (y := y) (by omega) (by omega)
              refine rd_aldn (pc := 36) d_D_risk_36 rfl ?_
              refine rd_getr (pc := 37) d_D_risk_37 fl_D_10 rfl rfl ?_
              refine rd_ildn (pc := 40) d_D_risk_40 rfl ?_
              refine rd_callVi (pc := 41) (n' := 0) [_] d_D_risk_41 ml_D_62 rfl (Nat.le_of_ble_eq_true rfl) (Nat.le_of_ble_eq_true rfl) (Nat.le_of_ble_eq_true rfl) rfl rfl rfl (Nat.le_of_ble_eq_true rfl) (Nat.le_of_ble_eq_true rfl) ?_
              refine ev_R_isTold hI ⟨by omega, by omega⟩ (fun c41 => ⟨_, rfl, ?_⟩) (fun c41 => ⟨_, rfl, ?_⟩)
              · skip
                refine rd_if_ne (pc := 44) (tgt := 56) d_D_risk_44 rfl ⟨by omega, by omega⟩ (fun h44 => ?_) (fun h44 => ?_)
                · skip
                  exact rd_throw (pc := 56) (kd := 1) d_D_risk_56 d_D_risk_59 d_D_risk_60 d_D_risk_62 d_D_risk_65 rfl tw_D_66_70 (by decide) (Nat.le_of_ble_eq_true rfl) (Nat.le_of_ble_eq_true rfl) (Nat.le_of_ble_eq_true rfl) (Nat.le_of_ble_eq_true rfl) (by first | exact hA (by omega) | exact hS (by omega) (by omega))
                · exact absurd h44 (by decide)
              · skip
                refine rd_if_ne (pc := 44) (tgt := 56) d_D_risk_44 rfl ⟨by omega, by omega⟩ (fun h44 => ?_) (fun h44 => ?_)
                · exact absurd h44 (by decide)
                · skip
                  refine rd_aldn (pc := 47) d_D_risk_47 rfl ?_
                  refine rd_getr (pc := 48) d_D_risk_48 fl_D_39 rfl rfl ?_
                  refine rd_ildn (pc := 51) d_D_risk_51 rfl ?_
                  refine rd_zald (pc := 52) d_D_risk_52 rfl (by omega) (by omega) ?_
                  refine rd_if_eq (pc := 53) (tgt := 66) d_D_risk_53 rfl ⟨by omega, by omega⟩ (fun h53 => ?_) (fun h53 => ?_)
                  · skip
                    refine rd_aldn (pc := 66) d_D_risk_66 rfl ?_
                    refine rd_getr (pc := 67) d_D_risk_67 fl_D_10 rfl rfl ?_
                    refine rd_getr (pc := 70) d_D_risk_70 fl_D_71 rfl rfl ?_
                    refine rd_ildn (pc := 73) d_D_risk_73 rfl ?_
                    refine rd_ildn (pc := 74) d_D_risk_74 rfl ?_
                    refine rd_iast (pc := 75) d_D_risk_75 rfl (by omega) (by omega) ?_
                    refine rd_aldn (pc := 76) d_D_risk_76 rfl ?_
                    refine rd_getr (pc := 77) d_D_risk_77 fl_D_10 rfl rfl ?_
                    refine rd_getr (pc := 80) d_D_risk_80 fl_D_75 rfl rfl ?_
                    refine rd_ildn (pc := 83) d_D_risk_83 rfl ?_
                    refine rd_ildn (pc := 84) d_D_risk_84 rfl ?_
                    refine rd_iast (pc := 85) d_D_risk_85 rfl (by omega) (by omega) ?_
                    exact rd_vret (pc := 86) d_D_risk_86 rfl (Nat.le_of_ble_eq_true rfl) (hQ (by omega) (by omega))
                  · skip
                    exact rd_throw (pc := 56) (kd := 1) d_D_risk_56 d_D_risk_59 d_D_risk_60 d_D_risk_62 d_D_risk_65 rfl tw_D_66_70 (by decide) (Nat.le_of_ble_eq_true rfl) (Nat.le_of_ble_eq_true rfl) (Nat.le_of_ble_eq_true rfl) (Nat.le_of_ble_eq_true rfl) (by first | exact hA (by omega) | exact hS (by omega) (by omega))
            · exact absurd h23 (by decide)
          · skip
            refine rd_if_ne (pc := 23) (tgt := 36) d_D_risk_23 rfl ⟨by omega, by omega⟩ (fun h23 => ?_) (fun h23 => ?_)
            · exact absurd h23 (by decide)
            · skip
              exact rd_throw (pc := 26) (kd := 0) d_D_risk_26 d_D_risk_29 d_D_risk_30 d_D_risk_32 d_D_risk_35 rfl tw_D_55_59 (by decide) (Nat.le_of_ble_eq_true rfl) (Nat.le_of_ble_eq_true rfl) (Nat.le_of_ble_eq_true rfl) (Nat.le_of_ble_eq_true rfl) (by first | exact hA (by omega) | exact hS (by omega) (by omega))
      · skip
        refine rd_if_eq (pc := 15) (tgt := 26) d_D_risk_15 rfl ⟨by omega, by omega⟩ (fun h15 => ?_) (fun h15 => ?_)
        · skip
          exact rd_throw (pc := 26) (kd := 0) d_D_risk_26 d_D_risk_29 d_D_risk_30 d_D_risk_32 d_D_risk_35 rfl tw_D_55_59 (by decide) (Nat.le_of_ble_eq_true rfl) (Nat.le_of_ble_eq_true rfl) (Nat.le_of_ble_eq_true rfl) (Nat.le_of_ble_eq_true rfl) (by first | exact hA (by omega) | exact hS (by omega) (by omega))
        · exact absurd h15 (by decide)
  · skip
    refine rd_if_eq (pc := 6) (tgt := 26) d_D_risk_6 rfl ⟨by omega, by omega⟩ (fun h6 => ?_) (fun h6 => ?_)
    · skip
      exact rd_throw (pc := 26) (kd := 0) d_D_risk_26 d_D_risk_29 d_D_risk_30 d_D_risk_32 d_D_risk_35 rfl tw_D_55_59 (by decide) (Nat.le_of_ble_eq_true rfl) (Nat.le_of_ble_eq_true rfl) (Nat.le_of_ble_eq_true rfl) (Nat.le_of_ble_eq_true rfl) (by first | exact hA (by omega) | exact hS (by omega) (by omega))
    · exact absurd h6 (by decide)
set_option maxHeartbeats 4000000 in
set_option maxRecDepth 100000 in
theorem ev_D_premium {r a : Int} {M : rd_M} {Q : rd_R → rd_M → Prop} (hI : c_I M) (hr : rd_I r) (ha : rd_I a) (hA : ¬ (((0 ≤ r ∧ r < 12) ∧ 0 < M 7 r) ∧ (0 ≤ a ∧ a ≤ 1000000000)) → Q (.inr 0) M) (hS : (((0 ≤ r ∧ r < 12) ∧ 0 < M 7 r) ∧ (0 ≤ a ∧ a ≤ 1000000000)) → (M 5 (M 9 r) ≠ 0) → Q (.inr 1) M) (hQ : (((0 ≤ r ∧ r < 12) ∧ 0 < M 7 r) ∧ (0 ≤ a ∧ a ≤ 1000000000)) → ¬ (M 5 (M 9 r) ≠ 0) → Q (.inl none) (rd_up M 8 r a)) : rd_G x_D_premium 0 [some (.ref 0), some (rd_i r), some (rd_i a)] [] M 0 Q := by
  refine rd_aldn (pc := 0) d_D_premium_0 rfl ?_
  refine rd_getr (pc := 1) d_D_premium_1 fl_D_10 rfl rfl ?_
  refine rd_ildn (pc := 4) d_D_premium_4 rfl ?_
  refine rd_callVi (pc := 5) (n' := 0) [_] d_D_premium_5 ml_D_62 rfl (Nat.le_of_ble_eq_true rfl) (Nat.le_of_ble_eq_true rfl) (Nat.le_of_ble_eq_true rfl) rfl rfl rfl (Nat.le_of_ble_eq_true rfl) (Nat.le_of_ble_eq_true rfl) ?_
  refine ev_R_isTold hI ⟨by omega, by omega⟩ (fun c5 => ⟨_, rfl, ?_⟩) (fun c5 => ⟨_, rfl, ?_⟩)
  · skip
    refine rd_if_eq (pc := 8) (tgt := 18) d_D_premium_8 rfl ⟨by omega, by omega⟩ (fun h8 => ?_) (fun h8 => ?_)
    · exact absurd h8 (by decide)
    · skip
      refine rd_ildn (pc := 11) d_D_premium_11 rfl ?_
      refine rd_callSi (pc := 12) (n' := 0) [_] d_D_premium_12 ml_D_78 (Nat.le_of_ble_eq_true rfl) (Nat.le_of_ble_eq_true rfl) (Nat.le_of_ble_eq_true rfl) rfl rfl rfl (Nat.le_of_ble_eq_true rfl) (Nat.le_of_ble_eq_true rfl) ?_
      refine ev_D_isAmount ⟨by omega, by omega⟩ (fun c12 => ⟨_, rfl, ?_⟩) (fun c12 => ⟨_, rfl, ?_⟩)
      · skip
        refine rd_if_ne (pc := 15) (tgt := 28) d_D_premium_15 rfl ⟨by omega, by omega⟩ (fun h15 => ?_) (fun h15 => ?_)
        · skip
          obtain ⟨r1, r2, r3⟩ := hI.risk (r := r) (by omega) (by omega)
          have hcl := hI.closed (y := M 9 r) (by omega) (by omega)
          refine rd_aldn (pc := 28) d_D_premium_28 rfl ?_
          refine rd_getr (pc := 29) d_D_premium_29 fl_D_39 rfl rfl ?_
          refine rd_aldn (pc := 32) d_D_premium_32 rfl ?_
          refine rd_getr (pc := 33) d_D_premium_33 fl_D_10 rfl rfl ?_
          refine rd_getr (pc := 36) d_D_premium_36 fl_D_75 rfl rfl ?_
          refine rd_ildn (pc := 39) d_D_premium_39 rfl ?_
          refine rd_iald (pc := 40) d_D_premium_40 rfl (by omega) (by omega) ?_
          refine rd_zald (pc := 41) d_D_premium_41 rfl (by omega) (by omega) ?_
          refine rd_if_eq (pc := 42) (tgt := 55) d_D_premium_42 rfl ⟨by omega, by omega⟩ (fun h42 => ?_) (fun h42 => ?_)
          · skip
            refine rd_aldn (pc := 55) d_D_premium_55 rfl ?_
            refine rd_getr (pc := 56) d_D_premium_56 fl_D_10 rfl rfl ?_
            refine rd_getr (pc := 59) d_D_premium_59 fl_D_85 rfl rfl ?_
            refine rd_ildn (pc := 62) d_D_premium_62 rfl ?_
            refine rd_ildn (pc := 63) d_D_premium_63 rfl ?_
            refine rd_iast (pc := 64) d_D_premium_64 rfl (by omega) (by omega) ?_
            exact rd_vret (pc := 65) d_D_premium_65 rfl (Nat.le_of_ble_eq_true rfl) (hQ (by omega) (by omega))
          · skip
            exact rd_throw (pc := 45) (kd := 1) d_D_premium_45 d_D_premium_48 d_D_premium_49 d_D_premium_51 d_D_premium_54 rfl tw_D_66_70 (by decide) (Nat.le_of_ble_eq_true rfl) (Nat.le_of_ble_eq_true rfl) (Nat.le_of_ble_eq_true rfl) (Nat.le_of_ble_eq_true rfl) (by first | exact hA (by omega) | exact hS (by omega) (by omega))
        · exact absurd h15 (by decide)
      · skip
        refine rd_if_ne (pc := 15) (tgt := 28) d_D_premium_15 rfl ⟨by omega, by omega⟩ (fun h15 => ?_) (fun h15 => ?_)
        · exact absurd h15 (by decide)
        · skip
          exact rd_throw (pc := 18) (kd := 0) d_D_premium_18 d_D_premium_21 d_D_premium_22 d_D_premium_24 d_D_premium_27 rfl tw_D_55_59 (by decide) (Nat.le_of_ble_eq_true rfl) (Nat.le_of_ble_eq_true rfl) (Nat.le_of_ble_eq_true rfl) (Nat.le_of_ble_eq_true rfl) (by first | exact hA (by omega) | exact hS (by omega) (by omega))
  · skip
    refine rd_if_eq (pc := 8) (tgt := 18) d_D_premium_8 rfl ⟨by omega, by omega⟩ (fun h8 => ?_) (fun h8 => ?_)
    · skip
      exact rd_throw (pc := 18) (kd := 0) d_D_premium_18 d_D_premium_21 d_D_premium_22 d_D_premium_24 d_D_premium_27 rfl tw_D_55_59 (by decide) (Nat.le_of_ble_eq_true rfl) (Nat.le_of_ble_eq_true rfl) (Nat.le_of_ble_eq_true rfl) (Nat.le_of_ble_eq_true rfl) (by first | exact hA (by omega) | exact hS (by omega) (by omega))
    · exact absurd h8 (by decide)
set_option maxHeartbeats 4000000 in
set_option maxRecDepth 100000 in
theorem ev_D_treaty {s a b c d : Int} {M : rd_M} {Q : rd_R → rd_M → Prop} (hI : c_I M) (hs : rd_I s) (ha : rd_I a) (hb : rd_I b) (hc : rd_I c) (hd : rd_I d) (hA : ¬ (((0 ≤ s ∧ s < 50) ∧ s.tmod 10 < 4) ∧ sp_terms (s.tdiv 10) a b c d) → Q (.inr 0) M) (hS : (((0 ≤ s ∧ s < 50) ∧ s.tmod 10 < 4) ∧ sp_terms (s.tdiv 10) a b c d) → (10 ≤ M 3 0 ∨ M 5 (s.tmod 10) ≠ 0) → Q (.inr 1) M) (hQ : (((0 ≤ s ∧ s < 50) ∧ s.tmod 10 < 4) ∧ sp_terms (s.tdiv 10) a b c d) → ¬ (10 ≤ M 3 0 ∨ M 5 (s.tmod 10) ≠ 0) → Q (.inl (some (rd_i (M 3 0)))) (rd_up (rd_up (rd_up (rd_up (rd_up (rd_up (rd_up M 16 (M 3 0) (s.tdiv 10)) 17 (M 3 0) (s.tmod 10)) 18 (M 3 0) a) 19 (M 3 0) b) 20 (M 3 0) c) 21 (M 3 0) d) 3 0 (M 3 0 + 1))) : rd_G x_D_treaty 0 [some (.ref 0), some (rd_i s), some (rd_i a), some (rd_i b), some (rd_i c), some (rd_i d)] [] M 0 Q := by
  have h3 := hI.2.1
  refine rd_ildn (pc := 0) d_D_treaty_0 rfl ?_
  refine rd_callSi (pc := 1) (n' := 0) [_] d_D_treaty_1 ml_D_88 (Nat.le_of_ble_eq_true rfl) (Nat.le_of_ble_eq_true rfl) (Nat.le_of_ble_eq_true rfl) rfl rfl rfl (Nat.le_of_ble_eq_true rfl) (Nat.le_of_ble_eq_true rfl) ?_
  refine ev_D_isShape ⟨by omega, by omega⟩ (fun c1 => ⟨_, rfl, ?_⟩) (fun c1 => ⟨_, rfl, ?_⟩)
  · skip
    refine rd_if_eq (pc := 4) (tgt := 23) d_D_treaty_4 rfl ⟨by omega, by omega⟩ (fun h4 => ?_) (fun h4 => ?_)
    · exact absurd h4 (by decide)
    · skip
      have hdv : 0 ≤ s.tdiv 10 ∧ s.tdiv 10 ≤ 4 := by (rw [Int.tdiv_eq_ediv_of_nonneg (by omega)]; omega)
      have hmd : 0 ≤ s.tmod 10 := Int.tmod_nonneg _ (by omega)
      refine rd_ildn (pc := 7) d_D_treaty_7 rfl ?_
      refine rd_bipush (pc := 8) d_D_treaty_8 rfl ?_
      refine rd_idiv (pc := 10) d_D_treaty_10 ⟨by omega, by omega⟩ ⟨by omega, by omega⟩ (by omega) ?_
      refine rd_ildn (pc := 11) d_D_treaty_11 rfl ?_
      refine rd_ildn (pc := 12) d_D_treaty_12 rfl ?_
      refine rd_ild (pc := 13) d_D_treaty_13 rfl ?_
      refine rd_ild (pc := 15) d_D_treaty_15 rfl ?_
      refine rd_callSi (pc := 17) (n' := 0) [_, _, _, _, _] d_D_treaty_17 ml_D_91 (Nat.le_of_ble_eq_true rfl) (Nat.le_of_ble_eq_true rfl) (Nat.le_of_ble_eq_true rfl) rfl rfl rfl (Nat.le_of_ble_eq_true rfl) (Nat.le_of_ble_eq_true rfl) ?_
      refine ev_D_areTerms ⟨by omega, by omega⟩ ⟨by omega, by omega⟩ ⟨by omega, by omega⟩ ⟨by omega, by omega⟩ ⟨by omega, by omega⟩ (fun c17 => ⟨_, rfl, ?_⟩) (fun c17 => ⟨_, rfl, ?_⟩)
      · skip
        refine rd_if_ne (pc := 20) (tgt := 33) d_D_treaty_20 rfl ⟨by omega, by omega⟩ (fun h20 => ?_) (fun h20 => ?_)
        · skip
          have hcl := hI.closed (y := s.tmod 10) (by omega) (by omega)
          refine rd_aldn (pc := 33) d_D_treaty_33 rfl ?_
          refine rd_getr (pc := 34) d_D_treaty_34 fl_D_26 rfl rfl ?_
          refine rd_gi (pc := 37) (ki := 0) d_D_treaty_37 fl_D_97 rfl rfl rfl ?_
          refine rd_bipush (pc := 40) d_D_treaty_40 rfl ?_
          refine rd_icmp_ge (pc := 42) (tgt := 57) d_D_treaty_42 rfl ⟨by omega, by omega⟩ ⟨by omega, by omega⟩ (fun h42 => ?_) (fun h42 => ?_)
          · skip
            exact rd_throw (pc := 57) (kd := 1) d_D_treaty_57 d_D_treaty_60 d_D_treaty_61 d_D_treaty_63 d_D_treaty_66 rfl tw_D_66_70 (by decide) (Nat.le_of_ble_eq_true rfl) (Nat.le_of_ble_eq_true rfl) (Nat.le_of_ble_eq_true rfl) (Nat.le_of_ble_eq_true rfl) (by first | exact hA (by omega) | exact hS (by omega) (by omega))
          · skip
            refine rd_aldn (pc := 45) d_D_treaty_45 rfl ?_
            refine rd_getr (pc := 46) d_D_treaty_46 fl_D_39 rfl rfl ?_
            refine rd_ildn (pc := 49) d_D_treaty_49 rfl ?_
            refine rd_bipush (pc := 50) d_D_treaty_50 rfl ?_
            refine rd_irem (pc := 52) d_D_treaty_52 ⟨by omega, by omega⟩ ⟨by omega, by omega⟩ (by omega) ?_
            refine rd_zald (pc := 53) d_D_treaty_53 rfl (by omega) (by omega) ?_
            refine rd_if_eq (pc := 54) (tgt := 67) d_D_treaty_54 rfl ⟨by omega, by omega⟩ (fun h54 => ?_) (fun h54 => ?_)
            · skip
              refine rd_aldn (pc := 67) d_D_treaty_67 rfl ?_
              refine rd_getr (pc := 68) d_D_treaty_68 fl_D_26 rfl rfl ?_
              refine rd_ildn (pc := 71) d_D_treaty_71 rfl ?_
              refine rd_ildn (pc := 72) d_D_treaty_72 rfl ?_
              refine rd_ildn (pc := 73) d_D_treaty_73 rfl ?_
              refine rd_ild (pc := 74) d_D_treaty_74 rfl ?_
              refine rd_ild (pc := 76) d_D_treaty_76 rfl ?_
              refine rd_callVi (pc := 78) (n' := 0) [_, _, _, _, _] d_D_treaty_78 ml_D_103 rfl (Nat.le_of_ble_eq_true rfl) (Nat.le_of_ble_eq_true rfl) (Nat.le_of_ble_eq_true rfl) rfl rfl rfl (Nat.le_of_ble_eq_true rfl) (Nat.le_of_ble_eq_true rfl) ?_
              refine ev_T_add hI (by omega) ⟨by omega, by omega⟩ ⟨by omega, by omega⟩ ⟨by omega, by omega⟩ ⟨by omega, by omega⟩ ⟨by omega, by omega⟩ ?_
              refine ⟨_, rfl, ?_⟩
              exact rd_iret (pc := 81) d_D_treaty_81 rfl (Nat.le_of_ble_eq_true rfl) (hQ (by omega) (by omega))
            · skip
              exact rd_throw (pc := 57) (kd := 1) d_D_treaty_57 d_D_treaty_60 d_D_treaty_61 d_D_treaty_63 d_D_treaty_66 rfl tw_D_66_70 (by decide) (Nat.le_of_ble_eq_true rfl) (Nat.le_of_ble_eq_true rfl) (Nat.le_of_ble_eq_true rfl) (Nat.le_of_ble_eq_true rfl) (by first | exact hA (by omega) | exact hS (by omega) (by omega))
        · exact absurd h20 (by decide)
      · skip
        refine rd_if_ne (pc := 20) (tgt := 33) d_D_treaty_20 rfl ⟨by omega, by omega⟩ (fun h20 => ?_) (fun h20 => ?_)
        · exact absurd h20 (by decide)
        · skip
          exact rd_throw (pc := 23) (kd := 0) d_D_treaty_23 d_D_treaty_26 d_D_treaty_27 d_D_treaty_29 d_D_treaty_32 rfl tw_D_55_59 (by decide) (Nat.le_of_ble_eq_true rfl) (Nat.le_of_ble_eq_true rfl) (Nat.le_of_ble_eq_true rfl) (Nat.le_of_ble_eq_true rfl) (by first | exact hA (by omega) | exact hS (by omega) (by omega))
  · skip
    refine rd_if_eq (pc := 4) (tgt := 23) d_D_treaty_4 rfl ⟨by omega, by omega⟩ (fun h4 => ?_) (fun h4 => ?_)
    · skip
      exact rd_throw (pc := 23) (kd := 0) d_D_treaty_23 d_D_treaty_26 d_D_treaty_27 d_D_treaty_29 d_D_treaty_32 rfl tw_D_55_59 (by decide) (Nat.le_of_ble_eq_true rfl) (Nat.le_of_ble_eq_true rfl) (Nat.le_of_ble_eq_true rfl) (Nat.le_of_ble_eq_true rfl) (by first | exact hA (by omega) | exact hS (by omega) (by omega))
    · exact absurd h4 (by decide)
set_option maxHeartbeats 4000000 in
set_option maxRecDepth 100000 in
theorem ev_D_share {t r p : Int} {M : rd_M} {Q : rd_R → rd_M → Prop} (hI : c_I M) (ht : rd_I t) (hr : rd_I r) (hp : rd_I p) (hA : ¬ ((0 ≤ t ∧ t < M 3 0) ∧ (0 ≤ r ∧ r < 6) ∧ (0 ≤ p ∧ p ≤ 1000000)) → Q (.inr 0) M) (hS : ((0 ≤ t ∧ t < M 3 0) ∧ (0 ≤ r ∧ r < 6) ∧ (0 ≤ p ∧ p ≤ 1000000)) → (M 5 (M 17 t) ≠ 0 ∨ 1000000 < rd_sm (fun o => if o = r then 0 else M 22 (t * 6 + o)) 6 + p) → Q (.inr 1) M) (hQ : ((0 ≤ t ∧ t < M 3 0) ∧ (0 ≤ r ∧ r < 6) ∧ (0 ≤ p ∧ p ≤ 1000000)) → ¬ (M 5 (M 17 t) ≠ 0 ∨ 1000000 < rd_sm (fun o => if o = r then 0 else M 22 (t * 6 + o)) 6 + p) → Q (.inl none) (rd_up M 22 (t * 6 + r) p)) : rd_G x_D_share 0 [some (.ref 0), some (rd_i t), some (rd_i r), some (rd_i p)] [] M 0 Q := by
  have h3 := hI.2.1
  refine rd_aldn (pc := 0) d_D_share_0 rfl ?_
  refine rd_getr (pc := 1) d_D_share_1 fl_D_26 rfl rfl ?_
  refine rd_ildn (pc := 4) d_D_share_4 rfl ?_
  refine rd_callVi (pc := 5) (n' := 0) [_] d_D_share_5 ml_D_107 rfl (Nat.le_of_ble_eq_true rfl) (Nat.le_of_ble_eq_true rfl) (Nat.le_of_ble_eq_true rfl) rfl rfl rfl (Nat.le_of_ble_eq_true rfl) (Nat.le_of_ble_eq_true rfl) ?_
  refine ev_T_has hI ⟨by omega, by omega⟩ (fun c5 => ⟨_, rfl, ?_⟩) (fun c5 => ⟨_, rfl, ?_⟩)
  · skip
    refine rd_if_eq (pc := 8) (tgt := 30) d_D_share_8 rfl ⟨by omega, by omega⟩ (fun h8 => ?_) (fun h8 => ?_)
    · exact absurd h8 (by decide)
    · skip
      refine rd_ildn (pc := 11) d_D_share_11 rfl ?_
      refine rd_bipush (pc := 12) d_D_share_12 rfl ?_
      refine rd_callSi (pc := 14) (n' := 0) [_, _] d_D_share_14 ml_D_47 (Nat.le_of_ble_eq_true rfl) (Nat.le_of_ble_eq_true rfl) (Nat.le_of_ble_eq_true rfl) rfl rfl rfl (Nat.le_of_ble_eq_true rfl) (Nat.le_of_ble_eq_true rfl) ?_
      refine ev_D_isBelow ⟨by omega, by omega⟩ ⟨by omega, by omega⟩ (fun c14 => ⟨_, rfl, ?_⟩) (fun c14 => ⟨_, rfl, ?_⟩)
      · skip
        refine rd_if_eq (pc := 17) (tgt := 30) d_D_share_17 rfl ⟨by omega, by omega⟩ (fun h17 => ?_) (fun h17 => ?_)
        · exact absurd h17 (by decide)
        · skip
          refine rd_ildn (pc := 20) d_D_share_20 rfl ?_
          refine rd_if_lt (pc := 21) (tgt := 30) d_D_share_21 rfl ⟨by omega, by omega⟩ (fun h21 => ?_) (fun h21 => ?_)
          · skip
            exact rd_throw (pc := 30) (kd := 0) d_D_share_30 d_D_share_33 d_D_share_34 d_D_share_36 d_D_share_39 rfl tw_D_55_59 (by decide) (Nat.le_of_ble_eq_true rfl) (Nat.le_of_ble_eq_true rfl) (Nat.le_of_ble_eq_true rfl) (Nat.le_of_ble_eq_true rfl) (by first | exact hA (by omega) | exact hS (by omega) (by omega))
          · skip
            refine rd_ildn (pc := 24) d_D_share_24 rfl ?_
            refine rd_ldc (pc := 25) (v := 1000000) d_D_share_25 kc_D_110 ?_
            refine rd_icmp_le (pc := 27) (tgt := 40) d_D_share_27 rfl ⟨by omega, by omega⟩ ⟨by omega, by omega⟩ (fun h27 => ?_) (fun h27 => ?_)
            · skip
              obtain ⟨t1, t2, _⟩ := hI.treaty (t := t) (by omega) (by omega)
              have hcl := hI.closed (y := M 17 t) (by omega) (by omega)
              have hob := rd_sm_b (f := fun o => if o = r then 0 else M 22 (t * 6 + o)) (A := 0) (B := 1000000) 6 (fun i a b => by have := hI.part (i := t * 6 + i) (by omega) (by omega); split <;> omega)
              refine rd_aldn (pc := 40) d_D_share_40 rfl ?_
              refine rd_getr (pc := 41) d_D_share_41 fl_D_39 rfl rfl ?_
              refine rd_aldn (pc := 44) d_D_share_44 rfl ?_
              refine rd_getr (pc := 45) d_D_share_45 fl_D_26 rfl rfl ?_
              refine rd_getr (pc := 48) d_D_share_48 fl_D_113 rfl rfl ?_
              refine rd_ildn (pc := 51) d_D_share_51 rfl ?_
              refine rd_iald (pc := 52) d_D_share_52 rfl (by omega) (by omega) ?_
              refine rd_zald (pc := 53) d_D_share_53 rfl (by omega) (by omega) ?_
              refine rd_if_ne (pc := 54) (tgt := 73) d_D_share_54 rfl ⟨by omega, by omega⟩ (fun h54 => ?_) (fun h54 => ?_)
              · skip
                exact rd_throw (pc := 73) (kd := 1) d_D_share_73 d_D_share_76 d_D_share_77 d_D_share_79 d_D_share_82 rfl tw_D_66_70 (by decide) (Nat.le_of_ble_eq_true rfl) (Nat.le_of_ble_eq_true rfl) (Nat.le_of_ble_eq_true rfl) (Nat.le_of_ble_eq_true rfl) (by first | exact hA (by omega) | exact hS (by omega) (by omega))
              · skip
                refine rd_aldn (pc := 57) d_D_share_57 rfl ?_
                refine rd_getr (pc := 58) d_D_share_58 fl_D_26 rfl rfl ?_
                refine rd_ildn (pc := 61) d_D_share_61 rfl ?_
                refine rd_ildn (pc := 62) d_D_share_62 rfl ?_
                refine rd_callVi (pc := 63) (n' := 0) [_, _] d_D_share_63 ml_D_114 rfl (Nat.le_of_ble_eq_true rfl) (Nat.le_of_ble_eq_true rfl) (Nat.le_of_ble_eq_true rfl) rfl rfl rfl (Nat.le_of_ble_eq_true rfl) (Nat.le_of_ble_eq_true rfl) ?_
                refine ev_T_partsOfOthers hI (by omega) (by omega) ⟨by omega, by omega⟩ ?_
                refine ⟨_, rfl, ?_⟩
                refine rd_ildn (pc := 66) d_D_share_66 rfl ?_
                refine rd_iadd (pc := 67) d_D_share_67 ?_
                refine rd_ldc (pc := 68) (v := 1000000) d_D_share_68 kc_D_110 ?_
                refine rd_icmp_le (pc := 70) (tgt := 83) d_D_share_70 rfl ⟨by omega, by omega⟩ ⟨by omega, by omega⟩ (fun h70 => ?_) (fun h70 => ?_)
                · skip
                  refine rd_aldn (pc := 83) d_D_share_83 rfl ?_
                  refine rd_getr (pc := 84) d_D_share_84 fl_D_26 rfl rfl ?_
                  refine rd_getr (pc := 87) d_D_share_87 fl_D_120 rfl rfl ?_
                  refine rd_ildn (pc := 90) d_D_share_90 rfl ?_
                  refine rd_bipush (pc := 91) d_D_share_91 rfl ?_
                  refine rd_imul (pc := 93) d_D_share_93 ?_
                  refine rd_ildn (pc := 94) d_D_share_94 rfl ?_
                  refine rd_iadd (pc := 95) d_D_share_95 ?_
                  refine rd_ildn (pc := 96) d_D_share_96 rfl ?_
                  refine rd_iast (pc := 97) d_D_share_97 rfl (by omega) (by omega) ?_
                  exact rd_vret (pc := 98) d_D_share_98 rfl (Nat.le_of_ble_eq_true rfl) (hQ (by omega) (by omega))
                · skip
                  exact rd_throw (pc := 73) (kd := 1) d_D_share_73 d_D_share_76 d_D_share_77 d_D_share_79 d_D_share_82 rfl tw_D_66_70 (by decide) (Nat.le_of_ble_eq_true rfl) (Nat.le_of_ble_eq_true rfl) (Nat.le_of_ble_eq_true rfl) (Nat.le_of_ble_eq_true rfl) (by first | exact hA (by omega) | exact hS (by omega) (by omega))
            · skip
              exact rd_throw (pc := 30) (kd := 0) d_D_share_30 d_D_share_33 d_D_share_34 d_D_share_36 d_D_share_39 rfl tw_D_55_59 (by decide) (Nat.le_of_ble_eq_true rfl) (Nat.le_of_ble_eq_true rfl) (Nat.le_of_ble_eq_true rfl) (Nat.le_of_ble_eq_true rfl) (by first | exact hA (by omega) | exact hS (by omega) (by omega))
      · skip
        refine rd_if_eq (pc := 17) (tgt := 30) d_D_share_17 rfl ⟨by omega, by omega⟩ (fun h17 => ?_) (fun h17 => ?_)
        · skip
          exact rd_throw (pc := 30) (kd := 0) d_D_share_30 d_D_share_33 d_D_share_34 d_D_share_36 d_D_share_39 rfl tw_D_55_59 (by decide) (Nat.le_of_ble_eq_true rfl) (Nat.le_of_ble_eq_true rfl) (Nat.le_of_ble_eq_true rfl) (Nat.le_of_ble_eq_true rfl) (by first | exact hA (by omega) | exact hS (by omega) (by omega))
        · exact absurd h17 (by decide)
  · skip
    refine rd_if_eq (pc := 8) (tgt := 30) d_D_share_8 rfl ⟨by omega, by omega⟩ (fun h8 => ?_) (fun h8 => ?_)
    · skip
      exact rd_throw (pc := 30) (kd := 0) d_D_share_30 d_D_share_33 d_D_share_34 d_D_share_36 d_D_share_39 rfl tw_D_55_59 (by decide) (Nat.le_of_ble_eq_true rfl) (Nat.le_of_ble_eq_true rfl) (Nat.le_of_ble_eq_true rfl) (Nat.le_of_ble_eq_true rfl) (by first | exact hA (by omega) | exact hS (by omega) (by omega))
    · exact absurd h8 (by decide)
set_option maxHeartbeats 4000000 in
set_option maxRecDepth 100000 in
theorem ev_D_claim {r e h : Int} {n : Nat} {o : Int → Int} {M : rd_M} {Q : rd_R → rd_M → Prop} (hI : c_I M) (hn : M 2 0 = n) (hH : c_H M n o) (hr : rd_I r) (he : rd_I e) (hh : rd_I h) (hA : ¬ (((0 ≤ r ∧ r < 12) ∧ 0 < M 7 r) ∧ (0 ≤ e ∧ e < 10) ∧ (0 ≤ h ∧ h ≤ 100000)) → Q (.inr 0) M) (hS : (((0 ≤ r ∧ r < 12) ∧ 0 < M 7 r) ∧ (0 ≤ e ∧ e < 10) ∧ (0 ≤ h ∧ h ≤ 100000)) → (40 ≤ M 2 0 ∨ M 5 (M 9 r) ≠ 0) → Q (.inr 1) M) (hQ : (((0 ≤ r ∧ r < 12) ∧ 0 < M 7 r) ∧ (0 ≤ e ∧ e < 10) ∧ (0 ≤ h ∧ h ≤ 100000)) → ¬ (40 ≤ M 2 0 ∨ M 5 (M 9 r) ≠ 0) → (∀ M' o', (∀ q, q ≠ 2 → q ≠ 10 → q ≠ 11 → q ≠ 12 → q ≠ 15 → M' q = M q) → M' 10 = rd_up M 10 n r 10 → M' 11 = rd_up M 11 n e 11 → M' 12 = rd_up M 12 n h 12 → M' 2 = rd_up M 2 0 (n + 1) 2 → c_H M' (n + 1) o' → (∀ i : Int, 0 ≤ i → i < 40 → 0 ≤ M' 15 i ∧ M' 15 i < 40) → Q (.inl (some (rd_i n))) M')) : rd_G x_D_claim 0 [some (.ref 0), some (rd_i r), some (rd_i e), some (rd_i h)] [] M 0 Q := by
  have h3 := hI.1
  refine rd_aldn (pc := 0) d_D_claim_0 rfl ?_
  refine rd_getr (pc := 1) d_D_claim_1 fl_D_10 rfl rfl ?_
  refine rd_ildn (pc := 4) d_D_claim_4 rfl ?_
  refine rd_callVi (pc := 5) (n' := 0) [_] d_D_claim_5 ml_D_62 rfl (Nat.le_of_ble_eq_true rfl) (Nat.le_of_ble_eq_true rfl) (Nat.le_of_ble_eq_true rfl) rfl rfl rfl (Nat.le_of_ble_eq_true rfl) (Nat.le_of_ble_eq_true rfl) ?_
  refine ev_R_isTold hI ⟨by omega, by omega⟩ (fun c5 => ⟨_, rfl, ?_⟩) (fun c5 => ⟨_, rfl, ?_⟩)
  · skip
    refine rd_if_eq (pc := 8) (tgt := 30) d_D_claim_8 rfl ⟨by omega, by omega⟩ (fun h8 => ?_) (fun h8 => ?_)
    · exact absurd h8 (by decide)
    · skip
      refine rd_ildn (pc := 11) d_D_claim_11 rfl ?_
      refine rd_bipush (pc := 12) d_D_claim_12 rfl ?_
      refine rd_callSi (pc := 14) (n' := 0) [_, _] d_D_claim_14 ml_D_47 (Nat.le_of_ble_eq_true rfl) (Nat.le_of_ble_eq_true rfl) (Nat.le_of_ble_eq_true rfl) rfl rfl rfl (Nat.le_of_ble_eq_true rfl) (Nat.le_of_ble_eq_true rfl) ?_
      refine ev_D_isBelow ⟨by omega, by omega⟩ ⟨by omega, by omega⟩ (fun c14 => ⟨_, rfl, ?_⟩) (fun c14 => ⟨_, rfl, ?_⟩)
      · skip
        refine rd_if_eq (pc := 17) (tgt := 30) d_D_claim_17 rfl ⟨by omega, by omega⟩ (fun h17 => ?_) (fun h17 => ?_)
        · exact absurd h17 (by decide)
        · skip
          refine rd_ildn (pc := 20) d_D_claim_20 rfl ?_
          refine rd_if_lt (pc := 21) (tgt := 30) d_D_claim_21 rfl ⟨by omega, by omega⟩ (fun h21 => ?_) (fun h21 => ?_)
          · skip
            exact rd_throw (pc := 30) (kd := 0) d_D_claim_30 d_D_claim_33 d_D_claim_34 d_D_claim_36 d_D_claim_39 rfl tw_D_55_59 (by decide) (Nat.le_of_ble_eq_true rfl) (Nat.le_of_ble_eq_true rfl) (Nat.le_of_ble_eq_true rfl) (Nat.le_of_ble_eq_true rfl) (by first | exact hA (by omega) | exact hS (by omega) (by omega))
          · skip
            refine rd_ildn (pc := 24) d_D_claim_24 rfl ?_
            refine rd_ldc (pc := 25) (v := 100000) d_D_claim_25 kc_D_123 ?_
            refine rd_icmp_le (pc := 27) (tgt := 40) d_D_claim_27 rfl ⟨by omega, by omega⟩ ⟨by omega, by omega⟩ (fun h27 => ?_) (fun h27 => ?_)
            · skip
              obtain ⟨r1, r2, r3⟩ := hI.risk (r := r) (by omega) (by omega)
              have hcl := hI.closed (y := M 9 r) (by omega) (by omega)
              refine rd_aldn (pc := 40) d_D_claim_40 rfl ?_
              refine rd_getr (pc := 41) d_D_claim_41 fl_D_19 rfl rfl ?_
              refine rd_gi (pc := 44) (ki := 0) d_D_claim_44 fl_D_126 rfl rfl rfl ?_
              refine rd_bipush (pc := 47) d_D_claim_47 rfl ?_
              refine rd_icmp_ge (pc := 49) (tgt := 69) d_D_claim_49 rfl ⟨by omega, by omega⟩ ⟨by omega, by omega⟩ (fun h49 => ?_) (fun h49 => ?_)
              · skip
                exact rd_throw (pc := 69) (kd := 1) d_D_claim_69 d_D_claim_72 d_D_claim_73 d_D_claim_75 d_D_claim_78 rfl tw_D_66_70 (by decide) (Nat.le_of_ble_eq_true rfl) (Nat.le_of_ble_eq_true rfl) (Nat.le_of_ble_eq_true rfl) (Nat.le_of_ble_eq_true rfl) (by first | exact hA (by omega) | exact hS (by omega) (by omega))
              · skip
                refine rd_aldn (pc := 52) d_D_claim_52 rfl ?_
                refine rd_getr (pc := 53) d_D_claim_53 fl_D_39 rfl rfl ?_
                refine rd_aldn (pc := 56) d_D_claim_56 rfl ?_
                refine rd_getr (pc := 57) d_D_claim_57 fl_D_10 rfl rfl ?_
                refine rd_getr (pc := 60) d_D_claim_60 fl_D_75 rfl rfl ?_
                refine rd_ildn (pc := 63) d_D_claim_63 rfl ?_
                refine rd_iald (pc := 64) d_D_claim_64 rfl (by omega) (by omega) ?_
                refine rd_zald (pc := 65) d_D_claim_65 rfl (by omega) (by omega) ?_
                refine rd_if_eq (pc := 66) (tgt := 79) d_D_claim_66 rfl ⟨by omega, by omega⟩ (fun h66 => ?_) (fun h66 => ?_)
                · skip
                  refine rd_aldn (pc := 79) d_D_claim_79 rfl ?_
                  refine rd_getr (pc := 80) d_D_claim_80 fl_D_19 rfl rfl ?_
                  refine rd_ildn (pc := 83) d_D_claim_83 rfl ?_
                  refine rd_ildn (pc := 84) d_D_claim_84 rfl ?_
                  refine rd_ildn (pc := 85) d_D_claim_85 rfl ?_
                  refine rd_callVi (pc := 86) (n' := 0) [_, _, _] d_D_claim_86 ml_D_129 rfl (Nat.le_of_ble_eq_true rfl) (Nat.le_of_ble_eq_true rfl) (Nat.le_of_ble_eq_true rfl) rfl rfl rfl (Nat.le_of_ble_eq_true rfl) (Nat.le_of_ble_eq_true rfl) ?_
                  refine ev_C_add hI hn (by omega) hH ⟨by omega, by omega⟩ ⟨by omega, by omega⟩ ⟨by omega, by omega⟩ (fun M1 o1 a1 a2 a3 a4 a5 a6 a7 => ?_)
                  refine ⟨_, rfl, ?_⟩
                  exact rd_iret (pc := 89) d_D_claim_89 rfl (Nat.le_of_ble_eq_true rfl) (hQ (by omega) (by omega) M1 o1 a1 a2 a3 a4 a5 a6 a7)
                · skip
                  exact rd_throw (pc := 69) (kd := 1) d_D_claim_69 d_D_claim_72 d_D_claim_73 d_D_claim_75 d_D_claim_78 rfl tw_D_66_70 (by decide) (Nat.le_of_ble_eq_true rfl) (Nat.le_of_ble_eq_true rfl) (Nat.le_of_ble_eq_true rfl) (Nat.le_of_ble_eq_true rfl) (by first | exact hA (by omega) | exact hS (by omega) (by omega))
            · skip
              exact rd_throw (pc := 30) (kd := 0) d_D_claim_30 d_D_claim_33 d_D_claim_34 d_D_claim_36 d_D_claim_39 rfl tw_D_55_59 (by decide) (Nat.le_of_ble_eq_true rfl) (Nat.le_of_ble_eq_true rfl) (Nat.le_of_ble_eq_true rfl) (Nat.le_of_ble_eq_true rfl) (by first | exact hA (by omega) | exact hS (by omega) (by omega))
      · skip
        refine rd_if_eq (pc := 17) (tgt := 30) d_D_claim_17 rfl ⟨by omega, by omega⟩ (fun h17 => ?_) (fun h17 => ?_)
        · skip
          exact rd_throw (pc := 30) (kd := 0) d_D_claim_30 d_D_claim_33 d_D_claim_34 d_D_claim_36 d_D_claim_39 rfl tw_D_55_59 (by decide) (Nat.le_of_ble_eq_true rfl) (Nat.le_of_ble_eq_true rfl) (Nat.le_of_ble_eq_true rfl) (Nat.le_of_ble_eq_true rfl) (by first | exact hA (by omega) | exact hS (by omega) (by omega))
        · exact absurd h17 (by decide)
  · skip
    refine rd_if_eq (pc := 8) (tgt := 30) d_D_claim_8 rfl ⟨by omega, by omega⟩ (fun h8 => ?_) (fun h8 => ?_)
    · skip
      exact rd_throw (pc := 30) (kd := 0) d_D_claim_30 d_D_claim_33 d_D_claim_34 d_D_claim_36 d_D_claim_39 rfl tw_D_55_59 (by decide) (Nat.le_of_ble_eq_true rfl) (Nat.le_of_ble_eq_true rfl) (Nat.le_of_ble_eq_true rfl) (Nat.le_of_ble_eq_true rfl) (by first | exact hA (by omega) | exact hS (by omega) (by omega))
    · exact absurd h8 (by decide)
set_option maxHeartbeats 4000000 in
set_option maxRecDepth 100000 in
theorem ev_D_estimate {k a : Int} {M : rd_M} {Q : rd_R → rd_M → Prop} (hI : c_I M) (hk : rd_I k) (ha : rd_I a) (hA : ¬ ((0 ≤ k ∧ k < M 2 0) ∧ (0 ≤ a ∧ a ≤ 1000000000)) → Q (.inr 0) M) (hS : ((0 ≤ k ∧ k < M 2 0) ∧ (0 ≤ a ∧ a ≤ 1000000000)) → (M 14 k ≠ 0 ∨ M 5 (M 9 (M 10 k)) ≠ 0) → Q (.inr 1) M) (hQ : ((0 ≤ k ∧ k < M 2 0) ∧ (0 ≤ a ∧ a ≤ 1000000000)) → ¬ (M 14 k ≠ 0 ∨ M 5 (M 9 (M 10 k)) ≠ 0) → Q (.inl none) (rd_up M 13 k a)) : rd_G x_D_estimate 0 [some (.ref 0), some (rd_i k), some (rd_i a)] [] M 0 Q := by
  have h3 := hI.1
  refine rd_aldn (pc := 0) d_D_estimate_0 rfl ?_
  refine rd_getr (pc := 1) d_D_estimate_1 fl_D_19 rfl rfl ?_
  refine rd_ildn (pc := 4) d_D_estimate_4 rfl ?_
  refine rd_callVi (pc := 5) (n' := 0) [_] d_D_estimate_5 ml_D_132 rfl (Nat.le_of_ble_eq_true rfl) (Nat.le_of_ble_eq_true rfl) (Nat.le_of_ble_eq_true rfl) rfl rfl rfl (Nat.le_of_ble_eq_true rfl) (Nat.le_of_ble_eq_true rfl) ?_
  refine ev_C_has hI ⟨by omega, by omega⟩ (fun c5 => ⟨_, rfl, ?_⟩) (fun c5 => ⟨_, rfl, ?_⟩)
  · skip
    refine rd_if_eq (pc := 8) (tgt := 18) d_D_estimate_8 rfl ⟨by omega, by omega⟩ (fun h8 => ?_) (fun h8 => ?_)
    · exact absurd h8 (by decide)
    · skip
      refine rd_ildn (pc := 11) d_D_estimate_11 rfl ?_
      refine rd_callSi (pc := 12) (n' := 0) [_] d_D_estimate_12 ml_D_78 (Nat.le_of_ble_eq_true rfl) (Nat.le_of_ble_eq_true rfl) (Nat.le_of_ble_eq_true rfl) rfl rfl rfl (Nat.le_of_ble_eq_true rfl) (Nat.le_of_ble_eq_true rfl) ?_
      refine ev_D_isAmount ⟨by omega, by omega⟩ (fun c12 => ⟨_, rfl, ?_⟩) (fun c12 => ⟨_, rfl, ?_⟩)
      · skip
        refine rd_if_ne (pc := 15) (tgt := 28) d_D_estimate_15 rfl ⟨by omega, by omega⟩ (fun h15 => ?_) (fun h15 => ?_)
        · skip
          obtain ⟨k1, k2, k3, k4, k5, _⟩ := hI.claim (k := k) (by omega) (by omega)
          obtain ⟨r1, r2, r3⟩ := hI.risk (r := M 10 k) (by omega) (by omega)
          have hcl := hI.closed (y := M 9 (M 10 k)) (by omega) (by omega)
          refine rd_aldn (pc := 28) d_D_estimate_28 rfl ?_
          refine rd_getr (pc := 29) d_D_estimate_29 fl_D_19 rfl rfl ?_
          refine rd_getr (pc := 32) d_D_estimate_32 fl_D_135 rfl rfl ?_
          refine rd_ildn (pc := 35) d_D_estimate_35 rfl ?_
          refine rd_zald (pc := 36) d_D_estimate_36 rfl (by omega) (by omega) ?_
          refine rd_if_ne (pc := 37) (tgt := 53) d_D_estimate_37 rfl ⟨by omega, by omega⟩ (fun h37 => ?_) (fun h37 => ?_)
          · skip
            exact rd_throw (pc := 53) (kd := 1) d_D_estimate_53 d_D_estimate_56 d_D_estimate_57 d_D_estimate_59 d_D_estimate_62 rfl tw_D_66_70 (by decide) (Nat.le_of_ble_eq_true rfl) (Nat.le_of_ble_eq_true rfl) (Nat.le_of_ble_eq_true rfl) (Nat.le_of_ble_eq_true rfl) (by first | exact hA (by omega) | exact hS (by omega) (by omega))
          · skip
            refine rd_aldn (pc := 40) d_D_estimate_40 rfl ?_
            refine rd_getr (pc := 41) d_D_estimate_41 fl_D_39 rfl rfl ?_
            refine rd_aldn (pc := 44) d_D_estimate_44 rfl ?_
            refine rd_ildn (pc := 45) d_D_estimate_45 rfl ?_
            refine rd_callVi (pc := 46) (n' := 0) [_] d_D_estimate_46 ml_D_138 rfl (Nat.le_of_ble_eq_true rfl) (Nat.le_of_ble_eq_true rfl) (Nat.le_of_ble_eq_true rfl) rfl rfl rfl (Nat.le_of_ble_eq_true rfl) (Nat.le_of_ble_eq_true rfl) ?_
            refine ev_D_yearOfClaim hI (by omega) (by omega) ?_
            refine ⟨_, rfl, ?_⟩
            refine rd_zald (pc := 49) d_D_estimate_49 rfl (by omega) (by omega) ?_
            refine rd_if_eq (pc := 50) (tgt := 63) d_D_estimate_50 rfl ⟨by omega, by omega⟩ (fun h50 => ?_) (fun h50 => ?_)
            · skip
              refine rd_aldn (pc := 63) d_D_estimate_63 rfl ?_
              refine rd_getr (pc := 64) d_D_estimate_64 fl_D_19 rfl rfl ?_
              refine rd_getr (pc := 67) d_D_estimate_67 fl_D_144 rfl rfl ?_
              refine rd_ildn (pc := 70) d_D_estimate_70 rfl ?_
              refine rd_ildn (pc := 71) d_D_estimate_71 rfl ?_
              refine rd_iast (pc := 72) d_D_estimate_72 rfl (by omega) (by omega) ?_
              exact rd_vret (pc := 73) d_D_estimate_73 rfl (Nat.le_of_ble_eq_true rfl) (hQ (by omega) (by omega))
            · skip
              exact rd_throw (pc := 53) (kd := 1) d_D_estimate_53 d_D_estimate_56 d_D_estimate_57 d_D_estimate_59 d_D_estimate_62 rfl tw_D_66_70 (by decide) (Nat.le_of_ble_eq_true rfl) (Nat.le_of_ble_eq_true rfl) (Nat.le_of_ble_eq_true rfl) (Nat.le_of_ble_eq_true rfl) (by first | exact hA (by omega) | exact hS (by omega) (by omega))
        · exact absurd h15 (by decide)
      · skip
        refine rd_if_ne (pc := 15) (tgt := 28) d_D_estimate_15 rfl ⟨by omega, by omega⟩ (fun h15 => ?_) (fun h15 => ?_)
        · exact absurd h15 (by decide)
        · skip
          exact rd_throw (pc := 18) (kd := 0) d_D_estimate_18 d_D_estimate_21 d_D_estimate_22 d_D_estimate_24 d_D_estimate_27 rfl tw_D_55_59 (by decide) (Nat.le_of_ble_eq_true rfl) (Nat.le_of_ble_eq_true rfl) (Nat.le_of_ble_eq_true rfl) (Nat.le_of_ble_eq_true rfl) (by first | exact hA (by omega) | exact hS (by omega) (by omega))
  · skip
    refine rd_if_eq (pc := 8) (tgt := 18) d_D_estimate_8 rfl ⟨by omega, by omega⟩ (fun h8 => ?_) (fun h8 => ?_)
    · skip
      exact rd_throw (pc := 18) (kd := 0) d_D_estimate_18 d_D_estimate_21 d_D_estimate_22 d_D_estimate_24 d_D_estimate_27 rfl tw_D_55_59 (by decide) (Nat.le_of_ble_eq_true rfl) (Nat.le_of_ble_eq_true rfl) (Nat.le_of_ble_eq_true rfl) (Nat.le_of_ble_eq_true rfl) (by first | exact hA (by omega) | exact hS (by omega) (by omega))
    · exact absurd h8 (by decide)
set_option maxHeartbeats 4000000 in
set_option maxRecDepth 100000 in
theorem ev_D_strike {k : Int} {M : rd_M} {Q : rd_R → rd_M → Prop} (hI : c_I M) (hk : rd_I k) (hA : ¬ (0 ≤ k ∧ k < M 2 0) → Q (.inr 0) M) (hS : (0 ≤ k ∧ k < M 2 0) → (M 14 k ≠ 0 ∨ M 5 (M 9 (M 10 k)) ≠ 0) → Q (.inr 1) M) (hQ : (0 ≤ k ∧ k < M 2 0) → ¬ (M 14 k ≠ 0 ∨ M 5 (M 9 (M 10 k)) ≠ 0) → Q (.inl none) (rd_up M 14 k 1)) : rd_G x_D_strike 0 [some (.ref 0), some (rd_i k)] [] M 0 Q := by
  have h3 := hI.1
  refine rd_aldn (pc := 0) d_D_strike_0 rfl ?_
  refine rd_getr (pc := 1) d_D_strike_1 fl_D_19 rfl rfl ?_
  refine rd_ildn (pc := 4) d_D_strike_4 rfl ?_
  refine rd_callVi (pc := 5) (n' := 0) [_] d_D_strike_5 ml_D_132 rfl (Nat.le_of_ble_eq_true rfl) (Nat.le_of_ble_eq_true rfl) (Nat.le_of_ble_eq_true rfl) rfl rfl rfl (Nat.le_of_ble_eq_true rfl) (Nat.le_of_ble_eq_true rfl) ?_
  refine ev_C_has hI ⟨by omega, by omega⟩ (fun c5 => ⟨_, rfl, ?_⟩) (fun c5 => ⟨_, rfl, ?_⟩)
  · skip
    refine rd_if_ne (pc := 8) (tgt := 21) d_D_strike_8 rfl ⟨by omega, by omega⟩ (fun h8 => ?_) (fun h8 => ?_)
    · skip
      obtain ⟨k1, k2, k3, k4, k5, _⟩ := hI.claim (k := k) (by omega) (by omega)
      obtain ⟨r1, r2, r3⟩ := hI.risk (r := M 10 k) (by omega) (by omega)
      have hcl := hI.closed (y := M 9 (M 10 k)) (by omega) (by omega)
      refine rd_aldn (pc := 21) d_D_strike_21 rfl ?_
      refine rd_getr (pc := 22) d_D_strike_22 fl_D_19 rfl rfl ?_
      refine rd_getr (pc := 25) d_D_strike_25 fl_D_135 rfl rfl ?_
      refine rd_ildn (pc := 28) d_D_strike_28 rfl ?_
      refine rd_zald (pc := 29) d_D_strike_29 rfl (by omega) (by omega) ?_
      refine rd_if_ne (pc := 30) (tgt := 46) d_D_strike_30 rfl ⟨by omega, by omega⟩ (fun h30 => ?_) (fun h30 => ?_)
      · skip
        exact rd_throw (pc := 46) (kd := 1) d_D_strike_46 d_D_strike_49 d_D_strike_50 d_D_strike_52 d_D_strike_55 rfl tw_D_66_70 (by decide) (Nat.le_of_ble_eq_true rfl) (Nat.le_of_ble_eq_true rfl) (Nat.le_of_ble_eq_true rfl) (Nat.le_of_ble_eq_true rfl) (by first | exact hA (by omega) | exact hS (by omega) (by omega))
      · skip
        refine rd_aldn (pc := 33) d_D_strike_33 rfl ?_
        refine rd_getr (pc := 34) d_D_strike_34 fl_D_39 rfl rfl ?_
        refine rd_aldn (pc := 37) d_D_strike_37 rfl ?_
        refine rd_ildn (pc := 38) d_D_strike_38 rfl ?_
        refine rd_callVi (pc := 39) (n' := 0) [_] d_D_strike_39 ml_D_138 rfl (Nat.le_of_ble_eq_true rfl) (Nat.le_of_ble_eq_true rfl) (Nat.le_of_ble_eq_true rfl) rfl rfl rfl (Nat.le_of_ble_eq_true rfl) (Nat.le_of_ble_eq_true rfl) ?_
        refine ev_D_yearOfClaim hI (by omega) (by omega) ?_
        refine ⟨_, rfl, ?_⟩
        refine rd_zald (pc := 42) d_D_strike_42 rfl (by omega) (by omega) ?_
        refine rd_if_eq (pc := 43) (tgt := 56) d_D_strike_43 rfl ⟨by omega, by omega⟩ (fun h43 => ?_) (fun h43 => ?_)
        · skip
          refine rd_aldn (pc := 56) d_D_strike_56 rfl ?_
          refine rd_getr (pc := 57) d_D_strike_57 fl_D_19 rfl rfl ?_
          refine rd_getr (pc := 60) d_D_strike_60 fl_D_135 rfl rfl ?_
          refine rd_ildn (pc := 63) d_D_strike_63 rfl ?_
          refine rd_iconst (pc := 64) d_D_strike_64 ?_
          refine rd_zast (pc := 65) d_D_strike_65 rfl (by omega) (by omega) (by omega) ?_
          exact rd_vret (pc := 66) d_D_strike_66 rfl (Nat.le_of_ble_eq_true rfl) (hQ (by omega) (by omega))
        · skip
          exact rd_throw (pc := 46) (kd := 1) d_D_strike_46 d_D_strike_49 d_D_strike_50 d_D_strike_52 d_D_strike_55 rfl tw_D_66_70 (by decide) (Nat.le_of_ble_eq_true rfl) (Nat.le_of_ble_eq_true rfl) (Nat.le_of_ble_eq_true rfl) (Nat.le_of_ble_eq_true rfl) (by first | exact hA (by omega) | exact hS (by omega) (by omega))
    · exact absurd h8 (by decide)
  · skip
    refine rd_if_ne (pc := 8) (tgt := 21) d_D_strike_8 rfl ⟨by omega, by omega⟩ (fun h8 => ?_) (fun h8 => ?_)
    · exact absurd h8 (by decide)
    · skip
      exact rd_throw (pc := 11) (kd := 0) d_D_strike_11 d_D_strike_14 d_D_strike_15 d_D_strike_17 d_D_strike_20 rfl tw_D_55_59 (by decide) (Nat.le_of_ble_eq_true rfl) (Nat.le_of_ble_eq_true rfl) (Nat.le_of_ble_eq_true rfl) (Nat.le_of_ble_eq_true rfl) (by first | exact hA (by omega) | exact hS (by omega) (by omega))
set_option maxHeartbeats 4000000 in
set_option maxRecDepth 100000 in
theorem ev_D_year {y b : Int} {M : rd_M} {Q : rd_R → rd_M → Prop} (hI : c_I M) (hy : rd_I y) (hb : 0 ≤ b ∧ b ≤ 1) (hA : ¬ (0 ≤ y ∧ y < 4) → Q (.inr 0) M) (hS : (0 ≤ y ∧ y < 4) → (M 5 y ≠ b) → Q (.inr 1) M) (hQ : (0 ≤ y ∧ y < 4) → ¬ (M 5 y ≠ b) → Q (.inl none) (rd_up M 5 y (1 - b))) : rd_G x_D_year 0 [some (.ref 0), some (rd_i y), some (rd_i b)] [] M 0 Q := by
  refine rd_ildn (pc := 0) d_D_year_0 rfl ?_
  refine rd_iconst (pc := 1) d_D_year_1 ?_
  refine rd_callSi (pc := 2) (n' := 0) [_, _] d_D_year_2 ml_D_47 (Nat.le_of_ble_eq_true rfl) (Nat.le_of_ble_eq_true rfl) (Nat.le_of_ble_eq_true rfl) rfl rfl rfl (Nat.le_of_ble_eq_true rfl) (Nat.le_of_ble_eq_true rfl) ?_
  refine ev_D_isBelow ⟨by omega, by omega⟩ ⟨by omega, by omega⟩ (fun c2 => ⟨_, rfl, ?_⟩) (fun c2 => ⟨_, rfl, ?_⟩)
  · skip
    refine rd_if_ne (pc := 5) (tgt := 18) d_D_year_5 rfl ⟨by omega, by omega⟩ (fun h5 => ?_) (fun h5 => ?_)
    · skip
      have hcl := hI.closed (y := y) (by omega) (by omega)
      refine rd_aldn (pc := 18) d_D_year_18 rfl ?_
      refine rd_getr (pc := 19) d_D_year_19 fl_D_39 rfl rfl ?_
      refine rd_ildn (pc := 22) d_D_year_22 rfl ?_
      refine rd_zald (pc := 23) d_D_year_23 rfl (by omega) (by omega) ?_
      refine rd_ildn (pc := 24) d_D_year_24 rfl ?_
      refine rd_icmp_eq (pc := 25) (tgt := 38) d_D_year_25 rfl ⟨by omega, by omega⟩ ⟨by omega, by omega⟩ (fun h25 => ?_) (fun h25 => ?_)
      · skip
        refine rd_aldn (pc := 38) d_D_year_38 rfl ?_
        refine rd_getr (pc := 39) d_D_year_39 fl_D_39 rfl rfl ?_
        refine rd_ildn (pc := 42) d_D_year_42 rfl ?_
        refine rd_ildn (pc := 43) d_D_year_43 rfl ?_
        refine rd_if_ne (pc := 44) (tgt := 51) d_D_year_44 rfl ⟨by omega, by omega⟩ (fun h44 => ?_) (fun h44 => ?_)
        · skip
          refine rd_iconst (pc := 51) d_D_year_51 ?_
          refine rd_zast (pc := 52) d_D_year_52 rfl (by omega) (by omega) (by omega) ?_
          exact rd_vret (pc := 53) d_D_year_53 rfl (Nat.le_of_ble_eq_true rfl) (by first | (have hb1 : b = 0 := (by omega); have hq := hQ (by omega) (by omega); rw [hb1] at hq; exact hq) | (have hb1 : b = 1 := (by omega); have hq := hQ (by omega) (by omega); rw [hb1] at hq; exact hq))
        · skip
          refine rd_iconst (pc := 47) d_D_year_47 ?_
          refine rd_goto (pc := 48) (tgt := 52) d_D_year_48 rfl ?_
          refine rd_zast (pc := 52) d_D_year_52 rfl (by omega) (by omega) (by omega) ?_
          exact rd_vret (pc := 53) d_D_year_53 rfl (Nat.le_of_ble_eq_true rfl) (by first | (have hb1 : b = 0 := (by omega); have hq := hQ (by omega) (by omega); rw [hb1] at hq; exact hq) | (have hb1 : b = 1 := (by omega); have hq := hQ (by omega) (by omega); rw [hb1] at hq; exact hq))
      · skip
        exact rd_throw (pc := 28) (kd := 1) d_D_year_28 d_D_year_31 d_D_year_32 d_D_year_34 d_D_year_37 rfl tw_D_66_70 (by decide) (Nat.le_of_ble_eq_true rfl) (Nat.le_of_ble_eq_true rfl) (Nat.le_of_ble_eq_true rfl) (Nat.le_of_ble_eq_true rfl) (by first | exact hA (by omega) | exact hS (by omega) (by omega))
    · exact absurd h5 (by decide)
  · skip
    refine rd_if_ne (pc := 5) (tgt := 18) d_D_year_5 rfl ⟨by omega, by omega⟩ (fun h5 => ?_) (fun h5 => ?_)
    · exact absurd h5 (by decide)
    · skip
      exact rd_throw (pc := 8) (kd := 0) d_D_year_8 d_D_year_11 d_D_year_12 d_D_year_14 d_D_year_17 rfl tw_D_55_59 (by decide) (Nat.le_of_ble_eq_true rfl) (Nat.le_of_ble_eq_true rfl) (Nat.le_of_ble_eq_true rfl) (Nat.le_of_ble_eq_true rfl) (by first | exact hA (by omega) | exact hS (by omega) (by omega))
theorem c_fq.low {M M' : rd_M} (h : c_fq M' M) (q : Nat) (h4 : q ≠ 4) (hq : q ≤ 22) : M' q = M q := h q h4 (by omega)
theorem c_fq.d {M M' : rd_M} (h : c_fq M' M) : c_d M' = c_d M := by
  funext q
  unfold c_d
  split <;> exact h.low _ (by decide) (by decide)
theorem c_fq.refl {M : rd_M} : c_fq M M := fun _ _ _ => rfl
theorem c_fq.trans {A B C : rd_M} (h : c_fq A B) (h' : c_fq B C) : c_fq A C := fun q a b => (h q a b).trans (h' q a b)
theorem c_V.B {M : rd_M} {n nt : Nat} {o : Int → Int} {y : Int} (h : c_V M n nt o y) : c_B M n nt o := ⟨h.1, h.2.1, h.2.2.1, h.2.2.2.1, h.2.2.2.2.1⟩
def sp_tot (w p k : Int) : Int := if w = 0 then k else if w = 1 then p else if w = 2 then sp_ratio p k else sp_com p k
set_option maxHeartbeats 4000000 in
set_option maxRecDepth 100000 in
theorem ev_D_kept {k : Int} {n nt : Nat} {o : Int → Int} {M : rd_M} {Q : rd_R → rd_M → Prop} (hB : c_B M n nt o) (hk : rd_I k) (hA : ¬ (0 ≤ k ∧ k < M 2 0) → Q (.inr 0) M) (hQ : (0 ≤ k ∧ k < M 2 0) → (∀ M' Z v, c_fq M' M → sp_Z0 (c_d M) n (M 9 (M 10 k)) (-1) 0 Z → v = sp_runK (c_d M) n nt (M 9 (M 10 k)) Z 5 0 k → (0 ≤ v ∧ v ≤ 1000000000) → Q (.inl (some (rd_i v))) M')) : rd_G x_D_kept 0 [some (.ref 0), some (rd_i k)] [] M 0 Q := by
  have hI := hB.1
  have h2n := hB.2.2.1
  have h3n := hB.2.2.2.1
  have h2 := hI.1
  have h3 := hI.2.1
  refine rd_aldn (pc := 0) d_D_kept_0 rfl ?_
  refine rd_getr (pc := 1) d_D_kept_1 fl_D_19 rfl rfl ?_
  refine rd_ildn (pc := 4) d_D_kept_4 rfl ?_
  refine rd_callVi (pc := 5) (n' := 0) [_] d_D_kept_5 ml_D_132 rfl (Nat.le_of_ble_eq_true rfl) (Nat.le_of_ble_eq_true rfl) (Nat.le_of_ble_eq_true rfl) rfl rfl rfl (Nat.le_of_ble_eq_true rfl) (Nat.le_of_ble_eq_true rfl) ?_
  refine ev_C_has hI ⟨by omega, by omega⟩ (fun c5 => ⟨_, rfl, ?_⟩) (fun c5 => ⟨_, rfl, ?_⟩)
  · skip
    refine rd_if_ne (pc := 8) (tgt := 21) d_D_kept_8 rfl ⟨by omega, by omega⟩ (fun h8 => ?_) (fun h8 => ?_)
    · skip
      obtain ⟨k1, k2, k3, k4, k5, _⟩ := hI.claim (k := k) (by omega) (by omega)
      obtain ⟨r1, r2, r3⟩ := hI.risk (r := M 10 k) (by omega) (by omega)
      have hcl := hI.closed (y := M 9 (M 10 k)) (by omega) (by omega)
      refine rd_aldn (pc := 21) d_D_kept_21 rfl ?_
      refine rd_getr (pc := 22) d_D_kept_22 fl_D_35 rfl rfl ?_
      refine rd_aldn (pc := 25) d_D_kept_25 rfl ?_
      refine rd_ildn (pc := 26) d_D_kept_26 rfl ?_
      refine rd_callVi (pc := 27) (n' := 0) [_] d_D_kept_27 ml_D_138 rfl (Nat.le_of_ble_eq_true rfl) (Nat.le_of_ble_eq_true rfl) (Nat.le_of_ble_eq_true rfl) rfl rfl rfl (Nat.le_of_ble_eq_true rfl) (Nat.le_of_ble_eq_true rfl) ?_
      refine ev_D_yearOfClaim hI (by omega) (by omega) ?_
      refine ⟨_, rfl, ?_⟩
      refine rd_callVv (pc := 30) (n' := 0) [_] d_D_kept_30 ml_D_154 rfl (Nat.le_of_ble_eq_true rfl) (Nat.le_of_ble_eq_true rfl) (Nat.le_of_ble_eq_true rfl) rfl rfl rfl (Nat.le_of_ble_eq_true rfl) (Nat.le_of_ble_eq_true rfl) ?_
      refine ev_S_workOut hB ⟨by omega, by omega⟩ (fun M2 Z hV2 hF2 hZ2 hz2 => ?_)
      refine ⟨rfl, ?_⟩
      refine rd_aldn (pc := 33) d_D_kept_33 rfl ?_
      refine rd_getr (pc := 34) d_D_kept_34 fl_D_35 rfl rfl ?_
      refine rd_getr (pc := 37) d_D_kept_37 fl_D_158 rfl rfl ?_
      refine rd_ildn (pc := 40) d_D_kept_40 rfl ?_
      refine rd_iald (pc := 41) d_D_kept_41 rfl (by omega) (by omega) ?_
      exact rd_iret (pc := 42) d_D_kept_42 rfl (Nat.le_of_ble_eq_true rfl) (hQ (by omega) M2 Z _ hF2 hZ2 (by rw [← hz2]; rfl) (hV2.2.2.2.2.2.1.1 k (by omega) (by omega)))
    · exact absurd h8 (by decide)
  · skip
    refine rd_if_ne (pc := 8) (tgt := 21) d_D_kept_8 rfl ⟨by omega, by omega⟩ (fun h8 => ?_) (fun h8 => ?_)
    · exact absurd h8 (by decide)
    · skip
      exact rd_throw (pc := 11) (kd := 0) d_D_kept_11 d_D_kept_14 d_D_kept_15 d_D_kept_17 d_D_kept_20 rfl tw_D_55_59 (by decide) (Nat.le_of_ble_eq_true rfl) (Nat.le_of_ble_eq_true rfl) (Nat.le_of_ble_eq_true rfl) (Nat.le_of_ble_eq_true rfl) (hA (by omega))
set_option maxHeartbeats 4000000 in
set_option maxRecDepth 100000 in
theorem ev_D_ceded {k t : Int} {n nt : Nat} {o : Int → Int} {M : rd_M} {Q : rd_R → rd_M → Prop} (hB : c_B M n nt o) (hk : rd_I k) (ht : rd_I t) (hA : ¬ ((0 ≤ k ∧ k < M 2 0) ∧ (0 ≤ t ∧ t < M 3 0)) → Q (.inr 0) M) (hQ : ((0 ≤ k ∧ k < M 2 0) ∧ (0 ≤ t ∧ t < M 3 0)) → (∀ M' Z v, c_fq M' M → sp_Z0 (c_d M) n (M 9 (M 10 k)) (-1) 0 Z → v = sp_runK (c_d M) n nt (M 9 (M 10 k)) Z 5 1 (t * 40 + k) → (0 ≤ v ∧ v ≤ 1000000000) → Q (.inl (some (rd_i v))) M')) : rd_G x_D_ceded 0 [some (.ref 0), some (rd_i k), some (rd_i t)] [] M 0 Q := by
  have hI := hB.1
  have h2n := hB.2.2.1
  have h3n := hB.2.2.2.1
  have h2 := hI.1
  have h3 := hI.2.1
  refine rd_aldn (pc := 0) d_D_ceded_0 rfl ?_
  refine rd_getr (pc := 1) d_D_ceded_1 fl_D_19 rfl rfl ?_
  refine rd_ildn (pc := 4) d_D_ceded_4 rfl ?_
  refine rd_callVi (pc := 5) (n' := 0) [_] d_D_ceded_5 ml_D_132 rfl (Nat.le_of_ble_eq_true rfl) (Nat.le_of_ble_eq_true rfl) (Nat.le_of_ble_eq_true rfl) rfl rfl rfl (Nat.le_of_ble_eq_true rfl) (Nat.le_of_ble_eq_true rfl) ?_
  refine ev_C_has hI ⟨by omega, by omega⟩ (fun c5 => ⟨_, rfl, ?_⟩) (fun c5 => ⟨_, rfl, ?_⟩)
  · skip
    refine rd_if_eq (pc := 8) (tgt := 22) d_D_ceded_8 rfl ⟨by omega, by omega⟩ (fun h8 => ?_) (fun h8 => ?_)
    · exact absurd h8 (by decide)
    · skip
      refine rd_aldn (pc := 11) d_D_ceded_11 rfl ?_
      refine rd_getr (pc := 12) d_D_ceded_12 fl_D_26 rfl rfl ?_
      refine rd_ildn (pc := 15) d_D_ceded_15 rfl ?_
      refine rd_callVi (pc := 16) (n' := 0) [_] d_D_ceded_16 ml_D_107 rfl (Nat.le_of_ble_eq_true rfl) (Nat.le_of_ble_eq_true rfl) (Nat.le_of_ble_eq_true rfl) rfl rfl rfl (Nat.le_of_ble_eq_true rfl) (Nat.le_of_ble_eq_true rfl) ?_
      refine ev_T_has hI ⟨by omega, by omega⟩ (fun c16 => ⟨_, rfl, ?_⟩) (fun c16 => ⟨_, rfl, ?_⟩)
      · skip
        refine rd_if_ne (pc := 19) (tgt := 32) d_D_ceded_19 rfl ⟨by omega, by omega⟩ (fun h19 => ?_) (fun h19 => ?_)
        · skip
          obtain ⟨k1, k2, k3, k4, k5, _⟩ := hI.claim (k := k) (by omega) (by omega)
          obtain ⟨r1, r2, r3⟩ := hI.risk (r := M 10 k) (by omega) (by omega)
          have hcl := hI.closed (y := M 9 (M 10 k)) (by omega) (by omega)
          refine rd_aldn (pc := 32) d_D_ceded_32 rfl ?_
          refine rd_getr (pc := 33) d_D_ceded_33 fl_D_35 rfl rfl ?_
          refine rd_aldn (pc := 36) d_D_ceded_36 rfl ?_
          refine rd_ildn (pc := 37) d_D_ceded_37 rfl ?_
          refine rd_callVi (pc := 38) (n' := 0) [_] d_D_ceded_38 ml_D_138 rfl (Nat.le_of_ble_eq_true rfl) (Nat.le_of_ble_eq_true rfl) (Nat.le_of_ble_eq_true rfl) rfl rfl rfl (Nat.le_of_ble_eq_true rfl) (Nat.le_of_ble_eq_true rfl) ?_
          refine ev_D_yearOfClaim hI (by omega) (by omega) ?_
          refine ⟨_, rfl, ?_⟩
          refine rd_callVv (pc := 41) (n' := 0) [_] d_D_ceded_41 ml_D_154 rfl (Nat.le_of_ble_eq_true rfl) (Nat.le_of_ble_eq_true rfl) (Nat.le_of_ble_eq_true rfl) rfl rfl rfl (Nat.le_of_ble_eq_true rfl) (Nat.le_of_ble_eq_true rfl) ?_
          refine ev_S_workOut hB ⟨by omega, by omega⟩ (fun M2 Z hV2 hF2 hZ2 hz2 => ?_)
          refine ⟨rfl, ?_⟩
          refine rd_aldn (pc := 44) d_D_ceded_44 rfl ?_
          refine rd_getr (pc := 45) d_D_ceded_45 fl_D_35 rfl rfl ?_
          refine rd_getr (pc := 48) d_D_ceded_48 fl_D_163 rfl rfl ?_
          refine rd_ildn (pc := 51) d_D_ceded_51 rfl ?_
          refine rd_bipush (pc := 52) d_D_ceded_52 rfl ?_
          refine rd_imul (pc := 54) d_D_ceded_54 ?_
          refine rd_ildn (pc := 55) d_D_ceded_55 rfl ?_
          refine rd_iadd (pc := 56) d_D_ceded_56 ?_
          refine rd_iald (pc := 57) d_D_ceded_57 rfl (by omega) (by omega) ?_
          exact rd_iret (pc := 58) d_D_ceded_58 rfl (Nat.le_of_ble_eq_true rfl) (hQ (by omega) M2 Z _ hF2 hZ2 (by rw [← hz2]; rfl) (hV2.2.2.2.2.2.1.2.1 (t * 40 + k) (by omega) (by omega)))
        · exact absurd h19 (by decide)
      · skip
        refine rd_if_ne (pc := 19) (tgt := 32) d_D_ceded_19 rfl ⟨by omega, by omega⟩ (fun h19 => ?_) (fun h19 => ?_)
        · exact absurd h19 (by decide)
        · skip
          exact rd_throw (pc := 22) (kd := 0) d_D_ceded_22 d_D_ceded_25 d_D_ceded_26 d_D_ceded_28 d_D_ceded_31 rfl tw_D_55_59 (by decide) (Nat.le_of_ble_eq_true rfl) (Nat.le_of_ble_eq_true rfl) (Nat.le_of_ble_eq_true rfl) (Nat.le_of_ble_eq_true rfl) (hA (by omega))
  · skip
    refine rd_if_eq (pc := 8) (tgt := 22) d_D_ceded_8 rfl ⟨by omega, by omega⟩ (fun h8 => ?_) (fun h8 => ?_)
    · skip
      exact rd_throw (pc := 22) (kd := 0) d_D_ceded_22 d_D_ceded_25 d_D_ceded_26 d_D_ceded_28 d_D_ceded_31 rfl tw_D_55_59 (by decide) (Nat.le_of_ble_eq_true rfl) (Nat.le_of_ble_eq_true rfl) (Nat.le_of_ble_eq_true rfl) (Nat.le_of_ble_eq_true rfl) (hA (by omega))
    · exact absurd h8 (by decide)
set_option maxHeartbeats 4000000 in
set_option maxRecDepth 100000 in
theorem ev_D_left {t : Int} {n nt : Nat} {o : Int → Int} {M : rd_M} {Q : rd_R → rd_M → Prop} (hB : c_B M n nt o) (ht : rd_I t) (hA : ¬ ((0 ≤ t ∧ t < M 3 0) ∧ (M 16 t = 2 ∨ M 16 t = 3)) → Q (.inr 0) M) (hQ : ((0 ≤ t ∧ t < M 3 0) ∧ (M 16 t = 2 ∨ M 16 t = 3)) → (∀ M' Z v, c_fq M' M → sp_Z0 (c_d M) n (M 17 t) (-1) 0 Z → v = sp_lim (M 19 t) (M 20 t) - sp_runK (c_d M) n nt (M 17 t) Z 5 2 t → Q (.inl (some (rd_l v))) M')) : rd_G x_D_left 0 [some (.ref 0), some (rd_i t)] [] M 0 Q := by
  have hI := hB.1
  have h2n := hB.2.2.1
  have h3n := hB.2.2.2.1
  have h2 := hI.1
  have h3 := hI.2.1
  refine rd_aldn (pc := 0) d_D_left_0 rfl ?_
  refine rd_getr (pc := 1) d_D_left_1 fl_D_26 rfl rfl ?_
  refine rd_ildn (pc := 4) d_D_left_4 rfl ?_
  refine rd_callVi (pc := 5) (n' := 0) [_] d_D_left_5 ml_D_107 rfl (Nat.le_of_ble_eq_true rfl) (Nat.le_of_ble_eq_true rfl) (Nat.le_of_ble_eq_true rfl) rfl rfl rfl (Nat.le_of_ble_eq_true rfl) (Nat.le_of_ble_eq_true rfl) ?_
  refine ev_T_has hI ⟨by omega, by omega⟩ (fun c5 => ⟨_, rfl, ?_⟩) (fun c5 => ⟨_, rfl, ?_⟩)
  · skip
    refine rd_if_eq (pc := 8) (tgt := 22) d_D_left_8 rfl ⟨by omega, by omega⟩ (fun h8 => ?_) (fun h8 => ?_)
    · exact absurd h8 (by decide)
    · skip
      obtain ⟨tk, ty, ta, tb, tc, td⟩ := hI.treaty (t := t) (by omega) (by omega)
      refine rd_aldn (pc := 11) d_D_left_11 rfl ?_
      refine rd_getr (pc := 12) d_D_left_12 fl_D_26 rfl rfl ?_
      refine rd_ildn (pc := 15) d_D_left_15 rfl ?_
      refine rd_callVi (pc := 16) (n' := 0) [_] d_D_left_16 ml_D_166 rfl (Nat.le_of_ble_eq_true rfl) (Nat.le_of_ble_eq_true rfl) (Nat.le_of_ble_eq_true rfl) rfl rfl rfl (Nat.le_of_ble_eq_true rfl) (Nat.le_of_ble_eq_true rfl) ?_
      refine ev_T_isExcess hI (by omega) (by omega) (fun c16 => ⟨_, rfl, ?_⟩) (fun c16 => ⟨_, rfl, ?_⟩)
      · skip
        refine rd_if_ne (pc := 19) (tgt := 32) d_D_left_19 rfl ⟨by omega, by omega⟩ (fun h19 => ?_) (fun h19 => ?_)
        · skip
          refine rd_aldn (pc := 32) d_D_left_32 rfl ?_
          refine rd_getr (pc := 33) d_D_left_33 fl_D_35 rfl rfl ?_
          refine rd_aldn (pc := 36) d_D_left_36 rfl ?_
          refine rd_getr (pc := 37) d_D_left_37 fl_D_26 rfl rfl ?_
          refine rd_getr (pc := 40) d_D_left_40 fl_D_113 rfl rfl ?_
          refine rd_ildn (pc := 43) d_D_left_43 rfl ?_
          refine rd_iald (pc := 44) d_D_left_44 rfl (by omega) (by omega) ?_
          refine rd_callVv (pc := 45) (n' := 0) [_] d_D_left_45 ml_D_154 rfl (Nat.le_of_ble_eq_true rfl) (Nat.le_of_ble_eq_true rfl) (Nat.le_of_ble_eq_true rfl) rfl rfl rfl (Nat.le_of_ble_eq_true rfl) (Nat.le_of_ble_eq_true rfl) ?_
          refine ev_S_workOut hB ⟨by omega, by omega⟩ (fun M2 Z hV2 hF2 hZ2 hz2 => ?_)
          refine ⟨rfl, ?_⟩
          have tk2 := hV2.2.2.2.2.2.1.2.2.1 t (by omega) (by omega)
          have eZ2 : M2 26 t = sp_runK (c_d M) n nt (M 17 t) Z 5 2 t := by rw [← hz2]; rfl
          have eZ5 : M2 29 t = sp_runK (c_d M) n nt (M 17 t) Z 5 5 t := by rw [← hz2]; rfl
          have b26 : 0 ≤ M2 26 t ∧ M2 26 t ≤ 40000000000 := tk2.1
          have b29 : 0 ≤ M2 29 t ∧ M2 29 t ≤ 12000000000 := tk2.2
          have f16 : M2 16 = M 16 := hF2.low 16 (by decide) (by decide)
          have f19 : M2 19 = M 19 := hF2.low 19 (by decide) (by decide)
          have f20 : M2 20 = M 20 := hF2.low 20 (by decide) (by decide)
          have f22 : M2 22 = M 22 := hF2.low 22 (by decide) (by decide)
          refine rd_aldn (pc := 48) d_D_left_48 rfl ?_
          refine rd_getr (pc := 49) d_D_left_49 fl_D_26 rfl rfl ?_
          refine rd_ildn (pc := 52) d_D_left_52 rfl ?_
          refine rd_callVl (pc := 53) (n' := 0) [_] d_D_left_53 ml_D_171 rfl (Nat.le_of_ble_eq_true rfl) (Nat.le_of_ble_eq_true rfl) (Nat.le_of_ble_eq_true rfl) rfl rfl rfl (Nat.le_of_ble_eq_true rfl) (Nat.le_of_ble_eq_true rfl) ?_
          refine ev_T_limitOf (by omega) (by omega) ?_
          refine ⟨_, rfl, ?_⟩
          refine rd_aldn (pc := 56) d_D_left_56 rfl ?_
          refine rd_getr (pc := 57) d_D_left_57 fl_D_35 rfl rfl ?_
          refine rd_getr (pc := 60) d_D_left_60 fl_D_175 rfl rfl ?_
          refine rd_ildn (pc := 63) d_D_left_63 rfl ?_
          refine rd_lald (pc := 64) d_D_left_64 rfl (by omega) (by omega) ?_
          refine rd_lsub (pc := 65) d_D_left_65 ?_
          exact rd_lret (pc := 66) d_D_left_66 rfl (Nat.le_of_ble_eq_true rfl) (hQ (by omega) M2 Z _ hF2 hZ2 (by rw [f19, f20, eZ2]))
        · exact absurd h19 (by decide)
      · skip
        refine rd_if_ne (pc := 19) (tgt := 32) d_D_left_19 rfl ⟨by omega, by omega⟩ (fun h19 => ?_) (fun h19 => ?_)
        · exact absurd h19 (by decide)
        · skip
          exact rd_throw (pc := 22) (kd := 0) d_D_left_22 d_D_left_25 d_D_left_26 d_D_left_28 d_D_left_31 rfl tw_D_55_59 (by decide) (Nat.le_of_ble_eq_true rfl) (Nat.le_of_ble_eq_true rfl) (Nat.le_of_ble_eq_true rfl) (Nat.le_of_ble_eq_true rfl) (hA (by omega))
  · skip
    refine rd_if_eq (pc := 8) (tgt := 22) d_D_left_8 rfl ⟨by omega, by omega⟩ (fun h8 => ?_) (fun h8 => ?_)
    · skip
      exact rd_throw (pc := 22) (kd := 0) d_D_left_22 d_D_left_25 d_D_left_26 d_D_left_28 d_D_left_31 rfl tw_D_55_59 (by decide) (Nat.le_of_ble_eq_true rfl) (Nat.le_of_ble_eq_true rfl) (Nat.le_of_ble_eq_true rfl) (Nat.le_of_ble_eq_true rfl) (hA (by omega))
    · exact absurd h8 (by decide)
set_option maxHeartbeats 4000000 in
set_option maxRecDepth 100000 in
theorem ev_D_window {t e : Int} {n nt : Nat} {o : Int → Int} {M : rd_M} {Q : rd_R → rd_M → Prop} (hB : c_B M n nt o) (ht : rd_I t) (he : rd_I e) (hA : ¬ ((0 ≤ t ∧ t < M 3 0) ∧ M 16 t = 3 ∧ (1 ≤ e ∧ e ≤ 9)) → Q (.inr 0) M) (hQ : ((0 ≤ t ∧ t < M 3 0) ∧ M 16 t = 3 ∧ (1 ≤ e ∧ e ≤ 9)) → (∀ M' Z v, c_fq M' M → sp_Z0 (c_d M) n (M 17 t) (-1) 0 Z → v = sp_runK (c_d M) n nt (M 17 t) Z 5 3 (t * 10 + e) → (-1 ≤ v ∧ v ≤ 100000) → Q (.inl (some (rd_i v))) M')) : rd_G x_D_window 0 [some (.ref 0), some (rd_i t), some (rd_i e)] [] M 0 Q := by
  have hI := hB.1
  have h2n := hB.2.2.1
  have h3n := hB.2.2.2.1
  have h2 := hI.1
  have h3 := hI.2.1
  refine rd_aldn (pc := 0) d_D_window_0 rfl ?_
  refine rd_getr (pc := 1) d_D_window_1 fl_D_26 rfl rfl ?_
  refine rd_ildn (pc := 4) d_D_window_4 rfl ?_
  refine rd_callVi (pc := 5) (n' := 0) [_] d_D_window_5 ml_D_107 rfl (Nat.le_of_ble_eq_true rfl) (Nat.le_of_ble_eq_true rfl) (Nat.le_of_ble_eq_true rfl) rfl rfl rfl (Nat.le_of_ble_eq_true rfl) (Nat.le_of_ble_eq_true rfl) ?_
  refine ev_T_has hI ⟨by omega, by omega⟩ (fun c5 => ⟨_, rfl, ?_⟩) (fun c5 => ⟨_, rfl, ?_⟩)
  · skip
    refine rd_if_eq (pc := 8) (tgt := 33) d_D_window_8 rfl ⟨by omega, by omega⟩ (fun h8 => ?_) (fun h8 => ?_)
    · exact absurd h8 (by decide)
    · skip
      obtain ⟨tk, ty, ta, tb, tc, td⟩ := hI.treaty (t := t) (by omega) (by omega)
      refine rd_aldn (pc := 11) d_D_window_11 rfl ?_
      refine rd_getr (pc := 12) d_D_window_12 fl_D_26 rfl rfl ?_
      refine rd_getr (pc := 15) d_D_window_15 fl_D_178 rfl rfl ?_
      refine rd_ildn (pc := 18) d_D_window_18 rfl ?_
      refine rd_iald (pc := 19) d_D_window_19 rfl (by omega) (by omega) ?_
      refine rd_iconst (pc := 20) d_D_window_20 ?_
      refine rd_icmp_ne (pc := 21) (tgt := 33) d_D_window_21 rfl ⟨by omega, by omega⟩ ⟨by omega, by omega⟩ (fun h21 => ?_) (fun h21 => ?_)
      · skip
        exact rd_throw (pc := 33) (kd := 0) d_D_window_33 d_D_window_36 d_D_window_37 d_D_window_39 d_D_window_42 rfl tw_D_55_59 (by decide) (Nat.le_of_ble_eq_true rfl) (Nat.le_of_ble_eq_true rfl) (Nat.le_of_ble_eq_true rfl) (Nat.le_of_ble_eq_true rfl) (hA (by omega))
      · skip
        refine rd_ildn (pc := 24) d_D_window_24 rfl ?_
        refine rd_bipush (pc := 25) d_D_window_25 rfl ?_
        refine rd_callSi (pc := 27) (n' := 0) [_, _] d_D_window_27 ml_D_52 (Nat.le_of_ble_eq_true rfl) (Nat.le_of_ble_eq_true rfl) (Nat.le_of_ble_eq_true rfl) rfl rfl rfl (Nat.le_of_ble_eq_true rfl) (Nat.le_of_ble_eq_true rfl) ?_
        refine ev_D_isFromOne ⟨by omega, by omega⟩ ⟨by omega, by omega⟩ (fun c27 => ⟨_, rfl, ?_⟩) (fun c27 => ⟨_, rfl, ?_⟩)
        · skip
          refine rd_if_ne (pc := 30) (tgt := 43) d_D_window_30 rfl ⟨by omega, by omega⟩ (fun h30 => ?_) (fun h30 => ?_)
          · skip
            refine rd_aldn (pc := 43) d_D_window_43 rfl ?_
            refine rd_getr (pc := 44) d_D_window_44 fl_D_35 rfl rfl ?_
            refine rd_aldn (pc := 47) d_D_window_47 rfl ?_
            refine rd_getr (pc := 48) d_D_window_48 fl_D_26 rfl rfl ?_
            refine rd_getr (pc := 51) d_D_window_51 fl_D_113 rfl rfl ?_
            refine rd_ildn (pc := 54) d_D_window_54 rfl ?_
            refine rd_iald (pc := 55) d_D_window_55 rfl (by omega) (by omega) ?_
            refine rd_callVv (pc := 56) (n' := 0) [_] d_D_window_56 ml_D_154 rfl (Nat.le_of_ble_eq_true rfl) (Nat.le_of_ble_eq_true rfl) (Nat.le_of_ble_eq_true rfl) rfl rfl rfl (Nat.le_of_ble_eq_true rfl) (Nat.le_of_ble_eq_true rfl) ?_
            refine ev_S_workOut hB ⟨by omega, by omega⟩ (fun M2 Z hV2 hF2 hZ2 hz2 => ?_)
            refine ⟨rfl, ?_⟩
            refine rd_aldn (pc := 59) d_D_window_59 rfl ?_
            refine rd_getr (pc := 60) d_D_window_60 fl_D_35 rfl rfl ?_
            refine rd_getr (pc := 63) d_D_window_63 fl_D_183 rfl rfl ?_
            refine rd_ildn (pc := 66) d_D_window_66 rfl ?_
            refine rd_bipush (pc := 67) d_D_window_67 rfl ?_
            refine rd_imul (pc := 69) d_D_window_69 ?_
            refine rd_ildn (pc := 70) d_D_window_70 rfl ?_
            refine rd_iadd (pc := 71) d_D_window_71 ?_
            refine rd_iald (pc := 72) d_D_window_72 rfl (by omega) (by omega) ?_
            exact rd_iret (pc := 73) d_D_window_73 rfl (Nat.le_of_ble_eq_true rfl) (hQ (by omega) M2 Z _ hF2 hZ2 (by rw [← hz2]; rfl) (hV2.2.2.2.2.2.1.2.2.2.1 (t * 10 + e) (by omega) (by omega)))
          · exact absurd h30 (by decide)
        · skip
          refine rd_if_ne (pc := 30) (tgt := 43) d_D_window_30 rfl ⟨by omega, by omega⟩ (fun h30 => ?_) (fun h30 => ?_)
          · exact absurd h30 (by decide)
          · skip
            exact rd_throw (pc := 33) (kd := 0) d_D_window_33 d_D_window_36 d_D_window_37 d_D_window_39 d_D_window_42 rfl tw_D_55_59 (by decide) (Nat.le_of_ble_eq_true rfl) (Nat.le_of_ble_eq_true rfl) (Nat.le_of_ble_eq_true rfl) (Nat.le_of_ble_eq_true rfl) (hA (by omega))
  · skip
    refine rd_if_eq (pc := 8) (tgt := 33) d_D_window_8 rfl ⟨by omega, by omega⟩ (fun h8 => ?_) (fun h8 => ?_)
    · skip
      exact rd_throw (pc := 33) (kd := 0) d_D_window_33 d_D_window_36 d_D_window_37 d_D_window_39 d_D_window_42 rfl tw_D_55_59 (by decide) (Nat.le_of_ble_eq_true rfl) (Nat.le_of_ble_eq_true rfl) (Nat.le_of_ble_eq_true rfl) (Nat.le_of_ble_eq_true rfl) (hA (by omega))
    · exact absurd h8 (by decide)
set_option maxHeartbeats 4000000 in
set_option maxRecDepth 100000 in
theorem ev_D_total {t w : Int} {n nt : Nat} {o : Int → Int} {M : rd_M} {Q : rd_R → rd_M → Prop} (hB : c_B M n nt o) (ht : rd_I t) (hw : rd_I w) (hA : ¬ ((0 ≤ t ∧ t < M 3 0) ∧ (0 ≤ w ∧ w ≤ 3)) → Q (.inr 0) M) (hQ : ((0 ≤ t ∧ t < M 3 0) ∧ (0 ≤ w ∧ w ≤ 3)) → (∀ M' Z v, c_fq M' M → sp_Z0 (c_d M) n (M 17 t) (-1) 0 Z → v = sp_tot w (sp_runK (c_d M) n nt (M 17 t) Z 5 5 t) (sp_runK (c_d M) n nt (M 17 t) Z 5 2 t) → Q (.inl (some (rd_l v))) M')) : rd_G x_D_total 0 [some (.ref 0), some (rd_i t), some (rd_i w)] [] M 0 Q := by
  have hI := hB.1
  have h2n := hB.2.2.1
  have h3n := hB.2.2.2.1
  have h2 := hI.1
  have h3 := hI.2.1
  refine rd_aldn (pc := 0) d_D_total_0 rfl ?_
  refine rd_getr (pc := 1) d_D_total_1 fl_D_26 rfl rfl ?_
  refine rd_ildn (pc := 4) d_D_total_4 rfl ?_
  refine rd_callVi (pc := 5) (n' := 0) [_] d_D_total_5 ml_D_107 rfl (Nat.le_of_ble_eq_true rfl) (Nat.le_of_ble_eq_true rfl) (Nat.le_of_ble_eq_true rfl) rfl rfl rfl (Nat.le_of_ble_eq_true rfl) (Nat.le_of_ble_eq_true rfl) ?_
  refine ev_T_has hI ⟨by omega, by omega⟩ (fun c5 => ⟨_, rfl, ?_⟩) (fun c5 => ⟨_, rfl, ?_⟩)
  · skip
    refine rd_if_eq (pc := 8) (tgt := 20) d_D_total_8 rfl ⟨by omega, by omega⟩ (fun h8 => ?_) (fun h8 => ?_)
    · exact absurd h8 (by decide)
    · skip
      refine rd_ildn (pc := 11) d_D_total_11 rfl ?_
      refine rd_if_lt (pc := 12) (tgt := 20) d_D_total_12 rfl ⟨by omega, by omega⟩ (fun h12 => ?_) (fun h12 => ?_)
      · skip
        exact rd_throw (pc := 20) (kd := 0) d_D_total_20 d_D_total_23 d_D_total_24 d_D_total_26 d_D_total_29 rfl tw_D_55_59 (by decide) (Nat.le_of_ble_eq_true rfl) (Nat.le_of_ble_eq_true rfl) (Nat.le_of_ble_eq_true rfl) (Nat.le_of_ble_eq_true rfl) (hA (by omega))
      · skip
        refine rd_ildn (pc := 15) d_D_total_15 rfl ?_
        refine rd_iconst (pc := 16) d_D_total_16 ?_
        refine rd_icmp_le (pc := 17) (tgt := 30) d_D_total_17 rfl ⟨by omega, by omega⟩ ⟨by omega, by omega⟩ (fun h17 => ?_) (fun h17 => ?_)
        · skip
          obtain ⟨tk, ty, ta, tb, tc, td⟩ := hI.treaty (t := t) (by omega) (by omega)
          refine rd_aldn (pc := 30) d_D_total_30 rfl ?_
          refine rd_getr (pc := 31) d_D_total_31 fl_D_35 rfl rfl ?_
          refine rd_aldn (pc := 34) d_D_total_34 rfl ?_
          refine rd_getr (pc := 35) d_D_total_35 fl_D_26 rfl rfl ?_
          refine rd_getr (pc := 38) d_D_total_38 fl_D_113 rfl rfl ?_
          refine rd_ildn (pc := 41) d_D_total_41 rfl ?_
          refine rd_iald (pc := 42) d_D_total_42 rfl (by omega) (by omega) ?_
          refine rd_callVv (pc := 43) (n' := 0) [_] d_D_total_43 ml_D_154 rfl (Nat.le_of_ble_eq_true rfl) (Nat.le_of_ble_eq_true rfl) (Nat.le_of_ble_eq_true rfl) rfl rfl rfl (Nat.le_of_ble_eq_true rfl) (Nat.le_of_ble_eq_true rfl) ?_
          refine ev_S_workOut hB ⟨by omega, by omega⟩ (fun M2 Z hV2 hF2 hZ2 hz2 => ?_)
          refine ⟨rfl, ?_⟩
          have tk2 := hV2.2.2.2.2.2.1.2.2.1 t (by omega) (by omega)
          have eZ2 : M2 26 t = sp_runK (c_d M) n nt (M 17 t) Z 5 2 t := by rw [← hz2]; rfl
          have eZ5 : M2 29 t = sp_runK (c_d M) n nt (M 17 t) Z 5 5 t := by rw [← hz2]; rfl
          have b26 : 0 ≤ M2 26 t ∧ M2 26 t ≤ 40000000000 := tk2.1
          have b29 : 0 ≤ M2 29 t ∧ M2 29 t ≤ 12000000000 := tk2.2
          have f16 : M2 16 = M 16 := hF2.low 16 (by decide) (by decide)
          have f19 : M2 19 = M 19 := hF2.low 19 (by decide) (by decide)
          have f20 : M2 20 = M 20 := hF2.low 20 (by decide) (by decide)
          have f22 : M2 22 = M 22 := hF2.low 22 (by decide) (by decide)
          refine rd_ildn (pc := 46) d_D_total_46 rfl ?_
          by_cases q47_0 : w = 0
          · skip
            refine rd_tswI (pc := 47) (c := 0) (off := 25) (tgt := 72) d_D_total_47 q47_0 rfl (by decide) (by decide) rfl rfl ?_
            refine rd_aldn (pc := 72) d_D_total_72 rfl ?_
            refine rd_getr (pc := 73) d_D_total_73 fl_D_35 rfl rfl ?_
            refine rd_getr (pc := 76) d_D_total_76 fl_D_175 rfl rfl ?_
            refine rd_ildn (pc := 79) d_D_total_79 rfl ?_
            refine rd_lald (pc := 80) d_D_total_80 rfl (by omega) (by omega) ?_
            exact rd_lret (pc := 81) d_D_total_81 rfl (Nat.le_of_ble_eq_true rfl) (hQ (by omega) M2 Z _ hF2 hZ2 (by rw [← eZ2, ← eZ5]; unfold sp_tot; rw [if_pos (by omega)]))
          by_cases q47_1 : w = 1
          · skip
            refine rd_tswI (pc := 47) (c := 1) (off := 35) (tgt := 82) d_D_total_47 q47_1 rfl (by decide) (by decide) rfl rfl ?_
            refine rd_aldn (pc := 82) d_D_total_82 rfl ?_
            refine rd_getr (pc := 83) d_D_total_83 fl_D_35 rfl rfl ?_
            refine rd_getr (pc := 86) d_D_total_86 fl_D_188 rfl rfl ?_
            refine rd_ildn (pc := 89) d_D_total_89 rfl ?_
            refine rd_lald (pc := 90) d_D_total_90 rfl (by omega) (by omega) ?_
            exact rd_lret (pc := 91) d_D_total_91 rfl (Nat.le_of_ble_eq_true rfl) (hQ (by omega) M2 Z _ hF2 hZ2 (by rw [← eZ2, ← eZ5]; unfold sp_tot; rw [if_neg (by omega), if_pos (by omega)]))
          by_cases q47_2 : w = 2
          · skip
            refine rd_tswI (pc := 47) (c := 2) (off := 45) (tgt := 92) d_D_total_47 q47_2 rfl (by decide) (by decide) rfl rfl ?_
            refine rd_aldn (pc := 92) d_D_total_92 rfl ?_
            refine rd_getr (pc := 93) d_D_total_93 fl_D_35 rfl rfl ?_
            refine rd_ildn (pc := 96) d_D_total_96 rfl ?_
            refine rd_callVl (pc := 97) (n' := 0) [_] d_D_total_97 ml_D_191 rfl (Nat.le_of_ble_eq_true rfl) (Nat.le_of_ble_eq_true rfl) (Nat.le_of_ble_eq_true rfl) rfl rfl rfl (Nat.le_of_ble_eq_true rfl) (Nat.le_of_ble_eq_true rfl) ?_
            refine ev_S_ratioOf (by omega) (by omega) b26 b29 ?_
            refine ⟨_, rfl, ?_⟩
            exact rd_lret (pc := 100) d_D_total_100 rfl (Nat.le_of_ble_eq_true rfl) (hQ (by omega) M2 Z _ hF2 hZ2 (by rw [← eZ2, ← eZ5]; unfold sp_tot; rw [if_neg (by omega), if_neg (by omega), if_pos (by omega)]))
          refine rd_tswO (pc := 47) (tgt := 101) d_D_total_47 ⟨by omega, by omega⟩ (by omega) rfl ?_
          refine rd_aldn (pc := 101) d_D_total_101 rfl ?_
          refine rd_getr (pc := 102) d_D_total_102 fl_D_35 rfl rfl ?_
          refine rd_ildn (pc := 105) d_D_total_105 rfl ?_
          refine rd_callVl (pc := 106) (n' := 0) [_] d_D_total_106 ml_D_194 rfl (Nat.le_of_ble_eq_true rfl) (Nat.le_of_ble_eq_true rfl) (Nat.le_of_ble_eq_true rfl) rfl rfl rfl (Nat.le_of_ble_eq_true rfl) (Nat.le_of_ble_eq_true rfl) ?_
          refine ev_S_commissionOf (by omega) (by omega) b26 b29 ?_
          refine ⟨_, rfl, ?_⟩
          exact rd_lret (pc := 109) d_D_total_109 rfl (Nat.le_of_ble_eq_true rfl) (hQ (by omega) M2 Z _ hF2 hZ2 (by rw [← eZ2, ← eZ5]; unfold sp_tot; rw [if_neg (by omega), if_neg (by omega), if_neg (by omega)]))
        · skip
          exact rd_throw (pc := 20) (kd := 0) d_D_total_20 d_D_total_23 d_D_total_24 d_D_total_26 d_D_total_29 rfl tw_D_55_59 (by decide) (Nat.le_of_ble_eq_true rfl) (Nat.le_of_ble_eq_true rfl) (Nat.le_of_ble_eq_true rfl) (Nat.le_of_ble_eq_true rfl) (hA (by omega))
  · skip
    refine rd_if_eq (pc := 8) (tgt := 20) d_D_total_8 rfl ⟨by omega, by omega⟩ (fun h8 => ?_) (fun h8 => ?_)
    · skip
      exact rd_throw (pc := 20) (kd := 0) d_D_total_20 d_D_total_23 d_D_total_24 d_D_total_26 d_D_total_29 rfl tw_D_55_59 (by decide) (Nat.le_of_ble_eq_true rfl) (Nat.le_of_ble_eq_true rfl) (Nat.le_of_ble_eq_true rfl) (Nat.le_of_ble_eq_true rfl) (hA (by omega))
    · exact absurd h8 (by decide)
set_option maxHeartbeats 4000000 in
set_option maxRecDepth 100000 in
theorem ev_D_due {t r w : Int} {n nt : Nat} {o : Int → Int} {M : rd_M} {Q : rd_R → rd_M → Prop} (hB : c_B M n nt o) (ht : rd_I t) (hr : rd_I r) (hw : rd_I w) (hA : ¬ ((0 ≤ t ∧ t < M 3 0) ∧ (0 ≤ r ∧ r < 6) ∧ (0 ≤ w ∧ w ≤ 1)) → Q (.inr 0) M) (hQ : ((0 ≤ t ∧ t < M 3 0) ∧ (0 ≤ r ∧ r < 6) ∧ (0 ≤ w ∧ w ≤ 1)) → (∀ M' Z v, c_fq M' M → sp_Z0 (c_d M) n (M 17 t) (-1) 0 Z → v = sp_sh (M 22 (t * 6 + r)) (if w = 0 then sp_runK (c_d M) n nt (M 17 t) Z 5 2 t else sp_rei (M 16 t) (M 19 t) (M 20 t) (sp_runK (c_d M) n nt (M 17 t) Z 5 2 t)) → Q (.inl (some (rd_l v))) M')) : rd_G x_D_due 0 [some (.ref 0), some (rd_i t), some (rd_i r), some (rd_i w)] [] M 0 Q := by
  have hI := hB.1
  have h2n := hB.2.2.1
  have h3n := hB.2.2.2.1
  have h2 := hI.1
  have h3 := hI.2.1
  refine rd_aldn (pc := 0) d_D_due_0 rfl ?_
  refine rd_getr (pc := 1) d_D_due_1 fl_D_26 rfl rfl ?_
  refine rd_ildn (pc := 4) d_D_due_4 rfl ?_
  refine rd_callVi (pc := 5) (n' := 0) [_] d_D_due_5 ml_D_107 rfl (Nat.le_of_ble_eq_true rfl) (Nat.le_of_ble_eq_true rfl) (Nat.le_of_ble_eq_true rfl) rfl rfl rfl (Nat.le_of_ble_eq_true rfl) (Nat.le_of_ble_eq_true rfl) ?_
  refine ev_T_has hI ⟨by omega, by omega⟩ (fun c5 => ⟨_, rfl, ?_⟩) (fun c5 => ⟨_, rfl, ?_⟩)
  · skip
    refine rd_if_eq (pc := 8) (tgt := 29) d_D_due_8 rfl ⟨by omega, by omega⟩ (fun h8 => ?_) (fun h8 => ?_)
    · exact absurd h8 (by decide)
    · skip
      refine rd_ildn (pc := 11) d_D_due_11 rfl ?_
      refine rd_bipush (pc := 12) d_D_due_12 rfl ?_
      refine rd_callSi (pc := 14) (n' := 0) [_, _] d_D_due_14 ml_D_47 (Nat.le_of_ble_eq_true rfl) (Nat.le_of_ble_eq_true rfl) (Nat.le_of_ble_eq_true rfl) rfl rfl rfl (Nat.le_of_ble_eq_true rfl) (Nat.le_of_ble_eq_true rfl) ?_
      refine ev_D_isBelow ⟨by omega, by omega⟩ ⟨by omega, by omega⟩ (fun c14 => ⟨_, rfl, ?_⟩) (fun c14 => ⟨_, rfl, ?_⟩)
      · skip
        refine rd_if_eq (pc := 17) (tgt := 29) d_D_due_17 rfl ⟨by omega, by omega⟩ (fun h17 => ?_) (fun h17 => ?_)
        · exact absurd h17 (by decide)
        · skip
          refine rd_ildn (pc := 20) d_D_due_20 rfl ?_
          refine rd_if_lt (pc := 21) (tgt := 29) d_D_due_21 rfl ⟨by omega, by omega⟩ (fun h21 => ?_) (fun h21 => ?_)
          · skip
            exact rd_throw (pc := 29) (kd := 0) d_D_due_29 d_D_due_32 d_D_due_33 d_D_due_35 d_D_due_38 rfl tw_D_55_59 (by decide) (Nat.le_of_ble_eq_true rfl) (Nat.le_of_ble_eq_true rfl) (Nat.le_of_ble_eq_true rfl) (Nat.le_of_ble_eq_true rfl) (hA (by omega))
          · skip
            refine rd_ildn (pc := 24) d_D_due_24 rfl ?_
            refine rd_iconst (pc := 25) d_D_due_25 ?_
            refine rd_icmp_le (pc := 26) (tgt := 39) d_D_due_26 rfl ⟨by omega, by omega⟩ ⟨by omega, by omega⟩ (fun h26 => ?_) (fun h26 => ?_)
            · skip
              obtain ⟨tk, ty, ta, tb, tc, td⟩ := hI.treaty (t := t) (by omega) (by omega)
              refine rd_aldn (pc := 39) d_D_due_39 rfl ?_
              refine rd_getr (pc := 40) d_D_due_40 fl_D_35 rfl rfl ?_
              refine rd_aldn (pc := 43) d_D_due_43 rfl ?_
              refine rd_getr (pc := 44) d_D_due_44 fl_D_26 rfl rfl ?_
              refine rd_getr (pc := 47) d_D_due_47 fl_D_113 rfl rfl ?_
              refine rd_ildn (pc := 50) d_D_due_50 rfl ?_
              refine rd_iald (pc := 51) d_D_due_51 rfl (by omega) (by omega) ?_
              refine rd_callVv (pc := 52) (n' := 0) [_] d_D_due_52 ml_D_154 rfl (Nat.le_of_ble_eq_true rfl) (Nat.le_of_ble_eq_true rfl) (Nat.le_of_ble_eq_true rfl) rfl rfl rfl (Nat.le_of_ble_eq_true rfl) (Nat.le_of_ble_eq_true rfl) ?_
              refine ev_S_workOut hB ⟨by omega, by omega⟩ (fun M2 Z hV2 hF2 hZ2 hz2 => ?_)
              refine ⟨rfl, ?_⟩
              have tk2 := hV2.2.2.2.2.2.1.2.2.1 t (by omega) (by omega)
              have eZ2 : M2 26 t = sp_runK (c_d M) n nt (M 17 t) Z 5 2 t := by rw [← hz2]; rfl
              have eZ5 : M2 29 t = sp_runK (c_d M) n nt (M 17 t) Z 5 5 t := by rw [← hz2]; rfl
              have b26 : 0 ≤ M2 26 t ∧ M2 26 t ≤ 40000000000 := tk2.1
              have b29 : 0 ≤ M2 29 t ∧ M2 29 t ≤ 12000000000 := tk2.2
              have f16 : M2 16 = M 16 := hF2.low 16 (by decide) (by decide)
              have f19 : M2 19 = M 19 := hF2.low 19 (by decide) (by decide)
              have f20 : M2 20 = M 20 := hF2.low 20 (by decide) (by decide)
              have f22 : M2 22 = M 22 := hF2.low 22 (by decide) (by decide)
              refine rd_ildn (pc := 55) d_D_due_55 rfl ?_
              refine rd_if_ne (pc := 56) (tgt := 78) d_D_due_56 rfl ⟨by omega, by omega⟩ (fun h56 => ?_) (fun h56 => ?_)
              · skip
                refine rd_aldn (pc := 78) d_D_due_78 rfl ?_
                refine rd_getr (pc := 79) d_D_due_79 fl_D_26 rfl rfl ?_
                refine rd_aldn (pc := 82) d_D_due_82 rfl ?_
                refine rd_getr (pc := 83) d_D_due_83 fl_D_35 rfl rfl ?_
                refine rd_ildn (pc := 86) d_D_due_86 rfl ?_
                refine rd_callVl (pc := 87) (n' := 0) [_] d_D_due_87 ml_D_203 rfl (Nat.le_of_ble_eq_true rfl) (Nat.le_of_ble_eq_true rfl) (Nat.le_of_ble_eq_true rfl) rfl rfl rfl (Nat.le_of_ble_eq_true rfl) (Nat.le_of_ble_eq_true rfl) ?_
                refine ev_S_reinstatementOf hV2.1 (by omega) (by omega) b26 b29 ?_
                refine ⟨_, rfl, ?_⟩
                refine rd_ildn (pc := 90) d_D_due_90 rfl ?_
                refine rd_ildn (pc := 91) d_D_due_91 rfl ?_
                refine rd_callVl (pc := 92) (n' := 0) [_, _, _] d_D_due_92 ml_D_199 rfl (Nat.le_of_ble_eq_true rfl) (Nat.le_of_ble_eq_true rfl) (Nat.le_of_ble_eq_true rfl) rfl rfl rfl (Nat.le_of_ble_eq_true rfl) (Nat.le_of_ble_eq_true rfl) ?_
                have hrb := sp_rei_b (kd := M2 16 t) (b := M2 19 t) (c := M2 20 t) (by rw [f19]; exact tb) (by rw [f20]; exact tc) b26
                refine ev_T_partOf hV2.1 (by omega) (by omega) (by omega) (by omega) ⟨by omega, by omega⟩ ?_
                refine ⟨_, rfl, ?_⟩
                exact rd_lret (pc := 95) d_D_due_95 rfl (Nat.le_of_ble_eq_true rfl) (hQ (by omega) M2 Z _ hF2 hZ2 (by rw [if_neg (by omega), ← eZ2, f22, f16, f19, f20]; rfl))
              · skip
                refine rd_aldn (pc := 59) d_D_due_59 rfl ?_
                refine rd_getr (pc := 60) d_D_due_60 fl_D_26 rfl rfl ?_
                refine rd_aldn (pc := 63) d_D_due_63 rfl ?_
                refine rd_getr (pc := 64) d_D_due_64 fl_D_35 rfl rfl ?_
                refine rd_getr (pc := 67) d_D_due_67 fl_D_175 rfl rfl ?_
                refine rd_ildn (pc := 70) d_D_due_70 rfl ?_
                refine rd_lald (pc := 71) d_D_due_71 rfl (by omega) (by omega) ?_
                refine rd_ildn (pc := 72) d_D_due_72 rfl ?_
                refine rd_ildn (pc := 73) d_D_due_73 rfl ?_
                refine rd_callVl (pc := 74) (n' := 0) [_, _, _] d_D_due_74 ml_D_199 rfl (Nat.le_of_ble_eq_true rfl) (Nat.le_of_ble_eq_true rfl) (Nat.le_of_ble_eq_true rfl) rfl rfl rfl (Nat.le_of_ble_eq_true rfl) (Nat.le_of_ble_eq_true rfl) ?_
                refine ev_T_partOf hV2.1 (by omega) (by omega) (by omega) (by omega) ⟨by omega, by omega⟩ ?_
                refine ⟨_, rfl, ?_⟩
                exact rd_lret (pc := 77) d_D_due_77 rfl (Nat.le_of_ble_eq_true rfl) (hQ (by omega) M2 Z _ hF2 hZ2 (by rw [if_pos (by omega), ← eZ2, f22]; rfl))
            · skip
              exact rd_throw (pc := 29) (kd := 0) d_D_due_29 d_D_due_32 d_D_due_33 d_D_due_35 d_D_due_38 rfl tw_D_55_59 (by decide) (Nat.le_of_ble_eq_true rfl) (Nat.le_of_ble_eq_true rfl) (Nat.le_of_ble_eq_true rfl) (Nat.le_of_ble_eq_true rfl) (hA (by omega))
      · skip
        refine rd_if_eq (pc := 17) (tgt := 29) d_D_due_17 rfl ⟨by omega, by omega⟩ (fun h17 => ?_) (fun h17 => ?_)
        · skip
          exact rd_throw (pc := 29) (kd := 0) d_D_due_29 d_D_due_32 d_D_due_33 d_D_due_35 d_D_due_38 rfl tw_D_55_59 (by decide) (Nat.le_of_ble_eq_true rfl) (Nat.le_of_ble_eq_true rfl) (Nat.le_of_ble_eq_true rfl) (Nat.le_of_ble_eq_true rfl) (hA (by omega))
        · exact absurd h17 (by decide)
  · skip
    refine rd_if_eq (pc := 8) (tgt := 29) d_D_due_8 rfl ⟨by omega, by omega⟩ (fun h8 => ?_) (fun h8 => ?_)
    · skip
      exact rd_throw (pc := 29) (kd := 0) d_D_due_29 d_D_due_32 d_D_due_33 d_D_due_35 d_D_due_38 rfl tw_D_55_59 (by decide) (Nat.le_of_ble_eq_true rfl) (Nat.le_of_ble_eq_true rfl) (Nat.le_of_ble_eq_true rfl) (Nat.le_of_ble_eq_true rfl) (hA (by omega))
    · exact absurd h8 (by decide)
set_option maxHeartbeats 4000000 in
set_option maxRecDepth 100000 in
theorem ev_D_whatIf {k a t : Int} {n nt : Nat} {o : Int → Int} {M : rd_M} {Q : rd_R → rd_M → Prop} (hB : c_B M n nt o) (hk : rd_I k) (ha : rd_I a) (ht : rd_I t) (hA : ¬ ((0 ≤ k ∧ k < M 2 0) ∧ (0 ≤ a ∧ a ≤ 1000000000) ∧ (0 ≤ t ∧ t < M 3 0)) → Q (.inr 0) M) (hS : ((0 ≤ k ∧ k < M 2 0) ∧ (0 ≤ a ∧ a ≤ 1000000000) ∧ (0 ≤ t ∧ t < M 3 0)) → (M 14 k ≠ 0) → Q (.inr 1) M) (hQ : ((0 ≤ k ∧ k < M 2 0) ∧ (0 ≤ a ∧ a ≤ 1000000000) ∧ (0 ≤ t ∧ t < M 3 0)) → ¬ (M 14 k ≠ 0) → (∀ M' Z v, c_fq M' M → sp_Z0 (c_d M) n (M 9 (M 10 k)) k a Z → v = sp_runK (c_d M) n nt (M 9 (M 10 k)) Z 5 1 (t * 40 + k) → (0 ≤ v ∧ v ≤ 1000000000) → Q (.inl (some (rd_i v))) M')) : rd_G x_D_whatIf 0 [some (.ref 0), some (rd_i k), some (rd_i a), some (rd_i t)] [] M 0 Q := by
  have hI := hB.1
  have h2n := hB.2.2.1
  have h3n := hB.2.2.2.1
  have h2 := hI.1
  have h3 := hI.2.1
  refine rd_aldn (pc := 0) d_D_whatIf_0 rfl ?_
  refine rd_getr (pc := 1) d_D_whatIf_1 fl_D_19 rfl rfl ?_
  refine rd_ildn (pc := 4) d_D_whatIf_4 rfl ?_
  refine rd_callVi (pc := 5) (n' := 0) [_] d_D_whatIf_5 ml_D_132 rfl (Nat.le_of_ble_eq_true rfl) (Nat.le_of_ble_eq_true rfl) (Nat.le_of_ble_eq_true rfl) rfl rfl rfl (Nat.le_of_ble_eq_true rfl) (Nat.le_of_ble_eq_true rfl) ?_
  refine ev_C_has hI ⟨by omega, by omega⟩ (fun c5 => ⟨_, rfl, ?_⟩) (fun c5 => ⟨_, rfl, ?_⟩)
  · skip
    refine rd_if_eq (pc := 8) (tgt := 29) d_D_whatIf_8 rfl ⟨by omega, by omega⟩ (fun h8 => ?_) (fun h8 => ?_)
    · exact absurd h8 (by decide)
    · skip
      refine rd_ildn (pc := 11) d_D_whatIf_11 rfl ?_
      refine rd_callSi (pc := 12) (n' := 0) [_] d_D_whatIf_12 ml_D_78 (Nat.le_of_ble_eq_true rfl) (Nat.le_of_ble_eq_true rfl) (Nat.le_of_ble_eq_true rfl) rfl rfl rfl (Nat.le_of_ble_eq_true rfl) (Nat.le_of_ble_eq_true rfl) ?_
      refine ev_D_isAmount ⟨by omega, by omega⟩ (fun c12 => ⟨_, rfl, ?_⟩) (fun c12 => ⟨_, rfl, ?_⟩)
      · skip
        refine rd_if_eq (pc := 15) (tgt := 29) d_D_whatIf_15 rfl ⟨by omega, by omega⟩ (fun h15 => ?_) (fun h15 => ?_)
        · exact absurd h15 (by decide)
        · skip
          refine rd_aldn (pc := 18) d_D_whatIf_18 rfl ?_
          refine rd_getr (pc := 19) d_D_whatIf_19 fl_D_26 rfl rfl ?_
          refine rd_ildn (pc := 22) d_D_whatIf_22 rfl ?_
          refine rd_callVi (pc := 23) (n' := 0) [_] d_D_whatIf_23 ml_D_107 rfl (Nat.le_of_ble_eq_true rfl) (Nat.le_of_ble_eq_true rfl) (Nat.le_of_ble_eq_true rfl) rfl rfl rfl (Nat.le_of_ble_eq_true rfl) (Nat.le_of_ble_eq_true rfl) ?_
          refine ev_T_has hI ⟨by omega, by omega⟩ (fun c23 => ⟨_, rfl, ?_⟩) (fun c23 => ⟨_, rfl, ?_⟩)
          · skip
            refine rd_if_ne (pc := 26) (tgt := 39) d_D_whatIf_26 rfl ⟨by omega, by omega⟩ (fun h26 => ?_) (fun h26 => ?_)
            · skip
              obtain ⟨k1, k2, k3, k4, k5, _⟩ := hI.claim (k := k) (by omega) (by omega)
              obtain ⟨r1, r2, r3⟩ := hI.risk (r := M 10 k) (by omega) (by omega)
              have hcl := hI.closed (y := M 9 (M 10 k)) (by omega) (by omega)
              refine rd_aldn (pc := 39) d_D_whatIf_39 rfl ?_
              refine rd_getr (pc := 40) d_D_whatIf_40 fl_D_19 rfl rfl ?_
              refine rd_getr (pc := 43) d_D_whatIf_43 fl_D_135 rfl rfl ?_
              refine rd_ildn (pc := 46) d_D_whatIf_46 rfl ?_
              refine rd_zald (pc := 47) d_D_whatIf_47 rfl (by omega) (by omega) ?_
              refine rd_if_eq (pc := 48) (tgt := 61) d_D_whatIf_48 rfl ⟨by omega, by omega⟩ (fun h48 => ?_) (fun h48 => ?_)
              · skip
                refine rd_aldn (pc := 61) d_D_whatIf_61 rfl ?_
                refine rd_getr (pc := 62) d_D_whatIf_62 fl_D_35 rfl rfl ?_
                refine rd_aldn (pc := 65) d_D_whatIf_65 rfl ?_
                refine rd_ildn (pc := 66) d_D_whatIf_66 rfl ?_
                refine rd_callVi (pc := 67) (n' := 0) [_] d_D_whatIf_67 ml_D_138 rfl (Nat.le_of_ble_eq_true rfl) (Nat.le_of_ble_eq_true rfl) (Nat.le_of_ble_eq_true rfl) rfl rfl rfl (Nat.le_of_ble_eq_true rfl) (Nat.le_of_ble_eq_true rfl) ?_
                refine ev_D_yearOfClaim hI (by omega) (by omega) ?_
                refine ⟨_, rfl, ?_⟩
                refine rd_ildn (pc := 70) d_D_whatIf_70 rfl ?_
                refine rd_ildn (pc := 71) d_D_whatIf_71 rfl ?_
                refine rd_callVv (pc := 72) (n' := 0) [_, _, _] d_D_whatIf_72 ml_D_210 rfl (Nat.le_of_ble_eq_true rfl) (Nat.le_of_ble_eq_true rfl) (Nat.le_of_ble_eq_true rfl) rfl rfl rfl (Nat.le_of_ble_eq_true rfl) (Nat.le_of_ble_eq_true rfl) ?_
                refine ev_S_workOutSupposing hB ⟨by omega, by omega⟩ ⟨by omega, by omega⟩ ⟨by show M 14 k = 0; omega, rfl⟩ ⟨by omega, by omega⟩ (fun M2 Z hV2 hF2 hZ2 hz2 => ?_)
                refine ⟨rfl, ?_⟩
                refine rd_aldn (pc := 75) d_D_whatIf_75 rfl ?_
                refine rd_getr (pc := 76) d_D_whatIf_76 fl_D_35 rfl rfl ?_
                refine rd_getr (pc := 79) d_D_whatIf_79 fl_D_163 rfl rfl ?_
                refine rd_ildn (pc := 82) d_D_whatIf_82 rfl ?_
                refine rd_bipush (pc := 83) d_D_whatIf_83 rfl ?_
                refine rd_imul (pc := 85) d_D_whatIf_85 ?_
                refine rd_ildn (pc := 86) d_D_whatIf_86 rfl ?_
                refine rd_iadd (pc := 87) d_D_whatIf_87 ?_
                refine rd_iald (pc := 88) d_D_whatIf_88 rfl (by omega) (by omega) ?_
                exact rd_iret (pc := 89) d_D_whatIf_89 rfl (Nat.le_of_ble_eq_true rfl) (hQ (by omega) (by omega) M2 Z _ hF2 hZ2 (by rw [← hz2]; rfl) (hV2.2.2.2.2.2.1.2.1 (t * 40 + k) (by omega) (by omega)))
              · skip
                exact rd_throw (pc := 51) (kd := 1) d_D_whatIf_51 d_D_whatIf_54 d_D_whatIf_55 d_D_whatIf_57 d_D_whatIf_60 rfl tw_D_66_70 (by decide) (Nat.le_of_ble_eq_true rfl) (Nat.le_of_ble_eq_true rfl) (Nat.le_of_ble_eq_true rfl) (Nat.le_of_ble_eq_true rfl) (by first | exact hA (by omega) | exact hS (by omega) (by omega))
            · exact absurd h26 (by decide)
          · skip
            refine rd_if_ne (pc := 26) (tgt := 39) d_D_whatIf_26 rfl ⟨by omega, by omega⟩ (fun h26 => ?_) (fun h26 => ?_)
            · exact absurd h26 (by decide)
            · skip
              exact rd_throw (pc := 29) (kd := 0) d_D_whatIf_29 d_D_whatIf_32 d_D_whatIf_33 d_D_whatIf_35 d_D_whatIf_38 rfl tw_D_55_59 (by decide) (Nat.le_of_ble_eq_true rfl) (Nat.le_of_ble_eq_true rfl) (Nat.le_of_ble_eq_true rfl) (Nat.le_of_ble_eq_true rfl) (by first | exact hA (by omega) | exact hS (by omega) (by omega))
      · skip
        refine rd_if_eq (pc := 15) (tgt := 29) d_D_whatIf_15 rfl ⟨by omega, by omega⟩ (fun h15 => ?_) (fun h15 => ?_)
        · skip
          exact rd_throw (pc := 29) (kd := 0) d_D_whatIf_29 d_D_whatIf_32 d_D_whatIf_33 d_D_whatIf_35 d_D_whatIf_38 rfl tw_D_55_59 (by decide) (Nat.le_of_ble_eq_true rfl) (Nat.le_of_ble_eq_true rfl) (Nat.le_of_ble_eq_true rfl) (Nat.le_of_ble_eq_true rfl) (by first | exact hA (by omega) | exact hS (by omega) (by omega))
        · exact absurd h15 (by decide)
  · skip
    refine rd_if_eq (pc := 8) (tgt := 29) d_D_whatIf_8 rfl ⟨by omega, by omega⟩ (fun h8 => ?_) (fun h8 => ?_)
    · skip
      exact rd_throw (pc := 29) (kd := 0) d_D_whatIf_29 d_D_whatIf_32 d_D_whatIf_33 d_D_whatIf_35 d_D_whatIf_38 rfl tw_D_55_59 (by decide) (Nat.le_of_ble_eq_true rfl) (Nat.le_of_ble_eq_true rfl) (Nat.le_of_ble_eq_true rfl) (Nat.le_of_ble_eq_true rfl) (by first | exact hA (by omega) | exact hS (by omega) (by omega))
    · exact absurd h8 (by decide)

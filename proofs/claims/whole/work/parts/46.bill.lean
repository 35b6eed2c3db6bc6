/-! the desk: dissolve and bill -/
abbrev sp_dc (d : rd_M) (e y k : Int) : Prop := d 4 k = e ∧ d 7 k = 0 ∧ d 2 (d 3 k) = y
set_option maxHeartbeats 4000000 in
set_option maxRecDepth 100000 in
theorem lq_D_dissolve {e y : Int} {n : Nat} {M : rd_M} {Q : rd_R → rd_M → Prop} (hI : c_I M) (hn : M 2 0 = n) (he : 1 ≤ e ∧ e ≤ 9) (hy : 0 ≤ y ∧ y < 4) (hQ : ∀ M', (∀ q, q ≠ 11 → M' q = M q) → (∀ k : Int, M' 11 k = if (0 ≤ k ∧ k < n) ∧ sp_dc (c_d M) e y k then 0 else M 11 k) → Q (.inl (some (rd_i (rd_sm (fun k => if sp_dc (c_d M) e y k then 1 else 0) n)))) M') : ∀ (d : Nat) (i a : Int) (M1 : rd_M), (n - i).toNat = d → (0 ≤ i) → (i ≤ n) → (a = rd_sm (fun k => if sp_dc (c_d M) e y k then 1 else 0) i.toNat) → (∀ q, q ≠ 11 → M1 q = M q) → (∀ k : Int, M1 11 k = if (0 ≤ k ∧ k < i) ∧ sp_dc (c_d M) e y k then 0 else M 11 k) → rd_G x_D_dissolve 51 [some (.ref 0), some (rd_i e), some (rd_i y), some (rd_i a), some (rd_i i)] [] M1 0 Q := by
  intro d
  induction d using Nat.strongRecOn with
  | ind d ih =>
    intro i a M1 hd i0 i1 ha hS hv
    have hn40 := hI.n hn
    have e2 : M1 2 = M 2 := hS 2 (by decide)
    have e9 : M1 9 = M 9 := hS 9 (by decide)
    have e10 : M1 10 = M 10 := hS 10 (by decide)
    have e14 : M1 14 = M 14 := hS 14 (by decide)
    have hI1 : c_I M1 := by
      obtain ⟨a1, a2, a3, a4, a5⟩ := hI
      unfold c_I
      rw [hS 2 (by decide), hS 3 (by decide), hS 5 (by decide), hS 7 (by decide), hS 8 (by decide), hS 9 (by decide), hS 10 (by decide), hS 12 (by decide), hS 13 (by decide), hS 14 (by decide), hS 15 (by decide), hS 16 (by decide), hS 17 (by decide), hS 18 (by decide), hS 19 (by decide), hS 20 (by decide), hS 21 (by decide), hS 22 (by decide)]
      refine ⟨a1, a2, a3, fun k k0 k1 => ?_, a5⟩
      obtain ⟨d1, d2, d3⟩ := a4 k k0 k1
      refine ⟨d1, ?_, d3⟩
      rw [hv k]; split <;> omega
    refine rd_ild (pc := 51) d_D_dissolve_51 rfl ?_
    refine rd_aldn (pc := 53) d_D_dissolve_53 rfl ?_
    refine rd_getr (pc := 54) d_D_dissolve_54 fl_D_19 rfl rfl ?_
    refine rd_gi (pc := 57) (ki := 0) d_D_dissolve_57 fl_D_126 rfl rfl rfl ?_
    first | simp (decide := true) only [rd_up_app, rd_up_hit, e2, e9, e10, e14, e11] | simp (decide := true) only [rd_up_app, rd_up_hit, e2, e9, e10, e14] | skip
    refine rd_icmp_ge (pc := 60) (tgt := 120) d_D_dissolve_60 rfl ⟨by omega, by omega⟩ ⟨by omega, by omega⟩ (fun h60 => ?_) (fun h60 => ?_)
    · skip
      refine rd_ildn (pc := 120) d_D_dissolve_120 rfl ?_
      exact rd_iret (pc := 121) d_D_dissolve_121 rfl (Nat.le_of_ble_eq_true rfl) (by have en : i.toNat = n := (by omega); rw [ha, en]; exact hQ _ hS (fun k => by rw [hv k, show i = n by omega]))
    · skip
      obtain ⟨k1, k2, k3, k4, k5, _⟩ := hI.claim (k := i) (by omega) (by omega)
      obtain ⟨r1, r2, r3⟩ := hI.risk (r := M 10 i) (by omega) (by omega)
      have e11 : M1 11 i = M 11 i := by rw [hv i, if_neg (by omega)]
      have hs := rd_sm_s (f := fun k => if sp_dc (c_d M) e y k then 1 else 0) i0
      refine rd_aldn (pc := 63) d_D_dissolve_63 rfl ?_
      refine rd_getr (pc := 64) d_D_dissolve_64 fl_D_19 rfl rfl ?_
      refine rd_getr (pc := 67) d_D_dissolve_67 fl_D_151 rfl rfl ?_
      refine rd_ild (pc := 70) d_D_dissolve_70 rfl ?_
      refine rd_iald (pc := 72) d_D_dissolve_72 rfl (by omega) (by omega) ?_
      first | simp (decide := true) only [rd_up_app, rd_up_hit, e2, e9, e10, e14, e11] | simp (decide := true) only [rd_up_app, rd_up_hit, e2, e9, e10, e14] | skip
      refine rd_ildn (pc := 73) d_D_dissolve_73 rfl ?_
      refine rd_icmp_ne (pc := 74) (tgt := 114) d_D_dissolve_74 rfl ⟨by omega, by omega⟩ ⟨by omega, by omega⟩ (fun h74 => ?_) (fun h74 => ?_)
      · skip
        refine rd_iinc4 (pc := 114) d_D_dissolve_114 rfl ?_
        refine rd_goto (pc := 117) (tgt := 51) d_D_dissolve_117 rfl ?_
        by_cases hc : M 11 i = e ∧ M 14 i = 0 ∧ M 9 (M 10 i) = y
        · first | (exfalso; omega) | (refine ih _ (by omega) (i + 1) _ _ rfl (by omega) (by omega) (by rw [hs, ha, if_pos (show sp_dc (c_d M) e y i from hc)]) (fun q h => by rw [rd_up_ne h]; exact hS q h) (fun k => ?_)
                                      rw [rd_up_at, hv k]
                                      by_cases hk : k = i
                                      · subst hk; rw [if_pos rfl, if_pos ⟨by omega, hc⟩]
                                      · rw [if_neg hk]
                                        by_cases hd : (0 ≤ k ∧ k < i) ∧ sp_dc (c_d M) e y k
                                        · rw [if_pos hd, if_pos ⟨by omega, hd.2⟩]
                                        · rw [if_neg hd, if_neg (fun z => hd ⟨by omega, z.2⟩)])
        · first | (exfalso; omega) | (refine ih _ (by omega) (i + 1) _ _ rfl (by omega) (by omega) (by rw [hs, ha, if_neg (show ¬ sp_dc (c_d M) e y i from hc)]; omega) hS (fun k => ?_)
                                      rw [hv k]
                                      by_cases hk : k = i
                                      · subst hk; rw [if_neg (by omega), if_neg (fun z => hc z.2)]
                                      · by_cases hd : (0 ≤ k ∧ k < i) ∧ sp_dc (c_d M) e y k
                                        · rw [if_pos hd, if_pos ⟨by omega, hd.2⟩]
                                        · rw [if_neg hd, if_neg (fun z => hd ⟨by omega, z.2⟩)])
      · skip
        refine rd_aldn (pc := 77) d_D_dissolve_77 rfl ?_
        refine rd_getr (pc := 78) d_D_dissolve_78 fl_D_19 rfl rfl ?_
        refine rd_getr (pc := 81) d_D_dissolve_81 fl_D_135 rfl rfl ?_
        refine rd_ild (pc := 84) d_D_dissolve_84 rfl ?_
        refine rd_zald (pc := 86) d_D_dissolve_86 rfl (by omega) (by omega) ?_
        first | simp (decide := true) only [rd_up_app, rd_up_hit, e2, e9, e10, e14, e11] | simp (decide := true) only [rd_up_app, rd_up_hit, e2, e9, e10, e14] | skip
        refine rd_if_ne (pc := 87) (tgt := 114) d_D_dissolve_87 rfl ⟨by omega, by omega⟩ (fun h87 => ?_) (fun h87 => ?_)
        · skip
          refine rd_iinc4 (pc := 114) d_D_dissolve_114 rfl ?_
          refine rd_goto (pc := 117) (tgt := 51) d_D_dissolve_117 rfl ?_
          by_cases hc : M 11 i = e ∧ M 14 i = 0 ∧ M 9 (M 10 i) = y
          · first | (exfalso; omega) | (refine ih _ (by omega) (i + 1) _ _ rfl (by omega) (by omega) (by rw [hs, ha, if_pos (show sp_dc (c_d M) e y i from hc)]) (fun q h => by rw [rd_up_ne h]; exact hS q h) (fun k => ?_)
                                        rw [rd_up_at, hv k]
                                        by_cases hk : k = i
                                        · subst hk; rw [if_pos rfl, if_pos ⟨by omega, hc⟩]
                                        · rw [if_neg hk]
                                          by_cases hd : (0 ≤ k ∧ k < i) ∧ sp_dc (c_d M) e y k
                                          · rw [if_pos hd, if_pos ⟨by omega, hd.2⟩]
                                          · rw [if_neg hd, if_neg (fun z => hd ⟨by omega, z.2⟩)])
          · first | (exfalso; omega) | (refine ih _ (by omega) (i + 1) _ _ rfl (by omega) (by omega) (by rw [hs, ha, if_neg (show ¬ sp_dc (c_d M) e y i from hc)]; omega) hS (fun k => ?_)
                                        rw [hv k]
                                        by_cases hk : k = i
                                        · subst hk; rw [if_neg (by omega), if_neg (fun z => hc z.2)]
                                        · by_cases hd : (0 ≤ k ∧ k < i) ∧ sp_dc (c_d M) e y k
                                          · rw [if_pos hd, if_pos ⟨by omega, hd.2⟩]
                                          · rw [if_neg hd, if_neg (fun z => hd ⟨by omega, z.2⟩)])
        · skip
          refine rd_aldn (pc := 90) d_D_dissolve_90 rfl ?_
          refine rd_ild (pc := 91) d_D_dissolve_91 rfl ?_
          refine rd_callVi (pc := 93) (n' := 0) [_] d_D_dissolve_93 ml_D_138 rfl (Nat.le_of_ble_eq_true rfl) (Nat.le_of_ble_eq_true rfl) (Nat.le_of_ble_eq_true rfl) rfl rfl rfl (Nat.le_of_ble_eq_true rfl) (Nat.le_of_ble_eq_true rfl) ?_
          refine ev_D_yearOfClaim hI1 (by omega) (by omega) ?_
          refine ⟨_, rfl, ?_⟩
          first | simp (decide := true) only [rd_up_app, rd_up_hit, e2, e9, e10, e14, e11] | simp (decide := true) only [rd_up_app, rd_up_hit, e2, e9, e10, e14] | skip
          refine rd_ildn (pc := 96) d_D_dissolve_96 rfl ?_
          refine rd_icmp_ne (pc := 97) (tgt := 114) d_D_dissolve_97 rfl ⟨by omega, by omega⟩ ⟨by omega, by omega⟩ (fun h97 => ?_) (fun h97 => ?_)
          · skip
            refine rd_iinc4 (pc := 114) d_D_dissolve_114 rfl ?_
            refine rd_goto (pc := 117) (tgt := 51) d_D_dissolve_117 rfl ?_
            by_cases hc : M 11 i = e ∧ M 14 i = 0 ∧ M 9 (M 10 i) = y
            · first | (exfalso; omega) | (refine ih _ (by omega) (i + 1) _ _ rfl (by omega) (by omega) (by rw [hs, ha, if_pos (show sp_dc (c_d M) e y i from hc)]) (fun q h => by rw [rd_up_ne h]; exact hS q h) (fun k => ?_)
                                          rw [rd_up_at, hv k]
                                          by_cases hk : k = i
                                          · subst hk; rw [if_pos rfl, if_pos ⟨by omega, hc⟩]
                                          · rw [if_neg hk]
                                            by_cases hd : (0 ≤ k ∧ k < i) ∧ sp_dc (c_d M) e y k
                                            · rw [if_pos hd, if_pos ⟨by omega, hd.2⟩]
                                            · rw [if_neg hd, if_neg (fun z => hd ⟨by omega, z.2⟩)])
            · first | (exfalso; omega) | (refine ih _ (by omega) (i + 1) _ _ rfl (by omega) (by omega) (by rw [hs, ha, if_neg (show ¬ sp_dc (c_d M) e y i from hc)]; omega) hS (fun k => ?_)
                                          rw [hv k]
                                          by_cases hk : k = i
                                          · subst hk; rw [if_neg (by omega), if_neg (fun z => hc z.2)]
                                          · by_cases hd : (0 ≤ k ∧ k < i) ∧ sp_dc (c_d M) e y k
                                            · rw [if_pos hd, if_pos ⟨by omega, hd.2⟩]
                                            · rw [if_neg hd, if_neg (fun z => hd ⟨by omega, z.2⟩)])
          · skip
            refine rd_aldn (pc := 100) d_D_dissolve_100 rfl ?_
            refine rd_getr (pc := 101) d_D_dissolve_101 fl_D_19 rfl rfl ?_
            refine rd_getr (pc := 104) d_D_dissolve_104 fl_D_151 rfl rfl ?_
            refine rd_ild (pc := 107) d_D_dissolve_107 rfl ?_
            refine rd_iconst (pc := 109) d_D_dissolve_109 ?_
            refine rd_iast (pc := 110) d_D_dissolve_110 rfl (by omega) (by omega) ?_
            refine rd_iinc3 (pc := 111) d_D_dissolve_111 rfl ?_
            refine rd_iinc4 (pc := 114) d_D_dissolve_114 rfl ?_
            refine rd_goto (pc := 117) (tgt := 51) d_D_dissolve_117 rfl ?_
            by_cases hc : M 11 i = e ∧ M 14 i = 0 ∧ M 9 (M 10 i) = y
            · first | (exfalso; omega) | (refine ih _ (by omega) (i + 1) _ _ rfl (by omega) (by omega) (by rw [hs, ha, if_pos (show sp_dc (c_d M) e y i from hc)]) (fun q h => by rw [rd_up_ne h]; exact hS q h) (fun k => ?_)
                                          rw [rd_up_at, hv k]
                                          by_cases hk : k = i
                                          · subst hk; rw [if_pos rfl, if_pos ⟨by omega, hc⟩]
                                          · rw [if_neg hk]
                                            by_cases hd : (0 ≤ k ∧ k < i) ∧ sp_dc (c_d M) e y k
                                            · rw [if_pos hd, if_pos ⟨by omega, hd.2⟩]
                                            · rw [if_neg hd, if_neg (fun z => hd ⟨by omega, z.2⟩)])
            · first | (exfalso; omega) | (refine ih _ (by omega) (i + 1) _ _ rfl (by omega) (by omega) (by rw [hs, ha, if_neg (show ¬ sp_dc (c_d M) e y i from hc)]; omega) hS (fun k => ?_)
                                          rw [hv k]
                                          by_cases hk : k = i
                                          · subst hk; rw [if_neg (by omega), if_neg (fun z => hc z.2)]
                                          · by_cases hd : (0 ≤ k ∧ k < i) ∧ sp_dc (c_d M) e y k
                                            · rw [if_pos hd, if_pos ⟨by omega, hd.2⟩]
                                            · rw [if_neg hd, if_neg (fun z => hd ⟨by omega, z.2⟩)])
set_option maxHeartbeats 4000000 in
set_option maxRecDepth 100000 in
theorem ev_D_dissolve {e y : Int} {n : Nat} {M : rd_M} {Q : rd_R → rd_M → Prop} (hI : c_I M) (hn : M 2 0 = n) (he : rd_I e) (hy : rd_I y) (hA : ¬ ((1 ≤ e ∧ e ≤ 9) ∧ (0 ≤ y ∧ y < 4)) → Q (.inr 0) M) (hS : ((1 ≤ e ∧ e ≤ 9) ∧ (0 ≤ y ∧ y < 4)) → (M 5 y ≠ 0) → Q (.inr 1) M) (hQ : ((1 ≤ e ∧ e ≤ 9) ∧ (0 ≤ y ∧ y < 4)) → ¬ (M 5 y ≠ 0) → (∀ M', (∀ q, q ≠ 11 → M' q = M q) → (∀ k : Int, M' 11 k = if (0 ≤ k ∧ k < n) ∧ sp_dc (c_d M) e y k then 0 else M 11 k) → Q (.inl (some (rd_i (rd_sm (fun k => if sp_dc (c_d M) e y k then 1 else 0) n)))) M')) : rd_G x_D_dissolve 0 [some (.ref 0), some (rd_i e), some (rd_i y), none, none] [] M 0 Q := by
  refine rd_ildn (pc := 0) d_D_dissolve_0 rfl ?_
  refine rd_bipush (pc := 1) d_D_dissolve_1 rfl ?_
  refine rd_callSi (pc := 3) (n' := 0) [_, _] d_D_dissolve_3 ml_D_52 (Nat.le_of_ble_eq_true rfl) (Nat.le_of_ble_eq_true rfl) (Nat.le_of_ble_eq_true rfl) rfl rfl rfl (Nat.le_of_ble_eq_true rfl) (Nat.le_of_ble_eq_true rfl) ?_
  refine ev_D_isFromOne ⟨by omega, by omega⟩ ⟨by omega, by omega⟩ (fun c3 => ⟨_, rfl, ?_⟩) (fun c3 => ⟨_, rfl, ?_⟩)
  · skip
    refine rd_if_eq (pc := 6) (tgt := 17) d_D_dissolve_6 rfl ⟨by omega, by omega⟩ (fun h6 => ?_) (fun h6 => ?_)
    · exact absurd h6 (by decide)
    · skip
      refine rd_ildn (pc := 9) d_D_dissolve_9 rfl ?_
      refine rd_iconst (pc := 10) d_D_dissolve_10 ?_
      refine rd_callSi (pc := 11) (n' := 0) [_, _] d_D_dissolve_11 ml_D_47 (Nat.le_of_ble_eq_true rfl) (Nat.le_of_ble_eq_true rfl) (Nat.le_of_ble_eq_true rfl) rfl rfl rfl (Nat.le_of_ble_eq_true rfl) (Nat.le_of_ble_eq_true rfl) ?_
      refine ev_D_isBelow ⟨by omega, by omega⟩ ⟨by omega, by omega⟩ (fun c11 => ⟨_, rfl, ?_⟩) (fun c11 => ⟨_, rfl, ?_⟩)
      · skip
        refine rd_if_ne (pc := 14) (tgt := 27) d_D_dissolve_14 rfl ⟨by omega, by omega⟩ (fun h14 => ?_) (fun h14 => ?_)
        · skip
          have hcl := hI.closed (y := y) (by omega) (by omega)
          refine rd_aldn (pc := 27) d_D_dissolve_27 rfl ?_
          refine rd_getr (pc := 28) d_D_dissolve_28 fl_D_39 rfl rfl ?_
          refine rd_ildn (pc := 31) d_D_dissolve_31 rfl ?_
          refine rd_zald (pc := 32) d_D_dissolve_32 rfl (by omega) (by omega) ?_
          refine rd_if_eq (pc := 33) (tgt := 46) d_D_dissolve_33 rfl ⟨by omega, by omega⟩ (fun h33 => ?_) (fun h33 => ?_)
          · skip
            refine rd_iconst (pc := 46) d_D_dissolve_46 ?_
            refine rd_ist3 (pc := 47) d_D_dissolve_47 rfl ?_
            refine rd_iconst (pc := 48) d_D_dissolve_48 ?_
            refine rd_ist4 (pc := 49) d_D_dissolve_49 rfl ?_
            exact lq_D_dissolve hI hn (by omega) (by omega) (hQ (by omega) (by omega)) _ 0 0 M rfl (by omega) (by omega) rfl (fun _ _ => rfl) (fun k => by rw [if_neg (by omega)])
          · skip
            exact rd_throw (pc := 36) (kd := 1) d_D_dissolve_36 d_D_dissolve_39 d_D_dissolve_40 d_D_dissolve_42 d_D_dissolve_45 rfl tw_D_66_70 (by decide) (Nat.le_of_ble_eq_true rfl) (Nat.le_of_ble_eq_true rfl) (Nat.le_of_ble_eq_true rfl) (Nat.le_of_ble_eq_true rfl) (by first | exact hA (by omega) | exact hS (by omega) (by omega))
        · exact absurd h14 (by decide)
      · skip
        refine rd_if_ne (pc := 14) (tgt := 27) d_D_dissolve_14 rfl ⟨by omega, by omega⟩ (fun h14 => ?_) (fun h14 => ?_)
        · exact absurd h14 (by decide)
        · skip
          exact rd_throw (pc := 17) (kd := 0) d_D_dissolve_17 d_D_dissolve_20 d_D_dissolve_21 d_D_dissolve_23 d_D_dissolve_26 rfl tw_D_55_59 (by decide) (Nat.le_of_ble_eq_true rfl) (Nat.le_of_ble_eq_true rfl) (Nat.le_of_ble_eq_true rfl) (Nat.le_of_ble_eq_true rfl) (by first | exact hA (by omega) | exact hS (by omega) (by omega))
  · skip
    refine rd_if_eq (pc := 6) (tgt := 17) d_D_dissolve_6 rfl ⟨by omega, by omega⟩ (fun h6 => ?_) (fun h6 => ?_)
    · skip
      exact rd_throw (pc := 17) (kd := 0) d_D_dissolve_17 d_D_dissolve_20 d_D_dissolve_21 d_D_dissolve_23 d_D_dissolve_26 rfl tw_D_55_59 (by decide) (Nat.le_of_ble_eq_true rfl) (Nat.le_of_ble_eq_true rfl) (Nat.le_of_ble_eq_true rfl) (Nat.le_of_ble_eq_true rfl) (by first | exact hA (by omega) | exact hS (by omega) (by omega))
    · exact absurd h6 (by decide)
theorem c_Z0_ex {d : rd_M} {n : Nat} {y c e : Int} : ∃ Z, sp_Z0 d n y c e Z := ⟨fun q => match q with
  | 0 => fun k => if sp_cnt d y k then (if k = c then e else d 6 k) else 0 | 1 => fun _ => 0 | 2 => fun _ => 0 | 3 => fun _ => -1 | 4 => fun r => if d 2 r = y then d 1 r else 0 | _ => fun _ => 0, fun _ _ _ => rfl, fun _ _ _ => rfl, fun _ _ _ => ⟨rfl, rfl⟩, fun _ _ _ => rfl, fun _ _ _ => rfl⟩
set_option maxHeartbeats 4000000 in
set_option maxRecDepth 100000 in
theorem lq_D_bill {r : Int} {n nt : Nat} {o : Int → Int} {M : rd_M} {Q : rd_R → rd_M → Prop} (hB : c_B M n nt o) (hr : 0 ≤ r ∧ r < 6) (hQ : ∀ M' (ZZ : Int → rd_M) (v : Int), c_fq M' M → (∀ y : Int, 0 ≤ y → y < 4 → sp_Z0 (c_d M) n y (-1) 0 (ZZ y)) → v = rd_sm (fun y => if M 5 y = 0 then rd_sm (fun t => if M 17 t = y then sp_owe (c_d M) (sp_runK (c_d M) n nt y (ZZ y) 5) r t else 0) nt else 0) 4 → Q (.inl (some (rd_l (v - M 6 r)))) (rd_up M' 6 r v)) : ∀ (d : Nat) (i a : Int) (ZZ : Int → rd_M) (M1 : rd_M), (4 - i).toNat = d → (0 ≤ i) → (i ≤ 4) → (∀ y : Int, 0 ≤ y → y < i → sp_Z0 (c_d M) n y (-1) 0 (ZZ y)) → (a = rd_sm (fun y => if M 5 y = 0 then rd_sm (fun t => if M 17 t = y then sp_owe (c_d M) (sp_runK (c_d M) n nt y (ZZ y) 5) r t else 0) nt else 0) i.toNat) → (c_fq M1 M) → (c_B M1 n nt o) → rd_G x_D_bill 24 [some (.ref 0), some (rd_i r), some (rd_l a), none, some (rd_i i), none] [] M1 0 Q := by
  intro d
  induction d using Nat.strongRecOn with
  | ind d ih =>
    intro i a ZZ M1 hd i0 i1 hZ ha hF hB1
    have hI := hB.1
    have e5 : M1 5 = M 5 := hF.low 5 (by decide) (by decide)
    have e6 : M1 6 = M 6 := hF.low 6 (by decide) (by decide)
    refine rd_ild (pc := 24) d_D_bill_24 rfl ?_
    refine rd_iconst (pc := 26) d_D_bill_26 ?_
    refine rd_icmp_ge (pc := 27) (tgt := 68) d_D_bill_27 rfl ⟨by omega, by omega⟩ ⟨by omega, by omega⟩ (fun h27 => ?_) (fun h27 => ?_)
    · skip
      refine rd_lldn (pc := 68) d_D_bill_68 rfl ?_
      refine rd_aldn (pc := 69) d_D_bill_69 rfl ?_
      refine rd_getr (pc := 70) d_D_bill_70 fl_D_43 rfl rfl ?_
      refine rd_ildn (pc := 73) d_D_bill_73 rfl ?_
      refine rd_lald (pc := 74) d_D_bill_74 rfl (by omega) (by omega) ?_
      first | simp (decide := true) only [rd_up_app, rd_up_hit, e5, e6] | skip
      refine rd_lsub (pc := 75) d_D_bill_75 ?_
      refine rd_lst4 (pc := 76) d_D_bill_76 rfl ?_
      refine rd_aldn (pc := 78) d_D_bill_78 rfl ?_
      refine rd_getr (pc := 79) d_D_bill_79 fl_D_43 rfl rfl ?_
      refine rd_ildn (pc := 82) d_D_bill_82 rfl ?_
      refine rd_lldn (pc := 83) d_D_bill_83 rfl ?_
      refine rd_last (pc := 84) d_D_bill_84 rfl (by omega) (by omega) ?_
      refine rd_lld (pc := 85) d_D_bill_85 rfl ?_
      exact rd_lret (pc := 87) d_D_bill_87 rfl (Nat.le_of_ble_eq_true rfl) (by have ei : i = 4 := (by omega); subst ei; exact hQ M1 ZZ _ hF hZ ha)
    · skip
      have hcl := hI.closed (y := i) i0 (by omega)
      refine rd_aldn (pc := 30) d_D_bill_30 rfl ?_
      refine rd_getr (pc := 31) d_D_bill_31 fl_D_39 rfl rfl ?_
      refine rd_ild (pc := 34) d_D_bill_34 rfl ?_
      refine rd_zald (pc := 36) d_D_bill_36 rfl (by omega) (by omega) ?_
      first | simp (decide := true) only [rd_up_app, rd_up_hit, e5, e6] | skip
      refine rd_if_ne (pc := 37) (tgt := 62) d_D_bill_37 rfl ⟨by omega, by omega⟩ (fun h37 => ?_) (fun h37 => ?_)
      · skip
        refine rd_iinc4 (pc := 62) d_D_bill_62 rfl ?_
        refine rd_goto (pc := 65) (tgt := 24) d_D_bill_65 rfl ?_
        first
          | (have hZs : ∀ y : Int, 0 ≤ y → y < i → (fun y => if y = i then Z else ZZ y) y = ZZ y := fun y _ b => if_neg (by omega)
             refine ih _ (by omega) (i + 1) _ (fun y => if y = i then Z else ZZ y) _ rfl (by omega) (by omega) (fun y a b => ?_) ?_ hFF hV2.B
             · by_cases hy : y = i
               · subst hy; simp only [if_true]; exact hZ2
               · simp only [if_neg hy]; exact hZ y a (by omega)
             · rw [rd_sm_s i0, ha]
               have e1 := rd_sm_c (f := (fun y => if M 5 y = 0 then rd_sm (fun t => if M 17 t = y then sp_owe (c_d M) (sp_runK (c_d M) n nt y (ZZ y) 5) r t else 0) nt else 0)) (g := (fun y => if M 5 y = 0 then rd_sm (fun t => if M 17 t = y then sp_owe (c_d M) (sp_runK (c_d M) n nt y ((fun y => if y = i then Z else ZZ y) y) 5) r t else 0) nt else 0)) i.toNat (fun y a b => by show _ = (if M 5 y = 0 then rd_sm (fun t => if M 17 t = y then sp_owe (c_d M) (sp_runK (c_d M) n nt y ((fun y => if y = i then Z else ZZ y) y) 5) r t else 0) nt else 0); rw [hZs y a (by omega)])
               rw [e1, if_pos (show M 5 i = 0 by omega)]
               simp only [if_true])
          | (obtain ⟨Z, hZ2⟩ := c_Z0_ex (d := c_d M) (n := n) (y := i) (c := -1) (e := 0)
             have hZs : ∀ y : Int, 0 ≤ y → y < i → (fun y => if y = i then Z else ZZ y) y = ZZ y := fun y _ b => if_neg (by omega)
             refine ih _ (by omega) (i + 1) _ (fun y => if y = i then Z else ZZ y) _ rfl (by omega) (by omega) (fun y a b => ?_) ?_ hF hB1
             · by_cases hy : y = i
               · subst hy; simp only [if_true]; exact hZ2
               · simp only [if_neg hy]; exact hZ y a (by omega)
             · rw [rd_sm_s i0, ha]
               have e1 := rd_sm_c (f := (fun y => if M 5 y = 0 then rd_sm (fun t => if M 17 t = y then sp_owe (c_d M) (sp_runK (c_d M) n nt y (ZZ y) 5) r t else 0) nt else 0)) (g := (fun y => if M 5 y = 0 then rd_sm (fun t => if M 17 t = y then sp_owe (c_d M) (sp_runK (c_d M) n nt y ((fun y => if y = i then Z else ZZ y) y) 5) r t else 0) nt else 0)) i.toNat (fun y a b => by show _ = (if M 5 y = 0 then rd_sm (fun t => if M 17 t = y then sp_owe (c_d M) (sp_runK (c_d M) n nt y ((fun y => if y = i then Z else ZZ y) y) 5) r t else 0) nt else 0); rw [hZs y a (by omega)])
               rw [e1, if_neg (show ¬ M 5 i = 0 by omega)]; exact (Int.add_zero _).symm)
      · skip
        refine rd_aldn (pc := 40) d_D_bill_40 rfl ?_
        refine rd_getr (pc := 41) d_D_bill_41 fl_D_35 rfl rfl ?_
        refine rd_ild (pc := 44) d_D_bill_44 rfl ?_
        refine rd_callVv (pc := 46) (n' := 0) [_] d_D_bill_46 ml_D_154 rfl (Nat.le_of_ble_eq_true rfl) (Nat.le_of_ble_eq_true rfl) (Nat.le_of_ble_eq_true rfl) rfl rfl rfl (Nat.le_of_ble_eq_true rfl) (Nat.le_of_ble_eq_true rfl) ?_
        refine ev_S_workOut hB1 ⟨by omega, by omega⟩ (fun M2 Z hV2 hF2 hZ2 hz2 => ?_)
        rw [hF.d] at hZ2 hz2
        refine ⟨rfl, ?_⟩
        first | simp (decide := true) only [rd_up_app, rd_up_hit, e5, e6] | skip
        refine rd_lldn (pc := 49) d_D_bill_49 rfl ?_
        refine rd_aldn (pc := 50) d_D_bill_50 rfl ?_
        refine rd_getr (pc := 51) d_D_bill_51 fl_D_35 rfl rfl ?_
        refine rd_ildn (pc := 54) d_D_bill_54 rfl ?_
        refine rd_ild (pc := 55) d_D_bill_55 rfl ?_
        refine rd_callVl (pc := 57) (n' := 0) [_, _] d_D_bill_57 ml_D_216 rfl (Nat.le_of_ble_eq_true rfl) (Nat.le_of_ble_eq_true rfl) (Nat.le_of_ble_eq_true rfl) rfl rfl rfl (Nat.le_of_ble_eq_true rfl) (Nat.le_of_ble_eq_true rfl) ?_
        have hFF := hF2.trans hF
        refine ev_S_owedBy (r := r) (y := i) hV2.1 hV2.2.2.2.1 hr ⟨by omega, by omega⟩ hV2.2.2.2.2.2.1 ?_
        rw [hFF.d, hFF.low 17 (by decide) (by decide), hz2]
        refine ⟨_, rfl, ?_⟩
        first | simp (decide := true) only [rd_up_app, rd_up_hit, e5, e6] | skip
        refine rd_ladd (pc := 60) d_D_bill_60 ?_
        refine rd_lst2 (pc := 61) d_D_bill_61 rfl ?_
        refine rd_iinc4 (pc := 62) d_D_bill_62 rfl ?_
        refine rd_goto (pc := 65) (tgt := 24) d_D_bill_65 rfl ?_
        first
          | (have hZs : ∀ y : Int, 0 ≤ y → y < i → (fun y => if y = i then Z else ZZ y) y = ZZ y := fun y _ b => if_neg (by omega)
             refine ih _ (by omega) (i + 1) _ (fun y => if y = i then Z else ZZ y) _ rfl (by omega) (by omega) (fun y a b => ?_) ?_ hFF hV2.B
             · by_cases hy : y = i
               · subst hy; simp only [if_true]; exact hZ2
               · simp only [if_neg hy]; exact hZ y a (by omega)
             · rw [rd_sm_s i0, ha]
               have e1 := rd_sm_c (f := (fun y => if M 5 y = 0 then rd_sm (fun t => if M 17 t = y then sp_owe (c_d M) (sp_runK (c_d M) n nt y (ZZ y) 5) r t else 0) nt else 0)) (g := (fun y => if M 5 y = 0 then rd_sm (fun t => if M 17 t = y then sp_owe (c_d M) (sp_runK (c_d M) n nt y ((fun y => if y = i then Z else ZZ y) y) 5) r t else 0) nt else 0)) i.toNat (fun y a b => by show _ = (if M 5 y = 0 then rd_sm (fun t => if M 17 t = y then sp_owe (c_d M) (sp_runK (c_d M) n nt y ((fun y => if y = i then Z else ZZ y) y) 5) r t else 0) nt else 0); rw [hZs y a (by omega)])
               rw [e1, if_pos (show M 5 i = 0 by omega)]
               simp only [if_true])
          | (obtain ⟨Z, hZ2⟩ := c_Z0_ex (d := c_d M) (n := n) (y := i) (c := -1) (e := 0)
             have hZs : ∀ y : Int, 0 ≤ y → y < i → (fun y => if y = i then Z else ZZ y) y = ZZ y := fun y _ b => if_neg (by omega)
             refine ih _ (by omega) (i + 1) _ (fun y => if y = i then Z else ZZ y) _ rfl (by omega) (by omega) (fun y a b => ?_) ?_ hF hB1
             · by_cases hy : y = i
               · subst hy; simp only [if_true]; exact hZ2
               · simp only [if_neg hy]; exact hZ y a (by omega)
             · rw [rd_sm_s i0, ha]
               have e1 := rd_sm_c (f := (fun y => if M 5 y = 0 then rd_sm (fun t => if M 17 t = y then sp_owe (c_d M) (sp_runK (c_d M) n nt y (ZZ y) 5) r t else 0) nt else 0)) (g := (fun y => if M 5 y = 0 then rd_sm (fun t => if M 17 t = y then sp_owe (c_d M) (sp_runK (c_d M) n nt y ((fun y => if y = i then Z else ZZ y) y) 5) r t else 0) nt else 0)) i.toNat (fun y a b => by show _ = (if M 5 y = 0 then rd_sm (fun t => if M 17 t = y then sp_owe (c_d M) (sp_runK (c_d M) n nt y ((fun y => if y = i then Z else ZZ y) y) 5) r t else 0) nt else 0); rw [hZs y a (by omega)])
               rw [e1, if_neg (show ¬ M 5 i = 0 by omega)]; exact (Int.add_zero _).symm)
set_option maxHeartbeats 4000000 in
set_option maxRecDepth 100000 in
theorem ev_D_bill {r : Int} {n nt : Nat} {o : Int → Int} {M : rd_M} {Q : rd_R → rd_M → Prop} (hB : c_B M n nt o) (hr : rd_I r) (hA : ¬ (0 ≤ r ∧ r < 6) → Q (.inr 0) M) (hQ : (0 ≤ r ∧ r < 6) → (∀ M' (ZZ : Int → rd_M) (v : Int), c_fq M' M → (∀ y : Int, 0 ≤ y → y < 4 → sp_Z0 (c_d M) n y (-1) 0 (ZZ y)) → v = rd_sm (fun y => if M 5 y = 0 then rd_sm (fun t => if M 17 t = y then sp_owe (c_d M) (sp_runK (c_d M) n nt y (ZZ y) 5) r t else 0) nt else 0) 4 → Q (.inl (some (rd_l (v - M 6 r)))) (rd_up M' 6 r v))) : rd_G x_D_bill 0 [some (.ref 0), some (rd_i r), none, none, none, none] [] M 0 Q := by
  refine rd_ildn (pc := 0) d_D_bill_0 rfl ?_
  refine rd_bipush (pc := 1) d_D_bill_1 rfl ?_
  refine rd_callSi (pc := 3) (n' := 0) [_, _] d_D_bill_3 ml_D_47 (Nat.le_of_ble_eq_true rfl) (Nat.le_of_ble_eq_true rfl) (Nat.le_of_ble_eq_true rfl) rfl rfl rfl (Nat.le_of_ble_eq_true rfl) (Nat.le_of_ble_eq_true rfl) ?_
  refine ev_D_isBelow ⟨by omega, by omega⟩ ⟨by omega, by omega⟩ (fun c3 => ⟨_, rfl, ?_⟩) (fun c3 => ⟨_, rfl, ?_⟩)
  · skip
    refine rd_if_ne (pc := 6) (tgt := 19) d_D_bill_6 rfl ⟨by omega, by omega⟩ (fun h6 => ?_) (fun h6 => ?_)
    · skip
      refine rd_lconst (pc := 19) (v := 0) d_D_bill_19 rfl ?_
      refine rd_lst2 (pc := 20) d_D_bill_20 rfl ?_
      refine rd_iconst (pc := 21) d_D_bill_21 ?_
      refine rd_ist4 (pc := 22) d_D_bill_22 rfl ?_
      exact lq_D_bill hB (by omega) (hQ (by omega)) _ 0 0 (fun _ => M) M rfl (by omega) (by omega) (fun y a b => by omega) rfl c_fq.refl hB
    · exact absurd h6 (by decide)
  · skip
    refine rd_if_ne (pc := 6) (tgt := 19) d_D_bill_6 rfl ⟨by omega, by omega⟩ (fun h6 => ?_) (fun h6 => ?_)
    · exact absurd h6 (by decide)
    · skip
      exact rd_throw (pc := 9) (kd := 0) d_D_bill_9 d_D_bill_12 d_D_bill_13 d_D_bill_15 d_D_bill_18 rfl tw_D_55_59 (by decide) (Nat.le_of_ble_eq_true rfl) (Nat.le_of_ble_eq_true rfl) (Nat.le_of_ble_eq_true rfl) (Nat.le_of_ble_eq_true rfl) (hA (by omega))

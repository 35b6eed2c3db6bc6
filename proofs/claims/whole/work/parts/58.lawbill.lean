/-! the law: bill, both sides -/
theorem k_bill {M : rd_M} {n nt : Nat} {o : Int → Int} {r : Int} {ZZ : Int → rd_M} {Z : rd_M} (h : k_R M n nt o) (hZ : ∀ y : Int, 0 ≤ y → y < 4 → sp_Z0 (c_d M) n y (-1) 0 (ZZ y)) (hz : r_Z0 (c_d M) n (-1) 0 Z) : rd_sm (fun y => if M 5 y = 0 then rd_sm (fun t => if M 17 t = y then sp_owe (c_d M) (sp_runK (c_d M) n nt y (ZZ y) 5) r t else 0) nt else 0) 4 = rd_sm (fun t => if M 48 ((M 41 t).tmod 10) = 0 then sp_owe (c_d M) (r_runK (c_d M) n nt Z 5) r t else 0) nt := by
  have hI := h.1.1
  have hm10 : nt ≤ 10 := by have h1 := hI.2.1; have h2 := h.1.2.2.2.1; omega
  have E17 := h.e17
  have E5 := h.2.2.2.2.1
  have e := sp_swap (C := M 5) (Y := M 17) (F := fun y t => sp_owe (c_d M) (sp_runK (c_d M) n nt y (ZZ y) 5) r t) (G := fun t => sp_owe (c_d M) (r_runK (c_d M) n nt Z 5) r t) nt (fun t a b => (hI.treaty a (by omega)).2.1) (fun t a b _ => by
    have hy := (hI.treaty (t := t) a (by omega)).2.1
    have hag := sp_run_ag (nt := nt) hz (hZ (M 17 t) (by omega) (by omega)) (hI.n h.1.2.2.1)
    obtain ⟨g1, g2, _⟩ := hag.2.2.1 t a (by omega) rfl
    show sp_owe _ _ _ _ = sp_owe _ _ _ _
    unfold sp_owe
    rw [g1, g2])
  rw [e]
  exact rd_sm_c nt (fun t a b => by rw [E17 t, E5])
set_option maxHeartbeats 4000000 in
set_option maxRecDepth 100000 in
theorem lw_bill {Ls n0 n nt : Nat} {xs : Int → Int} {o : Int → Int} {i : Int} {M : rd_M} {Q : rd_R → rd_M → Prop} (hx : ∀ j, rd_I (xs j)) (h : k_R M n nt o) (hn0 : n0 + 1 ≤ 1110) (i0 : 0 ≤ i) (i1 : i + 6 ≤ Ls) (hX : ∀ (M' : rd_M) (n' nt' : Nat) (o' : Int → Int), k_R M' n' nt' o' → rd_G (x_L_law Ls xs) 1220 [some (.ref 999), some (.ref 0), some (.ref 32), some (.ref 58), some (rd_i i), none, none, none] [] M' (n0 + 1) Q) : rd_G (x_L_law Ls xs) 1101 [some (.ref 999), some (.ref 0), some (.ref 32), some (.ref 58), some (rd_i i), none, none, none] [] M n0 Q := by
  have hI := h.1.1
  have hn2 := h.1.2.2.1
  have hn3 := h.1.2.2.2.1
  have hH := h.1.2.2.2.2
  have hBc := h.1
  have E5 := h.2.2.2.2.1
  have E6 := h.2.2.2.2.2.1
  have E7 := h.e7
  have E8 := h.e8
  have E9 := h.e9
  have E10 := h.e10
  have E11 := h.e11
  have E12 := h.e12
  have E13 := h.e13
  have E14 := h.e14
  have E16 := h.e16
  have E17 := h.e17
  have E18 := h.e18
  have E19 := h.e19
  have E20 := h.e20
  have E21 := h.e21
  have E22 := h.e22
  refine rd_aldn (pc := 1101) d_L_law_1101 rfl ?_
  refine rd_aldn (pc := 1102) d_L_law_1102 rfl ?_
  refine rd_ild (pc := 1103) d_L_law_1103 rfl ?_
  refine rd_iconst (pc := 1105) d_L_law_1105 ?_
  refine rd_iadd (pc := 1106) d_L_law_1106 ?_
  refine rd_sld (pc := 1107) d_L_law_1107 rfl (by omega) (by omega) ?_
  refine rd_aldn (pc := 1108) d_L_law_1108 rfl ?_
  refine rd_callSi (pc := 1109) (n' := n0 + 1) [_, _, _] d_L_law_1109 ml_L_137 (Nat.le_of_ble_eq_true rfl) (Nat.le_of_ble_eq_true rfl) hn0 rfl rfl rfl (Nat.le_of_ble_eq_true rfl) (Nat.le_of_ble_eq_true rfl) ?_
  refine ev_L_bill hBc (hx _) (fun z => ⟨_, rfl, ?_⟩) (fun z M1 ZZ v a1 a2 a3 => ⟨_, rfl, ?_⟩)
  · skip
    refine rd_ist5 (pc := 1112) d_L_law_1112 rfl ?_
    refine rd_aldn (pc := 1114) d_L_law_1114 rfl ?_
    refine rd_aldn (pc := 1115) d_L_law_1115 rfl ?_
    refine rd_ild (pc := 1116) d_L_law_1116 rfl ?_
    refine rd_iconst (pc := 1118) d_L_law_1118 ?_
    refine rd_iadd (pc := 1119) d_L_law_1119 ?_
    refine rd_sld (pc := 1120) d_L_law_1120 rfl (by omega) (by omega) ?_
    refine rd_callVl (pc := 1121) (n' := n0 + 1) [_] d_L_law_1121 ml_L_139 rfl (Nat.le_of_ble_eq_true rfl) (Nat.le_of_ble_eq_true rfl) hn0 rfl rfl rfl (Nat.le_of_ble_eq_true rfl) (Nat.le_of_ble_eq_true rfl) ?_
    refine ev_M_bill h.r h.T h.b (hx _) (fun w => ⟨_, rfl, ?_⟩) (fun w M2 Z' v' b1 b2 b3 b4 => ⟨_, rfl, ?_⟩)
    · skip
      refine rd_lst6 (pc := 1124) d_L_law_1124 rfl ?_
      refine rd_aldn (pc := 1126) d_L_law_1126 rfl ?_
      refine rd_callVi (pc := 1127) (n' := n0 + 1) [] d_L_law_1127 ml_L_85 rfl (Nat.le_of_ble_eq_true rfl) (Nat.le_of_ble_eq_true rfl) hn0 rfl rfl rfl (Nat.le_of_ble_eq_true rfl) (Nat.le_of_ble_eq_true rfl) ?_
      refine ev_M_thrown ?_
      refine ⟨_, rfl, ?_⟩
      try simp (decide := true) only [rd_up_app, rd_up_hit, rd_up_32]
      refine rd_ild (pc := 1130) d_L_law_1130 rfl ?_
      refine rd_icmp_eq (pc := 1132) (tgt := 1137) d_L_law_1132 rfl ⟨by omega, by omega⟩ ⟨by omega, by omega⟩ (fun h1132 => ?_) (fun h1132 => ?_)
      · skip
        refine rd_ild (pc := 1137) d_L_law_1137 rfl ?_
        refine rd_if_ne (pc := 1139) (tgt := 1153) d_L_law_1139 rfl ⟨by omega, by omega⟩ (fun h1139 => ?_) (fun h1139 => ?_)
        · skip
          refine rd_goto (pc := 1153) (tgt := 1220) d_L_law_1153 rfl ?_
          refine rd_weak (L' := [some (.ref 999), some (.ref 0), some (.ref 32), some (.ref 58), some (rd_i i), none, none, none]) (by simp [rd_le]) ?_
          exact hX _ _ _ _ h.th
        · exact absurd h1139 (by decide)
      · skip
        exfalso; omega
    · skip
      exfalso
      simp (decide := true) only [rd_up_app, rd_up_32, E5, E6, E7, E8, E9, E10, E11, E12, E13, E14, E16, E17, E18, E19, E20, E21, E22, hn2, hn3] at *
      omega
  · skip
    refine rd_ist5 (pc := 1112) d_L_law_1112 rfl ?_
    refine rd_aldn (pc := 1114) d_L_law_1114 rfl ?_
    refine rd_aldn (pc := 1115) d_L_law_1115 rfl ?_
    refine rd_ild (pc := 1116) d_L_law_1116 rfl ?_
    refine rd_iconst (pc := 1118) d_L_law_1118 ?_
    refine rd_iadd (pc := 1119) d_L_law_1119 ?_
    refine rd_sld (pc := 1120) d_L_law_1120 rfl (by omega) (by omega) ?_
    have hkp : ∀ q, 32 ≤ q → q ≤ 48 → (rd_up (rd_up M1 6 (xs (i + 1)) v) 58 0 (v - M 6 (xs (i + 1)))) q = M q := fun q qa qb => by rw [rd_up_ne (by omega), rd_up_ne (by omega)]; exact a1 q (by omega) (by omega)
    have c47 := hkp 47 (by decide) (by decide)
    refine rd_callVl (pc := 1121) (n' := n0 + 1) [_] d_L_law_1121 ml_L_139 rfl (Nat.le_of_ble_eq_true rfl) (Nat.le_of_ble_eq_true rfl) hn0 rfl rfl rfl (Nat.le_of_ble_eq_true rfl) (Nat.le_of_ble_eq_true rfl) ?_
    refine ev_M_bill (h.r.keep hkp) (h.T.keep hkp) (by rw [hkp 43 (by decide) (by decide)]; exact h.b) (hx _) (fun w => ⟨_, rfl, ?_⟩) (fun w M2 Z' v' b1 b2 b3 b4 => ⟨_, rfl, ?_⟩)
    · skip
      exact absurd z w
    · skip
      rw [r_d_keep hkp] at b3 b4
      rw [hkp 48 (by decide) (by decide), hkp 41 (by decide) (by decide)] at b4
      rw [← h.2.2.2.1] at b3 b4
      have hvv : v' = v := by rw [a3, b4]; exact (k_bill h a2 b3).symm
      subst hvv
      have e58 : M2 58 0 = v' - M 6 (xs (i + 1)) := by rw [b1.1 58 (by decide) (by decide), rd_up_hit]
      refine rd_lst6 (pc := 1124) d_L_law_1124 rfl ?_
      refine rd_aldn (pc := 1126) d_L_law_1126 rfl ?_
      refine rd_callVi (pc := 1127) (n' := n0 + 1) [] d_L_law_1127 ml_L_85 rfl (Nat.le_of_ble_eq_true rfl) (Nat.le_of_ble_eq_true rfl) hn0 rfl rfl rfl (Nat.le_of_ble_eq_true rfl) (Nat.le_of_ble_eq_true rfl) ?_
      refine ev_M_thrown ?_
      refine ⟨_, rfl, ?_⟩
      try simp (decide := true) only [rd_up_app, rd_up_hit, rd_up_32, b2, e58]
      refine rd_ild (pc := 1130) d_L_law_1130 rfl ?_
      refine rd_icmp_eq (pc := 1132) (tgt := 1137) d_L_law_1132 rfl ⟨by omega, by omega⟩ ⟨by omega, by omega⟩ (fun h1132 => ?_) (fun h1132 => ?_)
      · skip
        refine rd_ild (pc := 1137) d_L_law_1137 rfl ?_
        refine rd_if_ne (pc := 1139) (tgt := 1153) d_L_law_1139 rfl ⟨by omega, by omega⟩ (fun h1139 => ?_) (fun h1139 => ?_)
        · exact absurd h1139 (by decide)
        · skip
          refine rd_aldn (pc := 1142) d_L_law_1142 rfl ?_
          refine rd_iconst (pc := 1143) d_L_law_1143 ?_
          refine rd_lald (pc := 1144) d_L_law_1144 rfl (by omega) (by omega) ?_
          try simp (decide := true) only [rd_up_app, rd_up_hit, rd_up_32, b2, e58]
          refine rd_lld (pc := 1145) d_L_law_1145 rfl ?_
          refine rd_lcmpE (pc := 1147) (tgt := 1153) d_L_law_1147 d_L_law_1148 rfl (by rw [a1 47 (by decide) (by decide), E6]) ?_
          refine rd_goto (pc := 1153) (tgt := 1220) d_L_law_1153 rfl ?_
          refine rd_weak (L' := [some (.ref 999), some (.ref 0), some (.ref 32), some (.ref 58), some (rd_i i), none, none, none]) (by simp [rd_le]) ?_
          exact hX _ _ _ _ (h.bill a1 b1)
      · skip
        exfalso; omega

/-! cession: windows of events -/
set_option maxHeartbeats 4000000 in
set_option maxRecDepth 100000 in
theorem lq_S_keptFrom {h : Int} {n : Nat} {p : Int → Int} {M : rd_M} {Q : rd_R → rd_M → Prop} (hI : c_I M) (hn : M 2 0 = n) (hK : ∀ k : Int, 0 ≤ k → k < n → 0 ≤ M 24 k ∧ M 24 k ≤ 1000000000) (hG : c_G M n p) (hh : -1 ≤ h ∧ h ≤ 100000) (hQ : Q (.inl (some (rd_l (sp_sum n p (fun k => if h ≤ M 12 k ∧ M 12 k < h + 72 then M 24 k else 0))))) M) : ∀ (d : Nat) (m a : Int), (sp_cn n p - m).toNat = d → (0 ≤ m) → (m ≤ sp_cn n p) → (a = sp_gs n p (fun k => if h ≤ M 12 k ∧ M 12 k < h + 72 then M 24 k else 0) m) → rd_G x_S_keptFrom 5 [some (.ref 4), some (rd_i h), some (rd_l a), none, some (rd_i m), none] [] M 0 Q := by
  intro d
  induction d using Nat.strongRecOn with
  | ind d ih =>
    intro m a hd m0 m1 ha
    have hn40 := hI.n hn
    have hsz := sp_cn_hi (n := n) (p := p)
    have hG1 := hG.1
    have hG2 := hG.2
    refine rd_ild (pc := 5) d_S_keptFrom_5 rfl ?_
    refine rd_aldn (pc := 7) d_S_keptFrom_7 rfl ?_
    refine rd_gi (pc := 8) (ki := 11) d_S_keptFrom_8 fl_S_142 rfl rfl rfl ?_
    refine rd_icmp_ge (pc := 11) (tgt := 68) d_S_keptFrom_11 rfl ⟨by omega, by omega⟩ ⟨by omega, by omega⟩ (fun h11 => ?_) (fun h11 => ?_)
    · skip
      refine rd_lldn (pc := 68) d_S_keptFrom_68 rfl ?_
      exact rd_lret (pc := 69) d_S_keptFrom_69 rfl (Nat.le_of_ble_eq_true rfl) (by rw [ha, sp_gs_e (by omega)]; exact hQ)
    · skip
      obtain ⟨g0, g1, g2, g3⟩ := hG2.1 m m0 (by omega)
      have gk := hK _ g0 g1
      obtain ⟨_, _, gh, _⟩ := hI.claim g0 (by omega)
      have gs := sp_gs_s (f := (fun k => if h ≤ M 12 k ∧ M 12 k < h + 72 then M 24 k else 0)) hG2 m0 (by omega)
      refine rd_aldn (pc := 14) d_S_keptFrom_14 rfl ?_
      refine rd_getr (pc := 15) d_S_keptFrom_15 fl_S_15 rfl rfl ?_
      refine rd_getr (pc := 18) d_S_keptFrom_18 fl_S_163 rfl rfl ?_
      refine rd_aldn (pc := 21) d_S_keptFrom_21 rfl ?_
      refine rd_getr (pc := 22) d_S_keptFrom_22 fl_S_47 rfl rfl ?_
      refine rd_ild (pc := 25) d_S_keptFrom_25 rfl ?_
      refine rd_iald (pc := 27) d_S_keptFrom_27 rfl (by omega) (by omega) ?_
      refine rd_iald (pc := 28) d_S_keptFrom_28 rfl (by omega) (by omega) ?_
      refine rd_ist5 (pc := 29) d_S_keptFrom_29 rfl ?_
      refine rd_ild (pc := 31) d_S_keptFrom_31 rfl ?_
      refine rd_ildn (pc := 33) d_S_keptFrom_33 rfl ?_
      refine rd_icmp_lt (pc := 34) (tgt := 62) d_S_keptFrom_34 rfl ⟨by omega, by omega⟩ ⟨by omega, by omega⟩ (fun h34 => ?_) (fun h34 => ?_)
      · skip
        refine rd_iinc4 (pc := 62) d_S_keptFrom_62 rfl ?_
        refine rd_goto (pc := 65) (tgt := 5) d_S_keptFrom_65 rfl ?_
        first
          | (refine rd_weak (L' := [some (.ref 4), some (rd_i h), some (rd_l (a + M 24 (M 30 m))), none, some (rd_i (m + 1)), none]) (by simp [rd_le]) ?_
             exact ih _ (by omega) (m + 1) _ rfl (by omega) (by omega) (by rw [gs, ha, if_pos (by omega)]))
          | (refine rd_weak (L' := [some (.ref 4), some (rd_i h), some (rd_l a), none, some (rd_i (m + 1)), none]) (by simp [rd_le]) ?_
             exact ih _ (by omega) (m + 1) _ rfl (by omega) (by omega) (by rw [gs, ha, if_neg (by omega)]; omega))
      · skip
        refine rd_ild (pc := 37) d_S_keptFrom_37 rfl ?_
        refine rd_ildn (pc := 39) d_S_keptFrom_39 rfl ?_
        refine rd_bipush (pc := 40) d_S_keptFrom_40 rfl ?_
        refine rd_iadd (pc := 42) d_S_keptFrom_42 ?_
        refine rd_icmp_ge (pc := 43) (tgt := 62) d_S_keptFrom_43 rfl ⟨by omega, by omega⟩ ⟨by omega, by omega⟩ (fun h43 => ?_) (fun h43 => ?_)
        · skip
          refine rd_iinc4 (pc := 62) d_S_keptFrom_62 rfl ?_
          refine rd_goto (pc := 65) (tgt := 5) d_S_keptFrom_65 rfl ?_
          first
            | (refine rd_weak (L' := [some (.ref 4), some (rd_i h), some (rd_l (a + M 24 (M 30 m))), none, some (rd_i (m + 1)), none]) (by simp [rd_le]) ?_
               exact ih _ (by omega) (m + 1) _ rfl (by omega) (by omega) (by rw [gs, ha, if_pos (by omega)]))
            | (refine rd_weak (L' := [some (.ref 4), some (rd_i h), some (rd_l a), none, some (rd_i (m + 1)), none]) (by simp [rd_le]) ?_
               exact ih _ (by omega) (m + 1) _ rfl (by omega) (by omega) (by rw [gs, ha, if_neg (by omega)]; omega))
        · skip
          refine rd_lldn (pc := 46) d_S_keptFrom_46 rfl ?_
          refine rd_aldn (pc := 47) d_S_keptFrom_47 rfl ?_
          refine rd_getr (pc := 48) d_S_keptFrom_48 fl_S_27 rfl rfl ?_
          refine rd_aldn (pc := 51) d_S_keptFrom_51 rfl ?_
          refine rd_getr (pc := 52) d_S_keptFrom_52 fl_S_47 rfl rfl ?_
          refine rd_ild (pc := 55) d_S_keptFrom_55 rfl ?_
          refine rd_iald (pc := 57) d_S_keptFrom_57 rfl (by omega) (by omega) ?_
          refine rd_iald (pc := 58) d_S_keptFrom_58 rfl (by omega) (by omega) ?_
          refine rd_i2l (pc := 59) d_S_keptFrom_59 ⟨by omega, by omega⟩ ?_
          refine rd_ladd (pc := 60) d_S_keptFrom_60 ?_
          refine rd_lst2 (pc := 61) d_S_keptFrom_61 rfl ?_
          refine rd_iinc4 (pc := 62) d_S_keptFrom_62 rfl ?_
          refine rd_goto (pc := 65) (tgt := 5) d_S_keptFrom_65 rfl ?_
          first
            | (refine rd_weak (L' := [some (.ref 4), some (rd_i h), some (rd_l (a + M 24 (M 30 m))), none, some (rd_i (m + 1)), none]) (by simp [rd_le]) ?_
               exact ih _ (by omega) (m + 1) _ rfl (by omega) (by omega) (by rw [gs, ha, if_pos (by omega)]))
            | (refine rd_weak (L' := [some (.ref 4), some (rd_i h), some (rd_l a), none, some (rd_i (m + 1)), none]) (by simp [rd_le]) ?_
               exact ih _ (by omega) (m + 1) _ rfl (by omega) (by omega) (by rw [gs, ha, if_neg (by omega)]; omega))
set_option maxHeartbeats 4000000 in
set_option maxRecDepth 100000 in
theorem ev_S_keptFrom {h : Int} {n : Nat} {p : Int → Int} {M : rd_M} {Q : rd_R → rd_M → Prop} (hI : c_I M) (hn : M 2 0 = n) (hK : ∀ k : Int, 0 ≤ k → k < n → 0 ≤ M 24 k ∧ M 24 k ≤ 1000000000) (hG : c_G M n p) (hh : -1 ≤ h ∧ h ≤ 100000) (hQ : Q (.inl (some (rd_l (sp_sum n p (fun k => if h ≤ M 12 k ∧ M 12 k < h + 72 then M 24 k else 0))))) (M)) : rd_G x_S_keptFrom 0 [some (.ref 4), some (rd_i h), none, none, none, none] [] M 0 Q := by
  refine rd_lconst (pc := 0) (v := 0) d_S_keptFrom_0 rfl ?_
  refine rd_lst2 (pc := 1) d_S_keptFrom_1 rfl ?_
  refine rd_iconst (pc := 2) d_S_keptFrom_2 ?_
  refine rd_ist4 (pc := 3) d_S_keptFrom_3 rfl ?_
  have := sp_cn_nn (n := n) (p := p)
  exact lq_S_keptFrom hI hn hK hG hh hQ _ 0 0 rfl (by omega) (by omega) sp_gs_0.symm
theorem sp_W_eq {M : rd_M} {n : Nat} {y e h : Int} : sp_sum n (sp_inE (c_d M) y e) (fun k => if h ≤ M 12 k ∧ M 12 k < h + 72 then M 24 k else 0) = sp_W (c_d M) n y e (M 24) h := by
  refine rd_sm_c n (fun k a b => ?_)
  by_cases h1 : sp_inE (c_d M) y e k = 1
  · rw [if_pos h1]
    show (if h ≤ M 12 k ∧ M 12 k < h + 72 then M 24 k else 0) = _
    by_cases h2 : h ≤ M 12 k ∧ M 12 k < h + 72
    · rw [if_pos h2, if_pos (show sp_inW (c_d M) y e h k = 1 from if_pos ⟨h1, h2⟩)]
    · rw [if_neg h2, if_neg]
      unfold sp_inW
      rw [if_neg (fun z => h2 z.2)]; omega
  · rw [if_neg h1, if_neg]
    unfold sp_inW
    rw [if_neg (fun z => h1 z.1)]; omega
theorem sp_W_eq2 {M : rd_M} {n : Nat} {y e h : Int} : sp_sum n (sp_inW (c_d M) y e h) (fun k => if h ≤ M 12 k ∧ M 12 k < h + 72 then M 24 k else 0) = sp_W (c_d M) n y e (M 24) h := by
  refine sp_sum_c (fun k a b hp => ?_)
  unfold sp_inW at hp
  by_cases h1 : sp_inE (c_d M) y e k = 1 ∧ h ≤ c_d M 5 k ∧ c_d M 5 k < h + 72
  · exact if_pos h1.2
  · rw [if_neg h1] at hp; omega
theorem sp_W_b {d : rd_M} {n : Nat} {y e h : Int} {κ : Int → Int} (hn : n ≤ 40) (hK : ∀ k : Int, 0 ≤ k → k < n → 0 ≤ κ k ∧ κ k ≤ 1000000000) : 0 ≤ sp_W d n y e κ h ∧ sp_W d n y e κ h ≤ 40000000000 := by
  have h1 := sp_sum_nn (p := sp_inW d y e h) (fun k a b => (hK k a b).1)
  have h2 := sp_sum_hi (p := sp_inW d y e h) hK
  unfold sp_W
  omega
theorem sp_st_b {d : rd_M} {n : Nat} {y e : Int} {κ : Int → Int} (hh : ∀ k : Int, 0 ≤ k → k < 40 → 0 ≤ d 5 k ∧ d 5 k ≤ 100000) : ∀ i : Nat, i ≤ 40 → -1 ≤ sp_st d n y e κ i ∧ sp_st d n y e κ i ≤ 100000
  | 0, _ => by show -1 ≤ (-1 : Int) ∧ (-1 : Int) ≤ 100000; omega
  | i + 1, h => by
    have ih := sp_st_b (n := n) (y := y) (e := e) (κ := κ) hh i (by omega)
    have := hh i (by omega) (by omega)
    rw [sp_st_s]
    split <;> omega
set_option maxHeartbeats 4000000 in
set_option maxRecDepth 100000 in
theorem lq_S_startOfWindow {y e : Int} {n : Nat} {M : rd_M} {Q : rd_R → rd_M → Prop} (hI : c_I M) (hn : M 2 0 = n) (hK : ∀ k : Int, 0 ≤ k → k < n → 0 ≤ M 24 k ∧ M 24 k ≤ 1000000000) (hG : c_G M n (sp_inE (c_d M) y e)) (hQ : Q (.inl (some (rd_i (sp_st (c_d M) n y e (M 24) n)))) M) : ∀ (d : Nat) (m b s : Int) (K : Nat), (sp_cn n (sp_inE (c_d M) y e) - m).toNat = d → (0 ≤ m) → (m ≤ sp_cn n (sp_inE (c_d M) y e)) → (K ≤ n) → (sp_cn K (sp_inE (c_d M) y e) = m) → (b = sp_st (c_d M) n y e (M 24) K) → (s = if b < 0 then -1 else sp_W (c_d M) n y e (M 24) b) → rd_G x_S_startOfWindow 9 [some (.ref 4), some (rd_i b), some (rd_l s), none, some (rd_i m), none, none, none] [] M 0 Q := by
  intro d
  induction d using Nat.strongRecOn with
  | ind d ih =>
    intro m b s K hd m0 m1 k1 hk hb hs
    have hn40 := hI.n hn
    have hsz := sp_cn_hi (n := n) (p := sp_inE (c_d M) y e)
    have hG1 := hG.1
    have hG2 := hG.2
    have hbb := sp_st_b (d := c_d M) (n := n) (y := y) (e := e) (κ := M 24) (fun k a c => (hI.claim a c).2.2.1) K (by omega)
    rw [← hb] at hbb
    have hWb := sp_W_b (d := c_d M) (y := y) (e := e) (h := b) hn40 hK
    have hsb : -1 ≤ s ∧ s ≤ 40000000000 ∧ (b < 0 → s = -1) ∧ (0 ≤ b → s = sp_W (c_d M) n y e (M 24) b) := by (by_cases hz : b < 0; (rw [if_pos hz] at hs; omega); (rw [if_neg hz] at hs; omega))
    refine rd_ild (pc := 9) d_S_startOfWindow_9 rfl ?_
    refine rd_aldn (pc := 11) d_S_startOfWindow_11 rfl ?_
    refine rd_gi (pc := 12) (ki := 11) d_S_startOfWindow_12 fl_S_142 rfl rfl rfl ?_
    refine rd_icmp_ge (pc := 15) (tgt := 75) d_S_startOfWindow_15 rfl ⟨by omega, by omega⟩ ⟨by omega, by omega⟩ (fun h15 => ?_) (fun h15 => ?_)
    · skip
      refine rd_ildn (pc := 75) d_S_startOfWindow_75 rfl ?_
      exact rd_iret (pc := 76) d_S_startOfWindow_76 rfl (Nat.le_of_ble_eq_true rfl) (by rw [hb, ← sp_st_skip (a := K) n (by omega) (by omega)]; exact hQ)
    · skip
      obtain ⟨g0, g1, g2, g3⟩ := hG2.1 m m0 (by omega)
      have gk := hK _ g0 g1
      obtain ⟨_, _, gh, _⟩ := hI.claim g0 (by omega)
      have hWg := sp_W_b (d := c_d M) (y := y) (e := e) (h := M 12 (M 30 m)) hn40 hK
      have hKg : K ≤ (M 30 m).toNat := by (by_cases hz : K ≤ (M 30 m).toNat; exact hz; have hq := sp_cn_k (n := K) (p := sp_inE (c_d M) y e) g0 (by omega) g2; omega)
      have hst := sp_st_skip (d := c_d M) (n := n) (y := y) (e := e) (κ := M 24) (a := K) (M 30 m).toNat hKg (by omega)
      have hss := sp_st_s (d := c_d M) (n := n) (y := y) (e := e) (κ := M 24) (i := (M 30 m).toNat)
      rw [hst, ← hb, show (((M 30 m).toNat : Nat) : Int) = M 30 m by omega] at hss
      have hcn := (sp_cn_k (n := n) g0 g1 g2).2
      have eN : (M 30 m + 1).toNat = (M 30 m).toNat + 1 := by omega
      rw [eN, g3] at hcn
      refine rd_aldn (pc := 18) d_S_startOfWindow_18 rfl ?_
      refine rd_getr (pc := 19) d_S_startOfWindow_19 fl_S_15 rfl rfl ?_
      refine rd_getr (pc := 22) d_S_startOfWindow_22 fl_S_163 rfl rfl ?_
      refine rd_aldn (pc := 25) d_S_startOfWindow_25 rfl ?_
      refine rd_getr (pc := 26) d_S_startOfWindow_26 fl_S_47 rfl rfl ?_
      refine rd_ild (pc := 29) d_S_startOfWindow_29 rfl ?_
      refine rd_iald (pc := 31) d_S_startOfWindow_31 rfl (by omega) (by omega) ?_
      refine rd_iald (pc := 32) d_S_startOfWindow_32 rfl (by omega) (by omega) ?_
      refine rd_ist5 (pc := 33) d_S_startOfWindow_33 rfl ?_
      refine rd_aldn (pc := 35) d_S_startOfWindow_35 rfl ?_
      refine rd_ild (pc := 36) d_S_startOfWindow_36 rfl ?_
      refine rd_callVl (pc := 38) (n' := 0) [_] d_S_startOfWindow_38 ml_S_152 rfl (Nat.le_of_ble_eq_true rfl) (Nat.le_of_ble_eq_true rfl) (Nat.le_of_ble_eq_true rfl) rfl rfl rfl (Nat.le_of_ble_eq_true rfl) (Nat.le_of_ble_eq_true rfl) ?_
      refine ev_S_keptFrom hI hn hK hG ⟨by omega, by omega⟩ ?_
      rw [sp_W_eq]
      refine ⟨_, rfl, ?_⟩
      refine rd_lst6 (pc := 41) d_S_startOfWindow_41 rfl ?_
      refine rd_lld (pc := 43) d_S_startOfWindow_43 rfl ?_
      refine rd_lldn (pc := 45) d_S_startOfWindow_45 rfl ?_
      refine rd_lcmp_gt (pc := 46) (tgt := 63) d_S_startOfWindow_46 d_S_startOfWindow_47 rfl ⟨by omega, by omega⟩ ⟨by omega, by omega⟩ (fun h46 => ?_) (fun h46 => ?_)
      · skip
        refine rd_ild (pc := 63) d_S_startOfWindow_63 rfl ?_
        refine rd_ist1 (pc := 65) d_S_startOfWindow_65 rfl ?_
        refine rd_lld (pc := 66) d_S_startOfWindow_66 rfl ?_
        refine rd_lst2 (pc := 68) d_S_startOfWindow_68 rfl ?_
        refine rd_iinc4 (pc := 69) d_S_startOfWindow_69 rfl ?_
        refine rd_goto (pc := 72) (tgt := 9) d_S_startOfWindow_72 rfl ?_
        first
          | (refine rd_weak (L' := [some (.ref 4), some (rd_i (M 12 (M 30 m))), some (rd_l (sp_W (c_d M) n y e (M 24) (M 12 (M 30 m)))), none, some (rd_i (m + 1)), none, none, none]) (by simp [rd_le]) ?_
             refine ih _ (by omega) (m + 1) _ _ ((M 30 m).toNat + 1) rfl (by omega) (by omega) (by omega) hcn ?_ (by rw [if_neg (by omega)])
             rw [hss]
             refine (if_pos ⟨g2, ?_⟩).symm
             show b < 0 ∨ sp_W (c_d M) n y e (M 24) b < sp_W (c_d M) n y e (M 24) (M 12 (M 30 m)) ∨ (sp_W (c_d M) n y e (M 24) (M 12 (M 30 m)) = sp_W (c_d M) n y e (M 24) b ∧ M 12 (M 30 m) < b)
             omega)
          | (refine rd_weak (L' := [some (.ref 4), some (rd_i b), some (rd_l s), none, some (rd_i (m + 1)), none, none, none]) (by simp [rd_le]) ?_
             refine ih _ (by omega) (m + 1) _ _ ((M 30 m).toNat + 1) rfl (by omega) (by omega) (by omega) hcn ?_ hs
             rw [hss]
             refine (if_neg (fun z => ?_)).symm
             have z2 : b < 0 ∨ sp_W (c_d M) n y e (M 24) b < sp_W (c_d M) n y e (M 24) (M 12 (M 30 m)) ∨ (sp_W (c_d M) n y e (M 24) (M 12 (M 30 m)) = sp_W (c_d M) n y e (M 24) b ∧ M 12 (M 30 m) < b) := z.2
             omega)
      · skip
        refine rd_lld (pc := 50) d_S_startOfWindow_50 rfl ?_
        refine rd_lldn (pc := 52) d_S_startOfWindow_52 rfl ?_
        refine rd_lcmp_ne (pc := 53) (tgt := 69) d_S_startOfWindow_53 d_S_startOfWindow_54 rfl ⟨by omega, by omega⟩ ⟨by omega, by omega⟩ (fun h53 => ?_) (fun h53 => ?_)
        · skip
          refine rd_iinc4 (pc := 69) d_S_startOfWindow_69 rfl ?_
          refine rd_goto (pc := 72) (tgt := 9) d_S_startOfWindow_72 rfl ?_
          first
            | (refine rd_weak (L' := [some (.ref 4), some (rd_i (M 12 (M 30 m))), some (rd_l (sp_W (c_d M) n y e (M 24) (M 12 (M 30 m)))), none, some (rd_i (m + 1)), none, none, none]) (by simp [rd_le]) ?_
               refine ih _ (by omega) (m + 1) _ _ ((M 30 m).toNat + 1) rfl (by omega) (by omega) (by omega) hcn ?_ (by rw [if_neg (by omega)])
               rw [hss]
               refine (if_pos ⟨g2, ?_⟩).symm
               show b < 0 ∨ sp_W (c_d M) n y e (M 24) b < sp_W (c_d M) n y e (M 24) (M 12 (M 30 m)) ∨ (sp_W (c_d M) n y e (M 24) (M 12 (M 30 m)) = sp_W (c_d M) n y e (M 24) b ∧ M 12 (M 30 m) < b)
               omega)
            | (refine rd_weak (L' := [some (.ref 4), some (rd_i b), some (rd_l s), none, some (rd_i (m + 1)), none, none, none]) (by simp [rd_le]) ?_
               refine ih _ (by omega) (m + 1) _ _ ((M 30 m).toNat + 1) rfl (by omega) (by omega) (by omega) hcn ?_ hs
               rw [hss]
               refine (if_neg (fun z => ?_)).symm
               have z2 : b < 0 ∨ sp_W (c_d M) n y e (M 24) b < sp_W (c_d M) n y e (M 24) (M 12 (M 30 m)) ∨ (sp_W (c_d M) n y e (M 24) (M 12 (M 30 m)) = sp_W (c_d M) n y e (M 24) b ∧ M 12 (M 30 m) < b) := z.2
               omega)
        · skip
          refine rd_ild (pc := 57) d_S_startOfWindow_57 rfl ?_
          refine rd_ildn (pc := 59) d_S_startOfWindow_59 rfl ?_
          refine rd_icmp_ge (pc := 60) (tgt := 69) d_S_startOfWindow_60 rfl ⟨by omega, by omega⟩ ⟨by omega, by omega⟩ (fun h60 => ?_) (fun h60 => ?_)
          · skip
            refine rd_iinc4 (pc := 69) d_S_startOfWindow_69 rfl ?_
            refine rd_goto (pc := 72) (tgt := 9) d_S_startOfWindow_72 rfl ?_
            first
              | (refine rd_weak (L' := [some (.ref 4), some (rd_i (M 12 (M 30 m))), some (rd_l (sp_W (c_d M) n y e (M 24) (M 12 (M 30 m)))), none, some (rd_i (m + 1)), none, none, none]) (by simp [rd_le]) ?_
                 refine ih _ (by omega) (m + 1) _ _ ((M 30 m).toNat + 1) rfl (by omega) (by omega) (by omega) hcn ?_ (by rw [if_neg (by omega)])
                 rw [hss]
                 refine (if_pos ⟨g2, ?_⟩).symm
                 show b < 0 ∨ sp_W (c_d M) n y e (M 24) b < sp_W (c_d M) n y e (M 24) (M 12 (M 30 m)) ∨ (sp_W (c_d M) n y e (M 24) (M 12 (M 30 m)) = sp_W (c_d M) n y e (M 24) b ∧ M 12 (M 30 m) < b)
                 omega)
              | (refine rd_weak (L' := [some (.ref 4), some (rd_i b), some (rd_l s), none, some (rd_i (m + 1)), none, none, none]) (by simp [rd_le]) ?_
                 refine ih _ (by omega) (m + 1) _ _ ((M 30 m).toNat + 1) rfl (by omega) (by omega) (by omega) hcn ?_ hs
                 rw [hss]
                 refine (if_neg (fun z => ?_)).symm
                 have z2 : b < 0 ∨ sp_W (c_d M) n y e (M 24) b < sp_W (c_d M) n y e (M 24) (M 12 (M 30 m)) ∨ (sp_W (c_d M) n y e (M 24) (M 12 (M 30 m)) = sp_W (c_d M) n y e (M 24) b ∧ M 12 (M 30 m) < b) := z.2
                 omega)
          · skip
            refine rd_ild (pc := 63) d_S_startOfWindow_63 rfl ?_
            refine rd_ist1 (pc := 65) d_S_startOfWindow_65 rfl ?_
            refine rd_lld (pc := 66) d_S_startOfWindow_66 rfl ?_
            refine rd_lst2 (pc := 68) d_S_startOfWindow_68 rfl ?_
            refine rd_iinc4 (pc := 69) d_S_startOfWindow_69 rfl ?_
            refine rd_goto (pc := 72) (tgt := 9) d_S_startOfWindow_72 rfl ?_
            first
              | (refine rd_weak (L' := [some (.ref 4), some (rd_i (M 12 (M 30 m))), some (rd_l (sp_W (c_d M) n y e (M 24) (M 12 (M 30 m)))), none, some (rd_i (m + 1)), none, none, none]) (by simp [rd_le]) ?_
                 refine ih _ (by omega) (m + 1) _ _ ((M 30 m).toNat + 1) rfl (by omega) (by omega) (by omega) hcn ?_ (by rw [if_neg (by omega)])
                 rw [hss]
                 refine (if_pos ⟨g2, ?_⟩).symm
                 show b < 0 ∨ sp_W (c_d M) n y e (M 24) b < sp_W (c_d M) n y e (M 24) (M 12 (M 30 m)) ∨ (sp_W (c_d M) n y e (M 24) (M 12 (M 30 m)) = sp_W (c_d M) n y e (M 24) b ∧ M 12 (M 30 m) < b)
                 omega)
              | (refine rd_weak (L' := [some (.ref 4), some (rd_i b), some (rd_l s), none, some (rd_i (m + 1)), none, none, none]) (by simp [rd_le]) ?_
                 refine ih _ (by omega) (m + 1) _ _ ((M 30 m).toNat + 1) rfl (by omega) (by omega) (by omega) hcn ?_ hs
                 rw [hss]
                 refine (if_neg (fun z => ?_)).symm
                 have z2 : b < 0 ∨ sp_W (c_d M) n y e (M 24) b < sp_W (c_d M) n y e (M 24) (M 12 (M 30 m)) ∨ (sp_W (c_d M) n y e (M 24) (M 12 (M 30 m)) = sp_W (c_d M) n y e (M 24) b ∧ M 12 (M 30 m) < b) := z.2
                 omega)
set_option maxHeartbeats 4000000 in
set_option maxRecDepth 100000 in
theorem ev_S_startOfWindow {y e : Int} {n : Nat} {M : rd_M} {Q : rd_R → rd_M → Prop} (hI : c_I M) (hn : M 2 0 = n) (hK : ∀ k : Int, 0 ≤ k → k < n → 0 ≤ M 24 k ∧ M 24 k ≤ 1000000000) (hG : c_G M n (sp_inE (c_d M) y e)) (hQ : Q (.inl (some (rd_i (sp_st (c_d M) n y e (M 24) n)))) (M)) : rd_G x_S_startOfWindow 0 [some (.ref 4), none, none, none, none, none, none, none] [] M 0 Q := by
  refine rd_iconst (pc := 0) d_S_startOfWindow_0 ?_
  refine rd_ist1 (pc := 1) d_S_startOfWindow_1 rfl ?_
  refine rd_ldc2 (pc := 2) (v := -1) d_S_startOfWindow_2 kl_S_166 ?_
  refine rd_lst2 (pc := 5) d_S_startOfWindow_5 rfl ?_
  refine rd_iconst (pc := 6) d_S_startOfWindow_6 ?_
  refine rd_ist4 (pc := 7) d_S_startOfWindow_7 rfl ?_
  have := sp_cn_nn (n := n) (p := sp_inE (c_d M) y e)
  exact lq_S_startOfWindow hI hn hK hG hQ _ 0 (-1) (-1) 0 rfl (by omega) (by omega) (by omega) rfl rfl rfl

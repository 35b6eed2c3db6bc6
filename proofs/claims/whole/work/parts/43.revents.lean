/-! the reference: the excess of events -/
set_option maxHeartbeats 4000000 in
set_option maxRecDepth 100000 in
theorem lq_M_evA {t e : Int} {n nt : Nat} {M : rd_M} {Q : rd_R → rd_M → Prop} (hB : r_B M n nt) (hK : ∀ k : Int, 0 ≤ k → k < n → 0 ≤ M 49 k ∧ M 49 k ≤ 1000000000) (h0 : 0 ≤ t) (h1 : t < 10) (he : 1 ≤ e ∧ e ≤ 9) (hX : ∀ i : Int, rd_G x_M_excessOfEvents 133 [some (.ref 32), some (rd_i t), some (rd_i e), some (rd_i (sp_st (r_d M) n ((M 41 t).tmod 10) e (M 49) n)), some (rd_i i), none, none, none] [] M 0 Q) : ∀ (d : Nat) (i a : Int), (n - i).toNat = d → (0 ≤ i) → (i ≤ n) → (a = sp_st (r_d M) n ((M 41 t).tmod 10) e (M 49) i.toNat) → rd_G x_M_excessOfEvents 13 [some (.ref 32), some (rd_i t), some (rd_i e), some (rd_i (a)), some (rd_i i), none, none, none] [] M 0 Q := by
  intro d
  induction d using Nat.strongRecOn with
  | ind d ih =>
    intro i a hd i0 i1 ha
    have hn := hB.1
    have hn4 := hB.2.2.1
    obtain ⟨s1, s2, s3, _⟩ := hB.sh h0 h1
    have hab := sp_st_b (d := r_d M) (n := n) (y := ((M 41 t).tmod 10)) (e := e) (κ := M 49) (fun k a c => (hB.claim a c).2.2.1) i.toNat (by omega)
    rw [← ha] at hab
    refine rd_ild (pc := 13) d_M_excessOfEvents_13 rfl ?_
    refine rd_aldn (pc := 15) d_M_excessOfEvents_15 rfl ?_
    refine rd_gi (pc := 16) (ki := 9) d_M_excessOfEvents_16 fl_M_97 rfl rfl rfl ?_
    refine rd_icmp_ge (pc := 19) (tgt := 133) d_M_excessOfEvents_19 rfl ⟨by omega, by omega⟩ ⟨by omega, by omega⟩ (fun h19 => ?_) (fun h19 => ?_)
    · skip
      have hh := hX i
      rw [show n = i.toNat by omega] at hh
      rw [show i.toNat = n by omega] at hh ha
      rw [← ha] at hh
      exact hh
    · skip
      obtain ⟨c1, c2, c3, c4, c5⟩ := hB.claim i0 (by omega)
      have hss := sp_st_s (d := r_d M) (n := n) (y := ((M 41 t).tmod 10)) (e := e) (κ := M 49) (i := i.toNat)
      have eI : ((i.toNat : Nat) : Int) = i := by omega
      rw [← ha, eI] at hss
      have eN : (i + 1).toNat = i.toNat + 1 := by omega
      have hWh := sp_W_b (d := r_d M) (n := n) (y := ((M 41 t).tmod 10)) (e := e) (h := M 38 i) hn4 hK
      have hWa := sp_W_b (d := r_d M) (n := n) (y := ((M 41 t).tmod 10)) (e := e) (h := a) hn4 hK
      refine rd_aldn (pc := 22) d_M_excessOfEvents_22 rfl ?_
      refine rd_ild (pc := 23) d_M_excessOfEvents_23 rfl ?_
      refine rd_aldn (pc := 25) d_M_excessOfEvents_25 rfl ?_
      refine rd_ildn (pc := 26) d_M_excessOfEvents_26 rfl ?_
      refine rd_callVi (pc := 27) (n' := 0) [_] d_M_excessOfEvents_27 ml_M_130 rfl (Nat.le_of_ble_eq_true rfl) (Nat.le_of_ble_eq_true rfl) (Nat.le_of_ble_eq_true rfl) rfl rfl rfl (Nat.le_of_ble_eq_true rfl) (Nat.le_of_ble_eq_true rfl) ?_
      refine ev_M_treatyYear hB h0 h1 ?_
      refine ⟨_, rfl, ?_⟩
      refine rd_callVi (pc := 30) (n' := 0) [_, _] d_M_excessOfEvents_30 ml_M_160 rfl (Nat.le_of_ble_eq_true rfl) (Nat.le_of_ble_eq_true rfl) (Nat.le_of_ble_eq_true rfl) rfl rfl rfl (Nat.le_of_ble_eq_true rfl) (Nat.le_of_ble_eq_true rfl) ?_
      refine ev_M_counts hB i0 (by omega) ⟨by omega, by omega⟩ (fun hct => ⟨_, rfl, ?_⟩) (fun hct => ⟨_, rfl, ?_⟩)
      · skip
        refine rd_if_eq (pc := 33) (tgt := 127) d_M_excessOfEvents_33 rfl ⟨by omega, by omega⟩ (fun h33 => ?_) (fun h33 => ?_)
        · exact absurd h33 (by decide)
        · skip
          refine rd_aldn (pc := 36) d_M_excessOfEvents_36 rfl ?_
          refine rd_getr (pc := 37) d_M_excessOfEvents_37 fl_M_22 rfl rfl ?_
          refine rd_ild (pc := 40) d_M_excessOfEvents_40 rfl ?_
          refine rd_iald (pc := 42) d_M_excessOfEvents_42 rfl (by omega) (by omega) ?_
          refine rd_ildn (pc := 43) d_M_excessOfEvents_43 rfl ?_
          refine rd_icmp_ne (pc := 44) (tgt := 127) d_M_excessOfEvents_44 rfl ⟨by omega, by omega⟩ ⟨by omega, by omega⟩ (fun h44 => ?_) (fun h44 => ?_)
          · skip
            refine rd_iinc4 (pc := 127) d_M_excessOfEvents_127 rfl ?_
            refine rd_goto (pc := 130) (tgt := 13) d_M_excessOfEvents_130 rfl ?_
            by_cases hc : (M 40 i = 0 ∧ M 35 (M 36 i) = ((M 41 t).tmod 10)) ∧ M 37 i = e
            · have hp : sp_inE (r_d M) ((M 41 t).tmod 10) e i = 1 := sp_inE_1.2 hc
              by_cases hb : a < 0 ∨ sp_W (r_d M) n ((M 41 t).tmod 10) e (M 49) a < sp_W (r_d M) n ((M 41 t).tmod 10) e (M 49) (M 38 i) ∨ (sp_W (r_d M) n ((M 41 t).tmod 10) e (M 49) (M 38 i) = sp_W (r_d M) n ((M 41 t).tmod 10) e (M 49) a ∧ M 38 i < a)
              · first | (exfalso; omega) | (refine rd_weak (L' := [some (.ref 32), some (rd_i t), some (rd_i e), some (rd_i (M 38 i)), some (rd_i (i + 1)), none, none, none]) (by simp [rd_le]) ?_
                                            exact ih _ (by omega) (i + 1) _ rfl (by omega) (by omega) (by rw [eN, hss]; exact (if_pos ⟨hp, hb⟩).symm))
              · first | (exfalso; omega) | (refine rd_weak (L' := [some (.ref 32), some (rd_i t), some (rd_i e), some (rd_i (a)), some (rd_i (i + 1)), none, none, none]) (by simp [rd_le]) ?_
                                            exact ih _ (by omega) (i + 1) _ rfl (by omega) (by omega) (by rw [eN, hss]; exact (if_neg (fun z => hb z.2)).symm))
            · first | (exfalso; omega) | (refine rd_weak (L' := [some (.ref 32), some (rd_i t), some (rd_i e), some (rd_i (a)), some (rd_i (i + 1)), none, none, none]) (by simp [rd_le]) ?_
                                          exact ih _ (by omega) (i + 1) _ rfl (by omega) (by omega) (by rw [eN, hss]; exact (if_neg (fun z => hc (sp_inE_1.1 z.1))).symm))
          · skip
            refine rd_aldn (pc := 47) d_M_excessOfEvents_47 rfl ?_
            refine rd_ildn (pc := 48) d_M_excessOfEvents_48 rfl ?_
            refine rd_ildn (pc := 49) d_M_excessOfEvents_49 rfl ?_
            refine rd_aldn (pc := 50) d_M_excessOfEvents_50 rfl ?_
            refine rd_getr (pc := 51) d_M_excessOfEvents_51 fl_M_25 rfl rfl ?_
            refine rd_ild (pc := 54) d_M_excessOfEvents_54 rfl ?_
            refine rd_iald (pc := 56) d_M_excessOfEvents_56 rfl (by omega) (by omega) ?_
            refine rd_callVl (pc := 57) (n' := 0) [_, _, _] d_M_excessOfEvents_57 ml_M_172 rfl (Nat.le_of_ble_eq_true rfl) (Nat.le_of_ble_eq_true rfl) (Nat.le_of_ble_eq_true rfl) rfl rfl rfl (Nat.le_of_ble_eq_true rfl) (Nat.le_of_ble_eq_true rfl) ?_
            refine ev_M_inWindow hB hK h0 h1 he ⟨by omega, by omega⟩ ?_
            refine ⟨_, rfl, ?_⟩
            refine rd_lst5 (pc := 60) d_M_excessOfEvents_60 rfl ?_
            refine rd_ildn (pc := 62) d_M_excessOfEvents_62 rfl ?_
            refine rd_if_lt (pc := 63) (tgt := 103) d_M_excessOfEvents_63 rfl ⟨by omega, by omega⟩ (fun h63 => ?_) (fun h63 => ?_)
            · skip
              refine rd_iconst (pc := 103) d_M_excessOfEvents_103 ?_
              refine rd_goto (pc := 104) (tgt := 108) d_M_excessOfEvents_104 rfl ?_
              refine rd_ist7 (pc := 108) d_M_excessOfEvents_108 rfl ?_
              refine rd_ild (pc := 110) d_M_excessOfEvents_110 rfl ?_
              refine rd_if_eq (pc := 112) (tgt := 125) d_M_excessOfEvents_112 rfl ⟨by omega, by omega⟩ (fun h112 => ?_) (fun h112 => ?_)
              · skip
                refine rd_ildn (pc := 125) d_M_excessOfEvents_125 rfl ?_
                refine rd_ist3 (pc := 126) d_M_excessOfEvents_126 rfl ?_
                refine rd_iinc4 (pc := 127) d_M_excessOfEvents_127 rfl ?_
                refine rd_goto (pc := 130) (tgt := 13) d_M_excessOfEvents_130 rfl ?_
                by_cases hc : (M 40 i = 0 ∧ M 35 (M 36 i) = ((M 41 t).tmod 10)) ∧ M 37 i = e
                · have hp : sp_inE (r_d M) ((M 41 t).tmod 10) e i = 1 := sp_inE_1.2 hc
                  by_cases hb : a < 0 ∨ sp_W (r_d M) n ((M 41 t).tmod 10) e (M 49) a < sp_W (r_d M) n ((M 41 t).tmod 10) e (M 49) (M 38 i) ∨ (sp_W (r_d M) n ((M 41 t).tmod 10) e (M 49) (M 38 i) = sp_W (r_d M) n ((M 41 t).tmod 10) e (M 49) a ∧ M 38 i < a)
                  · first | (exfalso; omega) | (refine rd_weak (L' := [some (.ref 32), some (rd_i t), some (rd_i e), some (rd_i (M 38 i)), some (rd_i (i + 1)), none, none, none]) (by simp [rd_le]) ?_
                                                exact ih _ (by omega) (i + 1) _ rfl (by omega) (by omega) (by rw [eN, hss]; exact (if_pos ⟨hp, hb⟩).symm))
                  · first | (exfalso; omega) | (refine rd_weak (L' := [some (.ref 32), some (rd_i t), some (rd_i e), some (rd_i (a)), some (rd_i (i + 1)), none, none, none]) (by simp [rd_le]) ?_
                                                exact ih _ (by omega) (i + 1) _ rfl (by omega) (by omega) (by rw [eN, hss]; exact (if_neg (fun z => hb z.2)).symm))
                · first | (exfalso; omega) | (refine rd_weak (L' := [some (.ref 32), some (rd_i t), some (rd_i e), some (rd_i (a)), some (rd_i (i + 1)), none, none, none]) (by simp [rd_le]) ?_
                                              exact ih _ (by omega) (i + 1) _ rfl (by omega) (by omega) (by rw [eN, hss]; exact (if_neg (fun z => hc (sp_inE_1.1 z.1))).symm))
              · skip
                refine rd_aldn (pc := 115) d_M_excessOfEvents_115 rfl ?_
                refine rd_getr (pc := 116) d_M_excessOfEvents_116 fl_M_25 rfl rfl ?_
                refine rd_ild (pc := 119) d_M_excessOfEvents_119 rfl ?_
                refine rd_iald (pc := 121) d_M_excessOfEvents_121 rfl (by omega) (by omega) ?_
                refine rd_goto (pc := 122) (tgt := 126) d_M_excessOfEvents_122 rfl ?_
                refine rd_ist3 (pc := 126) d_M_excessOfEvents_126 rfl ?_
                refine rd_iinc4 (pc := 127) d_M_excessOfEvents_127 rfl ?_
                refine rd_goto (pc := 130) (tgt := 13) d_M_excessOfEvents_130 rfl ?_
                by_cases hc : (M 40 i = 0 ∧ M 35 (M 36 i) = ((M 41 t).tmod 10)) ∧ M 37 i = e
                · have hp : sp_inE (r_d M) ((M 41 t).tmod 10) e i = 1 := sp_inE_1.2 hc
                  by_cases hb : a < 0 ∨ sp_W (r_d M) n ((M 41 t).tmod 10) e (M 49) a < sp_W (r_d M) n ((M 41 t).tmod 10) e (M 49) (M 38 i) ∨ (sp_W (r_d M) n ((M 41 t).tmod 10) e (M 49) (M 38 i) = sp_W (r_d M) n ((M 41 t).tmod 10) e (M 49) a ∧ M 38 i < a)
                  · first | (exfalso; omega) | (refine rd_weak (L' := [some (.ref 32), some (rd_i t), some (rd_i e), some (rd_i (M 38 i)), some (rd_i (i + 1)), none, none, none]) (by simp [rd_le]) ?_
                                                exact ih _ (by omega) (i + 1) _ rfl (by omega) (by omega) (by rw [eN, hss]; exact (if_pos ⟨hp, hb⟩).symm))
                  · first | (exfalso; omega) | (refine rd_weak (L' := [some (.ref 32), some (rd_i t), some (rd_i e), some (rd_i (a)), some (rd_i (i + 1)), none, none, none]) (by simp [rd_le]) ?_
                                                exact ih _ (by omega) (i + 1) _ rfl (by omega) (by omega) (by rw [eN, hss]; exact (if_neg (fun z => hb z.2)).symm))
                · first | (exfalso; omega) | (refine rd_weak (L' := [some (.ref 32), some (rd_i t), some (rd_i e), some (rd_i (a)), some (rd_i (i + 1)), none, none, none]) (by simp [rd_le]) ?_
                                              exact ih _ (by omega) (i + 1) _ rfl (by omega) (by omega) (by rw [eN, hss]; exact (if_neg (fun z => hc (sp_inE_1.1 z.1))).symm))
            · skip
              refine rd_lld (pc := 66) d_M_excessOfEvents_66 rfl ?_
              refine rd_aldn (pc := 68) d_M_excessOfEvents_68 rfl ?_
              refine rd_ildn (pc := 69) d_M_excessOfEvents_69 rfl ?_
              refine rd_ildn (pc := 70) d_M_excessOfEvents_70 rfl ?_
              refine rd_ildn (pc := 71) d_M_excessOfEvents_71 rfl ?_
              refine rd_callVl (pc := 72) (n' := 0) [_, _, _] d_M_excessOfEvents_72 ml_M_172 rfl (Nat.le_of_ble_eq_true rfl) (Nat.le_of_ble_eq_true rfl) (Nat.le_of_ble_eq_true rfl) rfl rfl rfl (Nat.le_of_ble_eq_true rfl) (Nat.le_of_ble_eq_true rfl) ?_
              refine ev_M_inWindow hB hK h0 h1 he ⟨by omega, by omega⟩ ?_
              refine ⟨_, rfl, ?_⟩
              refine rd_lcmp_gt (pc := 75) (tgt := 103) d_M_excessOfEvents_75 d_M_excessOfEvents_76 rfl ⟨by omega, by omega⟩ ⟨by omega, by omega⟩ (fun h75 => ?_) (fun h75 => ?_)
              · skip
                refine rd_iconst (pc := 103) d_M_excessOfEvents_103 ?_
                refine rd_goto (pc := 104) (tgt := 108) d_M_excessOfEvents_104 rfl ?_
                refine rd_ist7 (pc := 108) d_M_excessOfEvents_108 rfl ?_
                refine rd_ild (pc := 110) d_M_excessOfEvents_110 rfl ?_
                refine rd_if_eq (pc := 112) (tgt := 125) d_M_excessOfEvents_112 rfl ⟨by omega, by omega⟩ (fun h112 => ?_) (fun h112 => ?_)
                · skip
                  refine rd_ildn (pc := 125) d_M_excessOfEvents_125 rfl ?_
                  refine rd_ist3 (pc := 126) d_M_excessOfEvents_126 rfl ?_
                  refine rd_iinc4 (pc := 127) d_M_excessOfEvents_127 rfl ?_
                  refine rd_goto (pc := 130) (tgt := 13) d_M_excessOfEvents_130 rfl ?_
                  by_cases hc : (M 40 i = 0 ∧ M 35 (M 36 i) = ((M 41 t).tmod 10)) ∧ M 37 i = e
                  · have hp : sp_inE (r_d M) ((M 41 t).tmod 10) e i = 1 := sp_inE_1.2 hc
                    by_cases hb : a < 0 ∨ sp_W (r_d M) n ((M 41 t).tmod 10) e (M 49) a < sp_W (r_d M) n ((M 41 t).tmod 10) e (M 49) (M 38 i) ∨ (sp_W (r_d M) n ((M 41 t).tmod 10) e (M 49) (M 38 i) = sp_W (r_d M) n ((M 41 t).tmod 10) e (M 49) a ∧ M 38 i < a)
                    · first | (exfalso; omega) | (refine rd_weak (L' := [some (.ref 32), some (rd_i t), some (rd_i e), some (rd_i (M 38 i)), some (rd_i (i + 1)), none, none, none]) (by simp [rd_le]) ?_
                                                  exact ih _ (by omega) (i + 1) _ rfl (by omega) (by omega) (by rw [eN, hss]; exact (if_pos ⟨hp, hb⟩).symm))
                    · first | (exfalso; omega) | (refine rd_weak (L' := [some (.ref 32), some (rd_i t), some (rd_i e), some (rd_i (a)), some (rd_i (i + 1)), none, none, none]) (by simp [rd_le]) ?_
                                                  exact ih _ (by omega) (i + 1) _ rfl (by omega) (by omega) (by rw [eN, hss]; exact (if_neg (fun z => hb z.2)).symm))
                  · first | (exfalso; omega) | (refine rd_weak (L' := [some (.ref 32), some (rd_i t), some (rd_i e), some (rd_i (a)), some (rd_i (i + 1)), none, none, none]) (by simp [rd_le]) ?_
                                                exact ih _ (by omega) (i + 1) _ rfl (by omega) (by omega) (by rw [eN, hss]; exact (if_neg (fun z => hc (sp_inE_1.1 z.1))).symm))
                · skip
                  refine rd_aldn (pc := 115) d_M_excessOfEvents_115 rfl ?_
                  refine rd_getr (pc := 116) d_M_excessOfEvents_116 fl_M_25 rfl rfl ?_
                  refine rd_ild (pc := 119) d_M_excessOfEvents_119 rfl ?_
                  refine rd_iald (pc := 121) d_M_excessOfEvents_121 rfl (by omega) (by omega) ?_
                  refine rd_goto (pc := 122) (tgt := 126) d_M_excessOfEvents_122 rfl ?_
                  refine rd_ist3 (pc := 126) d_M_excessOfEvents_126 rfl ?_
                  refine rd_iinc4 (pc := 127) d_M_excessOfEvents_127 rfl ?_
                  refine rd_goto (pc := 130) (tgt := 13) d_M_excessOfEvents_130 rfl ?_
                  by_cases hc : (M 40 i = 0 ∧ M 35 (M 36 i) = ((M 41 t).tmod 10)) ∧ M 37 i = e
                  · have hp : sp_inE (r_d M) ((M 41 t).tmod 10) e i = 1 := sp_inE_1.2 hc
                    by_cases hb : a < 0 ∨ sp_W (r_d M) n ((M 41 t).tmod 10) e (M 49) a < sp_W (r_d M) n ((M 41 t).tmod 10) e (M 49) (M 38 i) ∨ (sp_W (r_d M) n ((M 41 t).tmod 10) e (M 49) (M 38 i) = sp_W (r_d M) n ((M 41 t).tmod 10) e (M 49) a ∧ M 38 i < a)
                    · first | (exfalso; omega) | (refine rd_weak (L' := [some (.ref 32), some (rd_i t), some (rd_i e), some (rd_i (M 38 i)), some (rd_i (i + 1)), none, none, none]) (by simp [rd_le]) ?_
                                                  exact ih _ (by omega) (i + 1) _ rfl (by omega) (by omega) (by rw [eN, hss]; exact (if_pos ⟨hp, hb⟩).symm))
                    · first | (exfalso; omega) | (refine rd_weak (L' := [some (.ref 32), some (rd_i t), some (rd_i e), some (rd_i (a)), some (rd_i (i + 1)), none, none, none]) (by simp [rd_le]) ?_
                                                  exact ih _ (by omega) (i + 1) _ rfl (by omega) (by omega) (by rw [eN, hss]; exact (if_neg (fun z => hb z.2)).symm))
                  · first | (exfalso; omega) | (refine rd_weak (L' := [some (.ref 32), some (rd_i t), some (rd_i e), some (rd_i (a)), some (rd_i (i + 1)), none, none, none]) (by simp [rd_le]) ?_
                                                exact ih _ (by omega) (i + 1) _ rfl (by omega) (by omega) (by rw [eN, hss]; exact (if_neg (fun z => hc (sp_inE_1.1 z.1))).symm))
              · skip
                refine rd_lld (pc := 79) d_M_excessOfEvents_79 rfl ?_
                refine rd_aldn (pc := 81) d_M_excessOfEvents_81 rfl ?_
                refine rd_ildn (pc := 82) d_M_excessOfEvents_82 rfl ?_
                refine rd_ildn (pc := 83) d_M_excessOfEvents_83 rfl ?_
                refine rd_ildn (pc := 84) d_M_excessOfEvents_84 rfl ?_
                refine rd_callVl (pc := 85) (n' := 0) [_, _, _] d_M_excessOfEvents_85 ml_M_172 rfl (Nat.le_of_ble_eq_true rfl) (Nat.le_of_ble_eq_true rfl) (Nat.le_of_ble_eq_true rfl) rfl rfl rfl (Nat.le_of_ble_eq_true rfl) (Nat.le_of_ble_eq_true rfl) ?_
                refine ev_M_inWindow hB hK h0 h1 he ⟨by omega, by omega⟩ ?_
                refine ⟨_, rfl, ?_⟩
                refine rd_lcmp_ne (pc := 88) (tgt := 107) d_M_excessOfEvents_88 d_M_excessOfEvents_89 rfl ⟨by omega, by omega⟩ ⟨by omega, by omega⟩ (fun h88 => ?_) (fun h88 => ?_)
                · skip
                  refine rd_iconst (pc := 107) d_M_excessOfEvents_107 ?_
                  refine rd_ist7 (pc := 108) d_M_excessOfEvents_108 rfl ?_
                  refine rd_ild (pc := 110) d_M_excessOfEvents_110 rfl ?_
                  refine rd_if_eq (pc := 112) (tgt := 125) d_M_excessOfEvents_112 rfl ⟨by omega, by omega⟩ (fun h112 => ?_) (fun h112 => ?_)
                  · skip
                    refine rd_ildn (pc := 125) d_M_excessOfEvents_125 rfl ?_
                    refine rd_ist3 (pc := 126) d_M_excessOfEvents_126 rfl ?_
                    refine rd_iinc4 (pc := 127) d_M_excessOfEvents_127 rfl ?_
                    refine rd_goto (pc := 130) (tgt := 13) d_M_excessOfEvents_130 rfl ?_
                    by_cases hc : (M 40 i = 0 ∧ M 35 (M 36 i) = ((M 41 t).tmod 10)) ∧ M 37 i = e
                    · have hp : sp_inE (r_d M) ((M 41 t).tmod 10) e i = 1 := sp_inE_1.2 hc
                      by_cases hb : a < 0 ∨ sp_W (r_d M) n ((M 41 t).tmod 10) e (M 49) a < sp_W (r_d M) n ((M 41 t).tmod 10) e (M 49) (M 38 i) ∨ (sp_W (r_d M) n ((M 41 t).tmod 10) e (M 49) (M 38 i) = sp_W (r_d M) n ((M 41 t).tmod 10) e (M 49) a ∧ M 38 i < a)
                      · first | (exfalso; omega) | (refine rd_weak (L' := [some (.ref 32), some (rd_i t), some (rd_i e), some (rd_i (M 38 i)), some (rd_i (i + 1)), none, none, none]) (by simp [rd_le]) ?_
                                                    exact ih _ (by omega) (i + 1) _ rfl (by omega) (by omega) (by rw [eN, hss]; exact (if_pos ⟨hp, hb⟩).symm))
                      · first | (exfalso; omega) | (refine rd_weak (L' := [some (.ref 32), some (rd_i t), some (rd_i e), some (rd_i (a)), some (rd_i (i + 1)), none, none, none]) (by simp [rd_le]) ?_
                                                    exact ih _ (by omega) (i + 1) _ rfl (by omega) (by omega) (by rw [eN, hss]; exact (if_neg (fun z => hb z.2)).symm))
                    · first | (exfalso; omega) | (refine rd_weak (L' := [some (.ref 32), some (rd_i t), some (rd_i e), some (rd_i (a)), some (rd_i (i + 1)), none, none, none]) (by simp [rd_le]) ?_
                                                  exact ih _ (by omega) (i + 1) _ rfl (by omega) (by omega) (by rw [eN, hss]; exact (if_neg (fun z => hc (sp_inE_1.1 z.1))).symm))
                  · skip
                    refine rd_aldn (pc := 115) d_M_excessOfEvents_115 rfl ?_
                    refine rd_getr (pc := 116) d_M_excessOfEvents_116 fl_M_25 rfl rfl ?_
                    refine rd_ild (pc := 119) d_M_excessOfEvents_119 rfl ?_
                    refine rd_iald (pc := 121) d_M_excessOfEvents_121 rfl (by omega) (by omega) ?_
                    refine rd_goto (pc := 122) (tgt := 126) d_M_excessOfEvents_122 rfl ?_
                    refine rd_ist3 (pc := 126) d_M_excessOfEvents_126 rfl ?_
                    refine rd_iinc4 (pc := 127) d_M_excessOfEvents_127 rfl ?_
                    refine rd_goto (pc := 130) (tgt := 13) d_M_excessOfEvents_130 rfl ?_
                    by_cases hc : (M 40 i = 0 ∧ M 35 (M 36 i) = ((M 41 t).tmod 10)) ∧ M 37 i = e
                    · have hp : sp_inE (r_d M) ((M 41 t).tmod 10) e i = 1 := sp_inE_1.2 hc
                      by_cases hb : a < 0 ∨ sp_W (r_d M) n ((M 41 t).tmod 10) e (M 49) a < sp_W (r_d M) n ((M 41 t).tmod 10) e (M 49) (M 38 i) ∨ (sp_W (r_d M) n ((M 41 t).tmod 10) e (M 49) (M 38 i) = sp_W (r_d M) n ((M 41 t).tmod 10) e (M 49) a ∧ M 38 i < a)
                      · first | (exfalso; omega) | (refine rd_weak (L' := [some (.ref 32), some (rd_i t), some (rd_i e), some (rd_i (M 38 i)), some (rd_i (i + 1)), none, none, none]) (by simp [rd_le]) ?_
                                                    exact ih _ (by omega) (i + 1) _ rfl (by omega) (by omega) (by rw [eN, hss]; exact (if_pos ⟨hp, hb⟩).symm))
                      · first | (exfalso; omega) | (refine rd_weak (L' := [some (.ref 32), some (rd_i t), some (rd_i e), some (rd_i (a)), some (rd_i (i + 1)), none, none, none]) (by simp [rd_le]) ?_
                                                    exact ih _ (by omega) (i + 1) _ rfl (by omega) (by omega) (by rw [eN, hss]; exact (if_neg (fun z => hb z.2)).symm))
                    · first | (exfalso; omega) | (refine rd_weak (L' := [some (.ref 32), some (rd_i t), some (rd_i e), some (rd_i (a)), some (rd_i (i + 1)), none, none, none]) (by simp [rd_le]) ?_
                                                  exact ih _ (by omega) (i + 1) _ rfl (by omega) (by omega) (by rw [eN, hss]; exact (if_neg (fun z => hc (sp_inE_1.1 z.1))).symm))
                · skip
                  refine rd_aldn (pc := 92) d_M_excessOfEvents_92 rfl ?_
                  refine rd_getr (pc := 93) d_M_excessOfEvents_93 fl_M_25 rfl rfl ?_
                  refine rd_ild (pc := 96) d_M_excessOfEvents_96 rfl ?_
                  refine rd_iald (pc := 98) d_M_excessOfEvents_98 rfl (by omega) (by omega) ?_
                  refine rd_ildn (pc := 99) d_M_excessOfEvents_99 rfl ?_
                  refine rd_icmp_ge (pc := 100) (tgt := 107) d_M_excessOfEvents_100 rfl ⟨by omega, by omega⟩ ⟨by omega, by omega⟩ (fun h100 => ?_) (fun h100 => ?_)
                  · skip
                    refine rd_iconst (pc := 107) d_M_excessOfEvents_107 ?_
                    refine rd_ist7 (pc := 108) d_M_excessOfEvents_108 rfl ?_
                    refine rd_ild (pc := 110) d_M_excessOfEvents_110 rfl ?_
                    refine rd_if_eq (pc := 112) (tgt := 125) d_M_excessOfEvents_112 rfl ⟨by omega, by omega⟩ (fun h112 => ?_) (fun h112 => ?_)
                    · skip
                      refine rd_ildn (pc := 125) d_M_excessOfEvents_125 rfl ?_
                      refine rd_ist3 (pc := 126) d_M_excessOfEvents_126 rfl ?_
                      refine rd_iinc4 (pc := 127) d_M_excessOfEvents_127 rfl ?_
                      refine rd_goto (pc := 130) (tgt := 13) d_M_excessOfEvents_130 rfl ?_
                      by_cases hc : (M 40 i = 0 ∧ M 35 (M 36 i) = ((M 41 t).tmod 10)) ∧ M 37 i = e
                      · have hp : sp_inE (r_d M) ((M 41 t).tmod 10) e i = 1 := sp_inE_1.2 hc
                        by_cases hb : a < 0 ∨ sp_W (r_d M) n ((M 41 t).tmod 10) e (M 49) a < sp_W (r_d M) n ((M 41 t).tmod 10) e (M 49) (M 38 i) ∨ (sp_W (r_d M) n ((M 41 t).tmod 10) e (M 49) (M 38 i) = sp_W (r_d M) n ((M 41 t).tmod 10) e (M 49) a ∧ M 38 i < a)
                        · first | (exfalso; omega) | (refine rd_weak (L' := [some (.ref 32), some (rd_i t), some (rd_i e), some (rd_i (M 38 i)), some (rd_i (i + 1)), none, none, none]) (by simp [rd_le]) ?_
                                                      exact ih _ (by omega) (i + 1) _ rfl (by omega) (by omega) (by rw [eN, hss]; exact (if_pos ⟨hp, hb⟩).symm))
                        · first | (exfalso; omega) | (refine rd_weak (L' := [some (.ref 32), some (rd_i t), some (rd_i e), some (rd_i (a)), some (rd_i (i + 1)), none, none, none]) (by simp [rd_le]) ?_
                                                      exact ih _ (by omega) (i + 1) _ rfl (by omega) (by omega) (by rw [eN, hss]; exact (if_neg (fun z => hb z.2)).symm))
                      · first | (exfalso; omega) | (refine rd_weak (L' := [some (.ref 32), some (rd_i t), some (rd_i e), some (rd_i (a)), some (rd_i (i + 1)), none, none, none]) (by simp [rd_le]) ?_
                                                    exact ih _ (by omega) (i + 1) _ rfl (by omega) (by omega) (by rw [eN, hss]; exact (if_neg (fun z => hc (sp_inE_1.1 z.1))).symm))
                    · skip
                      refine rd_aldn (pc := 115) d_M_excessOfEvents_115 rfl ?_
                      refine rd_getr (pc := 116) d_M_excessOfEvents_116 fl_M_25 rfl rfl ?_
                      refine rd_ild (pc := 119) d_M_excessOfEvents_119 rfl ?_
                      refine rd_iald (pc := 121) d_M_excessOfEvents_121 rfl (by omega) (by omega) ?_
                      refine rd_goto (pc := 122) (tgt := 126) d_M_excessOfEvents_122 rfl ?_
                      refine rd_ist3 (pc := 126) d_M_excessOfEvents_126 rfl ?_
                      refine rd_iinc4 (pc := 127) d_M_excessOfEvents_127 rfl ?_
                      refine rd_goto (pc := 130) (tgt := 13) d_M_excessOfEvents_130 rfl ?_
                      by_cases hc : (M 40 i = 0 ∧ M 35 (M 36 i) = ((M 41 t).tmod 10)) ∧ M 37 i = e
                      · have hp : sp_inE (r_d M) ((M 41 t).tmod 10) e i = 1 := sp_inE_1.2 hc
                        by_cases hb : a < 0 ∨ sp_W (r_d M) n ((M 41 t).tmod 10) e (M 49) a < sp_W (r_d M) n ((M 41 t).tmod 10) e (M 49) (M 38 i) ∨ (sp_W (r_d M) n ((M 41 t).tmod 10) e (M 49) (M 38 i) = sp_W (r_d M) n ((M 41 t).tmod 10) e (M 49) a ∧ M 38 i < a)
                        · first | (exfalso; omega) | (refine rd_weak (L' := [some (.ref 32), some (rd_i t), some (rd_i e), some (rd_i (M 38 i)), some (rd_i (i + 1)), none, none, none]) (by simp [rd_le]) ?_
                                                      exact ih _ (by omega) (i + 1) _ rfl (by omega) (by omega) (by rw [eN, hss]; exact (if_pos ⟨hp, hb⟩).symm))
                        · first | (exfalso; omega) | (refine rd_weak (L' := [some (.ref 32), some (rd_i t), some (rd_i e), some (rd_i (a)), some (rd_i (i + 1)), none, none, none]) (by simp [rd_le]) ?_
                                                      exact ih _ (by omega) (i + 1) _ rfl (by omega) (by omega) (by rw [eN, hss]; exact (if_neg (fun z => hb z.2)).symm))
                      · first | (exfalso; omega) | (refine rd_weak (L' := [some (.ref 32), some (rd_i t), some (rd_i e), some (rd_i (a)), some (rd_i (i + 1)), none, none, none]) (by simp [rd_le]) ?_
                                                    exact ih _ (by omega) (i + 1) _ rfl (by omega) (by omega) (by rw [eN, hss]; exact (if_neg (fun z => hc (sp_inE_1.1 z.1))).symm))
                  · skip
                    refine rd_iconst (pc := 103) d_M_excessOfEvents_103 ?_
                    refine rd_goto (pc := 104) (tgt := 108) d_M_excessOfEvents_104 rfl ?_
                    refine rd_ist7 (pc := 108) d_M_excessOfEvents_108 rfl ?_
                    refine rd_ild (pc := 110) d_M_excessOfEvents_110 rfl ?_
                    refine rd_if_eq (pc := 112) (tgt := 125) d_M_excessOfEvents_112 rfl ⟨by omega, by omega⟩ (fun h112 => ?_) (fun h112 => ?_)
                    · skip
                      refine rd_ildn (pc := 125) d_M_excessOfEvents_125 rfl ?_
                      refine rd_ist3 (pc := 126) d_M_excessOfEvents_126 rfl ?_
                      refine rd_iinc4 (pc := 127) d_M_excessOfEvents_127 rfl ?_
                      refine rd_goto (pc := 130) (tgt := 13) d_M_excessOfEvents_130 rfl ?_
                      by_cases hc : (M 40 i = 0 ∧ M 35 (M 36 i) = ((M 41 t).tmod 10)) ∧ M 37 i = e
                      · have hp : sp_inE (r_d M) ((M 41 t).tmod 10) e i = 1 := sp_inE_1.2 hc
                        by_cases hb : a < 0 ∨ sp_W (r_d M) n ((M 41 t).tmod 10) e (M 49) a < sp_W (r_d M) n ((M 41 t).tmod 10) e (M 49) (M 38 i) ∨ (sp_W (r_d M) n ((M 41 t).tmod 10) e (M 49) (M 38 i) = sp_W (r_d M) n ((M 41 t).tmod 10) e (M 49) a ∧ M 38 i < a)
                        · first | (exfalso; omega) | (refine rd_weak (L' := [some (.ref 32), some (rd_i t), some (rd_i e), some (rd_i (M 38 i)), some (rd_i (i + 1)), none, none, none]) (by simp [rd_le]) ?_
                                                      exact ih _ (by omega) (i + 1) _ rfl (by omega) (by omega) (by rw [eN, hss]; exact (if_pos ⟨hp, hb⟩).symm))
                        · first | (exfalso; omega) | (refine rd_weak (L' := [some (.ref 32), some (rd_i t), some (rd_i e), some (rd_i (a)), some (rd_i (i + 1)), none, none, none]) (by simp [rd_le]) ?_
                                                      exact ih _ (by omega) (i + 1) _ rfl (by omega) (by omega) (by rw [eN, hss]; exact (if_neg (fun z => hb z.2)).symm))
                      · first | (exfalso; omega) | (refine rd_weak (L' := [some (.ref 32), some (rd_i t), some (rd_i e), some (rd_i (a)), some (rd_i (i + 1)), none, none, none]) (by simp [rd_le]) ?_
                                                    exact ih _ (by omega) (i + 1) _ rfl (by omega) (by omega) (by rw [eN, hss]; exact (if_neg (fun z => hc (sp_inE_1.1 z.1))).symm))
                    · skip
                      refine rd_aldn (pc := 115) d_M_excessOfEvents_115 rfl ?_
                      refine rd_getr (pc := 116) d_M_excessOfEvents_116 fl_M_25 rfl rfl ?_
                      refine rd_ild (pc := 119) d_M_excessOfEvents_119 rfl ?_
                      refine rd_iald (pc := 121) d_M_excessOfEvents_121 rfl (by omega) (by omega) ?_
                      refine rd_goto (pc := 122) (tgt := 126) d_M_excessOfEvents_122 rfl ?_
                      refine rd_ist3 (pc := 126) d_M_excessOfEvents_126 rfl ?_
                      refine rd_iinc4 (pc := 127) d_M_excessOfEvents_127 rfl ?_
                      refine rd_goto (pc := 130) (tgt := 13) d_M_excessOfEvents_130 rfl ?_
                      by_cases hc : (M 40 i = 0 ∧ M 35 (M 36 i) = ((M 41 t).tmod 10)) ∧ M 37 i = e
                      · have hp : sp_inE (r_d M) ((M 41 t).tmod 10) e i = 1 := sp_inE_1.2 hc
                        by_cases hb : a < 0 ∨ sp_W (r_d M) n ((M 41 t).tmod 10) e (M 49) a < sp_W (r_d M) n ((M 41 t).tmod 10) e (M 49) (M 38 i) ∨ (sp_W (r_d M) n ((M 41 t).tmod 10) e (M 49) (M 38 i) = sp_W (r_d M) n ((M 41 t).tmod 10) e (M 49) a ∧ M 38 i < a)
                        · first | (exfalso; omega) | (refine rd_weak (L' := [some (.ref 32), some (rd_i t), some (rd_i e), some (rd_i (M 38 i)), some (rd_i (i + 1)), none, none, none]) (by simp [rd_le]) ?_
                                                      exact ih _ (by omega) (i + 1) _ rfl (by omega) (by omega) (by rw [eN, hss]; exact (if_pos ⟨hp, hb⟩).symm))
                        · first | (exfalso; omega) | (refine rd_weak (L' := [some (.ref 32), some (rd_i t), some (rd_i e), some (rd_i (a)), some (rd_i (i + 1)), none, none, none]) (by simp [rd_le]) ?_
                                                      exact ih _ (by omega) (i + 1) _ rfl (by omega) (by omega) (by rw [eN, hss]; exact (if_neg (fun z => hb z.2)).symm))
                      · first | (exfalso; omega) | (refine rd_weak (L' := [some (.ref 32), some (rd_i t), some (rd_i e), some (rd_i (a)), some (rd_i (i + 1)), none, none, none]) (by simp [rd_le]) ?_
                                                    exact ih _ (by omega) (i + 1) _ rfl (by omega) (by omega) (by rw [eN, hss]; exact (if_neg (fun z => hc (sp_inE_1.1 z.1))).symm))
      · skip
        refine rd_if_eq (pc := 33) (tgt := 127) d_M_excessOfEvents_33 rfl ⟨by omega, by omega⟩ (fun h33 => ?_) (fun h33 => ?_)
        · skip
          refine rd_iinc4 (pc := 127) d_M_excessOfEvents_127 rfl ?_
          refine rd_goto (pc := 130) (tgt := 13) d_M_excessOfEvents_130 rfl ?_
          by_cases hc : (M 40 i = 0 ∧ M 35 (M 36 i) = ((M 41 t).tmod 10)) ∧ M 37 i = e
          · have hp : sp_inE (r_d M) ((M 41 t).tmod 10) e i = 1 := sp_inE_1.2 hc
            by_cases hb : a < 0 ∨ sp_W (r_d M) n ((M 41 t).tmod 10) e (M 49) a < sp_W (r_d M) n ((M 41 t).tmod 10) e (M 49) (M 38 i) ∨ (sp_W (r_d M) n ((M 41 t).tmod 10) e (M 49) (M 38 i) = sp_W (r_d M) n ((M 41 t).tmod 10) e (M 49) a ∧ M 38 i < a)
            · first | (exfalso; omega) | (refine rd_weak (L' := [some (.ref 32), some (rd_i t), some (rd_i e), some (rd_i (M 38 i)), some (rd_i (i + 1)), none, none, none]) (by simp [rd_le]) ?_
                                          exact ih _ (by omega) (i + 1) _ rfl (by omega) (by omega) (by rw [eN, hss]; exact (if_pos ⟨hp, hb⟩).symm))
            · first | (exfalso; omega) | (refine rd_weak (L' := [some (.ref 32), some (rd_i t), some (rd_i e), some (rd_i (a)), some (rd_i (i + 1)), none, none, none]) (by simp [rd_le]) ?_
                                          exact ih _ (by omega) (i + 1) _ rfl (by omega) (by omega) (by rw [eN, hss]; exact (if_neg (fun z => hb z.2)).symm))
          · first | (exfalso; omega) | (refine rd_weak (L' := [some (.ref 32), some (rd_i t), some (rd_i e), some (rd_i (a)), some (rd_i (i + 1)), none, none, none]) (by simp [rd_le]) ?_
                                        exact ih _ (by omega) (i + 1) _ rfl (by omega) (by omega) (by rw [eN, hss]; exact (if_neg (fun z => hc (sp_inE_1.1 z.1))).symm))
        · exact absurd h33 (by decide)
set_option maxHeartbeats 4000000 in
set_option maxRecDepth 100000 in
theorem lq_M_evI {t e h a : Int} {n nt : Nat} {M : rd_M} {Q : rd_R → rd_M → Prop} (hB : r_B M n nt) (h0 : 0 ≤ t) (h1 : t < 10) (he : 1 ≤ e ∧ e ≤ 9) (hh : 0 ≤ h ∧ h ≤ 100000) (hX : ∀ (i : Int) (M1 : rd_M), (∀ q, q ≠ 55 → M1 q = M q) → (∀ k : Int, 0 ≤ k → k < n → M1 55 k = sp_inW (r_d M) ((M 41 t).tmod 10) e h k) → rd_G x_M_excessOfEvents 236 [some (.ref 32), some (rd_i t), some (rd_i e), some (rd_i h), some (rd_l a), none, some (rd_i i), none] [] M1 0 Q) : ∀ (d : Nat) (i : Int) (M1 : rd_M), (n - i).toNat = d → (0 ≤ i) → (i ≤ n) → (∀ q, q ≠ 55 → M1 q = M q) → (∀ k : Int, 0 ≤ k → k < i → M1 55 k = sp_inW (r_d M) ((M 41 t).tmod 10) e h k) → rd_G x_M_excessOfEvents 161 [some (.ref 32), some (rd_i t), some (rd_i e), some (rd_i h), some (rd_l a), none, some (rd_i i), none] [] M1 0 Q := by
  intro d
  induction d using Nat.strongRecOn with
  | ind d ih =>
    intro i M1 hd i0 i1 hS hi
    have hn := hB.1
    have hn4 := hB.2.2.1
    obtain ⟨s1, s2, s3, _⟩ := hB.sh h0 h1
    have e32 : M1 32 = M 32 := hS 32 (by decide)
    have e35 : M1 35 = M 35 := hS 35 (by decide)
    have e36 : M1 36 = M 36 := hS 36 (by decide)
    have e37 : M1 37 = M 37 := hS 37 (by decide)
    have e38 : M1 38 = M 38 := hS 38 (by decide)
    have e40 : M1 40 = M 40 := hS 40 (by decide)
    have e41 : M1 41 = M 41 := hS 41 (by decide)
    have hf : r_fr M1 M := ⟨fun q a b => hS q (by omega), fun j a b => by rw [e32]⟩
    have hB1 := hf.B hB
    refine rd_ild (pc := 161) d_M_excessOfEvents_161 rfl ?_
    refine rd_aldn (pc := 163) d_M_excessOfEvents_163 rfl ?_
    refine rd_gi (pc := 164) (ki := 9) d_M_excessOfEvents_164 fl_M_97 rfl rfl rfl ?_
    first | simp (decide := true) only [rd_up_app, rd_up_hit, e32, e35, e36, e37, e38, e40, e41] | skip
    refine rd_icmp_ge (pc := 167) (tgt := 236) d_M_excessOfEvents_167 rfl ⟨by omega, by omega⟩ ⟨by omega, by omega⟩ (fun h167 => ?_) (fun h167 => ?_)
    · skip
      exact hX i M1 hS (fun k a b => hi k a (by omega))
    · skip
      obtain ⟨c1, c2, c3, c4, c5⟩ := hB.claim i0 (by omega)
      refine rd_aldn (pc := 170) d_M_excessOfEvents_170 rfl ?_
      refine rd_getr (pc := 171) d_M_excessOfEvents_171 fl_M_78 rfl rfl ?_
      refine rd_ild (pc := 174) d_M_excessOfEvents_174 rfl ?_
      refine rd_aldn (pc := 176) d_M_excessOfEvents_176 rfl ?_
      refine rd_ild (pc := 177) d_M_excessOfEvents_177 rfl ?_
      refine rd_aldn (pc := 179) d_M_excessOfEvents_179 rfl ?_
      refine rd_ildn (pc := 180) d_M_excessOfEvents_180 rfl ?_
      refine rd_callVi (pc := 181) (n' := 0) [_] d_M_excessOfEvents_181 ml_M_130 rfl (Nat.le_of_ble_eq_true rfl) (Nat.le_of_ble_eq_true rfl) (Nat.le_of_ble_eq_true rfl) rfl rfl rfl (Nat.le_of_ble_eq_true rfl) (Nat.le_of_ble_eq_true rfl) ?_
      refine ev_M_treatyYear hB1 h0 h1 ?_
      refine ⟨_, rfl, ?_⟩
      first | simp (decide := true) only [rd_up_app, rd_up_hit, e32, e35, e36, e37, e38, e40, e41] | skip
      refine rd_callVi (pc := 184) (n' := 0) [_, _] d_M_excessOfEvents_184 ml_M_160 rfl (Nat.le_of_ble_eq_true rfl) (Nat.le_of_ble_eq_true rfl) (Nat.le_of_ble_eq_true rfl) rfl rfl rfl (Nat.le_of_ble_eq_true rfl) (Nat.le_of_ble_eq_true rfl) ?_
      refine ev_M_counts hB1 i0 (by omega) ⟨by omega, by omega⟩ (fun hct => ⟨_, rfl, ?_⟩) (fun hct => ⟨_, rfl, ?_⟩)
      · skip
        refine rd_if_eq (pc := 187) (tgt := 228) d_M_excessOfEvents_187 rfl ⟨by omega, by omega⟩ (fun h187 => ?_) (fun h187 => ?_)
        · exact absurd h187 (by decide)
        · skip
          refine rd_aldn (pc := 190) d_M_excessOfEvents_190 rfl ?_
          refine rd_getr (pc := 191) d_M_excessOfEvents_191 fl_M_22 rfl rfl ?_
          refine rd_ild (pc := 194) d_M_excessOfEvents_194 rfl ?_
          refine rd_iald (pc := 196) d_M_excessOfEvents_196 rfl (by omega) (by omega) ?_
          first | simp (decide := true) only [rd_up_app, rd_up_hit, e32, e35, e36, e37, e38, e40, e41] | skip
          refine rd_ildn (pc := 197) d_M_excessOfEvents_197 rfl ?_
          refine rd_icmp_ne (pc := 198) (tgt := 228) d_M_excessOfEvents_198 rfl ⟨by omega, by omega⟩ ⟨by omega, by omega⟩ (fun h198 => ?_) (fun h198 => ?_)
          · skip
            refine rd_iconst (pc := 228) d_M_excessOfEvents_228 ?_
            refine rd_zast (pc := 229) d_M_excessOfEvents_229 rfl (by omega) (by omega) (by omega) ?_
            refine rd_iinc6 (pc := 230) d_M_excessOfEvents_230 rfl ?_
            refine rd_goto (pc := 233) (tgt := 161) d_M_excessOfEvents_233 rfl ?_
            rw [e40, e35, e36] at hct
            by_cases hc : ((M 40 i = 0 ∧ M 35 (M 36 i) = ((M 41 t).tmod 10)) ∧ M 37 i = e) ∧ h ≤ M 38 i ∧ M 38 i < h + 72
            · first | (exfalso; omega) | (refine ih _ (by omega) (i + 1) _ rfl (by omega) (by omega) (fun q h => by rw [rd_up_ne h]; exact hS q h) (fun k a b => ?_)
                                          by_cases hk : k = i
                                          · subst hk; rw [rd_up_hit]; exact (sp_inW_1.2 ⟨sp_inE_1.2 hc.1, hc.2⟩).symm
                                          · rw [rd_up_at, if_neg hk]; exact hi k a (by omega))
            · first | (exfalso; omega) | (refine ih _ (by omega) (i + 1) _ rfl (by omega) (by omega) (fun q h => by rw [rd_up_ne h]; exact hS q h) (fun k a b => ?_)
                                          by_cases hk : k = i
                                          · subst hk; rw [rd_up_hit]; exact (if_neg (fun z => hc ⟨sp_inE_1.1 z.1, z.2⟩)).symm
                                          · rw [rd_up_at, if_neg hk]; exact hi k a (by omega))
          · skip
            refine rd_aldn (pc := 201) d_M_excessOfEvents_201 rfl ?_
            refine rd_getr (pc := 202) d_M_excessOfEvents_202 fl_M_25 rfl rfl ?_
            refine rd_ild (pc := 205) d_M_excessOfEvents_205 rfl ?_
            refine rd_iald (pc := 207) d_M_excessOfEvents_207 rfl (by omega) (by omega) ?_
            first | simp (decide := true) only [rd_up_app, rd_up_hit, e32, e35, e36, e37, e38, e40, e41] | skip
            refine rd_i2l (pc := 208) d_M_excessOfEvents_208 ⟨by omega, by omega⟩ ?_
            refine rd_ildn (pc := 209) d_M_excessOfEvents_209 rfl ?_
            refine rd_i2l (pc := 210) d_M_excessOfEvents_210 ⟨by omega, by omega⟩ ?_
            refine rd_ildn (pc := 211) d_M_excessOfEvents_211 rfl ?_
            refine rd_bipush (pc := 212) d_M_excessOfEvents_212 rfl ?_
            refine rd_iadd (pc := 214) d_M_excessOfEvents_214 ?_
            refine rd_iconst (pc := 215) d_M_excessOfEvents_215 ?_
            refine rd_isub (pc := 216) d_M_excessOfEvents_216 ?_
            refine rd_i2l (pc := 217) d_M_excessOfEvents_217 ⟨by omega, by omega⟩ ?_
            refine rd_callSi (pc := 218) (n' := 0) [_, _, _] d_M_excessOfEvents_218 ml_M_93 (Nat.le_of_ble_eq_true rfl) (Nat.le_of_ble_eq_true rfl) (Nat.le_of_ble_eq_true rfl) rfl rfl rfl (Nat.le_of_ble_eq_true rfl) (Nat.le_of_ble_eq_true rfl) ?_
            refine ev_M_in ⟨by omega, by omega⟩ ⟨by omega, by omega⟩ ⟨by omega, by omega⟩ (fun c218 => ⟨_, rfl, ?_⟩) (fun c218 => ⟨_, rfl, ?_⟩)
            · skip
              refine rd_if_eq (pc := 221) (tgt := 228) d_M_excessOfEvents_221 rfl ⟨by omega, by omega⟩ (fun h221 => ?_) (fun h221 => ?_)
              · exact absurd h221 (by decide)
              · skip
                refine rd_iconst (pc := 224) d_M_excessOfEvents_224 ?_
                refine rd_goto (pc := 225) (tgt := 229) d_M_excessOfEvents_225 rfl ?_
                refine rd_zast (pc := 229) d_M_excessOfEvents_229 rfl (by omega) (by omega) (by omega) ?_
                refine rd_iinc6 (pc := 230) d_M_excessOfEvents_230 rfl ?_
                refine rd_goto (pc := 233) (tgt := 161) d_M_excessOfEvents_233 rfl ?_
                rw [e40, e35, e36] at hct
                by_cases hc : ((M 40 i = 0 ∧ M 35 (M 36 i) = ((M 41 t).tmod 10)) ∧ M 37 i = e) ∧ h ≤ M 38 i ∧ M 38 i < h + 72
                · first | (exfalso; omega) | (refine ih _ (by omega) (i + 1) _ rfl (by omega) (by omega) (fun q h => by rw [rd_up_ne h]; exact hS q h) (fun k a b => ?_)
                                              by_cases hk : k = i
                                              · subst hk; rw [rd_up_hit]; exact (sp_inW_1.2 ⟨sp_inE_1.2 hc.1, hc.2⟩).symm
                                              · rw [rd_up_at, if_neg hk]; exact hi k a (by omega))
                · first | (exfalso; omega) | (refine ih _ (by omega) (i + 1) _ rfl (by omega) (by omega) (fun q h => by rw [rd_up_ne h]; exact hS q h) (fun k a b => ?_)
                                              by_cases hk : k = i
                                              · subst hk; rw [rd_up_hit]; exact (if_neg (fun z => hc ⟨sp_inE_1.1 z.1, z.2⟩)).symm
                                              · rw [rd_up_at, if_neg hk]; exact hi k a (by omega))
            · skip
              refine rd_if_eq (pc := 221) (tgt := 228) d_M_excessOfEvents_221 rfl ⟨by omega, by omega⟩ (fun h221 => ?_) (fun h221 => ?_)
              · skip
                refine rd_iconst (pc := 228) d_M_excessOfEvents_228 ?_
                refine rd_zast (pc := 229) d_M_excessOfEvents_229 rfl (by omega) (by omega) (by omega) ?_
                refine rd_iinc6 (pc := 230) d_M_excessOfEvents_230 rfl ?_
                refine rd_goto (pc := 233) (tgt := 161) d_M_excessOfEvents_233 rfl ?_
                rw [e40, e35, e36] at hct
                by_cases hc : ((M 40 i = 0 ∧ M 35 (M 36 i) = ((M 41 t).tmod 10)) ∧ M 37 i = e) ∧ h ≤ M 38 i ∧ M 38 i < h + 72
                · first | (exfalso; omega) | (refine ih _ (by omega) (i + 1) _ rfl (by omega) (by omega) (fun q h => by rw [rd_up_ne h]; exact hS q h) (fun k a b => ?_)
                                              by_cases hk : k = i
                                              · subst hk; rw [rd_up_hit]; exact (sp_inW_1.2 ⟨sp_inE_1.2 hc.1, hc.2⟩).symm
                                              · rw [rd_up_at, if_neg hk]; exact hi k a (by omega))
                · first | (exfalso; omega) | (refine ih _ (by omega) (i + 1) _ rfl (by omega) (by omega) (fun q h => by rw [rd_up_ne h]; exact hS q h) (fun k a b => ?_)
                                              by_cases hk : k = i
                                              · subst hk; rw [rd_up_hit]; exact (if_neg (fun z => hc ⟨sp_inE_1.1 z.1, z.2⟩)).symm
                                              · rw [rd_up_at, if_neg hk]; exact hi k a (by omega))
              · exact absurd h221 (by decide)
      · skip
        refine rd_if_eq (pc := 187) (tgt := 228) d_M_excessOfEvents_187 rfl ⟨by omega, by omega⟩ (fun h187 => ?_) (fun h187 => ?_)
        · skip
          refine rd_iconst (pc := 228) d_M_excessOfEvents_228 ?_
          refine rd_zast (pc := 229) d_M_excessOfEvents_229 rfl (by omega) (by omega) (by omega) ?_
          refine rd_iinc6 (pc := 230) d_M_excessOfEvents_230 rfl ?_
          refine rd_goto (pc := 233) (tgt := 161) d_M_excessOfEvents_233 rfl ?_
          rw [e40, e35, e36] at hct
          by_cases hc : ((M 40 i = 0 ∧ M 35 (M 36 i) = ((M 41 t).tmod 10)) ∧ M 37 i = e) ∧ h ≤ M 38 i ∧ M 38 i < h + 72
          · first | (exfalso; omega) | (refine ih _ (by omega) (i + 1) _ rfl (by omega) (by omega) (fun q h => by rw [rd_up_ne h]; exact hS q h) (fun k a b => ?_)
                                        by_cases hk : k = i
                                        · subst hk; rw [rd_up_hit]; exact (sp_inW_1.2 ⟨sp_inE_1.2 hc.1, hc.2⟩).symm
                                        · rw [rd_up_at, if_neg hk]; exact hi k a (by omega))
          · first | (exfalso; omega) | (refine ih _ (by omega) (i + 1) _ rfl (by omega) (by omega) (fun q h => by rw [rd_up_ne h]; exact hS q h) (fun k a b => ?_)
                                        by_cases hk : k = i
                                        · subst hk; rw [rd_up_hit]; exact (if_neg (fun z => hc ⟨sp_inE_1.1 z.1, z.2⟩)).symm
                                        · rw [rd_up_at, if_neg hk]; exact hi k a (by omega))
        · exact absurd h187 (by decide)
def r_F (M : rd_M) (n : Nat) (t : Int) (E : Nat) (M1 : rd_M) : Prop := (∀ q, q ≠ 32 → q ≠ 53 → q ≠ 55 → q ≠ 56 → q ≠ 57 → M1 q = r_tks M t n (sp_ev (r_d M) n t (M 49) E).1 q) ∧ (∀ j : Int, j ≠ 28 → j ≠ 29 → M1 32 j = M 32 j)
theorem r_F.fr {M M1 : rd_M} {n E : Nat} {t : Int} (h : r_F M n t E M1) : r_fr M1 M := ⟨fun q a b => by rw [h.1 q a (by omega) (by omega) (by omega) (by omega), r_tks_ne (by omega) (by omega) (by omega)], h.2⟩
theorem r_F.k {M M1 : rd_M} {n E : Nat} {t k : Int} (h : r_F M n t E M1) (k0 : 0 ≤ k) (k1 : k < n) : M1 49 k = sp_evK (r_d M) n t (M 49) E k := by
  rw [h.1 49 (by decide) (by decide) (by decide) (by decide) (by decide), r_tks_24, if_pos ⟨k0, k1⟩]; rfl
theorem r_F.kb {M M1 : rd_M} {n E : Nat} {t k : Int} (h : r_F M n t E M1) (hK : ∀ k : Int, 0 ≤ k → k < n → 0 ≤ M 49 k ∧ M 49 k ≤ 1000000000) (htm : sp_tm (r_d M) t) (k0 : 0 ≤ k) (k1 : k < n) : 0 ≤ M1 49 k ∧ M1 49 k ≤ 1000000000 := by
  have h1 := (sp_ev_b (d := r_d M) (n := n) (κ := M 49) htm (fun j a b => (hK j a b).1) E).1 k k0 k1
  have h2 := hK k k0 k1
  rw [h.k k0 k1]; unfold sp_evK; omega
theorem r_F.st {M M1 : rd_M} {n E : Nat} {t : Int} (h : r_F M n t E M1) : sp_st (r_d M1) n ((M1 41 t).tmod 10) (E + 1) (M1 49) n = sp_evO (r_d M) n t (M 49) E := by
  rw [h.fr.d, h.fr.low 41 (by decide) (by decide)]
  exact sp_st_cg (fun j a b c => h.k a b) n
theorem r_F.a {M M1 : rd_M} {n E : Nat} {t : Int} (h : r_F M n t E M1) : sp_W (r_d M1) n ((M1 41 t).tmod 10) (E + 1) (M1 49) (sp_evO (r_d M) n t (M 49) E) = sp_evA (r_d M) n t (M 49) E := by
  rw [h.fr.d, h.fr.low 41 (by decide) (by decide)]
  exact sp_W_cg (fun j a b c => h.k a b)
theorem r_F.up53 {M M1 : rd_M} {n E : Nat} {t i v : Int} (h : r_F M n t E M1) : r_F M n t E (rd_up M1 53 i v) := ⟨fun q a b c e f => by rw [rd_up_ne b, h.1 q a b c e f], fun j a b => by rw [rd_up_app (by decide)]; exact h.2 j a b⟩
theorem r_F.of55 {M M1 M2 : rd_M} {n E : Nat} {t : Int} (h : r_F M n t E M1) (h2 : ∀ q, q ≠ 55 → M2 q = M1 q) : r_F M n t E M2 := ⟨fun q a b c e f => by rw [h2 q c, h.1 q a b c e f], fun j a b => by rw [h2 32 (by decide)]; exact h.2 j a b⟩
/-- behind E events -/
def r_E (M : rd_M) (n : Nat) (t : Int) (E : Nat) (M1 : rd_M) : Prop := r_F M n t E M1 ∧ (∀ j : Int, M1 53 j = if t * 10 + 1 ≤ j ∧ j < t * 10 + 1 + E then sp_evO (r_d M) n t (M 49) (j - t * 10 - 1).toNat else M 53 j) ∧ M1 32 28 = min (M 45 t) (sp_ev (r_d M) n t (M 49) E).2 ∧ M1 32 29 = sp_Tt (r_d M) t (sp_ev (r_d M) n t (M 49) E).2
theorem r_win {M1 : rd_M} {t : Int} {E : Nat} {o : Nat → Int} {f : Int → Int} (h : ∀ j : Int, M1 53 j = if t * 10 + 1 ≤ j ∧ j < t * 10 + 1 + E then o (j - t * 10 - 1).toNat else f j) (j : Int) : rd_up M1 53 (t * 10 + (E + 1)) (o E) 53 j = if t * 10 + 1 ≤ j ∧ j < t * 10 + 1 + ((E + 1 : Nat) : Int) then o (j - t * 10 - 1).toNat else f j := by
  rw [rd_up_at, h j]
  by_cases hj : j = t * 10 + (E + 1)
  · rw [if_pos hj, if_pos (by omega), show (j - t * 10 - 1).toNat = E by omega]
  · rw [if_neg hj]
    by_cases h2 : t * 10 + 1 ≤ j ∧ j < t * 10 + 1 + E
    · rw [if_pos h2, if_pos (by omega)]
    · rw [if_neg h2, if_neg (by omega)]
theorem r_E.skip {M M1 : rd_M} {n E : Nat} {t : Int} (h : r_E M n t E M1) (ho : sp_evO (r_d M) n t (M 49) E < 0) : r_E M n t (E + 1) (rd_up M1 53 (t * 10 + (E + 1)) (sp_evO (r_d M) n t (M 49) E)) := by
  obtain ⟨h1, h2, h3, h4⟩ := h
  refine ⟨?_, r_win h2, ?_, ?_⟩
  · have := h1.up53 (i := t * 10 + (E + 1)) (v := sp_evO (r_d M) n t (M 49) E)
    unfold r_F at *
    rw [sp_ev_n ho]; exact this
  · rw [sp_ev_n ho, rd_up_app (by decide)]; exact h3
  · rw [sp_ev_n ho, rd_up_app (by decide)]; exact h4
theorem r_E.next {M M1 M2 M3 M4 : rd_M} {n E : Nat} {t : Int} (h : r_E M n t E M1) (ho : ¬ sp_evO (r_d M) n t (M 49) E < 0) (h2 : ∀ q, q ≠ 55 → M2 q = rd_up M1 53 (t * 10 + (E + 1)) (sp_evO (r_d M) n t (M 49) E) q) (h3 : M3 = rd_up (rd_up M2 32 28 (min (M 45 t) ((sp_ev (r_d M) n t (M 49) E).2 + sp_Lt (r_d M) t (sp_evA (r_d M) n t (M 49) E)))) 32 29 (sp_Tt (r_d M) t ((sp_ev (r_d M) n t (M 49) E).2 + sp_Lt (r_d M) t (sp_evA (r_d M) n t (M 49) E)))) (h4 : r_sm M4 (r_tks M3 t n (sp_spr n (sp_inW (r_d M) ((M 41 t).tmod 10) (E + 1) (sp_evO (r_d M) n t (M 49) E)) (M3 49) (sp_evV (r_d M) n t (M 49) E) (sp_evA (r_d M) n t (M 49) E)))) : r_E M n t (E + 1) M4 := by
  obtain ⟨k1, k2, k3, k4⟩ := h
  have f2 := k1.up53 (i := t * 10 + (E + 1)) (v := sp_evO (r_d M) n t (M 49) E)
  have f3 : ∀ q, q ≠ 32 → q ≠ 53 → q ≠ 55 → q ≠ 56 → q ≠ 57 → M3 q = r_tks M t n (sp_ev (r_d M) n t (M 49) E).1 q := fun q a b c e f => by
    rw [h3, rd_up_ne a, rd_up_ne a, h2 q c]; exact f2.1 q a b c e f
  have f4 : ∀ q, q ≠ 56 → q ≠ 57 → q ≠ 49 → q ≠ 50 → q ≠ 51 → M4 q = M3 q := fun q a b c e f => by rw [h4 q a b, r_tks_ne c e f]
  have ek : ∀ j : Int, 0 ≤ j → j < n → M3 49 j = sp_evK (r_d M) n t (M 49) E j := fun j a b => by
    rw [f3 49 (by decide) (by decide) (by decide) (by decide) (by decide), r_tks_24, if_pos ⟨a, b⟩]; rfl
  refine ⟨⟨fun q a b c e f => ?_, fun j a b => ?_⟩, fun j => ?_, ?_, ?_⟩
  · rw [h4 q e f, sp_ev_p ho]
    have hc : r_tks M t n (fun k => (sp_ev (r_d M) n t (M 49) E).1 k + sp_spr n (sp_inW (r_d M) ((r_d M) 9 t) (E + 1) (sp_evO (r_d M) n t (M 49) E)) (sp_evK (r_d M) n t (M 49) E) (sp_evV (r_d M) n t (M 49) E) (sp_evA (r_d M) n t (M 49) E) k) = r_tks (r_tks M t n (sp_ev (r_d M) n t (M 49) E).1) t n (sp_spr n (sp_inW (r_d M) ((M 41 t).tmod 10) (E + 1) (sp_evO (r_d M) n t (M 49) E)) (M3 49) (sp_evV (r_d M) n t (M 49) E) (sp_evA (r_d M) n t (M 49) E)) := by
      rw [r_tks_tks]
      refine r_tks_congr (fun k x y => ?_)
      rw [sp_spr_cg (κ := M3 49) (fun j a b _ => ek j a b) x y]
      rfl
    show _ = r_tks M t n (fun k => (sp_ev (r_d M) n t (M 49) E).1 k + sp_spr n (sp_inW (r_d M) ((r_d M) 9 t) (E + 1) (sp_evO (r_d M) n t (M 49) E)) (sp_evK (r_d M) n t (M 49) E) (sp_evV (r_d M) n t (M 49) E) (sp_evA (r_d M) n t (M 49) E) k) q
    rw [hc]
    generalize sp_spr n (sp_inW (r_d M) ((M 41 t).tmod 10) (E + 1) (sp_evO (r_d M) n t (M 49) E)) (M3 49) (sp_evV (r_d M) n t (M 49) E) (sp_evA (r_d M) n t (M 49) E) = w
    unfold r_tks at *
    by_cases q1 : q = 49
    · rw [if_pos q1, if_pos q1, f3 49 (by decide) (by decide) (by decide) (by decide) (by decide)]
    · by_cases q2 : q = 50
      · rw [if_neg q1, if_pos q2, if_neg q1, if_pos q2, f3 50 (by decide) (by decide) (by decide) (by decide) (by decide)]
      · by_cases q3 : q = 51
        · rw [if_neg q1, if_neg q2, if_pos q3, if_neg q1, if_neg q2, if_pos q3, f3 51 (by decide) (by decide) (by decide) (by decide) (by decide)]
        · rw [if_neg q1, if_neg q2, if_neg q3, if_neg q1, if_neg q2, if_neg q3, f3 q a b c e f]
  · rw [f4 32 (by decide) (by decide) (by decide) (by decide) (by decide), h3, rd_up_at, if_neg b, rd_up_at, if_neg a, h2 32 (by decide)]
    exact f2.2 j a b
  · rw [f4 53 (by decide) (by decide) (by decide) (by decide) (by decide), h3, rd_up_app (by decide), rd_up_app (by decide), h2 53 (by decide)]
    exact r_win k2 j
  · rw [f4 32 (by decide) (by decide) (by decide) (by decide) (by decide), h3, rd_up_at, if_neg (by decide), rd_up_hit, sp_ev_p ho]
  · rw [f4 32 (by decide) (by decide) (by decide) (by decide) (by decide), h3, rd_up_hit, sp_ev_p ho]
set_option maxHeartbeats 4000000 in
set_option maxRecDepth 100000 in
theorem lq_M_ev {t : Int} {n nt : Nat} {M : rd_M} {Q : rd_R → rd_M → Prop} (hB : r_B M n nt) (hK : ∀ k : Int, 0 ≤ k → k < n → 0 ≤ M 49 k ∧ M 49 k ≤ 1000000000) (h0 : 0 ≤ t) (h1 : t < 10) (hQ : ∀ M', r_E M n t 9 M' → Q (.inl none) M') : ∀ (d : Nat) (e : Int) (E : Nat) (M1 : rd_M), (10 - e).toNat = d → (e = E + 1) → (E ≤ 9) → (r_E M n t E M1) → rd_G x_M_excessOfEvents 2 [some (.ref 32), some (rd_i t), some (rd_i e), none, none, none, none, none] [] M1 0 Q := by
  intro d
  induction d using Nat.strongRecOn with
  | ind d ih =>
    intro e E M1 hd he e1 hE
    have hn := hB.1
    have hn4 := hB.2.2.1
    have htm := hB.tm h0 h1
    obtain ⟨s1, s2, s3, ta, tb, tc, td⟩ := hB.sh h0 h1
    have hf := hE.1
    obtain ⟨b1, b2, b3, b4⟩ := sp_ev_b (d := r_d M) (n := n) (κ := M 49) htm (fun j a b => (hK j a b).1) E
    refine rd_ildn (pc := 2) d_M_excessOfEvents_2 rfl ?_
    refine rd_bipush (pc := 3) d_M_excessOfEvents_3 rfl ?_
    refine rd_icmp_ge (pc := 5) (tgt := 273) d_M_excessOfEvents_5 rfl ⟨by omega, by omega⟩ ⟨by omega, by omega⟩ (fun h5 => ?_) (fun h5 => ?_)
    · skip
      exact rd_vret (pc := 273) d_M_excessOfEvents_273 rfl (Nat.le_of_ble_eq_true rfl) (by have : E = 9 := (by omega); subst this; exact hQ _ hE)
    · skip
      refine rd_iconst (pc := 8) d_M_excessOfEvents_8 ?_
      refine rd_ist3 (pc := 9) d_M_excessOfEvents_9 rfl ?_
      refine rd_iconst (pc := 10) d_M_excessOfEvents_10 ?_
      refine rd_ist4 (pc := 11) d_M_excessOfEvents_11 rfl ?_
      refine lq_M_evA (hf.fr.B hB) (fun k a b => hf.kb hK htm a b) h0 h1 ⟨by omega, by omega⟩ (fun i2 => ?_) _ 0 (-1) rfl (by omega) (by omega) rfl
      rw [he, hf.st]
      have hob := sp_st_b (d := r_d M) (n := n) (y := r_d M 9 t) (e := (E : Int) + 1) (κ := sp_evK (r_d M) n t (M 49) E) (fun k a c => (hB.claim a c).2.2.1) n hn4
      have hob2 : -1 ≤ sp_evO (r_d M) n t (M 49) E ∧ sp_evO (r_d M) n t (M 49) E ≤ 100000 := hob
      refine rd_aldn (pc := 133) d_M_excessOfEvents_133 rfl ?_
      refine rd_getr (pc := 134) d_M_excessOfEvents_134 fl_M_72 rfl rfl ?_
      refine rd_bipush (pc := 137) d_M_excessOfEvents_137 rfl ?_
      refine rd_ildn (pc := 139) d_M_excessOfEvents_139 rfl ?_
      refine rd_imul (pc := 140) d_M_excessOfEvents_140 ?_
      refine rd_ildn (pc := 141) d_M_excessOfEvents_141 rfl ?_
      refine rd_iadd (pc := 142) d_M_excessOfEvents_142 ?_
      refine rd_ildn (pc := 143) d_M_excessOfEvents_143 rfl ?_
      refine rd_iast (pc := 144) d_M_excessOfEvents_144 rfl (by omega) (by omega) ?_
      have eidx : 10 * t + ((E : Int) + 1) = t * 10 + ((E : Int) + 1) := by omega
      rw [eidx]
      refine rd_ildn (pc := 145) d_M_excessOfEvents_145 rfl ?_
      refine rd_if_lt (pc := 146) (tgt := 267) d_M_excessOfEvents_146 rfl ⟨by omega, by omega⟩ (fun h146 => ?_) (fun h146 => ?_)
      · skip
        refine rd_iinc2 (pc := 267) d_M_excessOfEvents_267 rfl ?_
        refine rd_goto (pc := 270) (tgt := 2) d_M_excessOfEvents_270 rfl ?_
        first
          | (refine rd_weak (L' := [some (.ref 32), some (rd_i t), some (rd_i (e + 1)), none, none, none, none, none]) (by simp [rd_le, he]) ?_
             refine ih _ (by omega) (e + 1) (E + 1) _ rfl (by omega) (by omega) ?_
             exact hE.next (by omega) hS2 rfl hS4)
          | (refine rd_weak (L' := [some (.ref 32), some (rd_i t), some (rd_i (e + 1)), none, none, none, none, none]) (by simp [rd_le, he]) ?_
             refine ih _ (by omega) (e + 1) (E + 1) _ rfl (by omega) (by omega) ?_
             have hsk := hE.skip (by omega)
             exact hsk)
      · skip
        have hf1 := hE.1.up53 (i := t * 10 + ((E : Int) + 1)) (v := sp_evO (r_d M) n t (M 49) E)
        have hK1 : ∀ k : Int, 0 ≤ k → k < n → 0 ≤ rd_up M1 53 (t * 10 + ((E : Int) + 1)) (sp_evO (r_d M) n t (M 49) E) 49 k ∧ rd_up M1 53 (t * 10 + ((E : Int) + 1)) (sp_evO (r_d M) n t (M 49) E) 49 k ≤ 1000000000 := fun k a b => hf1.kb hK htm a b
        refine rd_aldn (pc := 149) d_M_excessOfEvents_149 rfl ?_
        refine rd_ildn (pc := 150) d_M_excessOfEvents_150 rfl ?_
        refine rd_ildn (pc := 151) d_M_excessOfEvents_151 rfl ?_
        refine rd_ildn (pc := 152) d_M_excessOfEvents_152 rfl ?_
        refine rd_callVl (pc := 153) (n' := 0) [_, _, _] d_M_excessOfEvents_153 ml_M_172 rfl (Nat.le_of_ble_eq_true rfl) (Nat.le_of_ble_eq_true rfl) (Nat.le_of_ble_eq_true rfl) rfl rfl rfl (Nat.le_of_ble_eq_true rfl) (Nat.le_of_ble_eq_true rfl) ?_
        refine ev_M_inWindow (hf1.fr.B hB) hK1 h0 h1 ⟨by omega, by omega⟩ ⟨by omega, by omega⟩ ?_
        rw [hf1.a]
        have hA := sp_W_b (d := r_d M) (y := (M 41 t).tmod 10) (e := (E : Int) + 1) (h := sp_evO (r_d M) n t (M 49) E) hn4 hK1
        have hA1 := hf1.a
        rw [hf1.fr.d, hf1.fr.low 41 (by decide) (by decide)] at hA1
        rw [hA1] at hA
        have hLb := sp_Lt_b htm hA.1
        have hLb' : 0 ≤ sp_layer (M 42 t) (M 43 t) (sp_evA (r_d M) n t (M 49) E) ∧ sp_layer (M 42 t) (M 43 t) (sp_evA (r_d M) n t (M 49) E) ≤ 1000000000 := ⟨hLb.1, hLb.2.2⟩
        have hTb := sp_Tt_b (B := (sp_ev (r_d M) n t (M 49) E).2) (l := sp_Lt (r_d M) t (sp_evA (r_d M) n t (M 49) E)) htm b2 hLb.1
        have hVb : 0 ≤ sp_evV (r_d M) n t (M 49) E ∧ sp_evV (r_d M) n t (M 49) E ≤ sp_evA (r_d M) n t (M 49) E ∧ sp_evV (r_d M) n t (M 49) E ≤ 1000000000 := by unfold sp_evV; omega
        refine ⟨_, rfl, ?_⟩
        skip
        refine rd_lst4 (pc := 156) d_M_excessOfEvents_156 rfl ?_
        refine rd_iconst (pc := 158) d_M_excessOfEvents_158 ?_
        refine rd_ist6 (pc := 159) d_M_excessOfEvents_159 rfl ?_
        refine rd_weak (L' := [some (.ref 32), some (rd_i t), some (rd_i ((E : Int) + 1)), some (rd_i (sp_evO (r_d M) n t (M 49) E)), some (rd_l (sp_evA (r_d M) n t (M 49) E)), none, some (rd_i 0), none]) (by simp [rd_le]) ?_
        refine lq_M_evI (hf1.fr.B hB) h0 h1 ⟨by omega, by omega⟩ ⟨by omega, by omega⟩ (fun i2 M2 hS2 hi2 => ?_) _ 0 _ rfl (by omega) (by omega) (fun _ _ => rfl) (fun k a b => by omega)
        rw [hf1.fr.d, hf1.fr.low 41 (by decide) (by decide)] at hi2
        have hf2 := hf1.of55 hS2
        have e42 : M2 42 = M 42 := hf2.fr.low 42 (by decide) (by decide)
        have e43 : M2 43 = M 43 := hf2.fr.low 43 (by decide) (by decide)
        refine rd_aldn (pc := 236) d_M_excessOfEvents_236 rfl ?_
        refine rd_ildn (pc := 237) d_M_excessOfEvents_237 rfl ?_
        refine rd_aldn (pc := 238) d_M_excessOfEvents_238 rfl ?_
        refine rd_ildn (pc := 239) d_M_excessOfEvents_239 rfl ?_
        refine rd_lld (pc := 240) d_M_excessOfEvents_240 rfl ?_
        refine rd_aldn (pc := 242) d_M_excessOfEvents_242 rfl ?_
        refine rd_getr (pc := 243) d_M_excessOfEvents_243 fl_M_38 rfl rfl ?_
        refine rd_ildn (pc := 246) d_M_excessOfEvents_246 rfl ?_
        refine rd_iald (pc := 247) d_M_excessOfEvents_247 rfl (by omega) (by omega) ?_
        first | simp (decide := true) only [rd_up_app, rd_up_hit, e42, e43] | skip
        refine rd_i2l (pc := 248) d_M_excessOfEvents_248 ⟨by omega, by omega⟩ ?_
        refine rd_aldn (pc := 249) d_M_excessOfEvents_249 rfl ?_
        refine rd_getr (pc := 250) d_M_excessOfEvents_250 fl_M_41 rfl rfl ?_
        refine rd_ildn (pc := 253) d_M_excessOfEvents_253 rfl ?_
        refine rd_iald (pc := 254) d_M_excessOfEvents_254 rfl (by omega) (by omega) ?_
        first | simp (decide := true) only [rd_up_app, rd_up_hit, e42, e43] | skip
        refine rd_i2l (pc := 255) d_M_excessOfEvents_255 ⟨by omega, by omega⟩ ?_
        refine rd_callSl (pc := 256) (n' := 0) [_, _, _] d_M_excessOfEvents_256 ml_M_164 (Nat.le_of_ble_eq_true rfl) (Nat.le_of_ble_eq_true rfl) (Nat.le_of_ble_eq_true rfl) rfl rfl rfl (Nat.le_of_ble_eq_true rfl) (Nat.le_of_ble_eq_true rfl) ?_
        refine ev_M_layer ⟨by omega, by omega⟩ ⟨by omega, by omega⟩ ⟨by omega, by omega⟩ ?_
        refine ⟨_, rfl, ?_⟩
        first | simp (decide := true) only [rd_up_app, rd_up_hit, e42, e43] | skip
        refine rd_callVl (pc := 259) (n' := 0) [_, _] d_M_excessOfEvents_259 ml_M_168 rfl (Nat.le_of_ble_eq_true rfl) (Nat.le_of_ble_eq_true rfl) (Nat.le_of_ble_eq_true rfl) rfl rfl rfl (Nat.le_of_ble_eq_true rfl) (Nat.le_of_ble_eq_true rfl) ?_
        refine ev_M_allowed (S := (sp_ev (r_d M) n t (M 49) E).2) (hf2.fr.B hB) h0 h1 ⟨hLb'.1, hLb'.2⟩ ⟨by omega, by omega⟩ ?_ ?_ ?_
        · rw [hf2.fr.low 45 (by decide) (by decide), hS2 32 (by decide), rd_up_app (by decide)]; exact hE.2.2.1
        · rw [hf2.fr.d, hS2 32 (by decide), rd_up_app (by decide)]; exact hE.2.2.2
        rw [hf2.fr.d, hf2.fr.low 45 (by decide) (by decide)]
        refine ⟨_, rfl, ?_⟩
        first | simp (decide := true) only [rd_up_app, rd_up_hit, e42, e43] | skip
        refine rd_lld (pc := 262) d_M_excessOfEvents_262 rfl ?_
        refine rd_callVv (pc := 264) (n' := 0) [_, _, _] d_M_excessOfEvents_264 ml_M_176 rfl (Nat.le_of_ble_eq_true rfl) (Nat.le_of_ble_eq_true rfl) (Nat.le_of_ble_eq_true rfl) rfl rfl rfl (Nat.le_of_ble_eq_true rfl) (Nat.le_of_ble_eq_true rfl) ?_
        have e49 : ∀ a b : Int, rd_up (rd_up M2 32 28 a) 32 29 b 49 = M2 49 := fun a b => by rw [rd_up_ne (by decide), rd_up_ne (by decide)]
        have e55 : ∀ a b : Int, rd_up (rd_up M2 32 28 a) 32 29 b 55 = M2 55 := fun a b => by rw [rd_up_ne (by decide), rd_up_ne (by decide)]
        refine ev_M_spread (v := sp_evV (r_d M) n t (M 49) E) (s := sp_evA (r_d M) n t (M 49) E) (p := sp_inW (r_d M) ((M 41 t).tmod 10) (E + 1) (sp_evO (r_d M) n t (M 49) E)) (((r_fr.up32 (by omega)).trans ((r_fr.up32 (by omega)).trans hf2.fr)).B hB) (fun k a b => by rw [e49]; exact hf2.kb hK htm a b) (fun k a b => by rw [e55]; exact ⟨hi2 k a b, rd_01⟩) h0 h1 ⟨hVb.1, hVb.2.2⟩ (by rw [e49, ← hf2.a, hf2.fr.d, hf2.fr.low 41 (by decide) (by decide)]; rfl) hVb.2.1 (fun M4 hS4 => ?_)
        refine ⟨rfl, ?_⟩
        first | simp (decide := true) only [rd_up_app, rd_up_hit, e42, e43] | skip
        refine rd_iinc2 (pc := 267) d_M_excessOfEvents_267 rfl ?_
        refine rd_goto (pc := 270) (tgt := 2) d_M_excessOfEvents_270 rfl ?_
        first
          | (refine rd_weak (L' := [some (.ref 32), some (rd_i t), some (rd_i (e + 1)), none, none, none, none, none]) (by simp [rd_le, he]) ?_
             refine ih _ (by omega) (e + 1) (E + 1) _ rfl (by omega) (by omega) ?_
             exact hE.next (by omega) hS2 rfl hS4)
          | (refine rd_weak (L' := [some (.ref 32), some (rd_i t), some (rd_i (e + 1)), none, none, none, none, none]) (by simp [rd_le, he]) ?_
             refine ih _ (by omega) (e + 1) (E + 1) _ rfl (by omega) (by omega) ?_
             have hsk := hE.skip (by omega)
             exact hsk)
set_option maxHeartbeats 4000000 in
set_option maxRecDepth 100000 in
theorem ev_M_excessOfEvents {t : Int} {n nt : Nat} {M : rd_M} {Q : rd_R → rd_M → Prop} (hB : r_B M n nt) (hK : ∀ k : Int, 0 ≤ k → k < n → 0 ≤ M 49 k ∧ M 49 k ≤ 1000000000) (h0 : 0 ≤ t) (h1 : t < 10) (hp : M 32 28 = 0) (hu : M 32 29 = 0) (hQ : ∀ M', r_E M n t 9 M' → Q (.inl none) M') : rd_G x_M_excessOfEvents 0 [some (.ref 32), some (rd_i t), none, none, none, none, none, none] [] M 0 Q := by
  refine rd_iconst (pc := 0) d_M_excessOfEvents_0 ?_
  refine rd_ist2 (pc := 1) d_M_excessOfEvents_1 rfl ?_
  have hs := hB.sh h0 h1
  refine lq_M_ev hB hK h0 h1 hQ _ 1 0 M rfl rfl (by omega) ⟨⟨fun q _ _ _ _ _ => ?_, fun _ _ _ => rfl⟩, fun j => ?_, ?_, ?_⟩
  · rw [r_tks_0 (w := (sp_ev (r_d M) n t (M 49) 0).1) (fun _ _ _ => rfl)]
  · rw [if_neg (by omega)]
  · rw [hp]; show 0 = min (M 45 t) 0; omega
  · rw [hu]; exact (sp_Tt_0 (hB.tm h0 h1)).symm

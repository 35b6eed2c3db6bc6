/-! the reference: a treaty takes; all is reckoned -/
def r_prm (M : rd_M) (t : Int) (u : Int → Int) : rd_M := fun q =>
  if q = 54 then (fun j => if 0 ≤ j ∧ j < 12 then M 54 j - u j else M 54 j) else if q = 52 then (fun j => if j = t then M 52 j + rd_sm u 12 else M 52 j) else M q
theorem r_prm_28 {M : rd_M} {t j : Int} {u : Int → Int} : r_prm M t u 54 j = if 0 ≤ j ∧ j < 12 then M 54 j - u j else M 54 j := rfl
theorem r_prm_29 {M : rd_M} {t j : Int} {u : Int → Int} : r_prm M t u 52 j = if j = t then M 52 j + rd_sm u 12 else M 52 j := rfl
theorem r_prm_ne {M : rd_M} {t : Int} {u : Int → Int} {q : Nat} (h1 : q ≠ 54) (h2 : q ≠ 52) : r_prm M t u q = M q := by
  unfold r_prm; rw [if_neg h1, if_neg h2]
theorem r_prm_congr {M : rd_M} {t : Int} {u u' : Int → Int} (h : ∀ j : Int, 0 ≤ j → j < 12 → u j = u' j) : r_prm M t u = r_prm M t u' := by
  funext q j
  by_cases h1 : q = 54
  · subst h1
    rw [r_prm_28, r_prm_28]
    by_cases hj : 0 ≤ j ∧ j < 12
    · rw [if_pos hj, if_pos hj, h j hj.1 hj.2]
    · rw [if_neg hj, if_neg hj]
  · by_cases h2 : q = 52
    · subst h2
      rw [r_prm_29, r_prm_29, rd_sm_c 12 (fun i a b => h i a (by omega))]
    · rw [r_prm_ne h1 h2, r_prm_ne h1 h2]
theorem r_prm_0 {M : rd_M} {t : Int} {u : Int → Int} (h : ∀ j : Int, 0 ≤ j → j < 12 → u j = 0) : r_prm M t u = M := by
  funext q j
  by_cases h1 : q = 54
  · subst h1
    rw [r_prm_28]
    by_cases hj : 0 ≤ j ∧ j < 12
    · rw [if_pos hj, h j hj.1 hj.2]; omega
    · rw [if_neg hj]
  · by_cases h2 : q = 52
    · subst h2
      rw [r_prm_29, rd_sm_z 12 (fun i a b => h i a (by omega))]
      by_cases hj : j = t
      · rw [if_pos hj]; omega
      · rw [if_neg hj]
    · rw [r_prm_ne h1 h2]
theorem r_prm_add {M : rd_M} {t k a : Int} {u : Int → Int} (h0 : 0 ≤ k) (h1 : k < 12) : rd_up (rd_up (r_prm M t u) 54 k (r_prm M t u 54 k - a)) 52 t (r_prm M t u 52 t + a) = r_prm M t (fun j => if j = k then u j + a else u j) := by
  funext q j
  by_cases h28 : q = 54
  · subst h28
    rw [rd_up_app (by decide), rd_up_at, r_prm_28, r_prm_28, r_prm_28]
    by_cases hj : j = k
    · subst hj
      rw [if_pos rfl, if_pos ⟨h0, h1⟩, if_pos ⟨h0, h1⟩, if_pos rfl]
      omega
    · rw [if_neg hj, if_neg hj]
  · by_cases h29 : q = 52
    · subst h29
      rw [rd_up_at, rd_up_app (by decide), r_prm_29, r_prm_29, r_prm_29, rd_sm_add 12 h0 (by omega)]
      by_cases hj : j = t
      · subst hj
        rw [if_pos rfl, if_pos rfl, if_pos rfl]
        omega
      · rw [if_neg hj, if_neg hj, if_neg hj]
    · rw [rd_up_app h29, rd_up_app h28, r_prm_ne h28 h29, r_prm_ne h28 h29]
/-- the reference's rows -/
def r_z (M : rd_M) : rd_M := fun q => match q with
  | 0 => M 49 | 1 => M 50 | 2 => M 51 | 3 => M 53 | 4 => M 54 | _ => M 52
theorem r_z_ap {M M' : rd_M} {d : rd_M} {n : Nat} {t : Int} (h24 : ∀ k, M' 49 k = if 0 ≤ k ∧ k < n then M 49 k - sp_tk d n t (M 49) k else M 49 k) (h25 : ∀ j, M' 50 j = if t * 40 ≤ j ∧ j < t * 40 + n then M 50 j + sp_tk d n t (M 49) (j - t * 40) else M 50 j) (h26 : ∀ j, M' 51 j = if j = t then M 51 j + rd_sm (sp_tk d n t (M 49)) n else M 51 j)
    (h27 : ∀ j, M' 53 j = if d 8 t = 3 ∧ t * 10 + 1 ≤ j ∧ j < t * 10 + 10 then sp_evO d n t (M 49) (j - t * 10 - 1).toNat else M 53 j) (h28 : ∀ r, M' 54 r = if d 8 t < 2 ∧ 0 ≤ r ∧ r < 12 then M 54 r - sp_pm d t (M 54) r else M 54 r) (h29 : ∀ j, M' 52 j = if d 8 t < 2 ∧ j = t then M 52 j + rd_sm (sp_pm d t (M 54)) 12 else M 52 j) : r_z M' = sp_ap d n t (r_z M) := by
  funext q j
  match q with
  | 0 => exact h24 j
  | 1 => exact h25 j
  | 2 => exact h26 j
  | 3 => exact h27 j
  | 4 => exact h28 j
  | q + 5 => exact h29 j
theorem r_z_q {M : rd_M} {n : Nat} {t : Int} (hk : r_d M 8 t < 2) : r_z (r_prm (r_tks M t n (sp_tkP (r_d M) t (M 49))) t (sp_pm (r_d M) t (M 54))) = sp_ap (r_d M) n t (r_z M) := by
  rw [← sp_tk_q (n := n) hk]
  refine r_z_ap (fun k => ?_) (fun j => ?_) (fun j => ?_) (fun j => ?_) (fun r => ?_) (fun j => ?_)
  · rw [r_prm_ne (by decide) (by decide), r_tks_24]
  · rw [r_prm_ne (by decide) (by decide), r_tks_25]
  · rw [r_prm_ne (by decide) (by decide), r_tks_26]
  · rw [r_prm_ne (by decide) (by decide), r_tks_ne (by decide) (by decide) (by decide), if_neg (fun z => by have := z.1; omega)]
  · rw [r_prm_28, r_tks_ne (by decide) (by decide) (by decide)]
    by_cases h : 0 ≤ r ∧ r < 12
    · rw [if_pos h, if_pos ⟨hk, h⟩]
    · rw [if_neg h, if_neg (fun z => h z.2)]
  · rw [r_prm_29, r_tks_ne (by decide) (by decide) (by decide)]
    by_cases h : j = t
    · rw [if_pos h, if_pos ⟨hk, h⟩]
    · rw [if_neg h, if_neg (fun z => h z.2)]
theorem r_z_t {M M' : rd_M} {n : Nat} {t : Int} (hk : ¬ r_d M 8 t < 2) (hk3 : r_d M 8 t ≠ 3) (h : ∀ q, q ≠ 32 → q ≠ 55 → q ≠ 56 → q ≠ 57 → M' q = r_tks M t n (sp_tk (r_d M) n t (M 49)) q) : r_z M' = sp_ap (r_d M) n t (r_z M) := by
  refine r_z_ap (fun k => ?_) (fun j => ?_) (fun j => ?_) (fun j => ?_) (fun r => ?_) (fun j => ?_)
  · rw [h 49 (by decide) (by decide) (by decide) (by decide), r_tks_24]
  · rw [h 50 (by decide) (by decide) (by decide) (by decide), r_tks_25]
  · rw [h 51 (by decide) (by decide) (by decide) (by decide), r_tks_26]
  · rw [h 53 (by decide) (by decide) (by decide) (by decide), r_tks_ne (by decide) (by decide) (by decide), if_neg (fun z => hk3 z.1)]
  · rw [h 54 (by decide) (by decide) (by decide) (by decide), r_tks_ne (by decide) (by decide) (by decide), if_neg (fun z => hk z.1)]
  · rw [h 52 (by decide) (by decide) (by decide) (by decide), r_tks_ne (by decide) (by decide) (by decide), if_neg (fun z => hk z.1)]
theorem r_z_e {M M' : rd_M} {n : Nat} {t : Int} (hk3 : r_d M 8 t = 3) (h : r_E M n t 9 M') : r_z M' = sp_ap (r_d M) n t (r_z M) := by
  obtain ⟨⟨h1, _⟩, h2, _⟩ := h
  have e : (sp_ev (r_d M) n t (M 49) 9).1 = sp_tk (r_d M) n t (M 49) := by rw [sp_tk_e hk3]; rfl
  rw [e] at h1
  refine r_z_ap (fun k => ?_) (fun j => ?_) (fun j => ?_) (fun j => ?_) (fun r => ?_) (fun j => ?_)
  · rw [h1 49 (by decide) (by decide) (by decide) (by decide) (by decide), r_tks_24]
  · rw [h1 50 (by decide) (by decide) (by decide) (by decide) (by decide), r_tks_25]
  · rw [h1 51 (by decide) (by decide) (by decide) (by decide) (by decide), r_tks_26]
  · rw [h2 j]
    by_cases hj : t * 10 + 1 ≤ j ∧ j < t * 10 + 10
    · rw [if_pos (by omega), if_pos ⟨hk3, hj⟩]
    · rw [if_neg (by omega), if_neg (fun z => hj z.2)]
  · rw [h1 54 (by decide) (by decide) (by decide) (by decide) (by decide), r_tks_ne (by decide) (by decide) (by decide), if_neg (by omega)]
  · rw [h1 52 (by decide) (by decide) (by decide) (by decide) (by decide), r_tks_ne (by decide) (by decide) (by decide), if_neg (by omega)]
/-- the risks of claims are told -/
def r_T (M : rd_M) (n : Nat) : Prop := ∀ k : Int, 0 ≤ k → k < n → 0 < M 33 (M 36 k)
theorem r_fr.prm {M : rd_M} {t : Int} {u : Int → Int} : r_fr (r_prm M t u) M := ⟨fun q _ b => r_prm_ne (by omega) (by omega), fun i _ _ => by rw [r_prm_ne (by decide) (by decide)]⟩
set_option maxHeartbeats 4000000 in
set_option maxRecDepth 100000 in
theorem lq_M_apP {t : Int} {n nt : Nat} {M : rd_M} {Q : rd_R → rd_M → Prop} (hB : r_B M n nt) (hL : ∀ r : Int, 0 ≤ r → r < 12 → 0 ≤ M 54 r ∧ M 54 r ≤ 1000000000) (h0 : 0 ≤ t) (h1 : t < 10) (hQ : Q (.inl none) (r_prm M t (sp_pm (r_d M) t (M 54)))) : ∀ (d : Nat) (i : Int) (M1 : rd_M), (12 - i).toNat = d → (0 ≤ i) → (i ≤ 12) → (M1 = r_prm M t (fun r => if r < i then (sp_pm (r_d M) t (M 54)) r else 0)) → rd_G x_M_apply 80 [some (.ref 32), some (rd_i t), some (rd_i ((M 41 t).tmod 10)), some (rd_i i), none, none] [] M1 0 Q := by
  intro d
  induction d using Nat.strongRecOn with
  | ind d ih =>
    intro i M1 hd i0 i1 hM
    have htm := hB.tm h0 h1
    obtain ⟨s1, s2, s3, ta, tb, tc, td⟩ := hB.sh h0 h1
    have hf : r_fr M1 M := by (rw [hM]; exact r_fr.prm)
    have hB1 := hf.B hB
    have e33 := hf.low 33 (by decide) (by decide)
    have e35 := hf.low 35 (by decide) (by decide)
    have e41 := hf.low 41 (by decide) (by decide)
    have e42 := hf.low 42 (by decide) (by decide)
    have e43 := hf.low 43 (by decide) (by decide)
    refine rd_ildn (pc := 80) d_M_apply_80 rfl ?_
    refine rd_bipush (pc := 81) d_M_apply_81 rfl ?_
    refine rd_icmp_ge (pc := 83) (tgt := 152) d_M_apply_83 rfl ⟨by omega, by omega⟩ ⟨by omega, by omega⟩ (fun h83 => ?_) (fun h83 => ?_)
    · skip
      refine rd_goto (pc := 152) (tgt := 271) d_M_apply_152 rfl ?_
      exact rd_vret (pc := 271) d_M_apply_271 rfl (Nat.le_of_ble_eq_true rfl) (by rw [hM, r_prm_congr (u' := (sp_pm (r_d M) t (M 54))) (fun j a b => by rw [if_pos (by omega)])]; exact hQ)
    · skip
      obtain ⟨r1, r2, r3⟩ := hB.risk i0 (by omega)
      have hl := hL i i0 (by omega)
      have e54 : M1 54 i = M 54 i := by (rw [hM, r_prm_28, if_pos (by omega), if_neg (by omega)]; omega)
      have hpt := sp_part_b (k := (M 41 t).tdiv 10) ta tb r1 (fun z => htm.2.2.2.2.2 z)
      have hmul := rd_mulb hl.1 hl.2 hpt.1 hpt.2
      refine rd_aldn (pc := 86) d_M_apply_86 rfl ?_
      refine rd_getr (pc := 87) d_M_apply_87 fl_M_7 rfl rfl ?_
      refine rd_ildn (pc := 90) d_M_apply_90 rfl ?_
      refine rd_iald (pc := 91) d_M_apply_91 rfl (by omega) (by omega) ?_
      first | simp (decide := true) only [rd_up_app, rd_up_hit, e33, e35, e41, e42, e43, e54] | simp (decide := true) only [rd_up_app, rd_up_hit, e33, e35, e41, e42, e43] | skip
      refine rd_if_le (pc := 92) (tgt := 146) d_M_apply_92 rfl ⟨by omega, by omega⟩ (fun h92 => ?_) (fun h92 => ?_)
      · skip
        refine rd_iinc3 (pc := 146) d_M_apply_146 rfl ?_
        refine rd_goto (pc := 149) (tgt := 80) d_M_apply_149 rfl ?_
        refine rd_weak (L' := [some (.ref 32), some (rd_i t), some (rd_i ((M 41 t).tmod 10)), some (rd_i (i + 1)), none, none]) (by simp [rd_le]) ?_
        by_cases hc : 0 < M 33 i ∧ M 35 i = ((M 41 t).tmod 10)
        · first | (exfalso; omega) | (refine ih _ (by omega) (i + 1) _ rfl (by omega) (by omega) ?_
                                      have hpm : (sp_pm (r_d M) t (M 54)) i = (M 54 i * sp_part ((M 41 t).tdiv 10) (M 42 t) (M 43 t) (M 33 i)).tdiv 1000000 := if_pos hc
                                      have hz := r_prm_add (M := M) (t := t) (u := fun j => if j < i then (sp_pm (r_d M) t (M 54)) j else 0) (k := i) (a := (M 54 i * sp_part ((M 41 t).tdiv 10) (M 42 t) (M 43 t) (M 33 i)).tdiv 1000000) i0 (by omega)
                                      rw [← hM, e54] at hz
                                      rw [hz]
                                      exact r_prm_congr (fun j a b => rd_grow (w := (sp_pm (r_d M) t (M 54))) hpm.symm))
        · first | (exfalso; omega) | (refine ih _ (by omega) (i + 1) _ rfl (by omega) (by omega) ?_
                                      rw [hM]; exact r_prm_congr (fun j a b => rd_grow0 (w := (sp_pm (r_d M) t (M 54))) (if_neg hc)))
      · skip
        refine rd_aldn (pc := 95) d_M_apply_95 rfl ?_
        refine rd_getr (pc := 96) d_M_apply_96 fl_M_16 rfl rfl ?_
        refine rd_ildn (pc := 99) d_M_apply_99 rfl ?_
        refine rd_iald (pc := 100) d_M_apply_100 rfl (by omega) (by omega) ?_
        first | simp (decide := true) only [rd_up_app, rd_up_hit, e33, e35, e41, e42, e43, e54] | simp (decide := true) only [rd_up_app, rd_up_hit, e33, e35, e41, e42, e43] | skip
        refine rd_ildn (pc := 101) d_M_apply_101 rfl ?_
        refine rd_icmp_ne (pc := 102) (tgt := 146) d_M_apply_102 rfl ⟨by omega, by omega⟩ ⟨by omega, by omega⟩ (fun h102 => ?_) (fun h102 => ?_)
        · skip
          refine rd_iinc3 (pc := 146) d_M_apply_146 rfl ?_
          refine rd_goto (pc := 149) (tgt := 80) d_M_apply_149 rfl ?_
          refine rd_weak (L' := [some (.ref 32), some (rd_i t), some (rd_i ((M 41 t).tmod 10)), some (rd_i (i + 1)), none, none]) (by simp [rd_le]) ?_
          by_cases hc : 0 < M 33 i ∧ M 35 i = ((M 41 t).tmod 10)
          · first | (exfalso; omega) | (refine ih _ (by omega) (i + 1) _ rfl (by omega) (by omega) ?_
                                        have hpm : (sp_pm (r_d M) t (M 54)) i = (M 54 i * sp_part ((M 41 t).tdiv 10) (M 42 t) (M 43 t) (M 33 i)).tdiv 1000000 := if_pos hc
                                        have hz := r_prm_add (M := M) (t := t) (u := fun j => if j < i then (sp_pm (r_d M) t (M 54)) j else 0) (k := i) (a := (M 54 i * sp_part ((M 41 t).tdiv 10) (M 42 t) (M 43 t) (M 33 i)).tdiv 1000000) i0 (by omega)
                                        rw [← hM, e54] at hz
                                        rw [hz]
                                        exact r_prm_congr (fun j a b => rd_grow (w := (sp_pm (r_d M) t (M 54))) hpm.symm))
          · first | (exfalso; omega) | (refine ih _ (by omega) (i + 1) _ rfl (by omega) (by omega) ?_
                                        rw [hM]; exact r_prm_congr (fun j a b => rd_grow0 (w := (sp_pm (r_d M) t (M 54))) (if_neg hc)))
        · skip
          refine rd_aldn (pc := 105) d_M_apply_105 rfl ?_
          refine rd_getr (pc := 106) d_M_apply_106 fl_M_75 rfl rfl ?_
          refine rd_ildn (pc := 109) d_M_apply_109 rfl ?_
          refine rd_lald (pc := 110) d_M_apply_110 rfl (by omega) (by omega) ?_
          first | simp (decide := true) only [rd_up_app, rd_up_hit, e33, e35, e41, e42, e43, e54] | simp (decide := true) only [rd_up_app, rd_up_hit, e33, e35, e41, e42, e43] | skip
          refine rd_aldn (pc := 111) d_M_apply_111 rfl ?_
          refine rd_ildn (pc := 112) d_M_apply_112 rfl ?_
          refine rd_ildn (pc := 113) d_M_apply_113 rfl ?_
          refine rd_callVl (pc := 114) (n' := 0) [_, _] d_M_apply_114 ml_M_180 rfl (Nat.le_of_ble_eq_true rfl) (Nat.le_of_ble_eq_true rfl) (Nat.le_of_ble_eq_true rfl) rfl rfl rfl (Nat.le_of_ble_eq_true rfl) (Nat.le_of_ble_eq_true rfl) ?_
          refine ev_M_partOf hB1 h0 h1 i0 (by omega) (by rw [e33]; omega) ?_
          refine ⟨_, rfl, ?_⟩
          first | simp (decide := true) only [rd_up_app, rd_up_hit, e33, e35, e41, e42, e43, e54] | simp (decide := true) only [rd_up_app, rd_up_hit, e33, e35, e41, e42, e43] | skip
          refine rd_lmul (pc := 117) d_M_apply_117 ?_
          refine rd_ldc2 (pc := 118) (v := 1000000) d_M_apply_118 kl_M_115 ?_
          refine rd_ldiv (pc := 121) d_M_apply_121 ⟨by omega, by omega⟩ ⟨by omega, by omega⟩ (by omega) ?_
          refine rd_lst4 (pc := 122) d_M_apply_122 rfl ?_
          refine rd_aldn (pc := 124) d_M_apply_124 rfl ?_
          refine rd_getr (pc := 125) d_M_apply_125 fl_M_75 rfl rfl ?_
          refine rd_ildn (pc := 128) d_M_apply_128 rfl ?_
          refine rd_dup2 (pc := 129) d_M_apply_129 rfl rfl ?_
          refine rd_lald (pc := 130) d_M_apply_130 rfl (by omega) (by omega) ?_
          first | simp (decide := true) only [rd_up_app, rd_up_hit, e33, e35, e41, e42, e43, e54] | simp (decide := true) only [rd_up_app, rd_up_hit, e33, e35, e41, e42, e43] | skip
          refine rd_lld (pc := 131) d_M_apply_131 rfl ?_
          refine rd_lsub (pc := 133) d_M_apply_133 ?_
          refine rd_last (pc := 134) d_M_apply_134 rfl (by omega) (by omega) ?_
          refine rd_aldn (pc := 135) d_M_apply_135 rfl ?_
          refine rd_getr (pc := 136) d_M_apply_136 fl_M_69 rfl rfl ?_
          refine rd_ildn (pc := 139) d_M_apply_139 rfl ?_
          refine rd_dup2 (pc := 140) d_M_apply_140 rfl rfl ?_
          refine rd_lald (pc := 141) d_M_apply_141 rfl (by omega) (by omega) ?_
          first | simp (decide := true) only [rd_up_app, rd_up_hit, e33, e35, e41, e42, e43, e54] | simp (decide := true) only [rd_up_app, rd_up_hit, e33, e35, e41, e42, e43] | skip
          refine rd_lld (pc := 142) d_M_apply_142 rfl ?_
          refine rd_ladd (pc := 144) d_M_apply_144 ?_
          refine rd_last (pc := 145) d_M_apply_145 rfl (by omega) (by omega) ?_
          refine rd_iinc3 (pc := 146) d_M_apply_146 rfl ?_
          refine rd_goto (pc := 149) (tgt := 80) d_M_apply_149 rfl ?_
          refine rd_weak (L' := [some (.ref 32), some (rd_i t), some (rd_i ((M 41 t).tmod 10)), some (rd_i (i + 1)), none, none]) (by simp [rd_le]) ?_
          by_cases hc : 0 < M 33 i ∧ M 35 i = ((M 41 t).tmod 10)
          · first | (exfalso; omega) | (refine ih _ (by omega) (i + 1) _ rfl (by omega) (by omega) ?_
                                        have hpm : (sp_pm (r_d M) t (M 54)) i = (M 54 i * sp_part ((M 41 t).tdiv 10) (M 42 t) (M 43 t) (M 33 i)).tdiv 1000000 := if_pos hc
                                        have hz := r_prm_add (M := M) (t := t) (u := fun j => if j < i then (sp_pm (r_d M) t (M 54)) j else 0) (k := i) (a := (M 54 i * sp_part ((M 41 t).tdiv 10) (M 42 t) (M 43 t) (M 33 i)).tdiv 1000000) i0 (by omega)
                                        rw [← hM, e54] at hz
                                        rw [hz]
                                        exact r_prm_congr (fun j a b => rd_grow (w := (sp_pm (r_d M) t (M 54))) hpm.symm))
          · first | (exfalso; omega) | (refine ih _ (by omega) (i + 1) _ rfl (by omega) (by omega) ?_
                                        rw [hM]; exact r_prm_congr (fun j a b => rd_grow0 (w := (sp_pm (r_d M) t (M 54))) (if_neg hc)))
set_option maxHeartbeats 4000000 in
set_option maxRecDepth 100000 in
theorem lq_M_apC {t : Int} {n nt : Nat} {M : rd_M} {Q : rd_R → rd_M → Prop} (hB : r_B M n nt) (hK : ∀ k : Int, 0 ≤ k → k < n → 0 ≤ M 49 k ∧ M 49 k ≤ 1000000000) (hL : ∀ r : Int, 0 ≤ r → r < 12 → 0 ≤ M 54 r ∧ M 54 r ≤ 1000000000) (hT : r_T M n) (h0 : 0 ≤ t) (h1 : t < 10) (hQ : Q (.inl none) (r_prm (r_tks M t n (sp_tkP (r_d M) t (M 49))) t (sp_pm (r_d M) t (M 54)))) : ∀ (d : Nat) (i : Int) (M1 : rd_M), (n - i).toNat = d → (0 ≤ i) → (i ≤ n) → (M1 = r_tks M t n (fun k => if k < i then (sp_tkP (r_d M) t (M 49)) k else 0)) → rd_G x_M_apply 27 [some (.ref 32), some (rd_i t), some (rd_i ((M 41 t).tmod 10)), some (rd_i i), none, none] [] M1 0 Q := by
  intro d
  induction d using Nat.strongRecOn with
  | ind d ih =>
    intro i M1 hd i0 i1 hM
    have hn := hB.1
    have hn4 := hB.2.2.1
    have htm := hB.tm h0 h1
    obtain ⟨s1, s2, s3, ta, tb, tc, td⟩ := hB.sh h0 h1
    have hf : r_fr M1 M := by (rw [hM]; exact r_fr.tks)
    have hB1 := hf.B hB
    have e32 : M1 32 = M 32 := by rw [hM, r_tks_ne (by decide) (by decide) (by decide)]
    have e33 := hf.low 33 (by decide) (by decide)
    have e35 := hf.low 35 (by decide) (by decide)
    have e36 := hf.low 36 (by decide) (by decide)
    have e40 := hf.low 40 (by decide) (by decide)
    have e41 := hf.low 41 (by decide) (by decide)
    have e42 := hf.low 42 (by decide) (by decide)
    have e43 := hf.low 43 (by decide) (by decide)
    refine rd_ildn (pc := 27) d_M_apply_27 rfl ?_
    refine rd_aldn (pc := 28) d_M_apply_28 rfl ?_
    refine rd_gi (pc := 29) (ki := 9) d_M_apply_29 fl_M_97 rfl rfl rfl ?_
    first | simp (decide := true) only [rd_up_app, rd_up_hit, e32, e33, e35, e36, e40, e41, e42, e43, e49] | simp (decide := true) only [rd_up_app, rd_up_hit, e32, e33, e35, e36, e40, e41, e42, e43] | skip
    refine rd_icmp_ge (pc := 32) (tgt := 78) d_M_apply_32 rfl ⟨by omega, by omega⟩ ⟨by omega, by omega⟩ (fun h32 => ?_) (fun h32 => ?_)
    · skip
      refine rd_iconst (pc := 78) d_M_apply_78 ?_
      refine rd_ist3 (pc := 79) d_M_apply_79 rfl ?_
      have hM2 : M1 = r_tks M t n (sp_tkP (r_d M) t (M 49)) := by rw [hM]; exact r_tks_congr (fun j a b => by rw [if_pos (by omega)])
      rw [hM2]
      have hf2 : r_fr (r_tks M t n (sp_tkP (r_d M) t (M 49))) M := r_fr.tks
      have e54 : r_tks M t n (sp_tkP (r_d M) t (M 49)) 54 = M 54 := r_tks_ne (by decide) (by decide) (by decide)
      have hh := lq_M_apP (Q := Q) (t := t) (hf2.B hB) (by rw [e54]; exact hL) h0 h1 (by rw [hf2.d, e54]; exact hQ) _ 0 _ rfl (by omega) (by omega) (r_prm_0 (fun j a b => by rw [if_neg (by omega)])).symm
      rw [hf2.low 41 (by decide) (by decide)] at hh
      exact hh
    · skip
      obtain ⟨c1, c2, c3, c4, c5⟩ := hB.claim i0 (by omega)
      obtain ⟨r1, r2, r3⟩ := hB.risk c1.1 c1.2
      have hk := hK i i0 (by omega)
      have e49 : M1 49 i = M 49 i := by (rw [hM, r_tks_24, if_pos (by omega), if_neg (by omega)]; omega)
      have hpt := sp_part_b (k := (M 41 t).tdiv 10) ta tb r1 (fun z => htm.2.2.2.2.2 z)
      have hmul := rd_mulb hk.1 hk.2 hpt.1 hpt.2
      have hTi := hT i i0 (by omega)
      refine rd_aldn (pc := 35) d_M_apply_35 rfl ?_
      refine rd_ildn (pc := 36) d_M_apply_36 rfl ?_
      refine rd_ildn (pc := 37) d_M_apply_37 rfl ?_
      refine rd_callVi (pc := 38) (n' := 0) [_, _] d_M_apply_38 ml_M_160 rfl (Nat.le_of_ble_eq_true rfl) (Nat.le_of_ble_eq_true rfl) (Nat.le_of_ble_eq_true rfl) rfl rfl rfl (Nat.le_of_ble_eq_true rfl) (Nat.le_of_ble_eq_true rfl) ?_
      refine ev_M_counts hB1 i0 (by omega) ⟨by omega, by omega⟩ (fun hct => ⟨_, rfl, ?_⟩) (fun hct => ⟨_, rfl, ?_⟩)
      · skip
        refine rd_if_eq (pc := 41) (tgt := 72) d_M_apply_41 rfl ⟨by omega, by omega⟩ (fun h41 => ?_) (fun h41 => ?_)
        · exact absurd h41 (by decide)
        · skip
          refine rd_aldn (pc := 44) d_M_apply_44 rfl ?_
          refine rd_ildn (pc := 45) d_M_apply_45 rfl ?_
          refine rd_ildn (pc := 46) d_M_apply_46 rfl ?_
          refine rd_aldn (pc := 47) d_M_apply_47 rfl ?_
          refine rd_getr (pc := 48) d_M_apply_48 fl_M_60 rfl rfl ?_
          refine rd_ildn (pc := 51) d_M_apply_51 rfl ?_
          refine rd_lald (pc := 52) d_M_apply_52 rfl (by omega) (by omega) ?_
          first | simp (decide := true) only [rd_up_app, rd_up_hit, e32, e33, e35, e36, e40, e41, e42, e43, e49] | simp (decide := true) only [rd_up_app, rd_up_hit, e32, e33, e35, e36, e40, e41, e42, e43] | skip
          refine rd_aldn (pc := 53) d_M_apply_53 rfl ?_
          refine rd_ildn (pc := 54) d_M_apply_54 rfl ?_
          refine rd_aldn (pc := 55) d_M_apply_55 rfl ?_
          refine rd_getr (pc := 56) d_M_apply_56 fl_M_19 rfl rfl ?_
          refine rd_ildn (pc := 59) d_M_apply_59 rfl ?_
          refine rd_iald (pc := 60) d_M_apply_60 rfl (by omega) (by omega) ?_
          first | simp (decide := true) only [rd_up_app, rd_up_hit, e32, e33, e35, e36, e40, e41, e42, e43, e49] | simp (decide := true) only [rd_up_app, rd_up_hit, e32, e33, e35, e36, e40, e41, e42, e43] | skip
          refine rd_callVl (pc := 61) (n' := 0) [_, _] d_M_apply_61 ml_M_180 rfl (Nat.le_of_ble_eq_true rfl) (Nat.le_of_ble_eq_true rfl) (Nat.le_of_ble_eq_true rfl) rfl rfl rfl (Nat.le_of_ble_eq_true rfl) (Nat.le_of_ble_eq_true rfl) ?_
          refine ev_M_partOf hB1 h0 h1 c1.1 c1.2 (by rw [e33]; exact hTi) ?_
          refine ⟨_, rfl, ?_⟩
          first | simp (decide := true) only [rd_up_app, rd_up_hit, e32, e33, e35, e36, e40, e41, e42, e43, e49] | simp (decide := true) only [rd_up_app, rd_up_hit, e32, e33, e35, e36, e40, e41, e42, e43] | skip
          refine rd_lmul (pc := 64) d_M_apply_64 ?_
          refine rd_ldc2 (pc := 65) (v := 1000000) d_M_apply_65 kl_M_115 ?_
          refine rd_ldiv (pc := 68) d_M_apply_68 ⟨by omega, by omega⟩ ⟨by omega, by omega⟩ (by omega) ?_
          refine rd_callVv (pc := 69) (n' := 0) [_, _, _] d_M_apply_69 ml_M_156 rfl (Nat.le_of_ble_eq_true rfl) (Nat.le_of_ble_eq_true rfl) (Nat.le_of_ble_eq_true rfl) rfl rfl rfl (Nat.le_of_ble_eq_true rfl) (Nat.le_of_ble_eq_true rfl) ?_
          refine ev_M_take h0 h1 i0 (by omega) ?_
          refine ⟨rfl, ?_⟩
          first | simp (decide := true) only [rd_up_app, rd_up_hit, e32, e33, e35, e36, e40, e41, e42, e43, e49] | simp (decide := true) only [rd_up_app, rd_up_hit, e32, e33, e35, e36, e40, e41, e42, e43] | skip
          refine rd_iinc3 (pc := 72) d_M_apply_72 rfl ?_
          refine rd_goto (pc := 75) (tgt := 27) d_M_apply_75 rfl ?_
          rw [e40, e35, e36] at hct
          refine ih _ (by omega) (i + 1) _ rfl (by omega) (by omega) ?_
          first
            | (rw [hM, r_tks_take i0 (by omega)]; exact r_tks_congr (fun j a b => rd_grow (w := (sp_tkP (r_d M) t (M 49))) (if_pos hct).symm))
            | (rw [hM]; exact r_tks_congr (fun j a b => rd_grow0 (w := (sp_tkP (r_d M) t (M 49))) (if_neg hct)))
      · skip
        refine rd_if_eq (pc := 41) (tgt := 72) d_M_apply_41 rfl ⟨by omega, by omega⟩ (fun h41 => ?_) (fun h41 => ?_)
        · skip
          refine rd_iinc3 (pc := 72) d_M_apply_72 rfl ?_
          refine rd_goto (pc := 75) (tgt := 27) d_M_apply_75 rfl ?_
          rw [e40, e35, e36] at hct
          refine ih _ (by omega) (i + 1) _ rfl (by omega) (by omega) ?_
          first
            | (rw [hM, r_tks_take i0 (by omega)]; exact r_tks_congr (fun j a b => rd_grow (w := (sp_tkP (r_d M) t (M 49))) (if_pos hct).symm))
            | (rw [hM]; exact r_tks_congr (fun j a b => rd_grow0 (w := (sp_tkP (r_d M) t (M 49))) (if_neg hct)))
        · exact absurd h41 (by decide)
set_option maxHeartbeats 4000000 in
set_option maxRecDepth 100000 in
theorem lq_M_apS {t : Int} {n nt : Nat} {M : rd_M} {Q : rd_R → rd_M → Prop} (hB : r_B M n nt) (hK : ∀ k : Int, 0 ≤ k → k < n → 0 ≤ M 49 k ∧ M 49 k ≤ 1000000000) (h0 : 0 ≤ t) (h1 : t < 10) (hQ : ∀ M', (∀ q, q ≠ 55 → q ≠ 56 → q ≠ 57 → M' q = r_tks M t n (sp_tkS (r_d M) n t (M 49)) q) → Q (.inl none) M') : ∀ (d : Nat) (i s : Int) (M1 : rd_M), (n - i).toNat = d → (0 ≤ i) → (i ≤ n) → (s = sp_sum i.toNat (sp_in (r_d M) ((M 41 t).tmod 10)) (M 49)) → (∀ q, q ≠ 55 → M1 q = M q) → (∀ k : Int, 0 ≤ k → k < i → M1 55 k = (sp_in (r_d M) ((M 41 t).tmod 10)) k) → rd_G x_M_apply 194 [some (.ref 32), some (rd_i t), some (rd_i ((M 41 t).tmod 10)), some (rd_l s), none, some (rd_i i)] [] M1 0 Q := by
  intro d
  induction d using Nat.strongRecOn with
  | ind d ih =>
    intro i s M1 hd i0 i1 hs hS hi
    have hn := hB.1
    have hn4 := hB.2.2.1
    have htm := hB.tm h0 h1
    obtain ⟨s1, s2, s3, ta, tb, tc, td⟩ := hB.sh h0 h1
    have e32 : M1 32 = M 32 := hS 32 (by decide)
    have e35 : M1 35 = M 35 := hS 35 (by decide)
    have e36 : M1 36 = M 36 := hS 36 (by decide)
    have e40 : M1 40 = M 40 := hS 40 (by decide)
    have e42 : M1 42 = M 42 := hS 42 (by decide)
    have e43 : M1 43 = M 43 := hS 43 (by decide)
    have e49 : M1 49 = M 49 := hS 49 (by decide)
    have hf : r_fr M1 M := ⟨fun q a b => hS q (by omega), fun j a b => by rw [e32]⟩
    have hB1 := hf.B hB
    refine rd_ild (pc := 194) d_M_apply_194 rfl ?_
    refine rd_aldn (pc := 196) d_M_apply_196 rfl ?_
    refine rd_gi (pc := 197) (ki := 9) d_M_apply_197 fl_M_97 rfl rfl rfl ?_
    first | simp (decide := true) only [rd_up_app, rd_up_hit, e32, e35, e36, e40, e42, e43, e49] | skip
    refine rd_icmp_ge (pc := 200) (tgt := 247) d_M_apply_200 rfl ⟨by omega, by omega⟩ ⟨by omega, by omega⟩ (fun h200 => ?_) (fun h200 => ?_)
    · skip
      have en : i.toNat = n := by omega
      rw [en] at hs
      have hsn : 0 ≤ s := by (rw [hs]; exact sp_sum_nn (fun k a b => (hK k a b).1))
      have hsh : s ≤ 40000000000 := by (have := sp_sum_hi (n := n) (p := (sp_in (r_d M) ((M 41 t).tmod 10))) (κ := M 49) hK; omega)
      have hLb := sp_Lt_b htm hsn
      have hLb' : 0 ≤ sp_layer (M 42 t) (M 43 t) s ∧ sp_layer (M 42 t) (M 43 t) s ≤ s ∧ sp_layer (M 42 t) (M 43 t) s ≤ 1000000000 := hLb
      refine rd_aldn (pc := 247) d_M_apply_247 rfl ?_
      refine rd_ildn (pc := 248) d_M_apply_248 rfl ?_
      refine rd_lldn (pc := 249) d_M_apply_249 rfl ?_
      refine rd_aldn (pc := 250) d_M_apply_250 rfl ?_
      refine rd_getr (pc := 251) d_M_apply_251 fl_M_38 rfl rfl ?_
      refine rd_ildn (pc := 254) d_M_apply_254 rfl ?_
      refine rd_iald (pc := 255) d_M_apply_255 rfl (by omega) (by omega) ?_
      first | simp (decide := true) only [rd_up_app, rd_up_hit, e32, e35, e36, e40, e42, e43, e49] | skip
      refine rd_i2l (pc := 256) d_M_apply_256 ⟨by omega, by omega⟩ ?_
      refine rd_aldn (pc := 257) d_M_apply_257 rfl ?_
      refine rd_getr (pc := 258) d_M_apply_258 fl_M_41 rfl rfl ?_
      refine rd_ildn (pc := 261) d_M_apply_261 rfl ?_
      refine rd_iald (pc := 262) d_M_apply_262 rfl (by omega) (by omega) ?_
      first | simp (decide := true) only [rd_up_app, rd_up_hit, e32, e35, e36, e40, e42, e43, e49] | skip
      refine rd_i2l (pc := 263) d_M_apply_263 ⟨by omega, by omega⟩ ?_
      refine rd_callSl (pc := 264) (n' := 0) [_, _, _] d_M_apply_264 ml_M_164 (Nat.le_of_ble_eq_true rfl) (Nat.le_of_ble_eq_true rfl) (Nat.le_of_ble_eq_true rfl) rfl rfl rfl (Nat.le_of_ble_eq_true rfl) (Nat.le_of_ble_eq_true rfl) ?_
      refine ev_M_layer ⟨by omega, by omega⟩ ⟨by omega, by omega⟩ ⟨by omega, by omega⟩ ?_
      refine ⟨_, rfl, ?_⟩
      first | simp (decide := true) only [rd_up_app, rd_up_hit, e32, e35, e36, e40, e42, e43, e49] | skip
      refine rd_lldn (pc := 267) d_M_apply_267 rfl ?_
      refine rd_callVv (pc := 268) (n' := 0) [_, _, _] d_M_apply_268 ml_M_176 rfl (Nat.le_of_ble_eq_true rfl) (Nat.le_of_ble_eq_true rfl) (Nat.le_of_ble_eq_true rfl) rfl rfl rfl (Nat.le_of_ble_eq_true rfl) (Nat.le_of_ble_eq_true rfl) ?_
      refine ev_M_spread (v := sp_layer (M 42 t) (M 43 t) s) (p := (sp_in (r_d M) ((M 41 t).tmod 10))) hB1 (by rw [e49]; exact hK) (fun k a b => ⟨hi k a (by omega), rd_01⟩) h0 h1 ⟨hLb'.1, hLb'.2.2⟩ (by rw [e49]; exact hs) hLb'.2.1 (fun M5 hS5 => ?_)
      refine ⟨rfl, ?_⟩
      first | simp (decide := true) only [rd_up_app, rd_up_hit, e32, e35, e36, e40, e42, e43, e49] | skip
      exact rd_vret (pc := 271) d_M_apply_271 rfl (Nat.le_of_ble_eq_true rfl) (by
      refine hQ _ (fun q a b c => ?_)
      rw [hS5 q b c, e49, hs]
      unfold r_tks
      rw [hS 49 (by decide), hS 50 (by decide), hS 51 (by decide), hS q a]
      rfl)
    · skip
      obtain ⟨c1, c2, c3, c4, c5⟩ := hB.claim i0 (by omega)
      have hk := hK i i0 (by omega)
      have hss := sp_sum_s (p := (sp_in (r_d M) ((M 41 t).tmod 10))) (κ := M 49) i0
      refine rd_aldn (pc := 203) d_M_apply_203 rfl ?_
      refine rd_getr (pc := 204) d_M_apply_204 fl_M_78 rfl rfl ?_
      refine rd_ild (pc := 207) d_M_apply_207 rfl ?_
      refine rd_aldn (pc := 209) d_M_apply_209 rfl ?_
      refine rd_ild (pc := 210) d_M_apply_210 rfl ?_
      refine rd_ildn (pc := 212) d_M_apply_212 rfl ?_
      refine rd_callVi (pc := 213) (n' := 0) [_, _] d_M_apply_213 ml_M_160 rfl (Nat.le_of_ble_eq_true rfl) (Nat.le_of_ble_eq_true rfl) (Nat.le_of_ble_eq_true rfl) rfl rfl rfl (Nat.le_of_ble_eq_true rfl) (Nat.le_of_ble_eq_true rfl) ?_
      refine ev_M_counts hB1 i0 (by omega) ⟨by omega, by omega⟩ (fun hct => ⟨_, rfl, ?_⟩) (fun hct => ⟨_, rfl, ?_⟩)
      · skip
        refine rd_zast (pc := 216) d_M_apply_216 rfl (by omega) (by omega) (by omega) ?_
        refine rd_lldn (pc := 217) d_M_apply_217 rfl ?_
        refine rd_aldn (pc := 218) d_M_apply_218 rfl ?_
        refine rd_getr (pc := 219) d_M_apply_219 fl_M_78 rfl rfl ?_
        refine rd_ild (pc := 222) d_M_apply_222 rfl ?_
        refine rd_zald (pc := 224) d_M_apply_224 rfl (by omega) (by omega) ?_
        first | simp (decide := true) only [rd_up_app, rd_up_hit, e32, e35, e36, e40, e42, e43, e49] | skip
        refine rd_if_eq (pc := 225) (tgt := 238) d_M_apply_225 rfl ⟨by omega, by omega⟩ (fun h225 => ?_) (fun h225 => ?_)
        · skip
          refine rd_lconst (pc := 238) (v := 0) d_M_apply_238 rfl ?_
          refine rd_ladd (pc := 239) d_M_apply_239 ?_
          refine rd_lst3 (pc := 240) d_M_apply_240 rfl ?_
          refine rd_iinc5 (pc := 241) d_M_apply_241 rfl ?_
          refine rd_goto (pc := 244) (tgt := 194) d_M_apply_244 rfl ?_
          rw [e40, e35, e36] at hct
          first
            | (exfalso; omega)
            | (have hp : (sp_in (r_d M) ((M 41 t).tmod 10)) i = 1 := sp_in_1.2 hct
               refine ih _ (by omega) (i + 1) _ _ rfl (by omega) (by omega) (by rw [hss, hs, if_pos hp]) (fun q h => by rw [rd_up_ne h]; exact hS q h) (fun k a b => ?_)
               by_cases hk2 : k = i
               · subst hk2; rw [rd_up_hit]; exact hp.symm
               · rw [rd_up_at, if_neg hk2]; exact hi k a (by omega))
            | (have hp : (sp_in (r_d M) ((M 41 t).tmod 10)) i = 0 := if_neg hct
               refine ih _ (by omega) (i + 1) _ _ rfl (by omega) (by omega) (by rw [hss, hs, if_neg (by omega)]) (fun q h => by rw [rd_up_ne h]; exact hS q h) (fun k a b => ?_)
               by_cases hk2 : k = i
               · subst hk2; rw [rd_up_hit]; exact hp.symm
               · rw [rd_up_at, if_neg hk2]; exact hi k a (by omega))
        · skip
          refine rd_aldn (pc := 228) d_M_apply_228 rfl ?_
          refine rd_getr (pc := 229) d_M_apply_229 fl_M_60 rfl rfl ?_
          refine rd_ild (pc := 232) d_M_apply_232 rfl ?_
          refine rd_lald (pc := 234) d_M_apply_234 rfl (by omega) (by omega) ?_
          first | simp (decide := true) only [rd_up_app, rd_up_hit, e32, e35, e36, e40, e42, e43, e49] | skip
          refine rd_goto (pc := 235) (tgt := 239) d_M_apply_235 rfl ?_
          refine rd_ladd (pc := 239) d_M_apply_239 ?_
          refine rd_lst3 (pc := 240) d_M_apply_240 rfl ?_
          refine rd_iinc5 (pc := 241) d_M_apply_241 rfl ?_
          refine rd_goto (pc := 244) (tgt := 194) d_M_apply_244 rfl ?_
          rw [e40, e35, e36] at hct
          first
            | (exfalso; omega)
            | (have hp : (sp_in (r_d M) ((M 41 t).tmod 10)) i = 1 := sp_in_1.2 hct
               refine ih _ (by omega) (i + 1) _ _ rfl (by omega) (by omega) (by rw [hss, hs, if_pos hp]) (fun q h => by rw [rd_up_ne h]; exact hS q h) (fun k a b => ?_)
               by_cases hk2 : k = i
               · subst hk2; rw [rd_up_hit]; exact hp.symm
               · rw [rd_up_at, if_neg hk2]; exact hi k a (by omega))
            | (have hp : (sp_in (r_d M) ((M 41 t).tmod 10)) i = 0 := if_neg hct
               refine ih _ (by omega) (i + 1) _ _ rfl (by omega) (by omega) (by rw [hss, hs, if_neg (by omega)]) (fun q h => by rw [rd_up_ne h]; exact hS q h) (fun k a b => ?_)
               by_cases hk2 : k = i
               · subst hk2; rw [rd_up_hit]; exact hp.symm
               · rw [rd_up_at, if_neg hk2]; exact hi k a (by omega))
      · skip
        refine rd_zast (pc := 216) d_M_apply_216 rfl (by omega) (by omega) (by omega) ?_
        refine rd_lldn (pc := 217) d_M_apply_217 rfl ?_
        refine rd_aldn (pc := 218) d_M_apply_218 rfl ?_
        refine rd_getr (pc := 219) d_M_apply_219 fl_M_78 rfl rfl ?_
        refine rd_ild (pc := 222) d_M_apply_222 rfl ?_
        refine rd_zald (pc := 224) d_M_apply_224 rfl (by omega) (by omega) ?_
        first | simp (decide := true) only [rd_up_app, rd_up_hit, e32, e35, e36, e40, e42, e43, e49] | skip
        refine rd_if_eq (pc := 225) (tgt := 238) d_M_apply_225 rfl ⟨by omega, by omega⟩ (fun h225 => ?_) (fun h225 => ?_)
        · skip
          refine rd_lconst (pc := 238) (v := 0) d_M_apply_238 rfl ?_
          refine rd_ladd (pc := 239) d_M_apply_239 ?_
          refine rd_lst3 (pc := 240) d_M_apply_240 rfl ?_
          refine rd_iinc5 (pc := 241) d_M_apply_241 rfl ?_
          refine rd_goto (pc := 244) (tgt := 194) d_M_apply_244 rfl ?_
          rw [e40, e35, e36] at hct
          first
            | (exfalso; omega)
            | (have hp : (sp_in (r_d M) ((M 41 t).tmod 10)) i = 1 := sp_in_1.2 hct
               refine ih _ (by omega) (i + 1) _ _ rfl (by omega) (by omega) (by rw [hss, hs, if_pos hp]) (fun q h => by rw [rd_up_ne h]; exact hS q h) (fun k a b => ?_)
               by_cases hk2 : k = i
               · subst hk2; rw [rd_up_hit]; exact hp.symm
               · rw [rd_up_at, if_neg hk2]; exact hi k a (by omega))
            | (have hp : (sp_in (r_d M) ((M 41 t).tmod 10)) i = 0 := if_neg hct
               refine ih _ (by omega) (i + 1) _ _ rfl (by omega) (by omega) (by rw [hss, hs, if_neg (by omega)]) (fun q h => by rw [rd_up_ne h]; exact hS q h) (fun k a b => ?_)
               by_cases hk2 : k = i
               · subst hk2; rw [rd_up_hit]; exact hp.symm
               · rw [rd_up_at, if_neg hk2]; exact hi k a (by omega))
        · skip
          refine rd_aldn (pc := 228) d_M_apply_228 rfl ?_
          refine rd_getr (pc := 229) d_M_apply_229 fl_M_60 rfl rfl ?_
          refine rd_ild (pc := 232) d_M_apply_232 rfl ?_
          refine rd_lald (pc := 234) d_M_apply_234 rfl (by omega) (by omega) ?_
          first | simp (decide := true) only [rd_up_app, rd_up_hit, e32, e35, e36, e40, e42, e43, e49] | skip
          refine rd_goto (pc := 235) (tgt := 239) d_M_apply_235 rfl ?_
          refine rd_ladd (pc := 239) d_M_apply_239 ?_
          refine rd_lst3 (pc := 240) d_M_apply_240 rfl ?_
          refine rd_iinc5 (pc := 241) d_M_apply_241 rfl ?_
          refine rd_goto (pc := 244) (tgt := 194) d_M_apply_244 rfl ?_
          rw [e40, e35, e36] at hct
          first
            | (exfalso; omega)
            | (have hp : (sp_in (r_d M) ((M 41 t).tmod 10)) i = 1 := sp_in_1.2 hct
               refine ih _ (by omega) (i + 1) _ _ rfl (by omega) (by omega) (by rw [hss, hs, if_pos hp]) (fun q h => by rw [rd_up_ne h]; exact hS q h) (fun k a b => ?_)
               by_cases hk2 : k = i
               · subst hk2; rw [rd_up_hit]; exact hp.symm
               · rw [rd_up_at, if_neg hk2]; exact hi k a (by omega))
            | (have hp : (sp_in (r_d M) ((M 41 t).tmod 10)) i = 0 := if_neg hct
               refine ih _ (by omega) (i + 1) _ _ rfl (by omega) (by omega) (by rw [hss, hs, if_neg (by omega)]) (fun q h => by rw [rd_up_ne h]; exact hS q h) (fun k a b => ?_)
               by_cases hk2 : k = i
               · subst hk2; rw [rd_up_hit]; exact hp.symm
               · rw [rd_up_at, if_neg hk2]; exact hi k a (by omega))
set_option maxHeartbeats 4000000 in
set_option maxRecDepth 100000 in
theorem ev_M_apply {t : Int} {n nt : Nat} {M : rd_M} {Q : rd_R → rd_M → Prop} (hB : r_B M n nt) (hK : ∀ k : Int, 0 ≤ k → k < n → 0 ≤ M 49 k ∧ M 49 k ≤ 1000000000) (hL : ∀ r : Int, 0 ≤ r → r < 12 → 0 ≤ M 54 r ∧ M 54 r ≤ 1000000000) (hT : r_T M n) (h0 : 0 ≤ t) (h1 : t < 10) (hQ : ∀ M', r_fr M' M → r_z M' = sp_ap (r_d M) n t (r_z M) → Q (.inl none) M') : rd_G x_M_apply 0 [some (.ref 32), some (rd_i t), none, none, none, none] [] M 0 Q := by
  refine rd_aldn (pc := 0) d_M_apply_0 rfl ?_
  refine rd_lconst (pc := 1) (v := 0) d_M_apply_1 rfl ?_
  refine rd_pl (pc := 2) (ki := 28) d_M_apply_2 fl_M_147 fp_5_28 rfl rfl rfl ?_
  refine rd_aldn (pc := 5) d_M_apply_5 rfl ?_
  refine rd_lconst (pc := 6) (v := 0) d_M_apply_6 rfl ?_
  refine rd_pl (pc := 7) (ki := 29) d_M_apply_7 fl_M_151 fp_5_29 rfl rfl rfl ?_
  have hf0 : r_fr (rd_up (rd_up M 32 28 0) 32 29 0) M := (r_fr.up32 (by omega)).trans (r_fr.up32 (by omega))
  have hz0 : r_z (rd_up (rd_up M 32 28 0) 32 29 0) = r_z M := rfl
  have e0 : ∀ q, q ≠ 32 → (rd_up (rd_up M 32 28 0) 32 29 0) q = M q := fun q h => by rw [rd_up_ne h, rd_up_ne h]
  generalize hM0 : (rd_up (rd_up M 32 28 0) 32 29 0) = M0 at *
  have hp : M0 32 28 = 0 := by rw [← hM0, rd_up_at, if_neg (by decide), rd_up_hit]
  have hu : M0 32 29 = 0 := by rw [← hM0, rd_up_hit]
  have hB0 := hf0.B hB
  have hK0 : ∀ k : Int, 0 ≤ k → k < n → 0 ≤ M0 49 k ∧ M0 49 k ≤ 1000000000 := by rw [e0 49 (by decide)]; exact hK
  have hL0 : ∀ r : Int, 0 ≤ r → r < 12 → 0 ≤ M0 54 r ∧ M0 54 r ≤ 1000000000 := by rw [e0 54 (by decide)]; exact hL
  have hT0 : r_T M0 n := by unfold r_T; rw [e0 33 (by decide), e0 36 (by decide)]; exact hT
  rw [← hf0.d, ← hz0] at hQ
  obtain ⟨s1, s2, s3, ta, tb, tc, td⟩ := hB0.sh h0 h1
  have hk8 : r_d M0 8 t = (M0 41 t).tdiv 10 := rfl
  refine rd_aldn (pc := 10) d_M_apply_10 rfl ?_
  refine rd_ildn (pc := 11) d_M_apply_11 rfl ?_
  refine rd_callVi (pc := 12) (n' := 0) [_] d_M_apply_12 ml_M_130 rfl (Nat.le_of_ble_eq_true rfl) (Nat.le_of_ble_eq_true rfl) (Nat.le_of_ble_eq_true rfl) rfl rfl rfl (Nat.le_of_ble_eq_true rfl) (Nat.le_of_ble_eq_true rfl) ?_
  refine ev_M_treatyYear hB0 h0 h1 ?_
  refine ⟨_, rfl, ?_⟩
  skip
  refine rd_ist2 (pc := 15) d_M_apply_15 rfl ?_
  refine rd_aldn (pc := 16) d_M_apply_16 rfl ?_
  refine rd_ildn (pc := 17) d_M_apply_17 rfl ?_
  refine rd_callVi (pc := 18) (n' := 0) [_] d_M_apply_18 ml_M_144 rfl (Nat.le_of_ble_eq_true rfl) (Nat.le_of_ble_eq_true rfl) (Nat.le_of_ble_eq_true rfl) rfl rfl rfl (Nat.le_of_ble_eq_true rfl) (Nat.le_of_ble_eq_true rfl) ?_
  refine ev_M_kindOf hB0 h0 h1 ?_
  refine ⟨_, rfl, ?_⟩
  skip
  refine rd_iconst (pc := 21) d_M_apply_21 ?_
  refine rd_icmp_ge (pc := 22) (tgt := 155) d_M_apply_22 rfl ⟨by omega, by omega⟩ ⟨by omega, by omega⟩ (fun h22 => ?_) (fun h22 => ?_)
  · skip
    refine rd_aldn (pc := 155) d_M_apply_155 rfl ?_
    refine rd_ildn (pc := 156) d_M_apply_156 rfl ?_
    refine rd_callVi (pc := 157) (n' := 0) [_] d_M_apply_157 ml_M_144 rfl (Nat.le_of_ble_eq_true rfl) (Nat.le_of_ble_eq_true rfl) (Nat.le_of_ble_eq_true rfl) rfl rfl rfl (Nat.le_of_ble_eq_true rfl) (Nat.le_of_ble_eq_true rfl) ?_
    refine ev_M_kindOf hB0 h0 h1 ?_
    refine ⟨_, rfl, ?_⟩
    skip
    refine rd_iconst (pc := 160) d_M_apply_160 ?_
    refine rd_icmp_ne (pc := 161) (tgt := 172) d_M_apply_161 rfl ⟨by omega, by omega⟩ ⟨by omega, by omega⟩ (fun h161 => ?_) (fun h161 => ?_)
    · skip
      refine rd_aldn (pc := 172) d_M_apply_172 rfl ?_
      refine rd_ildn (pc := 173) d_M_apply_173 rfl ?_
      refine rd_callVi (pc := 174) (n' := 0) [_] d_M_apply_174 ml_M_144 rfl (Nat.le_of_ble_eq_true rfl) (Nat.le_of_ble_eq_true rfl) (Nat.le_of_ble_eq_true rfl) rfl rfl rfl (Nat.le_of_ble_eq_true rfl) (Nat.le_of_ble_eq_true rfl) ?_
      refine ev_M_kindOf hB0 h0 h1 ?_
      refine ⟨_, rfl, ?_⟩
      skip
      refine rd_iconst (pc := 177) d_M_apply_177 ?_
      refine rd_icmp_ne (pc := 178) (tgt := 189) d_M_apply_178 rfl ⟨by omega, by omega⟩ ⟨by omega, by omega⟩ (fun h178 => ?_) (fun h178 => ?_)
      · skip
        refine rd_lconst (pc := 189) (v := 0) d_M_apply_189 rfl ?_
        refine rd_lst3 (pc := 190) d_M_apply_190 rfl ?_
        refine rd_iconst (pc := 191) d_M_apply_191 ?_
        refine rd_ist5 (pc := 192) d_M_apply_192 rfl ?_
        refine lq_M_apS hB0 hK0 h0 h1 (fun M' h5 => ?_) _ 0 0 M0 rfl (by omega) (by omega) rfl (fun _ _ => rfl) (fun k a b => by omega)
        refine hQ _ (r_fr.trans ⟨fun q a b => ?_, fun j a b => ?_⟩ hf0) (r_z_t (by omega) (by omega) (fun q a b c e => by rw [h5 q b c e, sp_tk_s (by omega)]))
        · rw [h5 q (by omega) (by omega) (by omega), r_tks_ne (by omega) (by omega) (by omega)]
        · rw [h5 32 (by decide) (by decide) (by decide), r_tks_ne (by decide) (by decide) (by decide)]
      · skip
        refine rd_aldn (pc := 181) d_M_apply_181 rfl ?_
        refine rd_ildn (pc := 182) d_M_apply_182 rfl ?_
        refine rd_callVv (pc := 183) (n' := 0) [_] d_M_apply_183 ml_M_188 rfl (Nat.le_of_ble_eq_true rfl) (Nat.le_of_ble_eq_true rfl) (Nat.le_of_ble_eq_true rfl) rfl rfl rfl (Nat.le_of_ble_eq_true rfl) (Nat.le_of_ble_eq_true rfl) ?_
        refine ev_M_excessOfEvents hB0 hK0 h0 h1 hp hu (fun M5 hE5 => ?_)
        refine ⟨rfl, ?_⟩
        skip
        refine rd_goto (pc := 186) (tgt := 271) d_M_apply_186 rfl ?_
        exact rd_vret (pc := 271) d_M_apply_271 rfl (Nat.le_of_ble_eq_true rfl) (by
      first
      | exact hQ _ (hf5.trans hf0) (r_z_t (by omega) (by omega) (fun q a b c e => by rw [hS5 q a b, sp_tk_x (by omega)]))
      | exact hQ _ (hE5.1.fr.trans hf0) (r_z_e (by omega) hE5))
    · skip
      refine rd_aldn (pc := 164) d_M_apply_164 rfl ?_
      refine rd_ildn (pc := 165) d_M_apply_165 rfl ?_
      refine rd_callVv (pc := 166) (n' := 0) [_] d_M_apply_166 ml_M_184 rfl (Nat.le_of_ble_eq_true rfl) (Nat.le_of_ble_eq_true rfl) (Nat.le_of_ble_eq_true rfl) rfl rfl rfl (Nat.le_of_ble_eq_true rfl) (Nat.le_of_ble_eq_true rfl) ?_
      refine ev_M_excessOfRisks hB0 hK0 h0 h1 hp hu (fun M5 hf5 hS5 => ?_)
      refine ⟨rfl, ?_⟩
      skip
      refine rd_goto (pc := 169) (tgt := 271) d_M_apply_169 rfl ?_
      exact rd_vret (pc := 271) d_M_apply_271 rfl (Nat.le_of_ble_eq_true rfl) (by
      first
      | exact hQ _ (hf5.trans hf0) (r_z_t (by omega) (by omega) (fun q a b c e => by rw [hS5 q a b, sp_tk_x (by omega)]))
      | exact hQ _ (hE5.1.fr.trans hf0) (r_z_e (by omega) hE5))
  · skip
    refine rd_iconst (pc := 25) d_M_apply_25 ?_
    refine rd_ist3 (pc := 26) d_M_apply_26 rfl ?_
    refine lq_M_apC hB0 hK0 hL0 hT0 h0 h1 ?_ _ 0 M0 rfl (by omega) (by omega) (r_tks_0 (fun j a b => by rw [if_neg (by omega)])).symm
    exact hQ _ ((r_fr.prm.trans r_fr.tks).trans hf0) (r_z_q (by omega))
set_option maxHeartbeats 4000000 in
set_option maxRecDepth 100000 in
theorem lq_M_rkA {n nt : Nat} {M : rd_M} {Q : rd_R → rd_M → Prop} (hB : r_B M n nt) (hX : ∀ (i : Int) (M1 : rd_M), (∀ q, q ≠ 49 → M1 q = M q) → (∀ k : Int, 0 ≤ k → k < n → M1 49 k = if M 40 k = 0 then M 39 k else 0) → rd_G x_M_reckon 42 [some (.ref 32), some (rd_i i), none] [] M1 0 Q) : ∀ (d : Nat) (i : Int) (M1 : rd_M), (n - i).toNat = d → (0 ≤ i) → (i ≤ n) → (∀ q, q ≠ 49 → M1 q = M q) → (∀ k : Int, 0 ≤ k → k < i → M1 49 k = if M 40 k = 0 then M 39 k else 0) → rd_G x_M_reckon 2 [some (.ref 32), some (rd_i i), none] [] M1 0 Q := by
  intro d
  induction d using Nat.strongRecOn with
  | ind d ih =>
    intro i M1 hd i0 i1 hS hi
    have hn := hB.1
    have hn4 := hB.2.2.1
    have e32 := hS 32 (by decide)
    have e39 := hS 39 (by decide)
    have e40 := hS 40 (by decide)
    refine rd_ildn (pc := 2) d_M_reckon_2 rfl ?_
    refine rd_aldn (pc := 3) d_M_reckon_3 rfl ?_
    refine rd_gi (pc := 4) (ki := 9) d_M_reckon_4 fl_M_97 rfl rfl rfl ?_
    first | simp (decide := true) only [rd_up_app, rd_up_hit, e32, e39, e40] | skip
    refine rd_icmp_ge (pc := 7) (tgt := 42) d_M_reckon_7 rfl ⟨by omega, by omega⟩ ⟨by omega, by omega⟩ (fun h7 => ?_) (fun h7 => ?_)
    · skip
      exact hX i M1 hS (fun k a b => hi k a (by omega))
    · skip
      obtain ⟨c1, c2, c3, c4, c5⟩ := hB.claim i0 (by omega)
      refine rd_aldn (pc := 10) d_M_reckon_10 rfl ?_
      refine rd_getr (pc := 11) d_M_reckon_11 fl_M_60 rfl rfl ?_
      refine rd_ildn (pc := 14) d_M_reckon_14 rfl ?_
      refine rd_aldn (pc := 15) d_M_reckon_15 rfl ?_
      refine rd_getr (pc := 16) d_M_reckon_16 fl_M_31 rfl rfl ?_
      refine rd_ildn (pc := 19) d_M_reckon_19 rfl ?_
      refine rd_zald (pc := 20) d_M_reckon_20 rfl (by omega) (by omega) ?_
      first | simp (decide := true) only [rd_up_app, rd_up_hit, e32, e39, e40] | skip
      refine rd_if_eq (pc := 21) (tgt := 28) d_M_reckon_21 rfl ⟨by omega, by omega⟩ (fun h21 => ?_) (fun h21 => ?_)
      · skip
        refine rd_aldn (pc := 28) d_M_reckon_28 rfl ?_
        refine rd_getr (pc := 29) d_M_reckon_29 fl_M_28 rfl rfl ?_
        refine rd_ildn (pc := 32) d_M_reckon_32 rfl ?_
        refine rd_iald (pc := 33) d_M_reckon_33 rfl (by omega) (by omega) ?_
        first | simp (decide := true) only [rd_up_app, rd_up_hit, e32, e39, e40] | skip
        refine rd_i2l (pc := 34) d_M_reckon_34 ⟨by omega, by omega⟩ ?_
        refine rd_last (pc := 35) d_M_reckon_35 rfl (by omega) (by omega) ?_
        refine rd_iinc1 (pc := 36) d_M_reckon_36 rfl ?_
        refine rd_goto (pc := 39) (tgt := 2) d_M_reckon_39 rfl ?_
        refine ih _ (by omega) (i + 1) _ rfl (by omega) (by omega) (fun q h => by rw [rd_up_ne h]; exact hS q h) (fun k a b => ?_)
        by_cases hk : k = i
        · subst hk; rw [rd_up_hit]; first | exact (if_pos (by omega)).symm | exact (if_neg (by omega)).symm
        · rw [rd_up_at, if_neg hk]; exact hi k a (by omega)
      · skip
        refine rd_lconst (pc := 24) (v := 0) d_M_reckon_24 rfl ?_
        refine rd_goto (pc := 25) (tgt := 35) d_M_reckon_25 rfl ?_
        refine rd_last (pc := 35) d_M_reckon_35 rfl (by omega) (by omega) ?_
        refine rd_iinc1 (pc := 36) d_M_reckon_36 rfl ?_
        refine rd_goto (pc := 39) (tgt := 2) d_M_reckon_39 rfl ?_
        refine ih _ (by omega) (i + 1) _ rfl (by omega) (by omega) (fun q h => by rw [rd_up_ne h]; exact hS q h) (fun k a b => ?_)
        by_cases hk : k = i
        · subst hk; rw [rd_up_hit]; first | exact (if_pos (by omega)).symm | exact (if_neg (by omega)).symm
        · rw [rd_up_at, if_neg hk]; exact hi k a (by omega)
set_option maxHeartbeats 4000000 in
set_option maxRecDepth 100000 in
theorem lq_M_rkB {n nt : Nat} {M : rd_M} {Q : rd_R → rd_M → Prop} (hB : r_B M n nt) (hX : ∀ (i : Int) (M1 : rd_M), (∀ q, q ≠ 50 → M1 q = M q) → (∀ k : Int, 0 ≤ k → k < 400 → M1 50 k = 0) → rd_G x_M_reckon 64 [some (.ref 32), some (rd_i i), none] [] M1 0 Q) : ∀ (d : Nat) (i : Int) (M1 : rd_M), (400 - i).toNat = d → (0 ≤ i) → (i ≤ 400) → (∀ q, q ≠ 50 → M1 q = M q) → (∀ k : Int, 0 ≤ k → k < i → M1 50 k = 0) → rd_G x_M_reckon 44 [some (.ref 32), some (rd_i i), none] [] M1 0 Q := by
  intro d
  induction d using Nat.strongRecOn with
  | ind d ih =>
    intro i M1 hd i0 i1 hS hi
    refine rd_ildn (pc := 44) d_M_reckon_44 rfl ?_
    refine rd_sipush (pc := 45) d_M_reckon_45 rfl ?_
    refine rd_icmp_ge (pc := 48) (tgt := 64) d_M_reckon_48 rfl ⟨by omega, by omega⟩ ⟨by omega, by omega⟩ (fun h48 => ?_) (fun h48 => ?_)
    · skip
      exact hX i M1 hS (fun k a b => hi k a (by omega))
    · skip
      refine rd_aldn (pc := 51) d_M_reckon_51 rfl ?_
      refine rd_getr (pc := 52) d_M_reckon_52 fl_M_63 rfl rfl ?_
      refine rd_ildn (pc := 55) d_M_reckon_55 rfl ?_
      refine rd_lconst (pc := 56) (v := 0) d_M_reckon_56 rfl ?_
      refine rd_last (pc := 57) d_M_reckon_57 rfl (by omega) (by omega) ?_
      refine rd_iinc1 (pc := 58) d_M_reckon_58 rfl ?_
      refine rd_goto (pc := 61) (tgt := 44) d_M_reckon_61 rfl ?_
      refine ih _ (by omega) (i + 1) _ rfl (by omega) (by omega) (fun q h => by rw [rd_up_ne h]; exact hS q h) (fun k a b => ?_)
      by_cases hk : k = i
      · subst hk; rw [rd_up_hit]; skip
      · rw [rd_up_at, if_neg hk]; exact hi k a (by omega)
set_option maxHeartbeats 4000000 in
set_option maxRecDepth 100000 in
theorem lq_M_rkC {n nt : Nat} {M : rd_M} {Q : rd_R → rd_M → Prop} (hB : r_B M n nt) (hX : ∀ (i : Int) (M1 : rd_M), (∀ q, q ≠ 54 → M1 q = M q) → (∀ k : Int, 0 ≤ k → k < 12 → M1 54 k = M 34 k) → rd_G x_M_reckon 91 [some (.ref 32), some (rd_i i), none] [] M1 0 Q) : ∀ (d : Nat) (i : Int) (M1 : rd_M), (12 - i).toNat = d → (0 ≤ i) → (i ≤ 12) → (∀ q, q ≠ 54 → M1 q = M q) → (∀ k : Int, 0 ≤ k → k < i → M1 54 k = M 34 k) → rd_G x_M_reckon 66 [some (.ref 32), some (rd_i i), none] [] M1 0 Q := by
  intro d
  induction d using Nat.strongRecOn with
  | ind d ih =>
    intro i M1 hd i0 i1 hS hi
    have e34 := hS 34 (by decide)
    refine rd_ildn (pc := 66) d_M_reckon_66 rfl ?_
    refine rd_bipush (pc := 67) d_M_reckon_67 rfl ?_
    refine rd_icmp_ge (pc := 69) (tgt := 91) d_M_reckon_69 rfl ⟨by omega, by omega⟩ ⟨by omega, by omega⟩ (fun h69 => ?_) (fun h69 => ?_)
    · skip
      exact hX i M1 hS (fun k a b => hi k a (by omega))
    · skip
      obtain ⟨r1, r2, r3⟩ := hB.risk i0 (by omega)
      refine rd_aldn (pc := 72) d_M_reckon_72 rfl ?_
      refine rd_getr (pc := 73) d_M_reckon_73 fl_M_75 rfl rfl ?_
      refine rd_ildn (pc := 76) d_M_reckon_76 rfl ?_
      refine rd_aldn (pc := 77) d_M_reckon_77 rfl ?_
      refine rd_getr (pc := 78) d_M_reckon_78 fl_M_13 rfl rfl ?_
      refine rd_ildn (pc := 81) d_M_reckon_81 rfl ?_
      refine rd_iald (pc := 82) d_M_reckon_82 rfl (by omega) (by omega) ?_
      first | simp (decide := true) only [rd_up_app, rd_up_hit, e34] | skip
      refine rd_i2l (pc := 83) d_M_reckon_83 ⟨by omega, by omega⟩ ?_
      refine rd_last (pc := 84) d_M_reckon_84 rfl (by omega) (by omega) ?_
      refine rd_iinc1 (pc := 85) d_M_reckon_85 rfl ?_
      refine rd_goto (pc := 88) (tgt := 66) d_M_reckon_88 rfl ?_
      refine ih _ (by omega) (i + 1) _ rfl (by omega) (by omega) (fun q h => by rw [rd_up_ne h]; exact hS q h) (fun k a b => ?_)
      by_cases hk : k = i
      · subst hk; rw [rd_up_hit]; skip
      · rw [rd_up_at, if_neg hk]; exact hi k a (by omega)
set_option maxHeartbeats 4000000 in
set_option maxRecDepth 100000 in
theorem lq_M_rkD {n nt : Nat} {M : rd_M} {Q : rd_R → rd_M → Prop} (hB : r_B M n nt) (hX : ∀ (i : Int) (M1 : rd_M), (∀ q, q ≠ 53 → M1 q = M q) → (∀ k : Int, 0 ≤ k → k < 100 → M1 53 k = -1) → rd_G x_M_reckon 112 [some (.ref 32), some (rd_i i), none] [] M1 0 Q) : ∀ (d : Nat) (i : Int) (M1 : rd_M), (100 - i).toNat = d → (0 ≤ i) → (i ≤ 100) → (∀ q, q ≠ 53 → M1 q = M q) → (∀ k : Int, 0 ≤ k → k < i → M1 53 k = -1) → rd_G x_M_reckon 93 [some (.ref 32), some (rd_i i), none] [] M1 0 Q := by
  intro d
  induction d using Nat.strongRecOn with
  | ind d ih =>
    intro i M1 hd i0 i1 hS hi
    refine rd_ildn (pc := 93) d_M_reckon_93 rfl ?_
    refine rd_bipush (pc := 94) d_M_reckon_94 rfl ?_
    refine rd_icmp_ge (pc := 96) (tgt := 112) d_M_reckon_96 rfl ⟨by omega, by omega⟩ ⟨by omega, by omega⟩ (fun h96 => ?_) (fun h96 => ?_)
    · skip
      exact hX i M1 hS (fun k a b => hi k a (by omega))
    · skip
      refine rd_aldn (pc := 99) d_M_reckon_99 rfl ?_
      refine rd_getr (pc := 100) d_M_reckon_100 fl_M_72 rfl rfl ?_
      refine rd_ildn (pc := 103) d_M_reckon_103 rfl ?_
      refine rd_iconst (pc := 104) d_M_reckon_104 ?_
      refine rd_iast (pc := 105) d_M_reckon_105 rfl (by omega) (by omega) ?_
      refine rd_iinc1 (pc := 106) d_M_reckon_106 rfl ?_
      refine rd_goto (pc := 109) (tgt := 93) d_M_reckon_109 rfl ?_
      refine ih _ (by omega) (i + 1) _ rfl (by omega) (by omega) (fun q h => by rw [rd_up_ne h]; exact hS q h) (fun k a b => ?_)
      by_cases hk : k = i
      · subst hk; rw [rd_up_hit]; skip
      · rw [rd_up_at, if_neg hk]; exact hi k a (by omega)
set_option maxHeartbeats 4000000 in
set_option maxRecDepth 100000 in
theorem lq_M_rkE {n nt : Nat} {M : rd_M} {Q : rd_R → rd_M → Prop} (hB : r_B M n nt) (hX : ∀ (i : Int) (M1 : rd_M), (∀ q, q ≠ 51 → q ≠ 52 → M1 q = M q) → (∀ k : Int, 0 ≤ k → k < 10 → M1 51 k = 0 ∧ M1 52 k = 0) → rd_G x_M_reckon 140 [some (.ref 32), some (rd_i i), none] [] M1 0 Q) : ∀ (d : Nat) (i : Int) (M1 : rd_M), (10 - i).toNat = d → (0 ≤ i) → (i ≤ 10) → (∀ q, q ≠ 51 → q ≠ 52 → M1 q = M q) → (∀ k : Int, 0 ≤ k → k < i → M1 51 k = 0 ∧ M1 52 k = 0) → rd_G x_M_reckon 114 [some (.ref 32), some (rd_i i), none] [] M1 0 Q := by
  intro d
  induction d using Nat.strongRecOn with
  | ind d ih =>
    intro i M1 hd i0 i1 hS hi
    refine rd_ildn (pc := 114) d_M_reckon_114 rfl ?_
    refine rd_bipush (pc := 115) d_M_reckon_115 rfl ?_
    refine rd_icmp_ge (pc := 117) (tgt := 140) d_M_reckon_117 rfl ⟨by omega, by omega⟩ ⟨by omega, by omega⟩ (fun h117 => ?_) (fun h117 => ?_)
    · skip
      exact hX i M1 hS (fun k a b => hi k a (by omega))
    · skip
      refine rd_aldn (pc := 120) d_M_reckon_120 rfl ?_
      refine rd_getr (pc := 121) d_M_reckon_121 fl_M_66 rfl rfl ?_
      refine rd_ildn (pc := 124) d_M_reckon_124 rfl ?_
      refine rd_lconst (pc := 125) (v := 0) d_M_reckon_125 rfl ?_
      refine rd_last (pc := 126) d_M_reckon_126 rfl (by omega) (by omega) ?_
      refine rd_aldn (pc := 127) d_M_reckon_127 rfl ?_
      refine rd_getr (pc := 128) d_M_reckon_128 fl_M_69 rfl rfl ?_
      refine rd_ildn (pc := 131) d_M_reckon_131 rfl ?_
      refine rd_lconst (pc := 132) (v := 0) d_M_reckon_132 rfl ?_
      refine rd_last (pc := 133) d_M_reckon_133 rfl (by omega) (by omega) ?_
      refine rd_iinc1 (pc := 134) d_M_reckon_134 rfl ?_
      refine rd_goto (pc := 137) (tgt := 114) d_M_reckon_137 rfl ?_
      refine ih _ (by omega) (i + 1) _ rfl (by omega) (by omega) (fun q h h' => by rw [rd_up_ne h', rd_up_ne h]; exact hS q h h') (fun k a b => ?_)
      by_cases hk : k = i
      · subst hk; rw [rd_up_app (by decide), rd_up_hit, rd_up_hit]; exact ⟨rfl, rfl⟩
      · rw [rd_up_app (by decide), rd_up_at, if_neg hk, rd_up_at, if_neg hk, rd_up_app (by decide)]; exact hi k a (by omega)
theorem r_fr.T {M M' : rd_M} {n : Nat} (h : r_fr M' M) (hT : r_T M n) : r_T M' n := by
  unfold r_T; rw [h.low 33 (by decide) (by decide), h.low 36 (by decide) (by decide)]; exact hT
set_option maxHeartbeats 4000000 in
set_option maxRecDepth 100000 in
theorem lq_M_rkT {kd : Int} {n nt : Nat} {M : rd_M} {Q : rd_R → rd_M → Prop} (hB : r_B M n nt) (hT : r_T M n) (hkd : 0 ≤ kd ∧ kd ≤ 4) (hX : ∀ M1 t, sp_ok n (r_z M1) → r_fr M1 M → r_z M1 = r_runT (r_d M) n kd (r_z M) nt → sp_fr (r_d M) n (r_z M1) kd t → rd_G x_M_reckon 177 [some (.ref 32), some (rd_i kd), some (rd_i t)] [] M1 0 Q) : ∀ (d : Nat) (t : Int) (M1 : rd_M), (nt - t).toNat = d → (0 ≤ t) → (t ≤ nt) → (sp_ok n (r_z M1)) → (r_fr M1 M) → (r_z M1 = r_runT (r_d M) n kd (r_z M) t.toNat) → (sp_fr (r_d M) n (r_z M1) kd t) → rd_G x_M_reckon 149 [some (.ref 32), some (rd_i kd), some (rd_i t)] [] M1 0 Q := by
  intro d
  induction d using Nat.strongRecOn with
  | ind d ih =>
    intro t M1 hd t0 t1 hk hF hz hf
    have hm := hB.2.1
    have hn4 := hB.2.2.1
    have hm10 := hB.2.2.2.1
    have hB1 := hF.B hB
    have e32 : M1 32 15 = M 32 15 := hF.2 15 (by decide) (by decide)
    have e41 : M1 41 = M 41 := hF.low 41 (by decide) (by decide)
    refine rd_ildn (pc := 149) d_M_reckon_149 rfl ?_
    refine rd_aldn (pc := 150) d_M_reckon_150 rfl ?_
    refine rd_gi (pc := 151) (ki := 15) d_M_reckon_151 fl_M_100 rfl rfl rfl ?_
    first | simp (decide := true) only [rd_up_app, rd_up_hit, e32, e41] | skip
    refine rd_icmp_ge (pc := 154) (tgt := 177) d_M_reckon_154 rfl ⟨by omega, by omega⟩ ⟨by omega, by omega⟩ (fun h154 => ?_) (fun h154 => ?_)
    · skip
      exact hX M1 t hk hF (by rw [hz, show t.toNat = nt by omega]) hf
    · skip
      obtain ⟨s1, s2, s3, _⟩ := hB.sh t0 (by omega)
      have hrs := sp_runT_s' (d := r_d M) (n := n) (kd := kd) (Z := r_z M) t0
      refine rd_aldn (pc := 157) d_M_reckon_157 rfl ?_
      refine rd_ildn (pc := 158) d_M_reckon_158 rfl ?_
      refine rd_callVi (pc := 159) (n' := 0) [_] d_M_reckon_159 ml_M_144 rfl (Nat.le_of_ble_eq_true rfl) (Nat.le_of_ble_eq_true rfl) (Nat.le_of_ble_eq_true rfl) rfl rfl rfl (Nat.le_of_ble_eq_true rfl) (Nat.le_of_ble_eq_true rfl) ?_
      refine ev_M_kindOf hB1 t0 (by omega) ?_
      refine ⟨_, rfl, ?_⟩
      first | simp (decide := true) only [rd_up_app, rd_up_hit, e32, e41] | skip
      refine rd_ildn (pc := 162) d_M_reckon_162 rfl ?_
      refine rd_icmp_ne (pc := 163) (tgt := 171) d_M_reckon_163 rfl ⟨by omega, by omega⟩ ⟨by omega, by omega⟩ (fun h163 => ?_) (fun h163 => ?_)
      · skip
        refine rd_iinc2 (pc := 171) d_M_reckon_171 rfl ?_
        refine rd_goto (pc := 174) (tgt := 149) d_M_reckon_174 rfl ?_
        by_cases hc : (M 41 t).tdiv 10 = kd
        · first | (exfalso; omega) | (rw [hF.d] at hz2
                                      refine ih _ (by omega) (t + 1) _ rfl (by omega) (by omega) (by rw [hz2]; exact hk.ap hfh hB.2.2.2.2.1 hn4 t0 (by omega)) (hF2.trans hF) ?_ ?_
                                      · rw [hz2, hrs, hz]; exact (if_pos hc).symm
                                      · rw [hz2]; exact hf.ap hn4 hc)
        · first | (exfalso; omega) | (refine ih _ (by omega) (t + 1) _ rfl (by omega) (by omega) hk hF ?_ hf.skip
                                      rw [hrs, hz]; exact (if_neg hc).symm)
      · skip
        refine rd_aldn (pc := 166) d_M_reckon_166 rfl ?_
        refine rd_ildn (pc := 167) d_M_reckon_167 rfl ?_
        refine rd_callVv (pc := 168) (n' := 0) [_] d_M_reckon_168 ml_M_191 rfl (Nat.le_of_ble_eq_true rfl) (Nat.le_of_ble_eq_true rfl) (Nat.le_of_ble_eq_true rfl) rfl rfl rfl (Nat.le_of_ble_eq_true rfl) (Nat.le_of_ble_eq_true rfl) ?_
        have hfh : sp_fh n (r_z M1) t := hf t t0 (by omega) (Or.inr ⟨(show (M 41 t).tdiv 10 = kd by omega), by omega⟩)
        refine ev_M_apply hB1 hk.1 hk.2.2.2.2 (hF.T hT) t0 (by omega) (fun M2 hF2 hz2 => ?_)
        refine ⟨rfl, ?_⟩
        first | simp (decide := true) only [rd_up_app, rd_up_hit, e32, e41] | skip
        refine rd_iinc2 (pc := 171) d_M_reckon_171 rfl ?_
        refine rd_goto (pc := 174) (tgt := 149) d_M_reckon_174 rfl ?_
        by_cases hc : (M 41 t).tdiv 10 = kd
        · first | (exfalso; omega) | (rw [hF.d] at hz2
                                      refine ih _ (by omega) (t + 1) _ rfl (by omega) (by omega) (by rw [hz2]; exact hk.ap hfh hB.2.2.2.2.1 hn4 t0 (by omega)) (hF2.trans hF) ?_ ?_
                                      · rw [hz2, hrs, hz]; exact (if_pos hc).symm
                                      · rw [hz2]; exact hf.ap hn4 hc)
        · first | (exfalso; omega) | (refine ih _ (by omega) (t + 1) _ rfl (by omega) (by omega) hk hF ?_ hf.skip
                                      rw [hrs, hz]; exact (if_neg hc).symm)
set_option maxHeartbeats 4000000 in
set_option maxRecDepth 100000 in
theorem lq_M_rkK {n nt : Nat} {M : rd_M} {Q : rd_R → rd_M → Prop} (hB : r_B M n nt) (hT : r_T M n) (hQ : ∀ M', sp_ok n (r_z M') → r_fr M' M → r_z M' = r_runK (r_d M) n nt (r_z M) 5 → Q (.inl none) M') : ∀ (d : Nat) (kd : Int) (M1 : rd_M), (5 - kd).toNat = d → (0 ≤ kd) → (kd ≤ 5) → (sp_ok n (r_z M1)) → (r_fr M1 M) → (r_z M1 = r_runK (r_d M) n nt (r_z M) kd.toNat) → (sp_fr (r_d M) n (r_z M1) kd 0) → rd_G x_M_reckon 142 [some (.ref 32), some (rd_i kd), none] [] M1 0 Q := by
  intro d
  induction d using Nat.strongRecOn with
  | ind d ih =>
    intro kd M1 hd k0 k1 hk hF hz hf
    refine rd_ildn (pc := 142) d_M_reckon_142 rfl ?_
    refine rd_iconst (pc := 143) d_M_reckon_143 ?_
    refine rd_icmp_ge (pc := 144) (tgt := 183) d_M_reckon_144 rfl ⟨by omega, by omega⟩ ⟨by omega, by omega⟩ (fun h144 => ?_) (fun h144 => ?_)
    · skip
      exact rd_vret (pc := 183) d_M_reckon_183 rfl (Nat.le_of_ble_eq_true rfl) (hQ _ hk hF (by rw [hz, show kd.toNat = 5 by omega]))
    · skip
      refine rd_iconst (pc := 147) d_M_reckon_147 ?_
      refine rd_ist2 (pc := 148) d_M_reckon_148 rfl ?_
      refine lq_M_rkT (hF.B hB) (hF.T hT) ⟨k0, by omega⟩ (fun M2 t2 hk2 hF2 hz2 hf2 => ?_) _ 0 M1 rfl (by omega) (by omega) hk r_fr.refl rfl (by rw [hF.d]; exact hf)
      rw [hF.d] at hz2 hf2
      refine rd_iinc1 (pc := 177) d_M_reckon_177 rfl ?_
      refine rd_goto (pc := 180) (tgt := 142) d_M_reckon_180 rfl ?_
      refine rd_weak (L' := [some (.ref 32), some (rd_i (kd + 1)), none]) (by simp [rd_le]) ?_
      exact ih _ (by omega) (kd + 1) M2 rfl (by omega) (by omega) hk2 (hF2.trans hF) (by rw [hz2, r_runK_s k0, hz]) hf2.next
theorem r_Z0.ok {d : rd_M} {n : Nat} {c e : Int} {Z : rd_M} (h : r_Z0 d n c e Z) (hD : sp_D d) (hn : n ≤ 40) (he : 0 ≤ e ∧ e ≤ 1000000000) : sp_ok n Z := by
  obtain ⟨a1, a2, a3, a4, a5⟩ := h
  refine ⟨fun k k0 k1 => ?_, fun j j0 j1 => ?_, fun s s0 s1 => ?_, fun j j0 j1 => ?_, fun r r0 r1 => ?_⟩
  · have := (hD.2.1 k k0 (by omega)).2.2.2.1
    rw [a1 k k0 k1]
    split
    · split <;> omega
    · omega
  · rw [a2 j j0 j1]; omega
  · have := a3 s s0 s1; omega
  · rw [a4 j j0 j1]; omega
  · have := (hD.1 r r0 r1).2.1
    rw [a5 r r0 r1]
    omega
theorem r_Z0.fr {d : rd_M} {n : Nat} {c e : Int} {Z : rd_M} (h : r_Z0 d n c e Z) (hn : n ≤ 40) : sp_fr d n Z 0 0 := by
  obtain ⟨a1, a2, a3, a4, a5⟩ := h
  intro s s0 s1 _
  exact ⟨(a3 s s0 s1).1, (a3 s s0 s1).2, fun k k0 k1 => a2 _ (by omega) (by omega), fun e e0 e1 => a4 _ (by omega) (by omega)⟩
set_option maxHeartbeats 4000000 in
set_option maxRecDepth 100000 in
theorem ev_M_reckon {n nt : Nat} {M : rd_M} {Q : rd_R → rd_M → Prop} (hB : r_B M n nt) (hT : r_T M n) (hQ : ∀ M' Z, r_fr M' M → r_Z0 (r_d M) n (-1) 0 Z → r_z M' = r_runK (r_d M) n nt Z 5 → sp_ok n (r_z M') → Q (.inl none) M') : rd_G x_M_reckon 0 [some (.ref 32), none, none] [] M 0 Q := by
  refine rd_iconst (pc := 0) d_M_reckon_0 ?_
  refine rd_ist1 (pc := 1) d_M_reckon_1 rfl ?_
  have hF1 : r_fr M M := r_fr.refl
  refine lq_M_rkA (hF1.B hB) (fun i1 M1 hS1 hi1 => ?_) _ 0 M rfl (by omega) (by omega) (fun _ _ => rfl) (fun k a b => by omega)
  have hF2 : r_fr M1 M := r_fr.trans ⟨fun q a b => hS1 q (by omega), fun j a b => by rw [hS1 32 (by decide)]⟩ hF1
  refine rd_iconst (pc := 42) d_M_reckon_42 ?_
  refine rd_ist1 (pc := 43) d_M_reckon_43 rfl ?_
  refine lq_M_rkB (hF2.B hB) (fun i2 M2 hS2 hi2 => ?_) _ 0 M1 rfl (by omega) (by omega) (fun _ _ => rfl) (fun k a b => by omega)
  have hF3 : r_fr M2 M := r_fr.trans ⟨fun q a b => hS2 q (by omega), fun j a b => by rw [hS2 32 (by decide)]⟩ hF2
  refine rd_iconst (pc := 64) d_M_reckon_64 ?_
  refine rd_ist1 (pc := 65) d_M_reckon_65 rfl ?_
  refine lq_M_rkC (hF3.B hB) (fun i3 M3 hS3 hi3 => ?_) _ 0 M2 rfl (by omega) (by omega) (fun _ _ => rfl) (fun k a b => by omega)
  have hF4 : r_fr M3 M := r_fr.trans ⟨fun q a b => hS3 q (by omega), fun j a b => by rw [hS3 32 (by decide)]⟩ hF3
  refine rd_iconst (pc := 91) d_M_reckon_91 ?_
  refine rd_ist1 (pc := 92) d_M_reckon_92 rfl ?_
  refine lq_M_rkD (hF4.B hB) (fun i4 M4 hS4 hi4 => ?_) _ 0 M3 rfl (by omega) (by omega) (fun _ _ => rfl) (fun k a b => by omega)
  have hF5 : r_fr M4 M := r_fr.trans ⟨fun q a b => hS4 q (by omega), fun j a b => by rw [hS4 32 (by decide)]⟩ hF4
  refine rd_iconst (pc := 112) d_M_reckon_112 ?_
  refine rd_ist1 (pc := 113) d_M_reckon_113 rfl ?_
  refine lq_M_rkE (hF5.B hB) (fun i5 M5 hS5 hi5 => ?_) _ 0 M4 rfl (by omega) (by omega) (fun _ _ _ => rfl) (fun k a b => by omega)
  have hF6 : r_fr M5 M := r_fr.trans ⟨fun q a b => hS5 q (by omega) (by omega), fun j a b => by rw [hS5 32 (by decide) (by decide)]⟩ hF5
  have hZ : r_Z0 (r_d M) n (-1) 0 (r_z M5) := by
    refine ⟨fun k a b => ?_, fun j a b => ?_, fun t a b => hi5 t a b, fun j a b => ?_, fun r a b => ?_⟩
    · show M5 49 k = _
      rw [hS5 49 (by decide) (by decide), hS4 49 (by decide), hS3 49 (by decide), hS2 49 (by decide), hi1 k a b, if_neg (show ¬ k = -1 by omega)]; rfl
    · show M5 50 j = _
      rw [hS5 50 (by decide) (by decide), hS4 50 (by decide), hS3 50 (by decide), hi2 j a b]
    · show M5 53 j = _
      rw [hS5 53 (by decide) (by decide), hi4 j a b]
    · show M5 54 r = _
      rw [hS5 54 (by decide) (by decide), hS4 54 (by decide), hi3 r a b, hS2 34 (by decide), hS1 34 (by decide)]; rfl
  have hn4 := hB.2.2.1
  have hdf := hF6.d
  refine rd_iconst (pc := 140) d_M_reckon_140 ?_
  refine rd_ist1 (pc := 141) d_M_reckon_141 rfl ?_
  refine lq_M_rkK (hF6.B hB) (hF6.T hT) (fun M' hk hF hz => ?_) _ 0 M5 rfl (by omega) (by omega) (hZ.ok hB.2.2.2.2.1 hn4 (by decide)) r_fr.refl rfl (by rw [hdf]; exact hZ.fr hn4)
  exact hQ M' (r_z M5) (hF.trans hF6) hZ (by rw [hz, hdf]) hk

/-! cession: taken by parts -/
theorem sp_w1_s {M : rd_M} {n : Nat} {p : Int → Int} {v s m j : Int} (hg : c_g (M 30) n p) (m0 : 0 ≤ m) (m1 : m < sp_cn n p) (j0 : 0 ≤ j) (j1 : j < n) : (if j = M 30 m then (fun k => if p k = 1 ∧ sp_cn k.toNat p < m then sp_q (M 24) v s k else 0) j + sp_q (M 24) v s (M 30 m) else (fun k => if p k = 1 ∧ sp_cn k.toNat p < m then sp_q (M 24) v s k else 0) j) = (fun k => if p k = 1 ∧ sp_cn k.toNat p < (m + 1) then sp_q (M 24) v s k else 0) j := by
  obtain ⟨g0, g1, gp, gc⟩ := hg.1 m m0 m1
  show (if j = M 30 m then (if p j = 1 ∧ sp_cn j.toNat p < m then _ else 0) + _ else (if p j = 1 ∧ sp_cn j.toNat p < m then _ else 0)) = (if p j = 1 ∧ sp_cn j.toNat p < m + 1 then _ else 0)
  by_cases hj : j = M 30 m
  · rw [if_pos hj, hj, if_neg (by omega), if_pos ⟨gp, by omega⟩]; omega
  · rw [if_neg hj]
    by_cases hp : p j = 1
    · have hne : sp_cn j.toNat p ≠ m := fun z => hj (by rw [← z]; exact (hg.2 j j0 j1 hp).symm)
      by_cases hz : sp_cn j.toNat p < m
      · rw [if_pos ⟨hp, hz⟩, if_pos ⟨hp, by omega⟩]
      · rw [if_neg (by omega), if_neg (by omega)]
    · rw [if_neg (fun z => hp z.1), if_neg (fun z => hp z.1)]
theorem sp_w2_s {M : rd_M} {n : Nat} {p : Int → Int} {v s c k j : Int} (k0 : 0 ≤ k) (k1 : k < n) (kp : p k = 1) (kr : sp_rk n p (sp_r (M 24) v s) k = c) (j0 : 0 ≤ j) (j1 : j < n) : (if j = k then (fun k => if p k = 1 then sp_q (M 24) v s k + (if sp_rk n p (sp_r (M 24) v s) k < c then 1 else 0) else 0) j + 1 else (fun k => if p k = 1 then sp_q (M 24) v s k + (if sp_rk n p (sp_r (M 24) v s) k < c then 1 else 0) else 0) j) = (fun k => if p k = 1 then sp_q (M 24) v s k + (if sp_rk n p (sp_r (M 24) v s) k < (c + 1) then 1 else 0) else 0) j := by
  show (if j = k then (if p j = 1 then _ + (if sp_rk n p (sp_r (M 24) v s) j < c then 1 else 0) else 0) + 1 else (if p j = 1 then _ + (if sp_rk n p (sp_r (M 24) v s) j < c then 1 else 0) else 0)) = (if p j = 1 then _ + (if sp_rk n p (sp_r (M 24) v s) j < c + 1 then 1 else 0) else 0)
  by_cases hj : j = k
  · subst hj
    rw [if_pos rfl, if_pos kp, if_pos kp, if_neg (by omega), if_pos (by omega)]; omega
  · rw [if_neg hj]
    by_cases hp : p j = 1
    · have hne : sp_rk n p (sp_r (M 24) v s) j ≠ c := fun z => hj (sp_rk_inj (f := sp_r (M 24) v s) j0 j1 k0 k1 hp kp (by omega))
      rw [if_pos hp, if_pos hp]
      by_cases hz : sp_rk n p (sp_r (M 24) v s) j < c
      · rw [if_pos hz, if_pos (by omega)]
      · rw [if_neg hz, if_neg (by omega)]
    · rw [if_neg hp, if_neg hp]
/-- the class finds the next one that gets a cent -/
theorem sp_gr {M : rd_M} {n : Nat} {p R : Int → Int} {v s c g : Int} (hg : c_g (M 30) n p) (hr0 : ∀ k : Int, 0 ≤ k → k < n → p k = 1 → 0 ≤ sp_r (M 24) v s k) (c0 : 0 ≤ c) (c1 : c < sp_cn n p) (hR : ∀ i : Int, 0 ≤ i → i < sp_cn n p → R i = if sp_rk n p (sp_r (M 24) v s) (M 30 i) < c then -1 else sp_r (M 24) v s (M 30 i)) (g0 : 0 ≤ g) (g1 : g < sp_cn n p) (hm : ∀ j : Int, 0 ≤ j → j < sp_cn n p → R j ≤ R g ∧ (j < g → R j < R g)) : sp_rk n p (sp_r (M 24) v s) (M 30 g) = c := by
  obtain ⟨k0, k1, kp, kc⟩ := hg.1 g g0 g1
  obtain ⟨a, a0, a1, ap, ar⟩ := sp_rk_ex (f := sp_r (M 24) v s) c0 c1
  have ha := sp_cn_k (n := n) a0 a1 ap
  have haR := hR _ sp_cn_nn ha.1
  rw [hg.2 a a0 a1 ap, if_neg (by omega)] at haR
  have h1 := (hm _ sp_cn_nn ha.1).1
  have h2 := hr0 a a0 a1 ap
  have hgR := hR g g0 g1
  have hlt : ¬ sp_rk n p (sp_r (M 24) v s) (M 30 g) < c := fun z => by
    rw [if_pos z] at hgR
    omega
  rw [if_neg hlt] at hgR
  refine sp_rk_next c0 (by omega) k0 k1 kp (by omega) (fun j j0 j1 jp jr hb => ?_)
  have hj := sp_cn_k (n := n) j0 j1 jp
  have hjR := hR _ sp_cn_nn hj.1
  rw [hg.2 j j0 j1 jp, if_neg (by omega)] at hjR
  have h3 := hm _ sp_cn_nn hj.1
  by_cases hjk : j < M 30 g
  · have h4 := sp_cn_k (n := (M 30 g).toNat) j0 (by omega) jp
    omega
  · omega
set_option maxHeartbeats 4000000 in
set_option maxRecDepth 100000 in
theorem lq_S_takeByParts2 {t v s : Int} {n : Nat} {p : Int → Int} {M : rd_M} {Q : rd_R → rd_M → Prop} (hI : c_I M) (hn : M 2 0 = n) (hK : ∀ k : Int, 0 ≤ k → k < n → 0 ≤ M 24 k ∧ M 24 k ≤ 1000000000) (hG : c_G M n p) (h0 : 0 ≤ t) (h1 : t < 10) (hv : 0 ≤ v ∧ v ≤ 1000000000) (hs : s = sp_sum n p (M 24)) (hvs : v ≤ s) (hs0 : 0 < s) (hQ : ∀ M', c_sm M' (c_tks M t n (sp_spr n p (M 24) v s)) → Q (.inl none) M') : ∀ (d : Nat) (c : Int) (B M1 : rd_M), (sp_ov n p (M 24) v s - c).toNat = d → (0 ≤ c) → (c ≤ sp_ov n p (M 24) v s) → (∀ x, x ≠ 31 → B x = M x) → (∀ i : Int, 0 ≤ i → i < sp_cn n p → B 31 i = if sp_rk n p (sp_r (M 24) v s) (M 30 i) < c then -1 else (sp_r (M 24) v s) (M 30 i)) → (M1 = c_tks B t n (fun k => if p k = 1 then sp_q (M 24) v s k + (if sp_rk n p (sp_r (M 24) v s) k < c then 1 else 0) else 0)) → rd_G x_S_takeByParts 88 [some (.ref 4), some (rd_i t), some (rd_l v), none, some (rd_l s), none, some (rd_l (sp_ov n p (M 24) v s)), none, some (rd_i c), none, none] [] M1 0 Q := by
  intro d
  induction d using Nat.strongRecOn with
  | ind d ih =>
    intro c B M1 hd c0 c1 hB hR hM
    have hn40 := hI.n hn
    have hsz := sp_cn_hi (n := n) (p := p)
    have hG1 := hG.1
    have hG2 := hG.2
    have hov : 0 ≤ sp_ov n p (M 24) v s ∧ sp_ov n p (M 24) v s ≤ sp_cn n p := by (rw [hs]; exact sp_ov_cn (fun k a b _ => (hK k a b).1) hv.1 (by omega) (by omega))
    have e4 : M1 4 = M 4 := by rw [hM, c_tks_ne (by decide) (by decide) (by decide)]; exact hB 4 (by decide)
    have e30 : M1 30 = M 30 := by rw [hM, c_tks_ne (by decide) (by decide) (by decide)]; exact hB 30 (by decide)
    have e31 : M1 31 = B 31 := by rw [hM, c_tks_ne (by decide) (by decide) (by decide)]
    have hqr := fun (k : Int) (a : 0 ≤ k) (b : k < n) => sp_qr (κ := M 24) (k := k) (hK k a b).1 hv.1 hvs hs0
    refine rd_ild (pc := 88) d_S_takeByParts_88 rfl ?_
    refine rd_i2l (pc := 90) d_S_takeByParts_90 ⟨by omega, by omega⟩ ?_
    refine rd_lld (pc := 91) d_S_takeByParts_91 rfl ?_
    refine rd_lcmp_ge (pc := 93) (tgt := 141) d_S_takeByParts_93 d_S_takeByParts_94 rfl ⟨by omega, by omega⟩ ⟨by omega, by omega⟩ (fun h93 => ?_) (fun h93 => ?_)
    · skip
      exact rd_vret (pc := 141) d_S_takeByParts_141 rfl (Nat.le_of_ble_eq_true rfl) (by
      have hc : c = sp_ov n p (M 24) v s := by omega
      refine hQ _ ?_
      rw [hM]
      have hsm : c_sm B M := fun x _ _ h => hB x h
      have hcg := c_tks_congr (M := M) (t := t) (n := n) (w := (fun k => if p k = 1 then sp_q (M 24) v s k + (if sp_rk n p (sp_r (M 24) v s) k < c then 1 else 0) else 0)) (w' := sp_spr n p (M 24) v s) (fun j a b => by unfold sp_spr; rw [if_neg (c := s ≤ 0) (by omega), hc])
      rw [← hcg]
      exact hsm.tks)
    · skip
      refine rd_ild (pc := 97) d_S_takeByParts_97 rfl ?_
      refine rd_aldn (pc := 99) d_S_takeByParts_99 rfl ?_
      refine rd_gi (pc := 100) (ki := 11) d_S_takeByParts_100 fl_S_142 rfl rfl rfl ?_
      first | simp (decide := true) only [rd_up_app, rd_up_hit, e4, e30, hG1] | skip
      refine rd_icmp_ge (pc := 103) (tgt := 141) d_S_takeByParts_103 rfl ⟨by omega, by omega⟩ ⟨by omega, by omega⟩ (fun h103 => ?_) (fun h103 => ?_)
      · skip
        exact rd_vret (pc := 141) d_S_takeByParts_141 rfl (Nat.le_of_ble_eq_true rfl) (by
      have hc : c = sp_ov n p (M 24) v s := by omega
      refine hQ _ ?_
      rw [hM]
      have hsm : c_sm B M := fun x _ _ h => hB x h
      have hcg := c_tks_congr (M := M) (t := t) (n := n) (w := (fun k => if p k = 1 then sp_q (M 24) v s k + (if sp_rk n p (sp_r (M 24) v s) k < c then 1 else 0) else 0)) (w' := sp_spr n p (M 24) v s) (fun j a b => by unfold sp_spr; rw [if_neg (c := s ≤ 0) (by omega), hc])
      rw [← hcg]
      exact hsm.tks)
      · skip
        have hrb : ∀ j : Int, 0 ≤ j → j < M1 4 11 → -1 ≤ M1 31 j ∧ M1 31 j ≤ 1000000000000000000 := fun j a b => (by rw [e4, hG1] at b; obtain ⟨g0, g1, _⟩ := hG2.1 j a b; have h5 := hqr _ g0 g1; have hsb := sp_sum_hi (p := p) hK; rw [e31, hR j a b]; split <;> omega)
        refine rd_aldn (pc := 106) d_S_takeByParts_106 rfl ?_
        refine rd_callVi (pc := 107) (n' := 0) [] d_S_takeByParts_107 ml_S_168 rfl (Nat.le_of_ble_eq_true rfl) (Nat.le_of_ble_eq_true rfl) (Nat.le_of_ble_eq_true rfl) rfl rfl rfl (Nat.le_of_ble_eq_true rfl) (Nat.le_of_ble_eq_true rfl) ?_
        refine ev_S_greatestRemainder (by rw [e4, hG1]; omega) hrb (fun g g0 g1 hm => ?_)
        rw [e4, hG1] at g1 hm
        rw [e31] at hm
        obtain ⟨k0, k1, kp, kc⟩ := hG2.1 g g0 g1
        have hrk := sp_gr hG2 (fun k a b _ => (hqr k a b).2.1) c0 (by omega) hR g0 g1 hm
        refine ⟨_, rfl, ?_⟩
        first | simp (decide := true) only [rd_up_app, rd_up_hit, e4, e30, hG1] | skip
        refine rd_ist9 (pc := 110) d_S_takeByParts_110 rfl ?_
        refine rd_aldn (pc := 112) d_S_takeByParts_112 rfl ?_
        refine rd_ildn (pc := 113) d_S_takeByParts_113 rfl ?_
        refine rd_aldn (pc := 114) d_S_takeByParts_114 rfl ?_
        refine rd_getr (pc := 115) d_S_takeByParts_115 fl_S_47 rfl rfl ?_
        refine rd_ild (pc := 118) d_S_takeByParts_118 rfl ?_
        refine rd_iald (pc := 120) d_S_takeByParts_120 rfl (by omega) (by omega) ?_
        first | simp (decide := true) only [rd_up_app, rd_up_hit, e4, e30, hG1] | skip
        refine rd_lconst (pc := 121) (v := 1) d_S_takeByParts_121 rfl ?_
        refine rd_callVv (pc := 122) (n' := 0) [_, _, _] d_S_takeByParts_122 ml_S_126 rfl (Nat.le_of_ble_eq_true rfl) (Nat.le_of_ble_eq_true rfl) (Nat.le_of_ble_eq_true rfl) rfl rfl rfl (Nat.le_of_ble_eq_true rfl) (Nat.le_of_ble_eq_true rfl) ?_
        refine ev_S_take h0 h1 k0 (by omega) ?_
        refine ⟨rfl, ?_⟩
        first | simp (decide := true) only [rd_up_app, rd_up_hit, e4, e30, hG1] | skip
        refine rd_aldn (pc := 125) d_S_takeByParts_125 rfl ?_
        refine rd_getr (pc := 126) d_S_takeByParts_126 fl_S_50 rfl rfl ?_
        refine rd_ild (pc := 129) d_S_takeByParts_129 rfl ?_
        refine rd_ldc2 (pc := 131) (v := -1) d_S_takeByParts_131 kl_S_166 ?_
        refine rd_last (pc := 134) d_S_takeByParts_134 rfl (by omega) (by omega) ?_
        refine rd_iinc8 (pc := 135) d_S_takeByParts_135 rfl ?_
        refine rd_goto (pc := 138) (tgt := 88) d_S_takeByParts_138 rfl ?_
        refine rd_weak (L' := [some (.ref 4), some (rd_i t), some (rd_l v), none, some (rd_l s), none, some (rd_l (sp_ov n p (M 24) v s)), none, some (rd_i (c + 1)), none, none]) (by simp [rd_le]) ?_
        refine ih _ (by omega) (c + 1) (rd_up B 31 g (-1)) _ rfl (by omega) (by omega) (fun x hx => by rw [rd_up_ne hx]; exact hB x hx) ?_ ?_
        · intro i i0 i1
          rw [rd_up_at]
          by_cases hi : i = g
          · rw [if_pos hi, hi, if_pos (by omega)]
          · rw [if_neg hi, hR i i0 i1]
            obtain ⟨a0, a1, ap, ac⟩ := hG2.1 i i0 i1
            have hne : sp_rk n p (sp_r (M 24) v s) (M 30 i) ≠ c := fun z => hi (by have := sp_rk_inj (f := sp_r (M 24) v s) a0 a1 k0 k1 ap kp (by omega); rw [this] at ac; omega)
            by_cases hz : sp_rk n p (sp_r (M 24) v s) (M 30 i) < c
            · rw [if_pos hz, if_pos (by omega)]
            · rw [if_neg hz, if_neg (by omega)]
        · rw [hM, c_tks_take k0 k1, c_tks_up (by decide) (by decide) (by decide)]
          exact c_tks_congr (fun j a b => sp_w2_s k0 k1 kp hrk a b)
set_option maxHeartbeats 4000000 in
set_option maxRecDepth 100000 in
theorem lq_S_takeByParts {t v s : Int} {n : Nat} {p : Int → Int} {M : rd_M} {Q : rd_R → rd_M → Prop} (hI : c_I M) (hn : M 2 0 = n) (hK : ∀ k : Int, 0 ≤ k → k < n → 0 ≤ M 24 k ∧ M 24 k ≤ 1000000000) (hG : c_G M n p) (h0 : 0 ≤ t) (h1 : t < 10) (hv : 0 ≤ v ∧ v ≤ 1000000000) (hs : s = sp_sum n p (M 24)) (hvs : v ≤ s) (hs0 : 0 < s) (hQ : ∀ M', c_sm M' (c_tks M t n (sp_spr n p (M 24) v s)) → Q (.inl none) M') : ∀ (d : Nat) (m c : Int) (B M1 : rd_M), (sp_cn n p - m).toNat = d → (0 ≤ m) → (m ≤ sp_cn n p) → (c = v - sp_gs n p (sp_q (M 24) v s) m) → (∀ x, x ≠ 31 → B x = M x) → (∀ i : Int, 0 ≤ i → i < m → B 31 i = (sp_r (M 24) v s) (M 30 i)) → (M1 = c_tks B t n (fun k => if p k = 1 ∧ sp_cn k.toNat p < m then sp_q (M 24) v s k else 0)) → rd_G x_S_takeByParts 14 [some (.ref 4), some (rd_i t), some (rd_l v), none, some (rd_l s), none, some (rd_l c), none, some (rd_i m), none, none] [] M1 0 Q := by
  intro d
  induction d using Nat.strongRecOn with
  | ind d ih =>
    intro m c B M1 hd m0 m1 hc hB hR hM
    have hn40 := hI.n hn
    have hsz := sp_cn_hi (n := n) (p := p)
    have hG1 := hG.1
    have hG2 := hG.2
    have e4 : M1 4 = M 4 := by rw [hM, c_tks_ne (by decide) (by decide) (by decide)]; exact hB 4 (by decide)
    have e30 : M1 30 = M 30 := by rw [hM, c_tks_ne (by decide) (by decide) (by decide)]; exact hB 30 (by decide)
    have hsb := sp_sum_hi (p := p) hK
    refine rd_ild (pc := 14) d_S_takeByParts_14 rfl ?_
    refine rd_aldn (pc := 16) d_S_takeByParts_16 rfl ?_
    refine rd_gi (pc := 17) (ki := 11) d_S_takeByParts_17 fl_S_142 rfl rfl rfl ?_
    first | simp (decide := true) only [rd_up_app, rd_up_hit, e4, e30, hG1, e24] | simp (decide := true) only [rd_up_app, rd_up_hit, e4, e30, hG1] | skip
    refine rd_icmp_ge (pc := 20) (tgt := 85) d_S_takeByParts_20 rfl ⟨by omega, by omega⟩ ⟨by omega, by omega⟩ (fun h20 => ?_) (fun h20 => ?_)
    · skip
      refine rd_iconst (pc := 85) d_S_takeByParts_85 ?_
      refine rd_ist8 (pc := 86) d_S_takeByParts_86 rfl ?_
      refine rd_weak (L' := [some (.ref 4), some (rd_i t), some (rd_l v), none, some (rd_l s), none, some (rd_l (sp_ov n p (M 24) v s)), none, some (rd_i 0), none, none]) (by rw [hc, sp_gs_e (by omega)]; simp [rd_le, sp_ov]) ?_
      have hov : 0 ≤ sp_ov n p (M 24) v s := by (rw [hs]; exact (sp_ov_cn (fun k a b _ => (hK k a b).1) hv.1 (by omega) (by omega)).1)
      refine lq_S_takeByParts2 hI hn hK hG h0 h1 hv hs hvs hs0 hQ _ 0 B M1 rfl (by omega) hov hB ?_ ?_
      · intro i i0 i1; rw [hR i i0 (by omega), if_neg (by have := sp_rk_nn (n := n) (p := p) (f := sp_r (M 24) v s) (k := M 30 i); omega)]
      · rw [hM]; exact c_tks_congr (fun j a b => by
          by_cases hp : p j = 1
          · have := sp_cn_k (n := n) a b hp
            rw [if_pos ⟨hp, by omega⟩, if_pos hp, if_neg (by have := sp_rk_nn (n := n) (p := p) (f := sp_r (M 24) v s) (k := j); omega)]; omega
          · rw [if_neg (fun z => hp z.1), if_neg hp])
    · skip
      obtain ⟨g0, g1, g2, g3⟩ := hG2.1 m m0 (by omega)
      have gk := hK _ g0 g1
      have hmul := rd_mulb gk.1 gk.2 hv.1 hv.2
      have e24 : M1 24 (M 30 m) = M 24 (M 30 m) := by (rw [hM, c_tks_24, if_pos ⟨g0, g1⟩, if_neg (by omega), hB 24 (by decide)]; omega)
      have gs := sp_gs_s (f := (sp_q (M 24) v s)) hG2 m0 (by omega)
      refine rd_aldn (pc := 23) d_S_takeByParts_23 rfl ?_
      refine rd_getr (pc := 24) d_S_takeByParts_24 fl_S_27 rfl rfl ?_
      refine rd_aldn (pc := 27) d_S_takeByParts_27 rfl ?_
      refine rd_getr (pc := 28) d_S_takeByParts_28 fl_S_47 rfl rfl ?_
      refine rd_ild (pc := 31) d_S_takeByParts_31 rfl ?_
      refine rd_iald (pc := 33) d_S_takeByParts_33 rfl (by omega) (by omega) ?_
      first | simp (decide := true) only [rd_up_app, rd_up_hit, e4, e30, hG1, e24] | simp (decide := true) only [rd_up_app, rd_up_hit, e4, e30, hG1] | skip
      refine rd_iald (pc := 34) d_S_takeByParts_34 rfl (by omega) (by omega) ?_
      first | simp (decide := true) only [rd_up_app, rd_up_hit, e4, e30, hG1, e24] | simp (decide := true) only [rd_up_app, rd_up_hit, e4, e30, hG1] | skip
      refine rd_i2l (pc := 35) d_S_takeByParts_35 ⟨by omega, by omega⟩ ?_
      refine rd_lldn (pc := 36) d_S_takeByParts_36 rfl ?_
      refine rd_lmul (pc := 37) d_S_takeByParts_37 ?_
      refine rd_lst9 (pc := 38) d_S_takeByParts_38 rfl ?_
      refine rd_aldn (pc := 40) d_S_takeByParts_40 rfl ?_
      refine rd_getr (pc := 41) d_S_takeByParts_41 fl_S_50 rfl rfl ?_
      refine rd_ild (pc := 44) d_S_takeByParts_44 rfl ?_
      refine rd_lld (pc := 46) d_S_takeByParts_46 rfl ?_
      refine rd_lld (pc := 48) d_S_takeByParts_48 rfl ?_
      refine rd_lrem (pc := 50) d_S_takeByParts_50 ⟨by omega, by omega⟩ ⟨by omega, by omega⟩ (by omega) ?_
      refine rd_last (pc := 51) d_S_takeByParts_51 rfl (by omega) (by omega) ?_
      refine rd_aldn (pc := 52) d_S_takeByParts_52 rfl ?_
      refine rd_ildn (pc := 53) d_S_takeByParts_53 rfl ?_
      refine rd_aldn (pc := 54) d_S_takeByParts_54 rfl ?_
      refine rd_getr (pc := 55) d_S_takeByParts_55 fl_S_47 rfl rfl ?_
      refine rd_ild (pc := 58) d_S_takeByParts_58 rfl ?_
      refine rd_iald (pc := 60) d_S_takeByParts_60 rfl (by omega) (by omega) ?_
      first | simp (decide := true) only [rd_up_app, rd_up_hit, e4, e30, hG1, e24] | simp (decide := true) only [rd_up_app, rd_up_hit, e4, e30, hG1] | skip
      refine rd_lld (pc := 61) d_S_takeByParts_61 rfl ?_
      refine rd_lld (pc := 63) d_S_takeByParts_63 rfl ?_
      refine rd_ldiv (pc := 65) d_S_takeByParts_65 ⟨by omega, by omega⟩ ⟨by omega, by omega⟩ (by omega) ?_
      refine rd_callVv (pc := 66) (n' := 0) [_, _, _] d_S_takeByParts_66 ml_S_126 rfl (Nat.le_of_ble_eq_true rfl) (Nat.le_of_ble_eq_true rfl) (Nat.le_of_ble_eq_true rfl) rfl rfl rfl (Nat.le_of_ble_eq_true rfl) (Nat.le_of_ble_eq_true rfl) ?_
      refine ev_S_take h0 h1 g0 (by omega) ?_
      refine ⟨rfl, ?_⟩
      first | simp (decide := true) only [rd_up_app, rd_up_hit, e4, e30, hG1, e24] | simp (decide := true) only [rd_up_app, rd_up_hit, e4, e30, hG1] | skip
      refine rd_lld (pc := 69) d_S_takeByParts_69 rfl ?_
      refine rd_lld (pc := 71) d_S_takeByParts_71 rfl ?_
      refine rd_lld (pc := 73) d_S_takeByParts_73 rfl ?_
      refine rd_ldiv (pc := 75) d_S_takeByParts_75 ⟨by omega, by omega⟩ ⟨by omega, by omega⟩ (by omega) ?_
      refine rd_lsub (pc := 76) d_S_takeByParts_76 ?_
      refine rd_lst6 (pc := 77) d_S_takeByParts_77 rfl ?_
      refine rd_iinc8 (pc := 79) d_S_takeByParts_79 rfl ?_
      refine rd_goto (pc := 82) (tgt := 14) d_S_takeByParts_82 rfl ?_
      refine rd_weak (L' := [some (.ref 4), some (rd_i t), some (rd_l v), none, some (rd_l s), none, some (rd_l (c - (M 24 (M 30 m) * v).tdiv s)), none, some (rd_i (m + 1)), none, none]) (by simp [rd_le]) ?_
      refine ih _ (by omega) (m + 1) _ (rd_up B 31 m ((sp_r (M 24) v s) (M 30 m))) _ rfl (by omega) (by omega) (by rw [gs, hc]; show _ - _ - _ = _; unfold sp_q; omega) (fun x hx => by rw [rd_up_ne hx]; exact hB x hx) ?_ ?_
      · intro i i0 i1
        rw [rd_up_at]
        by_cases hi : i = m
        · rw [if_pos hi, hi]
        · rw [if_neg hi]; exact hR i i0 (by omega)
      · rw [hM, c_tks_up (by decide) (by decide) (by decide), c_tks_take g0 g1]
        exact c_tks_congr (fun j a b => sp_w1_s hG2 m0 (by omega) a b)
set_option maxHeartbeats 4000000 in
set_option maxRecDepth 100000 in
theorem ev_S_takeByParts {t v s : Int} {n : Nat} {p : Int → Int} {M : rd_M} {Q : rd_R → rd_M → Prop} (hI : c_I M) (hn : M 2 0 = n) (hK : ∀ k : Int, 0 ≤ k → k < n → 0 ≤ M 24 k ∧ M 24 k ≤ 1000000000) (hG : c_G M n p) (h0 : 0 ≤ t) (h1 : t < 10) (hv : 0 ≤ v ∧ v ≤ 1000000000) (hs : s = sp_sum n p (M 24)) (hvs : v ≤ s) (hQ : ∀ M', c_sm M' (c_tks M t n (sp_spr n p (M 24) v s)) → Q (.inl none) M') : rd_G x_S_takeByParts 0 [some (.ref 4), some (rd_i t), some (rd_l v), none, some (rd_l s), none, none, none, none, none, none] [] M 0 Q := by
  have hn40 := hI.n hn
  have hsb := sp_sum_hi (p := p) hK
  refine rd_lld (pc := 0) d_S_takeByParts_0 rfl ?_
  refine rd_lconst (pc := 2) (v := 0) d_S_takeByParts_2 rfl ?_
  refine rd_lcmp_gt (pc := 3) (tgt := 8) d_S_takeByParts_3 d_S_takeByParts_4 rfl ⟨by omega, by omega⟩ ⟨by omega, by omega⟩ (fun h3 => ?_) (fun h3 => ?_)
  · skip
    refine rd_lldn (pc := 8) d_S_takeByParts_8 rfl ?_
    refine rd_lst6 (pc := 9) d_S_takeByParts_9 rfl ?_
    refine rd_iconst (pc := 11) d_S_takeByParts_11 ?_
    refine rd_ist8 (pc := 12) d_S_takeByParts_12 rfl ?_
    have := sp_cn_nn (n := n) (p := p)
    exact lq_S_takeByParts hI hn hK hG h0 h1 hv hs hvs (by omega) hQ _ 0 v M M rfl (by omega) (by omega) (by rw [sp_gs_0]; omega) (fun _ _ => rfl) (fun i a b => by omega) (c_tks_0 (fun j a b => if_neg (fun z => by have := sp_cn_nn (n := j.toNat) (p := p); omega))).symm
  · skip
    exact rd_vret (pc := 7) d_S_takeByParts_7 rfl (Nat.le_of_ble_eq_true rfl) (by refine hQ _ ?_; rw [c_tks_0 (w := sp_spr n p (M 24) v s) (fun j a b => if_pos (by omega))]; exact c_sm.refl)

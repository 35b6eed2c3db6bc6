/-! cession: what is outside is dropped; what is taken by parts -/
theorem sp_cn_sub {p p' : Int → Int} (h : ∀ k : Int, p' k = 1 → p k = 1) {a : Nat} : ∀ (b : Nat), a ≤ b → sp_cn a p = sp_cn b p → sp_cn a p' = sp_cn b p'
  | 0, hab, _ => by rw [show a = 0 by omega]
  | b + 1, hab, he => by
    by_cases hb : a = b + 1
    · rw [hb]
    · have h1 := sp_cn_le (p := p) (a := a) b (by omega)
      have h2 := sp_cn_le (p := p) (a := b) (b + 1) (by omega)
      have hn := sp_cn_no (p := p) (a := b) (b := b + 1) (k := b) (by omega) (by omega) (by omega)
      have hn' : p' b ≠ 1 := fun z => hn (h _ z)
      rw [sp_cn_sub h b (by omega) (by omega), sp_cn_s, if_neg hn']
      omega
theorem sp_cn_subl {p p' : Int → Int} (h : ∀ k : Int, p' k = 1 → p k = 1) (n : Nat) : sp_cn n p' ≤ sp_cn n p := rd_sm_le n (fun k a b => by
  by_cases hk : p' k = 1
  · rw [if_pos hk, if_pos (h k hk)]; exact Int.le_refl _
  · rw [if_neg hk]; exact rd_01.1)
set_option maxHeartbeats 4000000 in
set_option maxRecDepth 100000 in
theorem lq_S_dropOutside {h : Int} {n : Nat} {p p' : Int → Int} {M : rd_M} {Q : rd_R → rd_M → Prop} (hI : c_I M) (hn : M 2 0 = n) (hG : c_G M n p) (hh : -1 ≤ h ∧ h ≤ 100000) (hp : ∀ k : Int, p' k = 1 ↔ p k = 1 ∧ h ≤ M 12 k ∧ M 12 k < h + 72) (hQ : ∀ M', c_sm M' M → c_G M' n p' → Q (.inl none) M') : ∀ (d : Nat) (m j : Int) (K : Nat) (M1 : rd_M), (sp_cn n p - m).toNat = d → (0 ≤ m) → (m ≤ sp_cn n p) → (K ≤ n) → (sp_cn K p = m) → (j = sp_cn K p') → (c_g (M1 30) K p') → (∀ i : Int, m ≤ i → M1 30 i = M 30 i) → (c_sm M1 M) → (M1 4 11 = sp_cn n p) → rd_G x_S_dropOutside 4 [some (.ref 4), some (rd_i h), some (rd_i j), some (rd_i m), none] [] M1 0 Q := by
  intro d
  induction d using Nat.strongRecOn with
  | ind d ih =>
    intro m j K M1 hd m0 m1 k1 hk hj hg hu hS hz
    have hn40 := hI.n hn
    have hsz := sp_cn_hi (n := n) (p := p)
    have hG1 := hG.1
    have hG2 := hG.2
    have hjn := sp_cn_nn (n := K) (p := p')
    have hjm := sp_cn_subl (fun k z => ((hp k).1 z).1) K
    have e12 : M1 12 = M 12 := hS 12 (by decide) (by decide) (by decide)
    refine rd_ildn (pc := 4) d_S_dropOutside_4 rfl ?_
    refine rd_aldn (pc := 5) d_S_dropOutside_5 rfl ?_
    refine rd_gi (pc := 6) (ki := 11) d_S_dropOutside_6 fl_S_142 rfl rfl rfl ?_
    first | simp (decide := true) only [rd_up_app, rd_up_hit, e12, hz, e30] | simp (decide := true) only [rd_up_app, rd_up_hit, e12, hz] | skip
    refine rd_icmp_ge (pc := 9) (tgt := 64) d_S_dropOutside_9 rfl ⟨by omega, by omega⟩ ⟨by omega, by omega⟩ (fun h9 => ?_) (fun h9 => ?_)
    · skip
      refine rd_aldn (pc := 64) d_S_dropOutside_64 rfl ?_
      refine rd_ildn (pc := 65) d_S_dropOutside_65 rfl ?_
      refine rd_pi (pc := 66) (ki := 11) d_S_dropOutside_66 fl_S_142 fp_0_11 rfl rfl rfl ?_
      exact rd_vret (pc := 69) d_S_dropOutside_69 rfl (Nat.le_of_ble_eq_true rfl) (by have hcs := sp_cn_sub (fun k z => ((hp k).1 z).1) (a := K) n k1 (by omega); exact hQ _ (hS.up (by omega)) ⟨by rw [rd_up_hit, hj, hcs], by rw [rd_up_ne (by decide)]; exact c_g_skip hg k1 hcs⟩)
    · skip
      obtain ⟨g0, g1, g2, g3⟩ := hG2.1 m m0 (by omega)
      obtain ⟨_, _, gh, _⟩ := hI.claim g0 (by omega)
      have e30 := hu m (by omega)
      have hKg : K ≤ (M 30 m).toNat := by (by_cases hz : K ≤ (M 30 m).toNat; exact hz; have hq := sp_cn_k (n := K) (p := p) g0 (by omega) g2; omega)
      have hcs := sp_cn_sub (fun k z => ((hp k).1 z).1) (a := K) (M 30 m).toNat hKg (by omega)
      have hg2 := c_g_skip hg hKg hcs
      have hcn := (sp_cn_k (n := n) g0 g1 g2).2
      have eN : (M 30 m + 1).toNat = (M 30 m).toNat + 1 := by omega
      have eI : (((M 30 m).toNat : Nat) : Int) = M 30 m := by omega
      rw [eN, g3] at hcn
      refine rd_aldn (pc := 12) d_S_dropOutside_12 rfl ?_
      refine rd_getr (pc := 13) d_S_dropOutside_13 fl_S_15 rfl rfl ?_
      refine rd_getr (pc := 16) d_S_dropOutside_16 fl_S_163 rfl rfl ?_
      refine rd_aldn (pc := 19) d_S_dropOutside_19 rfl ?_
      refine rd_getr (pc := 20) d_S_dropOutside_20 fl_S_47 rfl rfl ?_
      refine rd_ildn (pc := 23) d_S_dropOutside_23 rfl ?_
      refine rd_iald (pc := 24) d_S_dropOutside_24 rfl (by omega) (by omega) ?_
      first | simp (decide := true) only [rd_up_app, rd_up_hit, e12, hz, e30] | simp (decide := true) only [rd_up_app, rd_up_hit, e12, hz] | skip
      refine rd_iald (pc := 25) d_S_dropOutside_25 rfl (by omega) (by omega) ?_
      first | simp (decide := true) only [rd_up_app, rd_up_hit, e12, hz, e30] | simp (decide := true) only [rd_up_app, rd_up_hit, e12, hz] | skip
      refine rd_ist4 (pc := 26) d_S_dropOutside_26 rfl ?_
      refine rd_ild (pc := 28) d_S_dropOutside_28 rfl ?_
      refine rd_ildn (pc := 30) d_S_dropOutside_30 rfl ?_
      refine rd_icmp_lt (pc := 31) (tgt := 58) d_S_dropOutside_31 rfl ⟨by omega, by omega⟩ ⟨by omega, by omega⟩ (fun h31 => ?_) (fun h31 => ?_)
      · skip
        refine rd_iinc3 (pc := 58) d_S_dropOutside_58 rfl ?_
        refine rd_goto (pc := 61) (tgt := 4) d_S_dropOutside_61 rfl ?_
        first
          | (refine rd_weak (L' := [some (.ref 4), some (rd_i h), some (rd_i (j + 1)), some (rd_i (m + 1)), none]) (by simp [rd_le]) ?_
             have hp1 : p' (M 30 m) = 1 := (hp _).2 ⟨g2, by omega, by omega⟩
             have hg3 := c_g_p hg2 (by rw [eI]; exact hp1)
             refine ih _ (by omega) (m + 1) _ ((M 30 m).toNat + 1) _ rfl (by omega) (by omega) (by omega) hcn ?_ ?_ ?_ (hS.up (by omega)) (by rw [rd_up_app (by decide), hz])
             · rw [sp_cn_s, eI, if_pos hp1, hj, hcs]
             · have ee : (rd_up M1 30 j (M 30 m)) 30 = fun i => if i = sp_cn (M 30 m).toNat p' then (((M 30 m).toNat : Nat) : Int) else M1 30 i := by (funext i; rw [rd_up_at, hj, hcs, eI])
               rw [ee]; exact hg3
             · intro i hi; rw [rd_up_at, if_neg (by omega)]; exact hu i (by omega))
          | (refine rd_weak (L' := [some (.ref 4), some (rd_i h), some (rd_i j), some (rd_i (m + 1)), none]) (by simp [rd_le]) ?_
             have hp1 : p' (M 30 m) ≠ 1 := fun z => by (have z1 := (hp _).1 z; omega)
             refine ih _ (by omega) (m + 1) _ ((M 30 m).toNat + 1) _ rfl (by omega) (by omega) (by omega) hcn ?_ (c_g_n hg2 (by rw [eI]; exact hp1)) (fun i hi => hu i (by omega)) hS hz
             rw [sp_cn_s, eI, if_neg hp1, hj, hcs]; omega)
      · skip
        refine rd_ild (pc := 34) d_S_dropOutside_34 rfl ?_
        refine rd_ildn (pc := 36) d_S_dropOutside_36 rfl ?_
        refine rd_bipush (pc := 37) d_S_dropOutside_37 rfl ?_
        refine rd_iadd (pc := 39) d_S_dropOutside_39 ?_
        refine rd_icmp_ge (pc := 40) (tgt := 58) d_S_dropOutside_40 rfl ⟨by omega, by omega⟩ ⟨by omega, by omega⟩ (fun h40 => ?_) (fun h40 => ?_)
        · skip
          refine rd_iinc3 (pc := 58) d_S_dropOutside_58 rfl ?_
          refine rd_goto (pc := 61) (tgt := 4) d_S_dropOutside_61 rfl ?_
          first
            | (refine rd_weak (L' := [some (.ref 4), some (rd_i h), some (rd_i (j + 1)), some (rd_i (m + 1)), none]) (by simp [rd_le]) ?_
               have hp1 : p' (M 30 m) = 1 := (hp _).2 ⟨g2, by omega, by omega⟩
               have hg3 := c_g_p hg2 (by rw [eI]; exact hp1)
               refine ih _ (by omega) (m + 1) _ ((M 30 m).toNat + 1) _ rfl (by omega) (by omega) (by omega) hcn ?_ ?_ ?_ (hS.up (by omega)) (by rw [rd_up_app (by decide), hz])
               · rw [sp_cn_s, eI, if_pos hp1, hj, hcs]
               · have ee : (rd_up M1 30 j (M 30 m)) 30 = fun i => if i = sp_cn (M 30 m).toNat p' then (((M 30 m).toNat : Nat) : Int) else M1 30 i := by (funext i; rw [rd_up_at, hj, hcs, eI])
                 rw [ee]; exact hg3
               · intro i hi; rw [rd_up_at, if_neg (by omega)]; exact hu i (by omega))
            | (refine rd_weak (L' := [some (.ref 4), some (rd_i h), some (rd_i j), some (rd_i (m + 1)), none]) (by simp [rd_le]) ?_
               have hp1 : p' (M 30 m) ≠ 1 := fun z => by (have z1 := (hp _).1 z; omega)
               refine ih _ (by omega) (m + 1) _ ((M 30 m).toNat + 1) _ rfl (by omega) (by omega) (by omega) hcn ?_ (c_g_n hg2 (by rw [eI]; exact hp1)) (fun i hi => hu i (by omega)) hS hz
               rw [sp_cn_s, eI, if_neg hp1, hj, hcs]; omega)
        · skip
          refine rd_aldn (pc := 43) d_S_dropOutside_43 rfl ?_
          refine rd_getr (pc := 44) d_S_dropOutside_44 fl_S_47 rfl rfl ?_
          refine rd_ildn (pc := 47) d_S_dropOutside_47 rfl ?_
          refine rd_aldn (pc := 48) d_S_dropOutside_48 rfl ?_
          refine rd_getr (pc := 49) d_S_dropOutside_49 fl_S_47 rfl rfl ?_
          refine rd_ildn (pc := 52) d_S_dropOutside_52 rfl ?_
          refine rd_iald (pc := 53) d_S_dropOutside_53 rfl (by omega) (by omega) ?_
          first | simp (decide := true) only [rd_up_app, rd_up_hit, e12, hz, e30] | simp (decide := true) only [rd_up_app, rd_up_hit, e12, hz] | skip
          refine rd_iast (pc := 54) d_S_dropOutside_54 rfl (by omega) (by omega) ?_
          refine rd_iinc2 (pc := 55) d_S_dropOutside_55 rfl ?_
          refine rd_iinc3 (pc := 58) d_S_dropOutside_58 rfl ?_
          refine rd_goto (pc := 61) (tgt := 4) d_S_dropOutside_61 rfl ?_
          first
            | (refine rd_weak (L' := [some (.ref 4), some (rd_i h), some (rd_i (j + 1)), some (rd_i (m + 1)), none]) (by simp [rd_le]) ?_
               have hp1 : p' (M 30 m) = 1 := (hp _).2 ⟨g2, by omega, by omega⟩
               have hg3 := c_g_p hg2 (by rw [eI]; exact hp1)
               refine ih _ (by omega) (m + 1) _ ((M 30 m).toNat + 1) _ rfl (by omega) (by omega) (by omega) hcn ?_ ?_ ?_ (hS.up (by omega)) (by rw [rd_up_app (by decide), hz])
               · rw [sp_cn_s, eI, if_pos hp1, hj, hcs]
               · have ee : (rd_up M1 30 j (M 30 m)) 30 = fun i => if i = sp_cn (M 30 m).toNat p' then (((M 30 m).toNat : Nat) : Int) else M1 30 i := by (funext i; rw [rd_up_at, hj, hcs, eI])
                 rw [ee]; exact hg3
               · intro i hi; rw [rd_up_at, if_neg (by omega)]; exact hu i (by omega))
            | (refine rd_weak (L' := [some (.ref 4), some (rd_i h), some (rd_i j), some (rd_i (m + 1)), none]) (by simp [rd_le]) ?_
               have hp1 : p' (M 30 m) ≠ 1 := fun z => by (have z1 := (hp _).1 z; omega)
               refine ih _ (by omega) (m + 1) _ ((M 30 m).toNat + 1) _ rfl (by omega) (by omega) (by omega) hcn ?_ (c_g_n hg2 (by rw [eI]; exact hp1)) (fun i hi => hu i (by omega)) hS hz
               rw [sp_cn_s, eI, if_neg hp1, hj, hcs]; omega)
set_option maxHeartbeats 4000000 in
set_option maxRecDepth 100000 in
theorem ev_S_dropOutside {h : Int} {n : Nat} {p p' : Int → Int} {M : rd_M} {Q : rd_R → rd_M → Prop} (hI : c_I M) (hn : M 2 0 = n) (hG : c_G M n p) (hh : -1 ≤ h ∧ h ≤ 100000) (hp : ∀ k : Int, p' k = 1 ↔ p k = 1 ∧ h ≤ M 12 k ∧ M 12 k < h + 72) (hQ : ∀ M', c_sm M' M → c_G M' n p' → Q (.inl none) M') : rd_G x_S_dropOutside 0 [some (.ref 4), some (rd_i h), none, none, none] [] M 0 Q := by
  refine rd_iconst (pc := 0) d_S_dropOutside_0 ?_
  refine rd_ist2 (pc := 1) d_S_dropOutside_1 rfl ?_
  refine rd_iconst (pc := 2) d_S_dropOutside_2 ?_
  refine rd_ist3 (pc := 3) d_S_dropOutside_3 rfl ?_
  have := sp_cn_nn (n := n) (p := p)
  exact lq_S_dropOutside hI hn hG hh hp hQ _ 0 0 0 M rfl (by omega) (by omega) (by omega) rfl rfl c_g_0 (fun i _ => rfl) c_sm.refl hG.1
set_option maxHeartbeats 4000000 in
set_option maxRecDepth 100000 in
theorem lq_S_greatestRemainder {M : rd_M} {Q : rd_R → rd_M → Prop} (hs : 1 ≤ M 4 11 ∧ M 4 11 ≤ 40) (hr : ∀ j : Int, 0 ≤ j → j < M 4 11 → -1 ≤ M 31 j ∧ M 31 j ≤ 1000000000000000000) (hQ : ∀ g : Int, 0 ≤ g → g < M 4 11 → (∀ j : Int, 0 ≤ j → j < M 4 11 → M 31 j ≤ M 31 g ∧ (j < g → M 31 j < M 31 g)) → Q (.inl (some (rd_i g))) M) : ∀ (d : Nat) (m g : Int), (M 4 11 - m).toNat = d → (1 ≤ m) → (m ≤ M 4 11) → (0 ≤ g) → (g < m) → (∀ j : Int, 0 ≤ j → j < m → M 31 j ≤ M 31 g ∧ (j < g → M 31 j < M 31 g)) → rd_G x_S_greatestRemainder 4 [some (.ref 4), some (rd_i g), some (rd_i m)] [] M 0 Q := by
  intro d
  induction d using Nat.strongRecOn with
  | ind d ih =>
    intro m g hd m0 m1 g0 g1 hm
    refine rd_ildn (pc := 4) d_S_greatestRemainder_4 rfl ?_
    refine rd_aldn (pc := 5) d_S_greatestRemainder_5 rfl ?_
    refine rd_gi (pc := 6) (ki := 11) d_S_greatestRemainder_6 fl_S_142 rfl rfl rfl ?_
    refine rd_icmp_ge (pc := 9) (tgt := 36) d_S_greatestRemainder_9 rfl ⟨by omega, by omega⟩ ⟨by omega, by omega⟩ (fun h9 => ?_) (fun h9 => ?_)
    · skip
      refine rd_ildn (pc := 36) d_S_greatestRemainder_36 rfl ?_
      exact rd_iret (pc := 37) d_S_greatestRemainder_37 rfl (Nat.le_of_ble_eq_true rfl) (hQ g g0 (by omega) (fun j a b => hm j a (by omega)))
    · skip
      have r1 := hr m (by omega) (by omega)
      have r2 := hr g g0 (by omega)
      refine rd_aldn (pc := 12) d_S_greatestRemainder_12 rfl ?_
      refine rd_getr (pc := 13) d_S_greatestRemainder_13 fl_S_50 rfl rfl ?_
      refine rd_ildn (pc := 16) d_S_greatestRemainder_16 rfl ?_
      refine rd_lald (pc := 17) d_S_greatestRemainder_17 rfl (by omega) (by omega) ?_
      refine rd_aldn (pc := 18) d_S_greatestRemainder_18 rfl ?_
      refine rd_getr (pc := 19) d_S_greatestRemainder_19 fl_S_50 rfl rfl ?_
      refine rd_ildn (pc := 22) d_S_greatestRemainder_22 rfl ?_
      refine rd_lald (pc := 23) d_S_greatestRemainder_23 rfl (by omega) (by omega) ?_
      refine rd_lcmp_le (pc := 24) (tgt := 30) d_S_greatestRemainder_24 d_S_greatestRemainder_25 rfl ⟨by omega, by omega⟩ ⟨by omega, by omega⟩ (fun h24 => ?_) (fun h24 => ?_)
      · skip
        refine rd_iinc2 (pc := 30) d_S_greatestRemainder_30 rfl ?_
        refine rd_goto (pc := 33) (tgt := 4) d_S_greatestRemainder_33 rfl ?_
        first
          | exact ih _ (by omega) (m + 1) m rfl (by omega) (by omega) (by omega) (by omega) (fun j a b => by by_cases hj : j = m; (subst hj; omega); (have := hm j a (by omega); omega))
          | exact ih _ (by omega) (m + 1) g rfl (by omega) (by omega) (by omega) (by omega) (fun j a b => by by_cases hj : j = m; (subst hj; omega); (have := hm j a (by omega); omega))
      · skip
        refine rd_ildn (pc := 28) d_S_greatestRemainder_28 rfl ?_
        refine rd_ist1 (pc := 29) d_S_greatestRemainder_29 rfl ?_
        refine rd_iinc2 (pc := 30) d_S_greatestRemainder_30 rfl ?_
        refine rd_goto (pc := 33) (tgt := 4) d_S_greatestRemainder_33 rfl ?_
        first
          | exact ih _ (by omega) (m + 1) m rfl (by omega) (by omega) (by omega) (by omega) (fun j a b => by by_cases hj : j = m; (subst hj; omega); (have := hm j a (by omega); omega))
          | exact ih _ (by omega) (m + 1) g rfl (by omega) (by omega) (by omega) (by omega) (fun j a b => by by_cases hj : j = m; (subst hj; omega); (have := hm j a (by omega); omega))
set_option maxHeartbeats 4000000 in
set_option maxRecDepth 100000 in
theorem ev_S_greatestRemainder {M : rd_M} {Q : rd_R → rd_M → Prop} (hs : 1 ≤ M 4 11 ∧ M 4 11 ≤ 40) (hr : ∀ j : Int, 0 ≤ j → j < M 4 11 → -1 ≤ M 31 j ∧ M 31 j ≤ 1000000000000000000) (hQ : ∀ g : Int, 0 ≤ g → g < M 4 11 → (∀ j : Int, 0 ≤ j → j < M 4 11 → M 31 j ≤ M 31 g ∧ (j < g → M 31 j < M 31 g)) → Q (.inl (some (rd_i g))) M) : rd_G x_S_greatestRemainder 0 [some (.ref 4), none, none] [] M 0 Q := by
  refine rd_iconst (pc := 0) d_S_greatestRemainder_0 ?_
  refine rd_ist1 (pc := 1) d_S_greatestRemainder_1 rfl ?_
  refine rd_iconst (pc := 2) d_S_greatestRemainder_2 ?_
  refine rd_ist2 (pc := 3) d_S_greatestRemainder_3 rfl ?_
  exact lq_S_greatestRemainder hs hr hQ _ 1 0 rfl (by omega) (by omega) (by omega) (by omega) (fun j a b => by rw [show j = 0 by omega]; omega)

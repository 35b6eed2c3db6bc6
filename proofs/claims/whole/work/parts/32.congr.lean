/-! pure: what is taken hangs on what is kept of the claims that count alone -/
theorem sp_rk_cg {n : Nat} {p f g : Int → Int} {k : Int} (h : ∀ j : Int, 0 ≤ j → j < n → p j = 1 → f j = g j) (hk : f k = g k) : sp_rk n p f k = sp_rk n p g k := rd_sm_c n (fun j a b => by
  by_cases hp : p j = 1
  · have := h j a b hp
    by_cases hb : sp_bf f j k
    · rw [if_pos ⟨hp, hb⟩, if_pos ⟨hp, by omega⟩]
    · rw [if_neg (fun z => hb z.2), if_neg (fun z => hb (by have := z.2; omega))]
  · rw [if_neg (fun z => hp z.1), if_neg (fun z => hp z.1)])
theorem sp_spr_cg {n : Nat} {p κ κ' : Int → Int} {v all k : Int} (h : ∀ j : Int, 0 ≤ j → j < n → p j = 1 → κ j = κ' j) (k0 : 0 ≤ k) (k1 : k < n) : sp_spr n p κ v all k = sp_spr n p κ' v all k := by
  unfold sp_spr
  by_cases ha : all ≤ 0
  · rw [if_pos ha, if_pos ha]
  · rw [if_neg ha, if_neg ha]
    by_cases hp : p k = 1
    · have hq : ∀ j : Int, 0 ≤ j → j < n → p j = 1 → sp_q κ v all j = sp_q κ' v all j := fun j a b c => by unfold sp_q; rw [h j a b c]
      have hr : ∀ j : Int, 0 ≤ j → j < n → p j = 1 → sp_r κ v all j = sp_r κ' v all j := fun j a b c => by unfold sp_r; rw [h j a b c]
      have ho : sp_ov n p κ v all = sp_ov n p κ' v all := by unfold sp_ov; rw [sp_sum_c hq]
      rw [if_pos hp, if_pos hp, hq k k0 k1 hp, ho, sp_rk_cg hr (hr k k0 k1 hp)]
    · rw [if_neg hp, if_neg hp]
theorem sp_inW_1 {d : rd_M} {y e h k : Int} : sp_inW d y e h k = 1 ↔ sp_inE d y e k = 1 ∧ h ≤ d 5 k ∧ d 5 k < h + 72 := by
  unfold sp_inW
  by_cases hz : sp_inE d y e k = 1 ∧ h ≤ d 5 k ∧ d 5 k < h + 72
  · rw [if_pos hz]; exact ⟨fun _ => hz, fun _ => rfl⟩
  · rw [if_neg hz]; exact ⟨fun z => by omega, fun z => absurd z hz⟩
theorem sp_W_cg {d : rd_M} {n : Nat} {y e h : Int} {κ κ' : Int → Int} (hk : ∀ j : Int, 0 ≤ j → j < n → sp_cnt d y j → κ j = κ' j) : sp_W d n y e κ h = sp_W d n y e κ' h :=
  sp_sum_c (fun j a b c => hk j a b (sp_inE_1.1 (sp_inW_1.1 c).1).1)
theorem sp_st_cg {d : rd_M} {n : Nat} {y e : Int} {κ κ' : Int → Int} (hk : ∀ j : Int, 0 ≤ j → j < n → sp_cnt d y j → κ j = κ' j) : ∀ i : Nat, sp_st d n y e κ i = sp_st d n y e κ' i
  | 0 => rfl
  | i + 1 => by
    rw [sp_st_s, sp_st_s, sp_st_cg hk i, sp_W_cg hk, sp_W_cg hk]
theorem sp_st_p {d : rd_M} {n : Nat} {y e : Int} {κ : Int → Int} (hh : ∀ k : Int, 0 ≤ k → k < 40 → 0 ≤ d 5 k ∧ d 5 k ≤ 100000) : ∀ i : Nat, i ≤ 40 → 0 < sp_cn i (sp_inE d y e) → 0 ≤ sp_st d n y e κ i
  | 0, _, h => by have : sp_cn 0 (sp_inE d y e) = 0 := rfl; omega
  | i + 1, hi, h => by
    have h5 := hh i (by omega) (by omega)
    rw [sp_st_s]
    by_cases hp : sp_inE d y e i = 1
    · by_cases hz : sp_st d n y e κ i < 0
      · rw [if_pos ⟨hp, Or.inl hz⟩]; omega
      · split <;> omega
    · rw [if_neg (fun z => hp z.1)]
      rw [sp_cn_s, if_neg hp] at h
      exact sp_st_p hh i (by omega) (by omega)
theorem sp_st_n {d : rd_M} {n : Nat} {y e : Int} {κ : Int → Int} (h : sp_cn n (sp_inE d y e) ≤ 0) : sp_st d n y e κ n = -1 := by
  have h1 := sp_cn_nn (n := n) (p := sp_inE d y e)
  have h2 : sp_cn 0 (sp_inE d y e) = 0 := rfl
  rw [sp_st_skip (a := 0) n (by omega) (by omega)]
  rfl
theorem sp_ev_cg {d : rd_M} {n : Nat} {t : Int} {κ κ' : Int → Int} (hk : ∀ j : Int, 0 ≤ j → j < n → sp_cnt d (d 9 t) j → κ j = κ' j) : ∀ e : Nat, (∀ k : Int, 0 ≤ k → k < n → (sp_ev d n t κ e).1 k = (sp_ev d n t κ' e).1 k) ∧ (sp_ev d n t κ e).2 = (sp_ev d n t κ' e).2
  | 0 => ⟨fun _ _ _ => rfl, rfl⟩
  | e + 1 => by
    obtain ⟨h1, h2⟩ := sp_ev_cg hk e
    have hK : ∀ j : Int, 0 ≤ j → j < n → sp_cnt d (d 9 t) j → sp_evK d n t κ e j = sp_evK d n t κ' e j := fun j a b c => by
      unfold sp_evK; rw [hk j a b c, h1 j a b]
    have hO : sp_evO d n t κ e = sp_evO d n t κ' e := sp_st_cg hK n
    have hA : sp_evA d n t κ e = sp_evA d n t κ' e := by unfold sp_evA; rw [hO, sp_W_cg hK]
    have hV : sp_evV d n t κ e = sp_evV d n t κ' e := by unfold sp_evV; rw [hA, h2]
    by_cases ho : sp_evO d n t κ e < 0
    · rw [sp_ev_n ho, sp_ev_n (by omega)]
      exact ⟨h1, h2⟩
    · rw [sp_ev_p ho, sp_ev_p (by omega)]
      refine ⟨fun k a b => ?_, ?_⟩
      · show _ + _ = _ + _
        rw [h1 k a b, hO, hV, hA, sp_spr_cg (fun j a b c => hK j a b (sp_inE_1.1 (sp_inW_1.1 c).1).1) a b]
      · show _ + _ = _ + _
        rw [h2, hA]
theorem sp_evO_cg {d : rd_M} {n : Nat} {t : Int} {κ κ' : Int → Int} (hk : ∀ j : Int, 0 ≤ j → j < n → sp_cnt d (d 9 t) j → κ j = κ' j) (e : Nat) : sp_evO d n t κ e = sp_evO d n t κ' e :=
  sp_st_cg (fun j a b c => by unfold sp_evK; rw [hk j a b c, (sp_ev_cg hk e).1 j a b]) n
/-- what a treaty takes of a claim hangs on what is kept of the claims that count alone -/
theorem sp_tk_cg {d : rd_M} {n : Nat} {t k : Int} {κ κ' : Int → Int} (hk : ∀ j : Int, 0 ≤ j → j < n → sp_cnt d (d 9 t) j → κ j = κ' j) (k0 : 0 ≤ k) (k1 : k < n) : sp_tk d n t κ k = sp_tk d n t κ' k := by
  unfold sp_tk
  by_cases h2 : d 8 t < 2
  · rw [if_pos h2, if_pos h2]
    unfold sp_tkP
    by_cases hc : sp_cnt d (d 9 t) k
    · rw [if_pos hc, if_pos hc, hk k k0 k1 hc]
    · rw [if_neg hc, if_neg hc]
  · rw [if_neg h2, if_neg h2]
    by_cases h3 : d 8 t = 2
    · rw [if_pos h3, if_pos h3]
      have hB : sp_xB d n t κ k = sp_xB d n t κ' k := rd_sm_c n (fun j a b => by
        by_cases hp : sp_in d (d 9 t) j = 1
        · rw [hk j a b (sp_in_1.1 hp)]
        · rw [if_neg (fun z => hp z.1), if_neg (fun z => hp z.1)])
      unfold sp_tkX
      by_cases hp : sp_in d (d 9 t) k = 1
      · rw [if_pos hp, if_pos hp, hB, hk k k0 k1 (sp_in_1.1 hp)]
      · rw [if_neg hp, if_neg hp]
    · rw [if_neg h3, if_neg h3]
      by_cases h4 : d 8 t = 3
      · rw [if_pos h4, if_pos h4]; exact (sp_ev_cg hk 9).1 k k0 k1
      · rw [if_neg h4, if_neg h4]
        have hh : ∀ j : Int, 0 ≤ j → j < n → sp_in d (d 9 t) j = 1 → κ j = κ' j := fun j a b c => hk j a b (sp_in_1.1 c)
        unfold sp_tkS
        rw [sp_sum_c hh, sp_spr_cg hh k0 k1]

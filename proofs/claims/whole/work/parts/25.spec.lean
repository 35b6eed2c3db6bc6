/-! pure: what a treaty takes of each claim -/
/-- claims that count for the year y -/
def sp_in (d : rd_M) (y k : Int) : Int := if sp_cnt d y k then 1 else 0
/-- claims that count and are of the event e -/
def sp_inE (d : rd_M) (y e k : Int) : Int := if sp_cnt d y k ∧ d 4 k = e then 1 else 0
/-- of these, those from the hour h on in 72 hours -/
def sp_inW (d : rd_M) (y e h k : Int) : Int := if sp_inE d y e k = 1 ∧ h ≤ d 5 k ∧ d 5 k < h + 72 then 1 else 0
abbrev sp_Tt (d : rd_M) (t v : Int) : Int := sp_T (d 11 t) (d 12 t) (d 13 t) v
abbrev sp_Lt (d : rd_M) (t v : Int) : Int := sp_layer (d 10 t) (d 11 t) v
/-- terms that no treaty goes beyond -/
def sp_tm (d : rd_M) (t : Int) : Prop := (0 ≤ d 8 t ∧ d 8 t ≤ 4) ∧ (0 ≤ d 10 t ∧ d 10 t ≤ 1000000000) ∧ (0 ≤ d 11 t ∧ d 11 t ≤ 1000000000) ∧ (0 ≤ d 12 t ∧ d 12 t ≤ 5) ∧ (0 ≤ d 13 t ∧ d 13 t ≤ 1000000000) ∧ (d 8 t = 0 → d 10 t ≤ 1000000)
theorem sp_tm.lim {d : rd_M} {t : Int} (h : sp_tm d t) : 0 ≤ d 11 t * (1 + d 12 t) ∧ d 11 t * (1 + d 12 t) ≤ 1000000000 * 6 := rd_mulb h.2.2.1.1 h.2.2.1.2 (by have := h.2.2.2.1; omega) (by have := h.2.2.2.1; omega)
theorem sp_Lt_b {d : rd_M} {t v : Int} (h : sp_tm d t) (hv : 0 ≤ v) : 0 ≤ sp_Lt d t v ∧ sp_Lt d t v ≤ v ∧ sp_Lt d t v ≤ 1000000000 := by
  obtain ⟨_, ha, hb, _⟩ := h
  show 0 ≤ sp_layer _ _ _ ∧ sp_layer _ _ _ ≤ _ ∧ sp_layer _ _ _ ≤ _
  unfold sp_layer
  omega
theorem sp_Tt_0 {d : rd_M} {t : Int} (h : sp_tm d t) : sp_Tt d t 0 = 0 := by
  have hl := h.lim
  obtain ⟨_, ha, hb, hc, hd, _⟩ := h
  show sp_T _ _ _ _ = 0
  unfold sp_T
  omega
theorem sp_Tt_b {d : rd_M} {t B l : Int} (h : sp_tm d t) (hB : 0 ≤ B) (hl : 0 ≤ l) : 0 ≤ sp_Tt d t B ∧ sp_Tt d t B ≤ B ∧ sp_Tt d t B ≤ sp_Tt d t (B + l) ∧ sp_Tt d t (B + l) ≤ sp_Tt d t B + l := by
  have hL := h.lim
  obtain ⟨_, ha, hb, hc, hd, _⟩ := h
  show 0 ≤ sp_T _ _ _ _ ∧ sp_T _ _ _ _ ≤ B ∧ sp_T _ _ _ _ ≤ sp_T _ _ _ _ ∧ sp_T _ _ _ _ ≤ sp_T _ _ _ _ + l
  unfold sp_T
  omega
/-- layers of the claims before k -/
def sp_xB (d : rd_M) (n : Nat) (t : Int) (κ : Int → Int) (k : Int) : Int := rd_sm (fun j => if sp_in d (d 9 t) j = 1 ∧ sp_bf (fun i => - d 5 i) j k then sp_Lt d t (κ j) else 0) n
def sp_tkX (d : rd_M) (n : Nat) (t : Int) (κ : Int → Int) (k : Int) : Int := if sp_in d (d 9 t) k = 1 then sp_Tt d t (sp_xB d n t κ k + sp_Lt d t (κ k)) - sp_Tt d t (sp_xB d n t κ k) else 0
theorem sp_tkX_b {d : rd_M} {n : Nat} {t k : Int} {κ : Int → Int} (h : sp_tm d t) (hk : ∀ j : Int, 0 ≤ j → j < n → 0 ≤ κ j) (k0 : 0 ≤ k) (k1 : k < n) : 0 ≤ sp_tkX d n t κ k ∧ sp_tkX d n t κ k ≤ κ k := by
  have hl := sp_Lt_b h (hk k k0 k1)
  unfold sp_tkX
  by_cases hi : sp_in d (d 9 t) k = 1
  · have hB : 0 ≤ sp_xB d n t κ k := rd_sm_nn n (fun j a b => by
      by_cases hj : sp_in d (d 9 t) j = 1 ∧ sp_bf (fun i => - d 5 i) j k
      · rw [if_pos hj]; exact (sp_Lt_b h (hk j a b)).1
      · rw [if_neg hj]; exact Int.le_refl _)
    have := sp_Tt_b h hB hl.1
    rw [if_pos hi]
    omega
  · rw [if_neg hi]; have := hk k k0 k1; omega
/-- what a stop loss takes -/
def sp_tkS (d : rd_M) (n : Nat) (t : Int) (κ : Int → Int) (k : Int) : Int := sp_spr n (sp_in d (d 9 t)) κ (sp_Lt d t (sp_sum n (sp_in d (d 9 t)) κ)) (sp_sum n (sp_in d (d 9 t)) κ) k
/-- the sum in the window from h on -/
def sp_W (d : rd_M) (n : Nat) (y e : Int) (κ : Int → Int) (h : Int) : Int := sp_sum n (sp_inW d y e h) κ
/-- where the window of the event starts, as the claims below i have it -/
def sp_st (d : rd_M) (n : Nat) (y e : Int) (κ : Int → Int) : Nat → Int
  | 0 => -1
  | i + 1 => if sp_inE d y e i = 1 ∧ (sp_st d n y e κ i < 0 ∨ sp_W d n y e κ (sp_st d n y e κ i) < sp_W d n y e κ (d 5 i) ∨ (sp_W d n y e κ (d 5 i) = sp_W d n y e κ (sp_st d n y e κ i) ∧ d 5 i < sp_st d n y e κ i)) then d 5 i else sp_st d n y e κ i
/-- the events below e + 1: what was taken of each claim, and the layers -/
def sp_ev (d : rd_M) (n : Nat) (t : Int) (κ : Int → Int) : Nat → (Int → Int) × Int
  | 0 => (fun _ => 0, 0)
  | e + 1 =>
    let w := (sp_ev d n t κ e).1
    let l := (sp_ev d n t κ e).2
    let κ' := fun k => κ k - w k
    let at' := sp_st d n (d 9 t) (e + 1) κ' n
    let all := sp_W d n (d 9 t) (e + 1) κ' at'
    if at' < 0 then (w, l) else (fun k => w k + sp_spr n (sp_inW d (d 9 t) (e + 1) at') κ' (sp_Tt d t (l + sp_Lt d t all) - sp_Tt d t l) all k, l + sp_Lt d t all)
def sp_tkE (d : rd_M) (n : Nat) (t : Int) (κ : Int → Int) (k : Int) : Int := (sp_ev d n t κ 9).1 k
/-- the kept sums of claims before the event e is looked at -/
def sp_evK (d : rd_M) (n : Nat) (t : Int) (κ : Int → Int) (e : Nat) (k : Int) : Int := κ k - (sp_ev d n t κ e).1 k
/-- the window of the event e -/
def sp_evO (d : rd_M) (n : Nat) (t : Int) (κ : Int → Int) (e : Nat) : Int := sp_st d n (d 9 t) (e + 1) (sp_evK d n t κ e) n
def sp_evA (d : rd_M) (n : Nat) (t : Int) (κ : Int → Int) (e : Nat) : Int := sp_W d n (d 9 t) (e + 1) (sp_evK d n t κ e) (sp_evO d n t κ e)
def sp_evV (d : rd_M) (n : Nat) (t : Int) (κ : Int → Int) (e : Nat) : Int := sp_Tt d t ((sp_ev d n t κ e).2 + sp_Lt d t (sp_evA d n t κ e)) - sp_Tt d t (sp_ev d n t κ e).2
theorem sp_ev_n {d : rd_M} {n : Nat} {t : Int} {κ : Int → Int} {e : Nat} (h : sp_evO d n t κ e < 0) : sp_ev d n t κ (e + 1) = sp_ev d n t κ e := by
  show (if sp_evO d n t κ e < 0 then _ else _) = _
  rw [if_pos h]
theorem sp_ev_p {d : rd_M} {n : Nat} {t : Int} {κ : Int → Int} {e : Nat} (h : ¬ sp_evO d n t κ e < 0) : sp_ev d n t κ (e + 1) = (fun k => (sp_ev d n t κ e).1 k + sp_spr n (sp_inW d (d 9 t) (e + 1) (sp_evO d n t κ e)) (sp_evK d n t κ e) (sp_evV d n t κ e) (sp_evA d n t κ e) k, (sp_ev d n t κ e).2 + sp_Lt d t (sp_evA d n t κ e)) := by
  show (if sp_evO d n t κ e < 0 then _ else _) = _
  rw [if_neg h]
  rfl
theorem sp_sum_nn {n : Nat} {p κ : Int → Int} (h : ∀ k : Int, 0 ≤ k → k < n → 0 ≤ κ k) : 0 ≤ sp_sum n p κ := rd_sm_nn n (fun k a b => by
  by_cases hp : p k = 1
  · rw [if_pos hp]; exact h k a b
  · rw [if_neg hp]; exact Int.le_refl _)
theorem sp_sum_hi {n : Nat} {p κ : Int → Int} (h : ∀ k : Int, 0 ≤ k → k < n → 0 ≤ κ k ∧ κ k ≤ 1000000000) : sp_sum n p κ ≤ n * 1000000000 := (rd_sm_b (A := 0) (B := 1000000000) n (fun k a b => by
  by_cases hp : p k = 1
  · rw [if_pos hp]; exact h k a b
  · rw [if_neg hp]; omega)).2
/-- behind e events: what is kept is from none to all, the layers are so much, and the treaty has taken what they allow -/
theorem sp_ev_b {d : rd_M} {n : Nat} {t : Int} {κ : Int → Int} (h : sp_tm d t) (hk : ∀ j : Int, 0 ≤ j → j < n → 0 ≤ κ j) : ∀ e : Nat, (∀ k : Int, 0 ≤ k → k < n → 0 ≤ (sp_ev d n t κ e).1 k ∧ (sp_ev d n t κ e).1 k ≤ κ k) ∧ 0 ≤ (sp_ev d n t κ e).2 ∧ (sp_ev d n t κ e).2 ≤ e * 1000000000 ∧ rd_sm (sp_ev d n t κ e).1 n = sp_Tt d t (sp_ev d n t κ e).2
  | 0 => by
    refine ⟨fun k a b => ⟨Int.le_refl _, hk k a b⟩, Int.le_refl _, Int.le_refl _, ?_⟩
    show rd_sm (fun _ => 0) n = sp_Tt d t 0
    rw [sp_Tt_0 h, rd_sm_z n (fun _ _ _ => rfl)]
  | e + 1 => by
    obtain ⟨i1, i2, i3, i4⟩ := sp_ev_b h hk e
    by_cases ho : sp_evO d n t κ e < 0
    · rw [sp_ev_n ho]
      exact ⟨i1, i2, by omega, i4⟩
    · rw [sp_ev_p ho]
      have kn : ∀ k : Int, 0 ≤ k → k < n → 0 ≤ sp_evK d n t κ e k := fun k a b => by
        have := i1 k a b
        unfold sp_evK; omega
      have hA : 0 ≤ sp_evA d n t κ e := sp_sum_nn kn
      have hL := sp_Lt_b h hA
      have hT := sp_Tt_b h i2 hL.1
      have hV : 0 ≤ sp_evV d n t κ e ∧ sp_evV d n t κ e ≤ sp_evA d n t κ e := by unfold sp_evV; omega
      have hs := sp_spr_s (n := n) (p := sp_inW d (d 9 t) (e + 1) (sp_evO d n t κ e)) (κ := sp_evK d n t κ e) (v := sp_evV d n t κ e) (fun k a b _ => kn k a b) hV.1 hV.2
      refine ⟨fun k a b => ?_, by show 0 ≤ _ + _; omega, by show _ + _ ≤ _; omega, ?_⟩
      · have hb := sp_spr_b (n := n) (p := sp_inW d (d 9 t) (e + 1) (sp_evO d n t κ e)) (κ := sp_evK d n t κ e) (v := sp_evV d n t κ e) (fun k a b _ => kn k a b) hV.1 hV.2 a b (kn k a b)
        have := i1 k a b
        have hb1 : 0 ≤ sp_spr n (sp_inW d (d 9 t) (e + 1) (sp_evO d n t κ e)) (sp_evK d n t κ e) (sp_evV d n t κ e) (sp_evA d n t κ e) k ∧ sp_spr n (sp_inW d (d 9 t) (e + 1) (sp_evO d n t κ e)) (sp_evK d n t κ e) (sp_evV d n t κ e) (sp_evA d n t κ e) k ≤ κ k - (sp_ev d n t κ e).1 k := hb
        show 0 ≤ _ + _ ∧ _ + _ ≤ _
        omega
      · show rd_sm (fun k => (sp_ev d n t κ e).1 k + sp_spr n (sp_inW d (d 9 t) (e + 1) (sp_evO d n t κ e)) (sp_evK d n t κ e) (sp_evV d n t κ e) (sp_evA d n t κ e) k) n = sp_Tt d t ((sp_ev d n t κ e).2 + sp_Lt d t (sp_evA d n t κ e))
        rw [rd_sm_p, i4]
        have hs1 : rd_sm (fun k => sp_spr n (sp_inW d (d 9 t) (e + 1) (sp_evO d n t κ e)) (sp_evK d n t κ e) (sp_evV d n t κ e) (sp_evA d n t κ e) k) n = sp_evV d n t κ e := hs
        rw [hs1]
        unfold sp_evV
        omega
/-- what the treaty takes of the claim k -/
def sp_tk (d : rd_M) (n : Nat) (t : Int) (κ : Int → Int) : Int → Int :=
  if d 8 t < 2 then sp_tkP d t κ else if d 8 t = 2 then sp_tkX d n t κ else if d 8 t = 3 then sp_tkE d n t κ else sp_tkS d n t κ
theorem sp_tk_b {d : rd_M} {n : Nat} {t k : Int} {κ : Int → Int} (h : sp_tm d t) (hs : ∀ j : Int, 0 ≤ j → j < n → 0 ≤ d 0 (d 3 j) ∧ d 0 (d 3 j) ≤ 1000000000) (hk : ∀ j : Int, 0 ≤ j → j < n → 0 ≤ κ j) (k0 : 0 ≤ k) (k1 : k < n) : 0 ≤ sp_tk d n t κ k ∧ sp_tk d n t κ k ≤ κ k := by
  unfold sp_tk
  by_cases h2 : d 8 t < 2
  · rw [if_pos h2]
    unfold sp_tkP
    have := hk k k0 k1
    by_cases hc : sp_cnt d (d 9 t) k
    · rw [if_pos hc]
      have hp := sp_part_b (k := d 8 t) h.2.1 h.2.2.1 (hs k k0 k1) h.2.2.2.2.2
      exact rd_part_b (hk k k0 k1) hp.1 hp.2
    · rw [if_neg hc]; omega
  · rw [if_neg h2]
    by_cases h3 : d 8 t = 2
    · rw [if_pos h3]; exact sp_tkX_b h hk k0 k1
    · rw [if_neg h3]
      by_cases h4 : d 8 t = 3
      · rw [if_pos h4]; exact (sp_ev_b h hk 9).1 k k0 k1
      · rw [if_neg h4]
        have hA : 0 ≤ sp_sum n (sp_in d (d 9 t)) κ := sp_sum_nn hk
        have hL := sp_Lt_b h hA
        exact sp_spr_b (fun k a b _ => hk k a b) hL.1 hL.2.1 k0 k1 (hk k k0 k1)
theorem sp_spr_out {n : Nat} {p κ : Int → Int} {v all k : Int} (h : p k ≠ 1) : sp_spr n p κ v all k = 0 := by
  unfold sp_spr
  rw [if_neg h]
  split <;> rfl
theorem sp_ev_out {d : rd_M} {n : Nat} {t k : Int} {κ : Int → Int} (h : ¬ sp_cnt d (d 9 t) k) : ∀ e : Nat, (sp_ev d n t κ e).1 k = 0
  | 0 => rfl
  | e + 1 => by
    by_cases ho : sp_evO d n t κ e < 0
    · rw [sp_ev_n ho]; exact sp_ev_out h e
    · rw [sp_ev_p ho]
      show (sp_ev d n t κ e).1 k + sp_spr _ _ _ _ _ _ = 0
      rw [sp_ev_out h e, sp_spr_out]
      · rfl
      · have hE : sp_inE d (d 9 t) (e + 1) k ≠ 1 := by unfold sp_inE; rw [if_neg (fun z => h z.1)]; omega
        unfold sp_inW
        rw [if_neg (fun z => hE z.1)]; omega
/-- of a claim that does not count nothing is taken -/
theorem sp_tk_out {d : rd_M} {n : Nat} {t k : Int} {κ : Int → Int} (h : ¬ sp_cnt d (d 9 t) k) : sp_tk d n t κ k = 0 := by
  have hi : sp_in d (d 9 t) k ≠ 1 := by unfold sp_in; rw [if_neg h]; omega
  unfold sp_tk
  split
  · exact if_neg h
  · split
    · exact if_neg hi
    · split
      · exact sp_ev_out h 9
      · exact sp_spr_out hi

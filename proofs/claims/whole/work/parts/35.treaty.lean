/-! cession: a treaty takes; a year is worked out -/
/-- what a risk's premium gives to a quota or a surplus -/
def sp_pm (d : rd_M) (t : Int) (l : Int → Int) (r : Int) : Int := if 0 < d 0 r ∧ d 2 r = d 9 t then (l r * sp_part (d 8 t) (d 10 t) (d 11 t) (d 0 r)).tdiv 1000000 else 0
/-- a treaty takes: 0 kept, 1 ceded, 2 taken, 3 windows, 4 premiums left, 5 premiums to treaties -/
def sp_ap (d : rd_M) (n : Nat) (t : Int) (Z : rd_M) : rd_M := fun q => match q with
  | 0 => fun k => if 0 ≤ k ∧ k < n then Z 0 k - sp_tk d n t (Z 0) k else Z 0 k
  | 1 => fun j => if t * 40 ≤ j ∧ j < t * 40 + n then Z 1 j + sp_tk d n t (Z 0) (j - t * 40) else Z 1 j
  | 2 => fun j => if j = t then Z 2 j + rd_sm (sp_tk d n t (Z 0)) n else Z 2 j
  | 3 => fun j => if d 8 t = 3 ∧ t * 10 + 1 ≤ j ∧ j < t * 10 + 10 then sp_evO d n t (Z 0) (j - t * 10 - 1).toNat else Z 3 j
  | 4 => fun r => if d 8 t < 2 ∧ 0 ≤ r ∧ r < 12 then Z 4 r - sp_pm d t (Z 4) r else Z 4 r
  | q => fun j => if d 8 t < 2 ∧ j = t then Z q j + rd_sm (sp_pm d t (Z 4)) 12 else Z q j
/-- the class's rows of a year -/
def c_z (M : rd_M) : rd_M := fun q => match q with
  | 0 => M 24 | 1 => M 25 | 2 => M 26 | 3 => M 27 | 4 => M 28 | _ => M 29
theorem c_z_ap {M M' : rd_M} {d : rd_M} {n : Nat} {t : Int} (h24 : ∀ k, M' 24 k = if 0 ≤ k ∧ k < n then M 24 k - sp_tk d n t (M 24) k else M 24 k) (h25 : ∀ j, M' 25 j = if t * 40 ≤ j ∧ j < t * 40 + n then M 25 j + sp_tk d n t (M 24) (j - t * 40) else M 25 j) (h26 : ∀ j, M' 26 j = if j = t then M 26 j + rd_sm (sp_tk d n t (M 24)) n else M 26 j)
    (h27 : ∀ j, M' 27 j = if d 8 t = 3 ∧ t * 10 + 1 ≤ j ∧ j < t * 10 + 10 then sp_evO d n t (M 24) (j - t * 10 - 1).toNat else M 27 j) (h28 : ∀ r, M' 28 r = if d 8 t < 2 ∧ 0 ≤ r ∧ r < 12 then M 28 r - sp_pm d t (M 28) r else M 28 r) (h29 : ∀ j, M' 29 j = if d 8 t < 2 ∧ j = t then M 29 j + rd_sm (sp_pm d t (M 28)) 12 else M 29 j) : c_z M' = sp_ap d n t (c_z M) := by
  funext q j
  match q with
  | 0 => exact h24 j
  | 1 => exact h25 j
  | 2 => exact h26 j
  | 3 => exact h27 j
  | 4 => exact h28 j
  | q + 5 => exact h29 j
/-- places that a year's work leaves -/
def c_fr (M' M : rd_M) : Prop := ∀ q, q ≠ 4 → (q < 24 ∨ 31 < q) → M' q = M q
theorem c_fr.trans {A B C : rd_M} (h : c_fr A B) (h' : c_fr B C) : c_fr A C := fun q a b => (h q a b).trans (h' q a b)
theorem c_fr.refl {A : rd_M} : c_fr A A := fun _ _ _ => rfl
theorem c_fr.sm {A B : rd_M} (h : c_sm A B) : c_fr A B := fun q a b => h q a (by omega) (by omega)
theorem c_fr.tks {M : rd_M} {t : Int} {n : Nat} {w : Int → Int} : c_fr (c_tks M t n w) M := fun q _ b => c_tks_ne (by omega) (by omega) (by omega)
theorem c_fr.prm {M : rd_M} {t : Int} {u : Int → Int} : c_fr (c_prm M t u) M := fun q _ b => c_prm_ne (by omega) (by omega)
theorem c_fr.wn {M : rd_M} {t : Int} {E : Nat} {o : Nat → Int} : c_fr (c_wn M t E o) M := fun q _ b => c_wn_ne (by omega)
theorem c_fr.low {M M' : rd_M} (h : c_fr M' M) (q : Nat) (h4 : q ≠ 4) (hq : q ≤ 23) : M' q = M q := h q h4 (by omega)
theorem c_fr.I {M M' : rd_M} (h : c_fr M' M) (hI : c_I M) : c_I M' := by
  unfold c_I at *
  rw [h.low 2 (by decide) (by decide), h.low 3 (by decide) (by decide), h.low 5 (by decide) (by decide), h.low 7 (by decide) (by decide), h.low 8 (by decide) (by decide), h.low 9 (by decide) (by decide), h.low 10 (by decide) (by decide), h.low 11 (by decide) (by decide), h.low 12 (by decide) (by decide), h.low 13 (by decide) (by decide), h.low 14 (by decide) (by decide), h.low 15 (by decide) (by decide), h.low 16 (by decide) (by decide), h.low 17 (by decide) (by decide), h.low 18 (by decide) (by decide), h.low 19 (by decide) (by decide), h.low 20 (by decide) (by decide), h.low 21 (by decide) (by decide), h.low 22 (by decide) (by decide)]
  exact hI
theorem c_fr.d {M M' : rd_M} (h : c_fr M' M) : c_d M' = c_d M := by
  funext q
  unfold c_d
  split <;> exact h.low _ (by decide) (by decide)
theorem c_fr.Q {M M' : rd_M} (h : c_fr M' M) (hC : c_Q M) : c_Q M' := by
  unfold c_Q at *
  rw [h.low 16 (by decide) (by decide), h.low 18 (by decide) (by decide)]
  exact hC
theorem c_fr.H {M M' : rd_M} {n : Nat} {o : Int → Int} (h : c_fr M' M) (hH : c_H M n o) : c_H M' n o := by
  unfold c_H at *
  rw [h.low 15 (by decide) (by decide), h.low 12 (by decide) (by decide)]
  exact hH
theorem sp_pm_eq {M : rd_M} {t r : Int} (hr : M 9 r ≠ M 17 t → M 28 r = 0) : (M 28 r * sp_part (M 16 t) (M 18 t) (M 19 t) (M 7 r)).tdiv 1000000 = sp_pm (c_d M) t (M 28) r := by
  show _ = if 0 < M 7 r ∧ M 9 r = M 17 t then (M 28 r * sp_part (M 16 t) (M 18 t) (M 19 t) (M 7 r)).tdiv 1000000 else 0
  by_cases hs : 0 < M 7 r
  · by_cases hy : M 9 r = M 17 t
    · rw [if_pos ⟨hs, hy⟩]
    · rw [if_neg (fun z => hy z.2), hr hy, Int.zero_mul]; rfl
  · rw [if_neg (fun z => hs z.1)]
    unfold sp_part
    rw [if_pos (by omega), Int.mul_zero]; rfl
theorem sp_tk_q {d : rd_M} {n : Nat} {t : Int} {κ : Int → Int} (h : d 8 t < 2) : sp_tk d n t κ = sp_tkP d t κ := if_pos h
theorem sp_tk_x {d : rd_M} {n : Nat} {t : Int} {κ : Int → Int} (h : d 8 t = 2) : sp_tk d n t κ = sp_tkX d n t κ := by
  unfold sp_tk; rw [if_neg (by omega), if_pos h]
theorem sp_tk_e {d : rd_M} {n : Nat} {t : Int} {κ : Int → Int} (h : d 8 t = 3) : sp_tk d n t κ = sp_tkE d n t κ := by
  unfold sp_tk; rw [if_neg (by omega), if_neg (by omega), if_pos h]
theorem sp_tk_s {d : rd_M} {n : Nat} {t : Int} {κ : Int → Int} (h : 3 < d 8 t) : sp_tk d n t κ = sp_tkS d n t κ := by
  unfold sp_tk; rw [if_neg (by omega), if_neg (by omega), if_neg (by omega)]
theorem c_z_q {M : rd_M} {n : Nat} {t : Int} (hk : M 16 t < 2) (hr : ∀ r : Int, 0 ≤ r → r < 12 → M 9 r ≠ M 17 t → M 28 r = 0) : c_z (c_tks (c_prm M t (fun r => (M 28 r * sp_part (M 16 t) (M 18 t) (M 19 t) (M 7 r)).tdiv 1000000)) t n (sp_tkP (c_d M) t (M 24))) = sp_ap (c_d M) n t (c_z M) := by
  have hk' : c_d M 8 t < 2 := hk
  have hu : c_prm M t (fun r => (M 28 r * sp_part (M 16 t) (M 18 t) (M 19 t) (M 7 r)).tdiv 1000000) = c_prm M t (sp_pm (c_d M) t (M 28)) := c_prm_congr (fun r a b => sp_pm_eq (hr r a b))
  rw [hu, ← sp_tk_q (n := n) hk']
  refine c_z_ap (fun k => ?_) (fun j => ?_) (fun j => ?_) (fun j => ?_) (fun r => ?_) (fun j => ?_)
  · rw [c_tks_24, c_prm_ne (by decide) (by decide)]
  · rw [c_tks_25, c_prm_ne (by decide) (by decide)]
  · rw [c_tks_26, c_prm_ne (by decide) (by decide)]
  · rw [c_tks_ne (by decide) (by decide) (by decide), c_prm_ne (by decide) (by decide), if_neg (fun z => by have := z.1; omega)]
  · rw [c_tks_ne (by decide) (by decide) (by decide), c_prm_28]
    by_cases h : 0 ≤ r ∧ r < 12
    · rw [if_pos h, if_pos ⟨hk', h⟩]
    · rw [if_neg h, if_neg (fun z => h z.2)]
  · rw [c_tks_ne (by decide) (by decide) (by decide), c_prm_29]
    by_cases h : j = t
    · rw [if_pos h, if_pos ⟨hk', h⟩]
    · rw [if_neg h, if_neg (fun z => h z.2)]
theorem c_z_t {M : rd_M} {n : Nat} {t : Int} (hk : ¬ M 16 t < 2) (hk3 : M 16 t ≠ 3) : c_z (c_tks M t n (sp_tk (c_d M) n t (M 24))) = sp_ap (c_d M) n t (c_z M) := by
  have hk' : ¬ c_d M 8 t < 2 := hk
  have hk3' : c_d M 8 t ≠ 3 := hk3
  refine c_z_ap (fun k => c_tks_24) (fun j => c_tks_25) (fun j => c_tks_26) (fun j => ?_) (fun r => ?_) (fun j => ?_)
  · rw [c_tks_ne (by decide) (by decide) (by decide), if_neg (fun z => hk3' z.1)]
  · rw [c_tks_ne (by decide) (by decide) (by decide), if_neg (fun z => hk' z.1)]
  · rw [c_tks_ne (by decide) (by decide) (by decide), if_neg (fun z => hk' z.1)]
theorem c_z_e {M : rd_M} {n : Nat} {t : Int} (hk3 : M 16 t = 3) : c_z (c_wn (c_tks M t n (sp_tkE (c_d M) n t (M 24))) t 9 (sp_evO (c_d M) n t (M 24))) = sp_ap (c_d M) n t (c_z M) := by
  have hk3' : c_d M 8 t = 3 := hk3
  rw [← sp_tk_e hk3']
  refine c_z_ap (fun k => ?_) (fun j => ?_) (fun j => ?_) (fun j => ?_) (fun r => ?_) (fun j => ?_)
  · rw [c_wn_ne (by decide), c_tks_24]
  · rw [c_wn_ne (by decide), c_tks_25]
  · rw [c_wn_ne (by decide), c_tks_26]
  · rw [c_wn_27, c_tks_ne (by decide) (by decide) (by decide)]
    by_cases h : t * 10 + 1 ≤ j ∧ j < t * 10 + 10
    · rw [if_pos (by omega), if_pos ⟨hk3', h⟩]
    · rw [if_neg (by omega), if_neg (fun z => h z.2)]
  · rw [c_wn_ne (by decide), c_tks_ne (by decide) (by decide) (by decide), if_neg (by omega)]
  · rw [c_wn_ne (by decide), c_tks_ne (by decide) (by decide) (by decide), if_neg (by omega)]
theorem c_z_sm {A B : rd_M} (h : c_sm A B) : c_z A = c_z B := by
  funext q
  unfold c_z
  split <;> exact h _ (by decide) (by decide) (by decide)
set_option maxHeartbeats 4000000 in
set_option maxRecDepth 100000 in
theorem ev_S_cedeTo {t : Int} {n : Nat} {o : Int → Int} {M : rd_M} {Q : rd_R → rd_M → Prop} (hI : c_I M) (hC : c_Q M) (hn : M 2 0 = n) (hY : c_Y M (M 17 t)) (h0 : 0 ≤ t) (h1 : t < 10) (hH : c_H M n o) (hP : c_PL M) (hr : ∀ r : Int, 0 ≤ r → r < 12 → M 9 r ≠ M 17 t → M 28 r = 0) (hz : M 26 t = 0) (hw : ∀ e : Int, 1 ≤ e → e ≤ 9 → M 27 (t * 10 + e) = -1) (hQ : ∀ M', c_fr M' M → c_z M' = sp_ap (c_d M) n t (c_z M) → Q (.inl none) M') : rd_G x_S_cedeTo 0 [some (.ref 4), some (rd_i t)] [] M 0 Q := by
  obtain ⟨hk, hty, ha, hb, hc, hdd⟩ := hI.treaty h0 h1
  refine rd_aldn (pc := 0) d_S_cedeTo_0 rfl ?_
  refine rd_getr (pc := 1) d_S_cedeTo_1 fl_S_19 rfl rfl ?_
  refine rd_getr (pc := 4) d_S_cedeTo_4 fl_S_95 rfl rfl ?_
  refine rd_ildn (pc := 7) d_S_cedeTo_7 rfl ?_
  refine rd_iald (pc := 8) d_S_cedeTo_8 rfl (by omega) (by omega) ?_
  by_cases q9_0 : M 16 t = 0
  · skip
    refine rd_tswI (pc := 9) (c := 0) (off := 31) (tgt := 40) d_S_cedeTo_9 q9_0 rfl (by decide) (by decide) rfl rfl ?_
    refine rd_aldn (pc := 40) d_S_cedeTo_40 rfl ?_
    refine rd_ildn (pc := 41) d_S_cedeTo_41 rfl ?_
    refine rd_callVv (pc := 42) (n' := 0) [_] d_S_cedeTo_42 ml_S_102 rfl (Nat.le_of_ble_eq_true rfl) (Nat.le_of_ble_eq_true rfl) (Nat.le_of_ble_eq_true rfl) rfl rfl rfl (Nat.le_of_ble_eq_true rfl) (Nat.le_of_ble_eq_true rfl) ?_
    refine ev_S_cedePremiums hI hC hP h0 h1 ?_
    refine ⟨rfl, ?_⟩
    refine rd_aldn (pc := 45) d_S_cedeTo_45 rfl ?_
    refine rd_ildn (pc := 46) d_S_cedeTo_46 rfl ?_
    refine rd_callVv (pc := 47) (n' := 0) [_] d_S_cedeTo_47 ml_S_105 rfl (Nat.le_of_ble_eq_true rfl) (Nat.le_of_ble_eq_true rfl) (Nat.le_of_ble_eq_true rfl) rfl rfl rfl (Nat.le_of_ble_eq_true rfl) (Nat.le_of_ble_eq_true rfl) ?_
    have hf := c_fr.prm (M := M) (t := t) (u := (fun r => (M 28 r * sp_part (M 16 t) (M 18 t) (M 19 t) (M 7 r)).tdiv 1000000))
    have e24 : c_prm M t (fun r => (M 28 r * sp_part (M 16 t) (M 18 t) (M 19 t) (M 7 r)).tdiv 1000000) 24 = M 24 := c_prm_ne (by decide) (by decide)
    refine ev_S_cedePartOfEachClaim (n := n) (hf.I hI) (hf.Q hC) (by rw [hf.low 2 (by decide) (by decide)]; exact hn) ?_ h0 h1 ?_
    · intro k k0 k1
      rw [hf.low 2 (by decide) (by decide)] at k1
      rw [hf.low 23 (by decide) (by decide), hf.low 17 (by decide) (by decide), hf.d, e24]
      exact hY k k0 k1
    rw [hf.d, e24]
    refine ⟨rfl, ?_⟩
    refine rd_goto (pc := 50) (tgt := 74) d_S_cedeTo_50 rfl ?_
    exact rd_vret (pc := 74) d_S_cedeTo_74 rfl (Nat.le_of_ble_eq_true rfl) (by
      first
      | exact hQ _ ((c_fr.sm hS5).trans (c_fr.wn.trans c_fr.tks)) (by rw [c_z_sm hS5]; exact c_z_e (by omega))
      | exact hQ _ ((c_fr.sm hS5).trans c_fr.tks) (by rw [c_z_sm hS5, ← sp_tk_s (show 3 < c_d M 8 t from (by omega : 3 < M 16 t))]; exact c_z_t (by omega) (by omega))
      | exact hQ _ (c_fr.tks.trans c_fr.prm) (c_z_q (by omega) hr)
      | exact hQ _ c_fr.tks (by rw [← sp_tk_x (show c_d M 8 t = 2 from (by omega : M 16 t = 2))]; exact c_z_t (by omega) (by omega)))
  by_cases q9_1 : M 16 t = 1
  · skip
    refine rd_tswI (pc := 9) (c := 1) (off := 31) (tgt := 40) d_S_cedeTo_9 q9_1 rfl (by decide) (by decide) rfl rfl ?_
    refine rd_aldn (pc := 40) d_S_cedeTo_40 rfl ?_
    refine rd_ildn (pc := 41) d_S_cedeTo_41 rfl ?_
    refine rd_callVv (pc := 42) (n' := 0) [_] d_S_cedeTo_42 ml_S_102 rfl (Nat.le_of_ble_eq_true rfl) (Nat.le_of_ble_eq_true rfl) (Nat.le_of_ble_eq_true rfl) rfl rfl rfl (Nat.le_of_ble_eq_true rfl) (Nat.le_of_ble_eq_true rfl) ?_
    refine ev_S_cedePremiums hI hC hP h0 h1 ?_
    refine ⟨rfl, ?_⟩
    refine rd_aldn (pc := 45) d_S_cedeTo_45 rfl ?_
    refine rd_ildn (pc := 46) d_S_cedeTo_46 rfl ?_
    refine rd_callVv (pc := 47) (n' := 0) [_] d_S_cedeTo_47 ml_S_105 rfl (Nat.le_of_ble_eq_true rfl) (Nat.le_of_ble_eq_true rfl) (Nat.le_of_ble_eq_true rfl) rfl rfl rfl (Nat.le_of_ble_eq_true rfl) (Nat.le_of_ble_eq_true rfl) ?_
    have hf := c_fr.prm (M := M) (t := t) (u := (fun r => (M 28 r * sp_part (M 16 t) (M 18 t) (M 19 t) (M 7 r)).tdiv 1000000))
    have e24 : c_prm M t (fun r => (M 28 r * sp_part (M 16 t) (M 18 t) (M 19 t) (M 7 r)).tdiv 1000000) 24 = M 24 := c_prm_ne (by decide) (by decide)
    refine ev_S_cedePartOfEachClaim (n := n) (hf.I hI) (hf.Q hC) (by rw [hf.low 2 (by decide) (by decide)]; exact hn) ?_ h0 h1 ?_
    · intro k k0 k1
      rw [hf.low 2 (by decide) (by decide)] at k1
      rw [hf.low 23 (by decide) (by decide), hf.low 17 (by decide) (by decide), hf.d, e24]
      exact hY k k0 k1
    rw [hf.d, e24]
    refine ⟨rfl, ?_⟩
    refine rd_goto (pc := 50) (tgt := 74) d_S_cedeTo_50 rfl ?_
    exact rd_vret (pc := 74) d_S_cedeTo_74 rfl (Nat.le_of_ble_eq_true rfl) (by
      first
      | exact hQ _ ((c_fr.sm hS5).trans (c_fr.wn.trans c_fr.tks)) (by rw [c_z_sm hS5]; exact c_z_e (by omega))
      | exact hQ _ ((c_fr.sm hS5).trans c_fr.tks) (by rw [c_z_sm hS5, ← sp_tk_s (show 3 < c_d M 8 t from (by omega : 3 < M 16 t))]; exact c_z_t (by omega) (by omega))
      | exact hQ _ (c_fr.tks.trans c_fr.prm) (c_z_q (by omega) hr)
      | exact hQ _ c_fr.tks (by rw [← sp_tk_x (show c_d M 8 t = 2 from (by omega : M 16 t = 2))]; exact c_z_t (by omega) (by omega)))
  by_cases q9_2 : M 16 t = 2
  · skip
    refine rd_tswI (pc := 9) (c := 2) (off := 44) (tgt := 53) d_S_cedeTo_9 q9_2 rfl (by decide) (by decide) rfl rfl ?_
    refine rd_aldn (pc := 53) d_S_cedeTo_53 rfl ?_
    refine rd_ildn (pc := 54) d_S_cedeTo_54 rfl ?_
    refine rd_callVv (pc := 55) (n' := 0) [_] d_S_cedeTo_55 ml_S_108 rfl (Nat.le_of_ble_eq_true rfl) (Nat.le_of_ble_eq_true rfl) (Nat.le_of_ble_eq_true rfl) rfl rfl rfl (Nat.le_of_ble_eq_true rfl) (Nat.le_of_ble_eq_true rfl) ?_
    refine ev_S_cedeExcessOfEachClaim hI hC hn hY h0 h1 hH hz ?_
    refine ⟨rfl, ?_⟩
    refine rd_goto (pc := 58) (tgt := 74) d_S_cedeTo_58 rfl ?_
    exact rd_vret (pc := 74) d_S_cedeTo_74 rfl (Nat.le_of_ble_eq_true rfl) (by
      first
      | exact hQ _ ((c_fr.sm hS5).trans (c_fr.wn.trans c_fr.tks)) (by rw [c_z_sm hS5]; exact c_z_e (by omega))
      | exact hQ _ ((c_fr.sm hS5).trans c_fr.tks) (by rw [c_z_sm hS5, ← sp_tk_s (show 3 < c_d M 8 t from (by omega : 3 < M 16 t))]; exact c_z_t (by omega) (by omega))
      | exact hQ _ (c_fr.tks.trans c_fr.prm) (c_z_q (by omega) hr)
      | exact hQ _ c_fr.tks (by rw [← sp_tk_x (show c_d M 8 t = 2 from (by omega : M 16 t = 2))]; exact c_z_t (by omega) (by omega)))
  by_cases q9_3 : M 16 t = 3
  · skip
    refine rd_tswI (pc := 9) (c := 3) (off := 52) (tgt := 61) d_S_cedeTo_9 q9_3 rfl (by decide) (by decide) rfl rfl ?_
    refine rd_aldn (pc := 61) d_S_cedeTo_61 rfl ?_
    refine rd_ildn (pc := 62) d_S_cedeTo_62 rfl ?_
    refine rd_callVv (pc := 63) (n' := 0) [_] d_S_cedeTo_63 ml_S_111 rfl (Nat.le_of_ble_eq_true rfl) (Nat.le_of_ble_eq_true rfl) (Nat.le_of_ble_eq_true rfl) rfl rfl rfl (Nat.le_of_ble_eq_true rfl) (Nat.le_of_ble_eq_true rfl) ?_
    refine ev_S_cedeExcessOfEachEvent hI hC hn hY h0 h1 hz hw (fun M5 hS5 => ?_)
    refine ⟨rfl, ?_⟩
    refine rd_goto (pc := 66) (tgt := 74) d_S_cedeTo_66 rfl ?_
    exact rd_vret (pc := 74) d_S_cedeTo_74 rfl (Nat.le_of_ble_eq_true rfl) (by
      first
      | exact hQ _ ((c_fr.sm hS5).trans (c_fr.wn.trans c_fr.tks)) (by rw [c_z_sm hS5]; exact c_z_e (by omega))
      | exact hQ _ ((c_fr.sm hS5).trans c_fr.tks) (by rw [c_z_sm hS5, ← sp_tk_s (show 3 < c_d M 8 t from (by omega : 3 < M 16 t))]; exact c_z_t (by omega) (by omega))
      | exact hQ _ (c_fr.tks.trans c_fr.prm) (c_z_q (by omega) hr)
      | exact hQ _ c_fr.tks (by rw [← sp_tk_x (show c_d M 8 t = 2 from (by omega : M 16 t = 2))]; exact c_z_t (by omega) (by omega)))
  refine rd_tswO (pc := 9) (tgt := 69) d_S_cedeTo_9 ⟨by omega, by omega⟩ (by omega) rfl ?_
  refine rd_aldn (pc := 69) d_S_cedeTo_69 rfl ?_
  refine rd_ildn (pc := 70) d_S_cedeTo_70 rfl ?_
  refine rd_callVv (pc := 71) (n' := 0) [_] d_S_cedeTo_71 ml_S_114 rfl (Nat.le_of_ble_eq_true rfl) (Nat.le_of_ble_eq_true rfl) (Nat.le_of_ble_eq_true rfl) rfl rfl rfl (Nat.le_of_ble_eq_true rfl) (Nat.le_of_ble_eq_true rfl) ?_
  refine ev_S_cedeStopLoss hI hC hn hY h0 h1 (fun M5 hS5 => ?_)
  refine ⟨rfl, ?_⟩
  exact rd_vret (pc := 74) d_S_cedeTo_74 rfl (Nat.le_of_ble_eq_true rfl) (by
      first
      | exact hQ _ ((c_fr.sm hS5).trans (c_fr.wn.trans c_fr.tks)) (by rw [c_z_sm hS5]; exact c_z_e (by omega))
      | exact hQ _ ((c_fr.sm hS5).trans c_fr.tks) (by rw [c_z_sm hS5, ← sp_tk_s (show 3 < c_d M 8 t from (by omega : 3 < M 16 t))]; exact c_z_t (by omega) (by omega))
      | exact hQ _ (c_fr.tks.trans c_fr.prm) (c_z_q (by omega) hr)
      | exact hQ _ c_fr.tks (by rw [← sp_tk_x (show c_d M 8 t = 2 from (by omega : M 16 t = 2))]; exact c_z_t (by omega) (by omega)))

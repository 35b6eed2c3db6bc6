/-! cession: the excess of each event, and stop loss -/
/-- windows of the first E events stand -/
def c_wn (M : rd_M) (t : Int) (E : Nat) (o : Nat → Int) : rd_M := fun q => if q = 27 then (fun j => if t * 10 + 1 ≤ j ∧ j < t * 10 + 1 + E then o (j - t * 10 - 1).toNat else M 27 j) else M q
theorem c_wn_ne {M : rd_M} {t : Int} {E : Nat} {o : Nat → Int} {q : Nat} (h : q ≠ 27) : c_wn M t E o q = M q := by
  unfold c_wn; rw [if_neg h]
theorem c_wn_27 {M : rd_M} {t j : Int} {E : Nat} {o : Nat → Int} : c_wn M t E o 27 j = if t * 10 + 1 ≤ j ∧ j < t * 10 + 1 + E then o (j - t * 10 - 1).toNat else M 27 j := rfl
theorem c_wn_up {M : rd_M} {t : Int} {E : Nat} {o : Nat → Int} : rd_up (c_wn M t E o) 27 (t * 10 + (E + 1)) (o E) = c_wn M t (E + 1) o := by
  funext q j
  by_cases hq : q = 27
  · subst hq
    rw [rd_up_at, c_wn_27, c_wn_27]
    by_cases hj : j = t * 10 + (E + 1)
    · rw [if_pos hj, if_pos (by omega), show (j - t * 10 - 1).toNat = E by omega]
    · rw [if_neg hj]
      by_cases h2 : t * 10 + 1 ≤ j ∧ j < t * 10 + 1 + E
      · rw [if_pos h2, if_pos (by omega)]
      · rw [if_neg h2, if_neg (by omega)]
  · rw [rd_up_app hq, c_wn_ne hq, c_wn_ne hq]
theorem c_wn_no {M : rd_M} {t : Int} {E : Nat} {o : Nat → Int} (h : M 27 (t * 10 + (E + 1)) = o E) : c_wn M t E o = c_wn M t (E + 1) o := by
  funext q j
  by_cases hq : q = 27
  · subst hq
    rw [c_wn_27, c_wn_27]
    by_cases hj : j = t * 10 + (E + 1)
    · rw [if_neg (by omega), if_pos (by omega), show (j - t * 10 - 1).toNat = E by omega, hj, h]
    · by_cases h2 : t * 10 + 1 ≤ j ∧ j < t * 10 + 1 + E
      · rw [if_pos h2, if_pos (by omega)]
      · rw [if_neg h2, if_neg (by omega)]
  · rw [c_wn_ne hq, c_wn_ne hq]
theorem c_wn_0 {M : rd_M} {t : Int} {o : Nat → Int} : c_wn M t 0 o = M := by
  funext q j
  by_cases hq : q = 27
  · subst hq; rw [c_wn_27, if_neg (by omega)]
  · rw [c_wn_ne hq]
theorem c_tks_wn {M : rd_M} {t : Int} {n E : Nat} {o : Nat → Int} {w : Int → Int} : c_tks (c_wn M t E o) t n w = c_wn (c_tks M t n w) t E o := by
  funext q j
  by_cases h1 : q = 24
  · subst h1; rw [c_wn_ne (by decide), c_tks_24, c_tks_24, c_wn_ne (by decide)]
  · by_cases h2 : q = 25
    · subst h2; rw [c_wn_ne (by decide), c_tks_25, c_tks_25, c_wn_ne (by decide)]
    · by_cases h3 : q = 26
      · subst h3; rw [c_wn_ne (by decide), c_tks_26, c_tks_26, c_wn_ne (by decide)]
      · rw [c_tks_ne h1 h2 h3]
        by_cases hq : q = 27
        · subst hq; rw [c_wn_27, c_wn_27, c_tks_ne h1 h2 h3]
        · rw [c_wn_ne hq, c_wn_ne hq, c_tks_ne h1 h2 h3]
theorem c_sm.upr {A B : rd_M} {q : Nat} {i v : Int} (h : c_sm A B) (hq : q ≠ 4 ∧ q ≠ 30 ∧ q ≠ 31) : c_sm (rd_up A q i v) (rd_up B q i v) := fun r a b c => by
  funext j
  by_cases hr : r = q
  · subst hr; rw [rd_up_at, rd_up_at, h r a b c]
  · rw [rd_up_app hr, rd_up_app hr, h r a b c]
/-- behind E events, but for windows -/
def c_F (M : rd_M) (n : Nat) (t : Int) (E : Nat) (M1 : rd_M) : Prop := ∀ q, q ≠ 4 → q ≠ 27 → q ≠ 30 → q ≠ 31 → M1 q = c_tks M t n (sp_ev (c_d M) n t (M 24) E).1 q
def c_E (M : rd_M) (n : Nat) (t : Int) (E : Nat) (M1 : rd_M) : Prop := c_sm M1 (c_wn (c_tks M t n (sp_ev (c_d M) n t (M 24) E).1) t E (sp_evO (c_d M) n t (M 24)))
theorem c_E.f {M M1 : rd_M} {n E : Nat} {t : Int} (h : c_E M n t E M1) : c_F M n t E M1 := fun q a b c e => by rw [h q a c e, c_wn_ne b]
theorem c_F.sm {M M1 M2 : rd_M} {n E : Nat} {t : Int} (h : c_F M n t E M1) (h2 : c_sm M2 M1) : c_F M n t E M2 := fun q a b c e => by rw [h2 q a c e, h q a b c e]
theorem c_F.up {M M1 : rd_M} {n E : Nat} {t i v : Int} (h : c_F M n t E M1) : c_F M n t E (rd_up M1 27 i v) := fun q a b c e => by rw [rd_up_ne b, h q a b c e]
theorem c_F.low {M M1 : rd_M} {n E : Nat} {t : Int} (h : c_F M n t E M1) (q : Nat) (h4 : q ≠ 4) (hq : q ≤ 23) : M1 q = M q := by
  rw [h q h4 (by omega) (by omega) (by omega), c_tks_ne (by omega) (by omega) (by omega)]
theorem c_F.I {M M1 : rd_M} {n E : Nat} {t : Int} (h : c_F M n t E M1) (hI : c_I M) : c_I M1 := by
  unfold c_I at *
  rw [h.low 2 (by decide) (by decide), h.low 3 (by decide) (by decide), h.low 5 (by decide) (by decide), h.low 7 (by decide) (by decide), h.low 8 (by decide) (by decide), h.low 9 (by decide) (by decide), h.low 10 (by decide) (by decide), h.low 11 (by decide) (by decide), h.low 12 (by decide) (by decide), h.low 13 (by decide) (by decide), h.low 14 (by decide) (by decide), h.low 15 (by decide) (by decide), h.low 16 (by decide) (by decide), h.low 17 (by decide) (by decide), h.low 18 (by decide) (by decide), h.low 19 (by decide) (by decide), h.low 20 (by decide) (by decide), h.low 21 (by decide) (by decide), h.low 22 (by decide) (by decide)]
  exact hI
theorem c_F.d {M M1 : rd_M} {n E : Nat} {t : Int} (h : c_F M n t E M1) : c_d M1 = c_d M := by
  funext q
  unfold c_d
  split <;> exact h.low _ (by decide) (by decide)
theorem c_F.k {M M1 : rd_M} {n E : Nat} {t k : Int} (h : c_F M n t E M1) (k0 : 0 ≤ k) (k1 : k < n) : M1 24 k = sp_evK (c_d M) n t (M 24) E k := by
  rw [h 24 (by decide) (by decide) (by decide) (by decide), c_tks_24, if_pos ⟨k0, k1⟩]; rfl
theorem c_F.kb {M M1 : rd_M} {n E : Nat} {t k : Int} (h : c_F M n t E M1) (hn : M 2 0 = n) (hY : c_Y M (M 17 t)) (htm : sp_tm (c_d M) t) (k0 : 0 ≤ k) (k1 : k < n) : 0 ≤ M1 24 k ∧ M1 24 k ≤ 1000000000 := by
  have h1 := (sp_ev_b (d := c_d M) (n := n) (κ := M 24) htm (fun j a b => (hY.cnt hn a b).2.1.1) E).1 k k0 k1
  have h2 := (hY.cnt hn k0 k1).2.1
  rw [h.k k0 k1]; unfold sp_evK; omega
theorem c_F.Y {M M1 : rd_M} {n E : Nat} {t : Int} (h : c_F M n t E M1) (hn : M 2 0 = n) (hY : c_Y M (M 17 t)) (htm : sp_tm (c_d M) t) : c_Y M1 (M 17 t) := by
  intro k k0 k1
  rw [h.low 2 (by decide) (by decide), hn] at k1
  obtain ⟨y1, y2, y3⟩ := hY.cnt hn k0 k1
  have hb := h.kb hn hY htm k0 k1
  rw [h.low 23 (by decide) (by decide), h.d]
  refine ⟨y1, hb.1, hb.2, fun z => ?_⟩
  have h0 := sp_ev_out (d := c_d M) (n := n) (t := t) (κ := M 24) z E
  rw [h.k k0 k1]; unfold sp_evK; rw [h0, y3 z]; rfl
theorem c_F.t {M M1 : rd_M} {n E : Nat} {t : Int} (h : c_F M n t E M1) (hn : M 2 0 = n) (hY : c_Y M (M 17 t)) (htm : sp_tm (c_d M) t) (hz : M 26 t = 0) : M1 26 t = sp_Tt (c_d M) t (sp_ev (c_d M) n t (M 24) E).2 := by
  have h1 := (sp_ev_b (d := c_d M) (n := n) (κ := M 24) htm (fun j a b => (hY.cnt hn a b).2.1.1) E).2.2.2
  rw [h 26 (by decide) (by decide) (by decide) (by decide), c_tks_26, if_pos rfl, hz, h1]; omega
theorem c_F.st {M M1 : rd_M} {n E : Nat} {t : Int} (h : c_F M n t E M1) : sp_st (c_d M1) n (M 17 t) (E + 1) (M1 24) n = sp_evO (c_d M) n t (M 24) E := by
  rw [h.d]
  exact sp_st_cg (fun j a b c => h.k a b) n
theorem c_F.a {M M1 : rd_M} {n E : Nat} {t : Int} (h : c_F M n t E M1) : sp_W (c_d M1) n (M 17 t) (E + 1) (M1 24) (sp_evO (c_d M) n t (M 24) E) = sp_evA (c_d M) n t (M 24) E := by
  rw [h.d]
  exact sp_W_cg (fun j a b c => h.k a b)
theorem c_E.skip {M M1 : rd_M} {n E : Nat} {t : Int} (h : c_E M n t E M1) (ho : sp_evO (c_d M) n t (M 24) E = -1) (hw : M 27 (t * 10 + (E + 1)) = -1) : c_E M n t (E + 1) M1 := by
  unfold c_E
  rw [sp_ev_n (by omega), ← c_wn_no (by rw [c_tks_ne (by decide) (by decide) (by decide), hw, ho])]
  exact h
theorem c_E.next {M M1 M2 M4 M5 : rd_M} {n E : Nat} {t : Int} (h : c_E M n t E M1) (h2 : c_sm M2 M1) (ho : ¬ sp_evO (c_d M) n t (M 24) E < 0) (h4 : c_sm M4 (rd_up M2 27 (t * 10 + (E + 1)) (sp_evO (c_d M) n t (M 24) E))) (h5 : c_sm M5 (c_tks M4 t n (sp_spr n (sp_inW (c_d M) (M 17 t) (E + 1) (sp_evO (c_d M) n t (M 24) E)) (M4 24) (sp_evV (c_d M) n t (M 24) E) (sp_evA (c_d M) n t (M 24) E)))) : c_E M n t (E + 1) M5 := by
  have hf4 : c_F M n t E M4 := ((h.f.sm h2).up).sm h4
  have ha : c_sm M4 (c_wn (c_tks M t n (sp_ev (c_d M) n t (M 24) E).1) t (E + 1) (sp_evO (c_d M) n t (M 24))) := by
    rw [← c_wn_up]
    exact h4.trans ((h2.trans h).upr (by decide))
  unfold c_E
  rw [sp_ev_p ho]
  refine h5.trans (ha.tks.trans ?_)
  rw [c_tks_wn, c_tks_tks, c_tks_congr (fun k a b => ?_)]
  · exact c_sm.refl
  · show _ + _ = _ + _
    rw [sp_spr_cg (fun j a b c => hf4.k a b) a b]
    rfl
set_option maxHeartbeats 4000000 in
set_option maxRecDepth 100000 in
theorem lq_S_cedeExcessOfEachEvent {t : Int} {n : Nat} {M : rd_M} {Q : rd_R → rd_M → Prop} (hI : c_I M) (hC : c_Q M) (hn : M 2 0 = n) (hY : c_Y M (M 17 t)) (h0 : 0 ≤ t) (h1 : t < 10) (hz : M 26 t = 0) (hw : ∀ e : Int, 1 ≤ e → e ≤ 9 → M 27 (t * 10 + e) = -1) (hQ : ∀ M', c_sm M' (c_wn (c_tks M t n (sp_tkE (c_d M) n t (M 24))) t 9 (sp_evO (c_d M) n t (M 24))) → Q (.inl none) M') : ∀ (d : Nat) (e L : Int) (E : Nat) (M1 : rd_M), (10 - e).toNat = d → (e = E + 1) → (E ≤ 9) → (L = (sp_ev (c_d M) n t (M 24) E).2) → (c_E M n t E M1) → rd_G x_S_cedeExcessOfEachEvent 5 [some (.ref 4), some (rd_i t), some (rd_l L), none, some (rd_i e), none] [] M1 0 Q := by
  intro d
  induction d using Nat.strongRecOn with
  | ind d ih =>
    intro e L E M1 hd he e1 hL hE
    have hn40 := hI.n hn
    have htm := hI.tm hC h0 h1
    have hf := hE.f
    have hI1 := hf.I hI
    have hkn : ∀ j : Int, 0 ≤ j → j < n → 0 ≤ M 24 j := fun j a b => (hY.cnt hn a b).2.1.1
    obtain ⟨b1, b2, b3, b4⟩ := sp_ev_b (d := c_d M) (n := n) (κ := M 24) htm hkn E
    have hn1 : M1 2 0 = n := by rw [hf.low 2 (by decide) (by decide), hn]
    have hY1 := hf.Y hn hY htm
    refine rd_ild (pc := 5) d_S_cedeExcessOfEachEvent_5 rfl ?_
    refine rd_bipush (pc := 7) d_S_cedeExcessOfEachEvent_7 rfl ?_
    refine rd_icmp_ge (pc := 9) (tgt := 101) d_S_cedeExcessOfEachEvent_9 rfl ⟨by omega, by omega⟩ ⟨by omega, by omega⟩ (fun h9 => ?_) (fun h9 => ?_)
    · skip
      exact rd_vret (pc := 101) d_S_cedeExcessOfEachEvent_101 rfl (Nat.le_of_ble_eq_true rfl) (by have : E = 9 := (by omega); subst this; exact hQ _ hE)
    · skip
      refine rd_aldn (pc := 12) d_S_cedeExcessOfEachEvent_12 rfl ?_
      refine rd_ild (pc := 13) d_S_cedeExcessOfEachEvent_13 rfl ?_
      refine rd_callVv (pc := 15) (n' := 0) [_] d_S_cedeExcessOfEachEvent_15 ml_S_139 rfl (Nat.le_of_ble_eq_true rfl) (Nat.le_of_ble_eq_true rfl) (Nat.le_of_ble_eq_true rfl) rfl rfl rfl (Nat.le_of_ble_eq_true rfl) (Nat.le_of_ble_eq_true rfl) ?_
      refine ev_S_gatherEvent (y := M 17 t) hI1 hn1 hY1 ⟨by omega, by omega⟩ (fun M2 hS2 hG2 => ?_)
      rw [hf.d] at hG2
      have hf2 := hf.sm hS2
      have hI2 := hf2.I hI
      have hn2 : M2 2 0 = n := by rw [hf2.low 2 (by decide) (by decide), hn]
      have hK2 : ∀ k : Int, 0 ≤ k → k < n → 0 ≤ M2 24 k ∧ M2 24 k ≤ 1000000000 := fun k a b => hf2.kb hn hY htm a b
      have g1 := hG2.1
      refine ⟨rfl, ?_⟩
      first | simp (decide := true) only [rd_up_app, rd_up_hit, g1, eM4_18, eM4_19, eM4_20, eM4_21, e26] | simp (decide := true) only [rd_up_app, rd_up_hit, g1] | skip
      have hsz := sp_cn_hi (n := n) (p := sp_inE (c_d M) (M 17 t) e)
      have hsn := sp_cn_nn (n := n) (p := sp_inE (c_d M) (M 17 t) e)
      refine rd_aldn (pc := 18) d_S_cedeExcessOfEachEvent_18 rfl ?_
      refine rd_gi (pc := 19) (ki := 11) d_S_cedeExcessOfEachEvent_19 fl_S_142 rfl rfl rfl ?_
      first | simp (decide := true) only [rd_up_app, rd_up_hit, g1, eM4_18, eM4_19, eM4_20, eM4_21, e26] | simp (decide := true) only [rd_up_app, rd_up_hit, g1] | skip
      refine rd_if_le (pc := 22) (tgt := 95) d_S_cedeExcessOfEachEvent_22 rfl ⟨by omega, by omega⟩ (fun h22 => ?_) (fun h22 => ?_)
      · skip
        refine rd_iinc4 (pc := 95) d_S_cedeExcessOfEachEvent_95 rfl ?_
        refine rd_goto (pc := 98) (tgt := 5) d_S_cedeExcessOfEachEvent_98 rfl ?_
        first
          | (refine rd_weak (L' := [some (.ref 4), some (rd_i t), some (rd_l ((sp_ev (c_d M) n t (M 24) E).2 + sp_layer (M 18 t) (M 19 t) (sp_evA (c_d M) n t (M 24) E))), none, some (rd_i (e + 1)), none]) (by simp [rd_le, he]) ?_
             refine ih _ (by omega) (e + 1) _ (E + 1) _ rfl (by omega) (by omega) (by rw [sp_ev_p (by omega)]; rfl) ?_
             exact hE.next hS2 (by omega) hS4 hS5)
          | (refine rd_weak (L' := [some (.ref 4), some (rd_i t), some (rd_l L), none, some (rd_i (e + 1)), none]) (by simp [rd_le]) ?_
             have ho : sp_evO (c_d M) n t (M 24) E = -1 := sp_st_n (by rw [← he]; show sp_cn n (sp_inE (c_d M) (M 17 t) e) ≤ 0; omega)
             refine ih _ (by omega) (e + 1) _ (E + 1) _ rfl (by omega) (by omega) (by rw [sp_ev_n (by omega)]; exact hL) ?_
             exact c_E.skip (hS2.trans hE) ho (hw _ (by omega) (by omega)))
      · skip
        refine rd_aldn (pc := 25) d_S_cedeExcessOfEachEvent_25 rfl ?_
        refine rd_callVi (pc := 26) (n' := 0) [] d_S_cedeExcessOfEachEvent_26 ml_S_145 rfl (Nat.le_of_ble_eq_true rfl) (Nat.le_of_ble_eq_true rfl) (Nat.le_of_ble_eq_true rfl) rfl rfl rfl (Nat.le_of_ble_eq_true rfl) (Nat.le_of_ble_eq_true rfl) ?_
        have hG2d : c_G M2 n (sp_inE (c_d M2) (M 17 t) e) := by rw [hf2.d]; exact hG2
        refine ev_S_startOfWindow (y := M 17 t) (e := e) hI2 hn2 hK2 hG2d ?_
        rw [he, hf2.st]
        have hop : 0 ≤ sp_evO (c_d M) n t (M 24) E := (by have hh := sp_st_p (d := c_d M) (n := n) (y := M 17 t) (e := (E : Int) + 1) (κ := sp_evK (c_d M) n t (M 24) E) (fun k a b => (hI.claim a b).2.2.1) n hn40 (by rw [← he]; omega); exact hh)
        have hob : sp_evO (c_d M) n t (M 24) E ≤ 100000 := (sp_st_b (d := c_d M) (n := n) (y := M 17 t) (e := (E : Int) + 1) (κ := sp_evK (c_d M) n t (M 24) E) (fun k a b => (hI.claim a b).2.2.1) n hn40).2
        rw [he] at hG2
        refine ⟨_, rfl, ?_⟩
        first | simp (decide := true) only [rd_up_app, rd_up_hit, g1, eM4_18, eM4_19, eM4_20, eM4_21, e26] | simp (decide := true) only [rd_up_app, rd_up_hit, g1] | skip
        refine rd_ist5 (pc := 29) d_S_cedeExcessOfEachEvent_29 rfl ?_
        refine rd_aldn (pc := 31) d_S_cedeExcessOfEachEvent_31 rfl ?_
        refine rd_getr (pc := 32) d_S_cedeExcessOfEachEvent_32 fl_S_38 rfl rfl ?_
        refine rd_ildn (pc := 35) d_S_cedeExcessOfEachEvent_35 rfl ?_
        refine rd_bipush (pc := 36) d_S_cedeExcessOfEachEvent_36 rfl ?_
        refine rd_imul (pc := 38) d_S_cedeExcessOfEachEvent_38 ?_
        refine rd_ild (pc := 39) d_S_cedeExcessOfEachEvent_39 rfl ?_
        refine rd_iadd (pc := 41) d_S_cedeExcessOfEachEvent_41 ?_
        refine rd_ild (pc := 42) d_S_cedeExcessOfEachEvent_42 rfl ?_
        refine rd_iast (pc := 44) d_S_cedeExcessOfEachEvent_44 rfl (by omega) (by omega) ?_
        refine rd_aldn (pc := 45) d_S_cedeExcessOfEachEvent_45 rfl ?_
        refine rd_ild (pc := 46) d_S_cedeExcessOfEachEvent_46 rfl ?_
        refine rd_callVv (pc := 48) (n' := 0) [_] d_S_cedeExcessOfEachEvent_48 ml_S_149 rfl (Nat.le_of_ble_eq_true rfl) (Nat.le_of_ble_eq_true rfl) (Nat.le_of_ble_eq_true rfl) rfl rfl rfl (Nat.le_of_ble_eq_true rfl) (Nat.le_of_ble_eq_true rfl) ?_
        refine ev_S_dropOutside (M := rd_up M2 27 (t * 10 + ((E : Int) + 1)) (sp_evO (c_d M) n t (M 24) E)) (p := sp_inE (c_d M) (M 17 t) (E + 1)) (p' := sp_inW (c_d M) (M 17 t) (E + 1) (sp_evO (c_d M) n t (M 24) E)) (hf2.up.I hI) (by rw [rd_up_app (by decide), hn2]) ⟨by rw [rd_up_app (by decide)]; exact hG2.1, by rw [rd_up_ne (by decide)]; exact hG2.2⟩ ⟨by omega, by omega⟩ (fun k => by rw [rd_up_ne (by decide), hf2.low 12 (by decide) (by decide)]; exact sp_inW_1) (fun M4 hS4 hG4 => ?_)
        have hf4 := hf2.up.sm hS4
        have hI4 := hf4.I hI
        have hn4 : M4 2 0 = n := by rw [hf4.low 2 (by decide) (by decide), hn]
        have hK4 : ∀ k : Int, 0 ≤ k → k < n → 0 ≤ M4 24 k ∧ M4 24 k ≤ 1000000000 := fun k a b => hf4.kb hn hY htm a b
        have hG4d : c_G M4 n (sp_inW (c_d M4) (M 17 t) (E + 1) (sp_evO (c_d M) n t (M 24) E)) := by rw [hf4.d]; exact hG4
        have hA := sp_W_b (d := c_d M4) (y := M 17 t) (e := (E : Int) + 1) (h := sp_evO (c_d M) n t (M 24) E) hn40 hK4
        rw [hf4.a] at hA
        have hLb := sp_Lt_b htm hA.1
        have hLb' : 0 ≤ sp_layer (M 18 t) (M 19 t) (sp_evA (c_d M) n t (M 24) E) ∧ sp_layer (M 18 t) (M 19 t) (sp_evA (c_d M) n t (M 24) E) ≤ 1000000000 := ⟨hLb.1, hLb.2.2⟩
        have hTb := sp_Tt_b (B := (sp_ev (c_d M) n t (M 24) E).2) (l := sp_Lt (c_d M) t (sp_evA (c_d M) n t (M 24) E)) htm b2 hLb.1
        have hVb : 0 ≤ sp_evV (c_d M) n t (M 24) E ∧ sp_evV (c_d M) n t (M 24) E ≤ sp_evA (c_d M) n t (M 24) E ∧ sp_evV (c_d M) n t (M 24) E ≤ 1000000000 := by unfold sp_evV; omega
        have eM4_18 : M4 18 = M 18 := hf4.low 18 (by decide) (by decide)
        have eM4_19 : M4 19 = M 19 := hf4.low 19 (by decide) (by decide)
        have eM4_20 : M4 20 = M 20 := hf4.low 20 (by decide) (by decide)
        have eM4_21 : M4 21 = M 21 := hf4.low 21 (by decide) (by decide)
        have e26 := hf4.t hn hY htm hz
        refine ⟨rfl, ?_⟩
        first | simp (decide := true) only [rd_up_app, rd_up_hit, g1, eM4_18, eM4_19, eM4_20, eM4_21, e26] | simp (decide := true) only [rd_up_app, rd_up_hit, g1] | skip
        refine rd_lldn (pc := 51) d_S_cedeExcessOfEachEvent_51 rfl ?_
        refine rd_aldn (pc := 52) d_S_cedeExcessOfEachEvent_52 rfl ?_
        refine rd_getr (pc := 53) d_S_cedeExcessOfEachEvent_53 fl_S_19 rfl rfl ?_
        refine rd_ildn (pc := 56) d_S_cedeExcessOfEachEvent_56 rfl ?_
        refine rd_aldn (pc := 57) d_S_cedeExcessOfEachEvent_57 rfl ?_
        refine rd_ild (pc := 58) d_S_cedeExcessOfEachEvent_58 rfl ?_
        refine rd_callVl (pc := 60) (n' := 0) [_] d_S_cedeExcessOfEachEvent_60 ml_S_152 rfl (Nat.le_of_ble_eq_true rfl) (Nat.le_of_ble_eq_true rfl) (Nat.le_of_ble_eq_true rfl) rfl rfl rfl (Nat.le_of_ble_eq_true rfl) (Nat.le_of_ble_eq_true rfl) ?_
        refine ev_S_keptFrom hI4 hn4 hK4 hG4d ⟨by omega, by omega⟩ ?_
        rw [sp_W_eq2, hf4.a]
        refine ⟨_, rfl, ?_⟩
        first | simp (decide := true) only [rd_up_app, rd_up_hit, g1, eM4_18, eM4_19, eM4_20, eM4_21, e26] | simp (decide := true) only [rd_up_app, rd_up_hit, g1] | skip
        refine rd_callVl (pc := 63) (n' := 0) [_, _] d_S_cedeExcessOfEachEvent_63 ml_S_133 rfl (Nat.le_of_ble_eq_true rfl) (Nat.le_of_ble_eq_true rfl) (Nat.le_of_ble_eq_true rfl) rfl rfl rfl (Nat.le_of_ble_eq_true rfl) (Nat.le_of_ble_eq_true rfl) ?_
        refine ev_T_layerOf hI4 h0 h1 ⟨by omega, by omega⟩ ?_
        refine ⟨_, rfl, ?_⟩
        first | simp (decide := true) only [rd_up_app, rd_up_hit, g1, eM4_18, eM4_19, eM4_20, eM4_21, e26] | simp (decide := true) only [rd_up_app, rd_up_hit, g1] | skip
        refine rd_ladd (pc := 66) d_S_cedeExcessOfEachEvent_66 ?_
        refine rd_lst2 (pc := 67) d_S_cedeExcessOfEachEvent_67 rfl ?_
        refine rd_aldn (pc := 68) d_S_cedeExcessOfEachEvent_68 rfl ?_
        refine rd_ildn (pc := 69) d_S_cedeExcessOfEachEvent_69 rfl ?_
        refine rd_aldn (pc := 70) d_S_cedeExcessOfEachEvent_70 rfl ?_
        refine rd_getr (pc := 71) d_S_cedeExcessOfEachEvent_71 fl_S_19 rfl rfl ?_
        refine rd_ildn (pc := 74) d_S_cedeExcessOfEachEvent_74 rfl ?_
        refine rd_lldn (pc := 75) d_S_cedeExcessOfEachEvent_75 rfl ?_
        refine rd_callVl (pc := 76) (n' := 0) [_, _] d_S_cedeExcessOfEachEvent_76 ml_S_136 rfl (Nat.le_of_ble_eq_true rfl) (Nat.le_of_ble_eq_true rfl) (Nat.le_of_ble_eq_true rfl) rfl rfl rfl (Nat.le_of_ble_eq_true rfl) (Nat.le_of_ble_eq_true rfl) ?_
        rw [hL]
        refine ev_T_takenOfLayers hI4 h0 h1 ⟨by omega, by omega⟩ ?_
        refine ⟨_, rfl, ?_⟩
        first | simp (decide := true) only [rd_up_app, rd_up_hit, g1, eM4_18, eM4_19, eM4_20, eM4_21, e26] | simp (decide := true) only [rd_up_app, rd_up_hit, g1] | skip
        refine rd_aldn (pc := 79) d_S_cedeExcessOfEachEvent_79 rfl ?_
        refine rd_getr (pc := 80) d_S_cedeExcessOfEachEvent_80 fl_S_34 rfl rfl ?_
        refine rd_ildn (pc := 83) d_S_cedeExcessOfEachEvent_83 rfl ?_
        refine rd_lald (pc := 84) d_S_cedeExcessOfEachEvent_84 rfl (by omega) (by omega) ?_
        first | simp (decide := true) only [rd_up_app, rd_up_hit, g1, eM4_18, eM4_19, eM4_20, eM4_21, e26] | simp (decide := true) only [rd_up_app, rd_up_hit, g1] | skip
        refine rd_lsub (pc := 85) d_S_cedeExcessOfEachEvent_85 ?_
        refine rd_aldn (pc := 86) d_S_cedeExcessOfEachEvent_86 rfl ?_
        refine rd_ild (pc := 87) d_S_cedeExcessOfEachEvent_87 rfl ?_
        refine rd_callVl (pc := 89) (n' := 0) [_] d_S_cedeExcessOfEachEvent_89 ml_S_152 rfl (Nat.le_of_ble_eq_true rfl) (Nat.le_of_ble_eq_true rfl) (Nat.le_of_ble_eq_true rfl) rfl rfl rfl (Nat.le_of_ble_eq_true rfl) (Nat.le_of_ble_eq_true rfl) ?_
        refine ev_S_keptFrom hI4 hn4 hK4 hG4d ⟨by omega, by omega⟩ ?_
        rw [sp_W_eq2, hf4.a]
        refine ⟨_, rfl, ?_⟩
        first | simp (decide := true) only [rd_up_app, rd_up_hit, g1, eM4_18, eM4_19, eM4_20, eM4_21, e26] | simp (decide := true) only [rd_up_app, rd_up_hit, g1] | skip
        refine rd_callVv (pc := 92) (n' := 0) [_, _, _] d_S_cedeExcessOfEachEvent_92 ml_S_156 rfl (Nat.le_of_ble_eq_true rfl) (Nat.le_of_ble_eq_true rfl) (Nat.le_of_ble_eq_true rfl) rfl rfl rfl (Nat.le_of_ble_eq_true rfl) (Nat.le_of_ble_eq_true rfl) ?_
        refine ev_S_takeByParts (v := sp_evV (c_d M) n t (M 24) E) (s := sp_evA (c_d M) n t (M 24) E) (p := sp_inW (c_d M) (M 17 t) (E + 1) (sp_evO (c_d M) n t (M 24) E)) hI4 hn4 hK4 hG4 h0 h1 ⟨hVb.1, hVb.2.2⟩ (by rw [← hf4.a, hf4.d]; rfl) hVb.2.1 (fun M5 hS5 => ?_)
        refine ⟨rfl, ?_⟩
        first | simp (decide := true) only [rd_up_app, rd_up_hit, g1, eM4_18, eM4_19, eM4_20, eM4_21, e26] | simp (decide := true) only [rd_up_app, rd_up_hit, g1] | skip
        refine rd_iinc4 (pc := 95) d_S_cedeExcessOfEachEvent_95 rfl ?_
        refine rd_goto (pc := 98) (tgt := 5) d_S_cedeExcessOfEachEvent_98 rfl ?_
        first
          | (refine rd_weak (L' := [some (.ref 4), some (rd_i t), some (rd_l ((sp_ev (c_d M) n t (M 24) E).2 + sp_layer (M 18 t) (M 19 t) (sp_evA (c_d M) n t (M 24) E))), none, some (rd_i (e + 1)), none]) (by simp [rd_le, he]) ?_
             refine ih _ (by omega) (e + 1) _ (E + 1) _ rfl (by omega) (by omega) (by rw [sp_ev_p (by omega)]; rfl) ?_
             exact hE.next hS2 (by omega) hS4 hS5)
          | (refine rd_weak (L' := [some (.ref 4), some (rd_i t), some (rd_l L), none, some (rd_i (e + 1)), none]) (by simp [rd_le]) ?_
             have ho : sp_evO (c_d M) n t (M 24) E = -1 := sp_st_n (by rw [← he]; show sp_cn n (sp_inE (c_d M) (M 17 t) e) ≤ 0; omega)
             refine ih _ (by omega) (e + 1) _ (E + 1) _ rfl (by omega) (by omega) (by rw [sp_ev_n (by omega)]; exact hL) ?_
             exact c_E.skip (hS2.trans hE) ho (hw _ (by omega) (by omega)))
set_option maxHeartbeats 4000000 in
set_option maxRecDepth 100000 in
theorem ev_S_cedeExcessOfEachEvent {t : Int} {n : Nat} {M : rd_M} {Q : rd_R → rd_M → Prop} (hI : c_I M) (hC : c_Q M) (hn : M 2 0 = n) (hY : c_Y M (M 17 t)) (h0 : 0 ≤ t) (h1 : t < 10) (hz : M 26 t = 0) (hw : ∀ e : Int, 1 ≤ e → e ≤ 9 → M 27 (t * 10 + e) = -1) (hQ : ∀ M', c_sm M' (c_wn (c_tks M t n (sp_tkE (c_d M) n t (M 24))) t 9 (sp_evO (c_d M) n t (M 24))) → Q (.inl none) M') : rd_G x_S_cedeExcessOfEachEvent 0 [some (.ref 4), some (rd_i t), none, none, none, none] [] M 0 Q := by
  refine rd_lconst (pc := 0) (v := 0) d_S_cedeExcessOfEachEvent_0 rfl ?_
  refine rd_lst2 (pc := 1) d_S_cedeExcessOfEachEvent_1 rfl ?_
  refine rd_iconst (pc := 2) d_S_cedeExcessOfEachEvent_2 ?_
  refine rd_ist4 (pc := 3) d_S_cedeExcessOfEachEvent_3 rfl ?_
  refine lq_S_cedeExcessOfEachEvent hI hC hn hY h0 h1 hz hw hQ _ 1 0 0 M rfl rfl (by omega) rfl ?_
  unfold c_E
  rw [c_wn_0, c_tks_0 (w := (sp_ev (c_d M) n t (M 24) 0).1) (fun _ _ _ => rfl)]
  exact c_sm.refl
theorem sp_sum_s {p κ : Int → Int} {i : Int} (i0 : 0 ≤ i) : sp_sum (i + 1).toNat p κ = sp_sum i.toNat p κ + (if p i = 1 then κ i else 0) := rd_sm_s i0
set_option maxHeartbeats 4000000 in
set_option maxRecDepth 100000 in
theorem lq_S_cedeStopLoss {t : Int} {n : Nat} {M : rd_M} {Q : rd_R → rd_M → Prop} (hI : c_I M) (hC : c_Q M) (hn : M 2 0 = n) (hY : c_Y M (M 17 t)) (h0 : 0 ≤ t) (h1 : t < 10) (hQ : ∀ M', c_sm M' (c_tks M t n (sp_tkS (c_d M) n t (M 24))) → Q (.inl none) M') : ∀ (d : Nat) (i s : Int) (M1 : rd_M), (n - i).toNat = d → (0 ≤ i) → (i ≤ n) → (s = sp_sum i.toNat (sp_in (c_d M) (M 17 t)) (M 24)) → (c_sm M1 M) → (c_G M1 i.toNat (sp_in (c_d M) (M 17 t))) → rd_G x_S_cedeStopLoss 10 [some (.ref 4), some (rd_i t), some (rd_l s), none, some (rd_i i)] [] M1 0 Q := by
  intro d
  induction d using Nat.strongRecOn with
  | ind d ih =>
    intro i s M1 hd i0 i1 hs hS hG
    have hn40 := hI.n hn
    have hsz := sp_cn_hi (n := i.toNat) (p := (sp_in (c_d M) (M 17 t)))
    have hs0 := sp_cn_nn (n := i.toNat) (p := (sp_in (c_d M) (M 17 t)))
    obtain ⟨hG1, hG2⟩ := hG
    have e2 : M1 2 = M 2 := hS 2 (by decide) (by decide) (by decide)
    have e18 : M1 18 = M 18 := hS 18 (by decide) (by decide) (by decide)
    have e19 : M1 19 = M 19 := hS 19 (by decide) (by decide) (by decide)
    have e23 : M1 23 = M 23 := hS 23 (by decide) (by decide) (by decide)
    have e24 : M1 24 = M 24 := hS 24 (by decide) (by decide) (by decide)
    refine rd_ild (pc := 10) d_S_cedeStopLoss_10 rfl ?_
    refine rd_aldn (pc := 12) d_S_cedeStopLoss_12 rfl ?_
    refine rd_getr (pc := 13) d_S_cedeStopLoss_13 fl_S_15 rfl rfl ?_
    refine rd_gi (pc := 16) (ki := 0) d_S_cedeStopLoss_16 fl_S_69 rfl rfl rfl ?_
    first | simp (decide := true) only [rd_up_app, rd_up_hit, e2, e18, e19, e23, e24, hG1] | simp (decide := true) only [rd_up_app, rd_up_hit, e2, e18, e19, e23, e24] | skip
    refine rd_icmp_ge (pc := 19) (tgt := 70) d_S_cedeStopLoss_19 rfl ⟨by omega, by omega⟩ ⟨by omega, by omega⟩ (fun h19 => ?_) (fun h19 => ?_)
    · skip
      have en : i.toNat = n := by omega
      rw [en] at hs hG1 hG2
      have hI1 := hS.low hI
      have htm := hI.tm hC h0 h1
      have hsn : 0 ≤ s := by (rw [hs]; exact sp_sum_nn (fun k a b => (hY.cnt hn a b).2.1.1))
      have hsh : s ≤ 40000000000 := by (have := sp_sum_hi (n := n) (p := (sp_in (c_d M) (M 17 t))) (κ := M 24) (fun k a b => (hY.cnt hn a b).2.1); omega)
      have hLb := sp_Lt_b htm hsn
      have hLb' : 0 ≤ sp_layer (M 18 t) (M 19 t) s ∧ sp_layer (M 18 t) (M 19 t) s ≤ s ∧ sp_layer (M 18 t) (M 19 t) s ≤ 1000000000 := hLb
      refine rd_aldn (pc := 70) d_S_cedeStopLoss_70 rfl ?_
      refine rd_ildn (pc := 71) d_S_cedeStopLoss_71 rfl ?_
      refine rd_aldn (pc := 72) d_S_cedeStopLoss_72 rfl ?_
      refine rd_getr (pc := 73) d_S_cedeStopLoss_73 fl_S_19 rfl rfl ?_
      refine rd_ildn (pc := 76) d_S_cedeStopLoss_76 rfl ?_
      refine rd_lldn (pc := 77) d_S_cedeStopLoss_77 rfl ?_
      refine rd_callVl (pc := 78) (n' := 0) [_, _] d_S_cedeStopLoss_78 ml_S_133 rfl (Nat.le_of_ble_eq_true rfl) (Nat.le_of_ble_eq_true rfl) (Nat.le_of_ble_eq_true rfl) rfl rfl rfl (Nat.le_of_ble_eq_true rfl) (Nat.le_of_ble_eq_true rfl) ?_
      refine ev_T_layerOf hI1 h0 h1 ⟨by omega, by omega⟩ ?_
      refine ⟨_, rfl, ?_⟩
      first | simp (decide := true) only [rd_up_app, rd_up_hit, e2, e18, e19, e23, e24, hG1] | simp (decide := true) only [rd_up_app, rd_up_hit, e2, e18, e19, e23, e24] | skip
      refine rd_lldn (pc := 81) d_S_cedeStopLoss_81 rfl ?_
      refine rd_callVv (pc := 82) (n' := 0) [_, _, _] d_S_cedeStopLoss_82 ml_S_156 rfl (Nat.le_of_ble_eq_true rfl) (Nat.le_of_ble_eq_true rfl) (Nat.le_of_ble_eq_true rfl) rfl rfl rfl (Nat.le_of_ble_eq_true rfl) (Nat.le_of_ble_eq_true rfl) ?_
      refine ev_S_takeByParts (v := sp_layer (M 18 t) (M 19 t) s) (p := (sp_in (c_d M) (M 17 t))) hI1 (by rw [e2, hn]) (fun k a b => by rw [e24]; exact (hY.cnt hn a b).2.1) ⟨hG1, hG2⟩ h0 h1 ⟨hLb'.1, hLb'.2.2⟩ (by rw [e24]; exact hs) hLb'.2.1 (fun M5 hS5 => ?_)
      refine ⟨rfl, ?_⟩
      first | simp (decide := true) only [rd_up_app, rd_up_hit, e2, e18, e19, e23, e24, hG1] | simp (decide := true) only [rd_up_app, rd_up_hit, e2, e18, e19, e23, e24] | skip
      exact rd_vret (pc := 85) d_S_cedeStopLoss_85 rfl (Nat.le_of_ble_eq_true rfl) (by refine hQ _ (hS5.trans ?_); rw [e24, hs]; exact hS.tks)
    · skip
      obtain ⟨y1, y2, y3⟩ := hY.cnt hn i0 (by omega)
      have y4 := sp_in_01 (d := c_d M) (y := M 17 t) (k := i)
      have hss := sp_sum_s (p := (sp_in (c_d M) (M 17 t))) (κ := M 24) i0
      refine rd_aldn (pc := 22) d_S_cedeStopLoss_22 rfl ?_
      refine rd_getr (pc := 23) d_S_cedeStopLoss_23 fl_S_23 rfl rfl ?_
      refine rd_ild (pc := 26) d_S_cedeStopLoss_26 rfl ?_
      refine rd_zald (pc := 28) d_S_cedeStopLoss_28 rfl (by omega) (by omega) ?_
      first | simp (decide := true) only [rd_up_app, rd_up_hit, e2, e18, e19, e23, e24, hG1] | simp (decide := true) only [rd_up_app, rd_up_hit, e2, e18, e19, e23, e24] | skip
      refine rd_if_eq (pc := 29) (tgt := 64) d_S_cedeStopLoss_29 rfl ⟨by omega, by omega⟩ (fun h29 => ?_) (fun h29 => ?_)
      · skip
        refine rd_iinc4 (pc := 64) d_S_cedeStopLoss_64 rfl ?_
        refine rd_goto (pc := 67) (tgt := 10) d_S_cedeStopLoss_67 rfl ?_
        first
          | (refine ih _ (by omega) (i + 1) _ _ rfl (by omega) (by omega) ?_ ((hS.up (by omega)).up (by omega)) ?_
             · rw [hss, if_pos (by omega), hs]
             · exact c_G_p' i0 rfl hG2 (by omega))
          | (have hno : (sp_in (c_d M) (M 17 t)) i ≠ 1 := by omega
             have hg := c_g_n' i0 hG2 hno
             exact ih _ (by omega) (i + 1) _ _ rfl (by omega) (by omega) (by rw [hss, if_neg hno]; omega) hS ⟨by rw [hG1, hg.2], hg.1⟩)
      · skip
        refine rd_aldn (pc := 32) d_S_cedeStopLoss_32 rfl ?_
        refine rd_getr (pc := 33) d_S_cedeStopLoss_33 fl_S_47 rfl rfl ?_
        refine rd_aldn (pc := 36) d_S_cedeStopLoss_36 rfl ?_
        refine rd_gi (pc := 37) (ki := 11) d_S_cedeStopLoss_37 fl_S_142 rfl rfl rfl ?_
        first | simp (decide := true) only [rd_up_app, rd_up_hit, e2, e18, e19, e23, e24, hG1] | simp (decide := true) only [rd_up_app, rd_up_hit, e2, e18, e19, e23, e24] | skip
        refine rd_ild (pc := 40) d_S_cedeStopLoss_40 rfl ?_
        refine rd_iast (pc := 42) d_S_cedeStopLoss_42 rfl (by omega) (by omega) ?_
        refine rd_aldn (pc := 43) d_S_cedeStopLoss_43 rfl ?_
        refine rd_dup (pc := 44) d_S_cedeStopLoss_44 rfl ?_
        refine rd_gi (pc := 45) (ki := 11) d_S_cedeStopLoss_45 fl_S_142 rfl rfl rfl ?_
        first | simp (decide := true) only [rd_up_app, rd_up_hit, e2, e18, e19, e23, e24, hG1] | simp (decide := true) only [rd_up_app, rd_up_hit, e2, e18, e19, e23, e24] | skip
        refine rd_iconst (pc := 48) d_S_cedeStopLoss_48 ?_
        refine rd_iadd (pc := 49) d_S_cedeStopLoss_49 ?_
        refine rd_pi (pc := 50) (ki := 11) d_S_cedeStopLoss_50 fl_S_142 fp_0_11 rfl rfl rfl ?_
        refine rd_lldn (pc := 53) d_S_cedeStopLoss_53 rfl ?_
        refine rd_aldn (pc := 54) d_S_cedeStopLoss_54 rfl ?_
        refine rd_getr (pc := 55) d_S_cedeStopLoss_55 fl_S_27 rfl rfl ?_
        refine rd_ild (pc := 58) d_S_cedeStopLoss_58 rfl ?_
        refine rd_iald (pc := 60) d_S_cedeStopLoss_60 rfl (by omega) (by omega) ?_
        first | simp (decide := true) only [rd_up_app, rd_up_hit, e2, e18, e19, e23, e24, hG1] | simp (decide := true) only [rd_up_app, rd_up_hit, e2, e18, e19, e23, e24] | skip
        refine rd_i2l (pc := 61) d_S_cedeStopLoss_61 ⟨by omega, by omega⟩ ?_
        refine rd_ladd (pc := 62) d_S_cedeStopLoss_62 ?_
        refine rd_lst2 (pc := 63) d_S_cedeStopLoss_63 rfl ?_
        refine rd_iinc4 (pc := 64) d_S_cedeStopLoss_64 rfl ?_
        refine rd_goto (pc := 67) (tgt := 10) d_S_cedeStopLoss_67 rfl ?_
        first
          | (refine ih _ (by omega) (i + 1) _ _ rfl (by omega) (by omega) ?_ ((hS.up (by omega)).up (by omega)) ?_
             · rw [hss, if_pos (by omega), hs]
             · exact c_G_p' i0 rfl hG2 (by omega))
          | (have hno : (sp_in (c_d M) (M 17 t)) i ≠ 1 := by omega
             have hg := c_g_n' i0 hG2 hno
             exact ih _ (by omega) (i + 1) _ _ rfl (by omega) (by omega) (by rw [hss, if_neg hno]; omega) hS ⟨by rw [hG1, hg.2], hg.1⟩)
set_option maxHeartbeats 4000000 in
set_option maxRecDepth 100000 in
theorem ev_S_cedeStopLoss {t : Int} {n : Nat} {M : rd_M} {Q : rd_R → rd_M → Prop} (hI : c_I M) (hC : c_Q M) (hn : M 2 0 = n) (hY : c_Y M (M 17 t)) (h0 : 0 ≤ t) (h1 : t < 10) (hQ : ∀ M', c_sm M' (c_tks M t n (sp_tkS (c_d M) n t (M 24))) → Q (.inl none) M') : rd_G x_S_cedeStopLoss 0 [some (.ref 4), some (rd_i t), none, none, none] [] M 0 Q := by
  refine rd_aldn (pc := 0) d_S_cedeStopLoss_0 rfl ?_
  refine rd_iconst (pc := 1) d_S_cedeStopLoss_1 ?_
  refine rd_pi (pc := 2) (ki := 11) d_S_cedeStopLoss_2 fl_S_142 fp_0_11 rfl rfl rfl ?_
  refine rd_lconst (pc := 5) (v := 0) d_S_cedeStopLoss_5 rfl ?_
  refine rd_lst2 (pc := 6) d_S_cedeStopLoss_6 rfl ?_
  refine rd_iconst (pc := 7) d_S_cedeStopLoss_7 ?_
  refine rd_ist4 (pc := 8) d_S_cedeStopLoss_8 rfl ?_
  exact lq_S_cedeStopLoss hI hC hn hY h0 h1 hQ _ 0 0 _ rfl (by omega) (by omega) rfl (c_sm.refl.up (by omega)) ⟨rd_up_hit, c_g_0⟩

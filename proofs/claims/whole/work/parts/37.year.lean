/-! cession: a year is worked out -/
/-- a year y is under way -/
def c_V (M : rd_M) (n nt : Nat) (o : Int → Int) (y : Int) : Prop := c_I M ∧ c_Q M ∧ M 2 0 = n ∧ M 3 0 = nt ∧ c_H M n o ∧ sp_ok n (c_z M) ∧ (∀ k : Int, 0 ≤ k → k < n → M 23 k = sp_in (c_d M) y k ∧ (¬ sp_cnt (c_d M) y k → M 24 k = 0)) ∧ (∀ r : Int, 0 ≤ r → r < 12 → M 9 r ≠ y → M 28 r = 0)
theorem c_V.Y {M : rd_M} {n nt : Nat} {o : Int → Int} {y : Int} (h : c_V M n nt o y) : c_Y M y := by
  obtain ⟨hI, hC, hn, hm, hH, hk, hc, hr⟩ := h
  intro k k0 k1
  rw [hn] at k1
  have h1 := hc k k0 k1
  have h2 := hk.1 k k0 k1
  exact ⟨h1.1, h2.1, h2.2, h1.2⟩
theorem c_V.ap {M M' : rd_M} {n nt : Nat} {o : Int → Int} {y t : Int} (h : c_V M n nt o y) (hy : M 17 t = y) (h0 : 0 ≤ t) (h1 : t < 10) (hf : sp_fh n (c_z M) t) (hM : c_fr M' M) (hz : c_z M' = sp_ap (c_d M) n t (c_z M)) : c_V M' n nt o y := by
  obtain ⟨hI, hC, hn, hm, hH, hk, hc, hr⟩ := h
  refine ⟨hM.I hI, hM.Q hC, by rw [hM.low 2 (by decide) (by decide)]; exact hn, by rw [hM.low 3 (by decide) (by decide)]; exact hm, hM.H hH, by rw [hz]; exact hk.ap hf (hI.D hC) (hI.n hn) h0 h1, fun k k0 k1 => ?_, fun r r0 r1 hry => ?_⟩
  · rw [hM.low 23 (by decide) (by decide), hM.d]
    refine ⟨(hc k k0 k1).1, fun z => ?_⟩
    have e : M' 24 k = sp_ap (c_d M) n t (c_z M) 0 k := by rw [← hz]; rfl
    rw [e]
    show (if 0 ≤ k ∧ k < n then M 24 k - sp_tk (c_d M) n t (M 24) k else M 24 k) = 0
    rw [if_pos ⟨k0, k1⟩, sp_tk_out (by show ¬ sp_cnt (c_d M) (M 17 t) k; rw [hy]; exact z), (hc k k0 k1).2 z]; rfl
  · rw [hM.low 9 (by decide) (by decide)] at hry
    have e : M' 28 r = sp_ap (c_d M) n t (c_z M) 4 r := by rw [← hz]; rfl
    have hz0 := hr r r0 r1 hry
    rw [e]
    show (if c_d M 8 t < 2 ∧ 0 ≤ r ∧ r < 12 then M 28 r - sp_pm (c_d M) t (M 28) r else M 28 r) = 0
    have hp : sp_pm (c_d M) t (M 28) r = 0 := if_neg (fun z => hry (z.2.trans hy))
    rw [hp, hz0]
    split <;> rfl
set_option maxHeartbeats 4000000 in
set_option maxRecDepth 100000 in
theorem lq_S_cedeYearT {y kd : Int} {n nt : Nat} {o : Int → Int} {M : rd_M} {Q : rd_R → rd_M → Prop} (hV : c_V M n nt o y) (hy : 0 ≤ y ∧ y ≤ 3) (hkd : 0 ≤ kd ∧ kd ≤ 4) (hX : ∀ M1 t, c_V M1 n nt o y → c_fr M1 M → c_z M1 = sp_runT (c_d M) n y kd (c_z M) nt → sp_fr (c_d M) n (c_z M1) kd t → rd_G x_S_cedeYear 57 [some (.ref 4), some (rd_i y), some (rd_i kd), some (rd_i t)] [] M1 0 Q) : ∀ (d : Nat) (t : Int) (M1 : rd_M), (nt - t).toNat = d → (0 ≤ t) → (t ≤ nt) → (c_V M1 n nt o y) → (c_fr M1 M) → (c_z M1 = sp_runT (c_d M) n y kd (c_z M) t.toNat) → (sp_fr (c_d M) n (c_z M1) kd t) → rd_G x_S_cedeYear 9 [some (.ref 4), some (rd_i y), some (rd_i kd), some (rd_i t)] [] M1 0 Q := by
  intro d
  induction d using Nat.strongRecOn with
  | ind d ih =>
    intro t M1 hd t0 t1 hV1 hF hz hf
    have hm := hV.2.2.2.1
    have hI := hV.1
    have hm10 : nt ≤ 10 := (by have := hI.2.1; omega)
    have e3 : M1 3 = M 3 := hF.low 3 (by decide) (by decide)
    have e16 : M1 16 = M 16 := hF.low 16 (by decide) (by decide)
    have e17 : M1 17 = M 17 := hF.low 17 (by decide) (by decide)
    refine rd_ildn (pc := 9) d_S_cedeYear_9 rfl ?_
    refine rd_aldn (pc := 10) d_S_cedeYear_10 rfl ?_
    refine rd_getr (pc := 11) d_S_cedeYear_11 fl_S_19 rfl rfl ?_
    refine rd_gi (pc := 14) (ki := 0) d_S_cedeYear_14 fl_S_92 rfl rfl rfl ?_
    first | simp (decide := true) only [rd_up_app, rd_up_hit, e3, e16, e17] | skip
    refine rd_icmp_ge (pc := 17) (tgt := 57) d_S_cedeYear_17 rfl ⟨by omega, by omega⟩ ⟨by omega, by omega⟩ (fun h17 => ?_) (fun h17 => ?_)
    · skip
      exact hX M1 t hV1 hF (by rw [hz, show t.toNat = nt by omega]) hf
    · skip
      obtain ⟨hk, hty, _⟩ := hI.treaty t0 (by omega)
      have hrs := sp_runT_s (d := c_d M) (n := n) (y := y) (kd := kd) (Z := c_z M) t0
      refine rd_aldn (pc := 20) d_S_cedeYear_20 rfl ?_
      refine rd_getr (pc := 21) d_S_cedeYear_21 fl_S_19 rfl rfl ?_
      refine rd_getr (pc := 24) d_S_cedeYear_24 fl_S_95 rfl rfl ?_
      refine rd_ildn (pc := 27) d_S_cedeYear_27 rfl ?_
      refine rd_iald (pc := 28) d_S_cedeYear_28 rfl (by omega) (by omega) ?_
      first | simp (decide := true) only [rd_up_app, rd_up_hit, e3, e16, e17] | skip
      refine rd_ildn (pc := 29) d_S_cedeYear_29 rfl ?_
      refine rd_icmp_ne (pc := 30) (tgt := 51) d_S_cedeYear_30 rfl ⟨by omega, by omega⟩ ⟨by omega, by omega⟩ (fun h30 => ?_) (fun h30 => ?_)
      · skip
        refine rd_iinc3 (pc := 51) d_S_cedeYear_51 rfl ?_
        refine rd_goto (pc := 54) (tgt := 9) d_S_cedeYear_54 rfl ?_
        by_cases hc : M 16 t = kd ∧ M 17 t = y
        · first | (exfalso; omega) | (refine ih _ (by omega) (t + 1) _ rfl (by omega) (by omega) (hV1.ap hyt t0 (by omega) hfh hF2 hz2) (hF2.trans hF) ?_ ?_
                                      · rw [hz2, hrs, hF.d, hz]; exact (if_pos hc).symm
                                      · rw [hz2, hF.d]; exact hf.ap (hI.n hV.2.2.1) hc.1)
        · first | (exfalso; omega) | (refine ih _ (by omega) (t + 1) _ rfl (by omega) (by omega) hV1 hF ?_ hf.skip
                                      rw [hrs, hz]; exact (if_neg hc).symm)
      · skip
        refine rd_aldn (pc := 33) d_S_cedeYear_33 rfl ?_
        refine rd_getr (pc := 34) d_S_cedeYear_34 fl_S_19 rfl rfl ?_
        refine rd_getr (pc := 37) d_S_cedeYear_37 fl_S_98 rfl rfl ?_
        refine rd_ildn (pc := 40) d_S_cedeYear_40 rfl ?_
        refine rd_iald (pc := 41) d_S_cedeYear_41 rfl (by omega) (by omega) ?_
        first | simp (decide := true) only [rd_up_app, rd_up_hit, e3, e16, e17] | skip
        refine rd_ildn (pc := 42) d_S_cedeYear_42 rfl ?_
        refine rd_icmp_ne (pc := 43) (tgt := 51) d_S_cedeYear_43 rfl ⟨by omega, by omega⟩ ⟨by omega, by omega⟩ (fun h43 => ?_) (fun h43 => ?_)
        · skip
          refine rd_iinc3 (pc := 51) d_S_cedeYear_51 rfl ?_
          refine rd_goto (pc := 54) (tgt := 9) d_S_cedeYear_54 rfl ?_
          by_cases hc : M 16 t = kd ∧ M 17 t = y
          · first | (exfalso; omega) | (refine ih _ (by omega) (t + 1) _ rfl (by omega) (by omega) (hV1.ap hyt t0 (by omega) hfh hF2 hz2) (hF2.trans hF) ?_ ?_
                                        · rw [hz2, hrs, hF.d, hz]; exact (if_pos hc).symm
                                        · rw [hz2, hF.d]; exact hf.ap (hI.n hV.2.2.1) hc.1)
          · first | (exfalso; omega) | (refine ih _ (by omega) (t + 1) _ rfl (by omega) (by omega) hV1 hF ?_ hf.skip
                                        rw [hrs, hz]; exact (if_neg hc).symm)
        · skip
          refine rd_aldn (pc := 46) d_S_cedeYear_46 rfl ?_
          refine rd_ildn (pc := 47) d_S_cedeYear_47 rfl ?_
          refine rd_callVv (pc := 48) (n' := 0) [_] d_S_cedeYear_48 ml_S_99 rfl (Nat.le_of_ble_eq_true rfl) (Nat.le_of_ble_eq_true rfl) (Nat.le_of_ble_eq_true rfl) rfl rfl rfl (Nat.le_of_ble_eq_true rfl) (Nat.le_of_ble_eq_true rfl) ?_
          have hyt : M1 17 t = y := by rw [e17]; omega
          have hV1' := hV1
          obtain ⟨vI, vC, vn, vm, vH, vk, vc, vr⟩ := hV1'
          have hfh : sp_fh n (c_z M1) t := hf t t0 (by omega) (Or.inr ⟨(show M 16 t = kd by omega), by omega⟩)
          refine ev_S_cedeTo vI vC vn (by rw [hyt]; exact hV1.Y) t0 (by omega) vH (fun r a b => vk.2.2.2.2 r a b) (by rw [hyt]; exact vr) hfh.1 hfh.2.2.2 (fun M2 hF2 hz2 => ?_)
          refine ⟨rfl, ?_⟩
          first | simp (decide := true) only [rd_up_app, rd_up_hit, e3, e16, e17] | skip
          refine rd_iinc3 (pc := 51) d_S_cedeYear_51 rfl ?_
          refine rd_goto (pc := 54) (tgt := 9) d_S_cedeYear_54 rfl ?_
          by_cases hc : M 16 t = kd ∧ M 17 t = y
          · first | (exfalso; omega) | (refine ih _ (by omega) (t + 1) _ rfl (by omega) (by omega) (hV1.ap hyt t0 (by omega) hfh hF2 hz2) (hF2.trans hF) ?_ ?_
                                        · rw [hz2, hrs, hF.d, hz]; exact (if_pos hc).symm
                                        · rw [hz2, hF.d]; exact hf.ap (hI.n hV.2.2.1) hc.1)
          · first | (exfalso; omega) | (refine ih _ (by omega) (t + 1) _ rfl (by omega) (by omega) hV1 hF ?_ hf.skip
                                        rw [hrs, hz]; exact (if_neg hc).symm)
set_option maxHeartbeats 4000000 in
set_option maxRecDepth 100000 in
theorem lq_S_cedeYear {y : Int} {n nt : Nat} {o : Int → Int} {M : rd_M} {Q : rd_R → rd_M → Prop} (hV : c_V M n nt o y) (hy : 0 ≤ y ∧ y ≤ 3) (hQ : ∀ M', c_V M' n nt o y → c_fr M' M → c_z M' = sp_runK (c_d M) n nt y (c_z M) 5 → Q (.inl none) M') : ∀ (d : Nat) (kd : Int) (M1 : rd_M), (5 - kd).toNat = d → (0 ≤ kd) → (kd ≤ 5) → (c_V M1 n nt o y) → (c_fr M1 M) → (c_z M1 = sp_runK (c_d M) n nt y (c_z M) kd.toNat) → (sp_fr (c_d M) n (c_z M1) kd 0) → rd_G x_S_cedeYear 2 [some (.ref 4), some (rd_i y), some (rd_i kd), none] [] M1 0 Q := by
  intro d
  induction d using Nat.strongRecOn with
  | ind d ih =>
    intro kd M1 hd k0 k1 hV1 hF hz hf
    refine rd_ildn (pc := 2) d_S_cedeYear_2 rfl ?_
    refine rd_iconst (pc := 3) d_S_cedeYear_3 ?_
    refine rd_icmp_ge (pc := 4) (tgt := 63) d_S_cedeYear_4 rfl ⟨by omega, by omega⟩ ⟨by omega, by omega⟩ (fun h4 => ?_) (fun h4 => ?_)
    · skip
      exact rd_vret (pc := 63) d_S_cedeYear_63 rfl (Nat.le_of_ble_eq_true rfl) (hQ _ hV1 hF (by rw [hz, show kd.toNat = 5 by omega]))
    · skip
      refine rd_iconst (pc := 7) d_S_cedeYear_7 ?_
      refine rd_ist3 (pc := 8) d_S_cedeYear_8 rfl ?_
      refine lq_S_cedeYearT hV1 hy ⟨k0, by omega⟩ (fun M2 t2 hV2 hF2 hz2 hf2 => ?_) _ 0 M1 rfl (by omega) (by omega) hV1 c_fr.refl rfl (by rw [hF.d]; exact hf)
      rw [hF.d] at hz2 hf2
      refine rd_iinc2 (pc := 57) d_S_cedeYear_57 rfl ?_
      refine rd_goto (pc := 60) (tgt := 2) d_S_cedeYear_60 rfl ?_
      refine rd_weak (L' := [some (.ref 4), some (rd_i y), some (rd_i (kd + 1)), none]) (by simp [rd_le]) ?_
      exact ih _ (by omega) (kd + 1) M2 rfl (by omega) (by omega) hV2 (hF2.trans hF) (by rw [hz2, sp_runK_s k0, hz]) hf2.next
set_option maxHeartbeats 4000000 in
set_option maxRecDepth 100000 in
theorem ev_S_cedeYear {y : Int} {n nt : Nat} {o : Int → Int} {M : rd_M} {Q : rd_R → rd_M → Prop} (hV : c_V M n nt o y) (hy : 0 ≤ y ∧ y ≤ 3) (hf : sp_fr (c_d M) n (c_z M) 0 0) (hQ : ∀ M', c_V M' n nt o y → c_fr M' M → c_z M' = sp_runK (c_d M) n nt y (c_z M) 5 → Q (.inl none) M') : rd_G x_S_cedeYear 0 [some (.ref 4), some (rd_i y), none, none] [] M 0 Q := by
  refine rd_iconst (pc := 0) d_S_cedeYear_0 ?_
  refine rd_ist2 (pc := 1) d_S_cedeYear_1 rfl ?_
  exact lq_S_cedeYear hV hy hQ _ 0 M rfl (by omega) (by omega) hV c_fr.refl rfl hf
/-- the class between calls: data in bounds, quotas, claims by hour -/
def c_B (M : rd_M) (n nt : Nat) (o : Int → Int) : Prop := c_I M ∧ c_Q M ∧ M 2 0 = n ∧ M 3 0 = nt ∧ c_H M n o
/-- a year's rows as it begins, from data d: what is kept is the estimate, or e of the claim c -/
def sp_Z0 (d : rd_M) (n : Nat) (y c e : Int) (Z : rd_M) : Prop := (∀ k : Int, 0 ≤ k → k < n → Z 0 k = if sp_cnt d y k then (if k = c then e else d 6 k) else 0) ∧ (∀ j : Int, 0 ≤ j → j < 400 → Z 1 j = 0) ∧ (∀ t : Int, 0 ≤ t → t < 10 → Z 2 t = 0 ∧ Z 5 t = 0) ∧ (∀ j : Int, 0 ≤ j → j < 100 → Z 3 j = -1) ∧ (∀ r : Int, 0 ≤ r → r < 12 → Z 4 r = if d 2 r = y then d 1 r else 0)
theorem sp_Z0.ok {d : rd_M} {n : Nat} {y c e : Int} {Z : rd_M} (h : sp_Z0 d n y c e Z) (hD : sp_D d) (hn : n ≤ 40) (he : 0 ≤ e ∧ e ≤ 1000000000) : sp_ok n Z := by
  obtain ⟨a1, a2, a3, a4, a5⟩ := h
  refine ⟨fun k k0 k1 => ?_, fun j j0 j1 => ?_, fun s s0 s1 => ?_, fun j j0 j1 => ?_, fun r r0 r1 => ?_⟩
  · have := (hD.2.1 k k0 (by omega)).2.2.2.1
    rw [a1 k k0 k1]
    split
    · split <;> omega
    · omega
  · rw [a2 j j0 j1]; omega
  · have := a3 s s0 s1; omega
  · rw [a4 j j0 j1]; omega
  · have := (hD.1 r r0 r1).2.1
    rw [a5 r r0 r1]
    split <;> omega
theorem sp_Z0.fr {d : rd_M} {n : Nat} {y c e : Int} {Z : rd_M} (h : sp_Z0 d n y c e Z) (hn : n ≤ 40) : sp_fr d n Z 0 0 := by
  obtain ⟨a1, a2, a3, a4, a5⟩ := h
  intro s s0 s1 _
  exact ⟨(a3 s s0 s1).1, (a3 s s0 s1).2, fun k k0 k1 => a2 _ (by omega) (by omega), fun e e0 e1 => a4 _ (by omega) (by omega)⟩
theorem c_beg.fr {M M' : rd_M} {n : Nat} {y : Int} (h : c_beg M n y M') (q : Nat) (hq : q < 23 ∨ 29 < q) : M' q = M q := h.1 q hq
theorem c_beg.I {M M' : rd_M} {n : Nat} {y : Int} (h : c_beg M n y M') (hI : c_I M) : c_I M' := hI.of (fun q hq => h.1 q (by omega))
theorem c_beg.d {M M' : rd_M} {n : Nat} {y : Int} (h : c_beg M n y M') : c_d M' = c_d M := c_d_of (fun q hq => h.1 q (by omega))
theorem c_beg.z {M M' : rd_M} {n : Nat} {y : Int} (h : c_beg M n y M') : sp_Z0 (c_d M) n y (-1) 0 (c_z M') := by
  obtain ⟨h1, h2, h3, h4, h5, h6⟩ := h
  refine ⟨fun k k0 k1 => ?_, h3, h4, h5, h6⟩
  rw [if_neg (show ¬ k = -1 by omega)]
  exact (h2 k k0 k1).2
theorem c_beg.V {M M' : rd_M} {n nt : Nat} {o : Int → Int} {y : Int} (h : c_beg M n y M') (hB : c_B M n nt o) : c_V M' n nt o y := by
  obtain ⟨hI, hC, hn, hm, hH⟩ := hB
  refine ⟨h.I hI, ?_, by rw [h.1 2 (by decide)]; exact hn, by rw [h.1 3 (by decide)]; exact hm, ?_, h.z.ok (hI.D hC) (hI.n hn) (by decide), fun k k0 k1 => ?_, fun r r0 r1 hr => ?_⟩
  · unfold c_Q at *; rw [h.1 16 (by decide), h.1 18 (by decide)]; exact hC
  · unfold c_H at *; rw [h.1 15 (by decide), h.1 12 (by decide)]; exact hH
  · rw [h.d]
    refine ⟨(h.2.1 k k0 k1).1, fun z => ?_⟩
    rw [(h.2.1 k k0 k1).2, if_neg z]
  · rw [h.1 9 (by decide)] at hr
    rw [h.2.2.2.2.2 r r0 r1, if_neg hr]
/-- places that a question leaves -/
def c_fq (M' M : rd_M) : Prop := ∀ q, q ≠ 4 → (q < 23 ∨ 31 < q) → M' q = M q
set_option maxHeartbeats 4000000 in
set_option maxRecDepth 100000 in
theorem ev_S_workOut {y : Int} {n nt : Nat} {o : Int → Int} {M : rd_M} {Q : rd_R → rd_M → Prop} (hB : c_B M n nt o) (hy : 0 ≤ y ∧ y ≤ 3) (hQ : ∀ M' Z, c_V M' n nt o y → c_fq M' M → sp_Z0 (c_d M) n y (-1) 0 Z → c_z M' = sp_runK (c_d M) n nt y Z 5 → Q (.inl none) M') : rd_G x_S_workOut 0 [some (.ref 4), some (rd_i y)] [] M 0 Q := by
  refine rd_aldn (pc := 0) d_S_workOut_0 rfl ?_
  refine rd_ildn (pc := 1) d_S_workOut_1 rfl ?_
  refine rd_callVv (pc := 2) (n' := 0) [_] d_S_workOut_2 ml_S_53 rfl (Nat.le_of_ble_eq_true rfl) (Nat.le_of_ble_eq_true rfl) (Nat.le_of_ble_eq_true rfl) rfl rfl rfl (Nat.le_of_ble_eq_true rfl) (Nat.le_of_ble_eq_true rfl) ?_
  refine ev_S_begin hB.1 hB.2.2.1 hy (fun M1 h1 => ?_)
  refine ⟨rfl, ?_⟩
  refine rd_aldn (pc := 5) d_S_workOut_5 rfl ?_
  refine rd_ildn (pc := 6) d_S_workOut_6 rfl ?_
  refine rd_callVv (pc := 7) (n' := 0) [_] d_S_workOut_7 ml_S_57 rfl (Nat.le_of_ble_eq_true rfl) (Nat.le_of_ble_eq_true rfl) (Nat.le_of_ble_eq_true rfl) rfl rfl rfl (Nat.le_of_ble_eq_true rfl) (Nat.le_of_ble_eq_true rfl) ?_
  refine ev_S_cedeYear (h1.V hB) hy (by rw [h1.d]; exact h1.z.fr (hB.1.n hB.2.2.1)) (fun M2 hV2 hF2 hz2 => ?_)
  refine ⟨rfl, ?_⟩
  exact rd_vret (pc := 10) d_S_workOut_10 rfl (Nat.le_of_ble_eq_true rfl) (hQ M2 _ hV2 (fun q a b => by rw [hF2 q a (by omega)]; exact h1.1 q (by omega)) h1.z (by rw [hz2, h1.d]))
set_option maxHeartbeats 4000000 in
set_option maxRecDepth 100000 in
theorem ev_S_workOutSupposing {y c e : Int} {n nt : Nat} {o : Int → Int} {M : rd_M} {Q : rd_R → rd_M → Prop} (hB : c_B M n nt o) (hy : 0 ≤ y ∧ y ≤ 3) (hc : 0 ≤ c ∧ c < n) (hcc : sp_cnt (c_d M) y c) (he : 0 ≤ e ∧ e ≤ 1000000000) (hQ : ∀ M' Z, c_V M' n nt o y → c_fq M' M → sp_Z0 (c_d M) n y c e Z → c_z M' = sp_runK (c_d M) n nt y Z 5 → Q (.inl none) M') : rd_G x_S_workOutSupposing 0 [some (.ref 4), some (rd_i y), some (rd_i c), some (rd_i e)] [] M 0 Q := by
  have hn40 := hB.1.n hB.2.2.1
  refine rd_aldn (pc := 0) d_S_workOutSupposing_0 rfl ?_
  refine rd_ildn (pc := 1) d_S_workOutSupposing_1 rfl ?_
  refine rd_callVv (pc := 2) (n' := 0) [_] d_S_workOutSupposing_2 ml_S_53 rfl (Nat.le_of_ble_eq_true rfl) (Nat.le_of_ble_eq_true rfl) (Nat.le_of_ble_eq_true rfl) rfl rfl rfl (Nat.le_of_ble_eq_true rfl) (Nat.le_of_ble_eq_true rfl) ?_
  refine ev_S_begin hB.1 hB.2.2.1 hy (fun M1 h1 => ?_)
  refine ⟨rfl, ?_⟩
  refine rd_aldn (pc := 5) d_S_workOutSupposing_5 rfl ?_
  refine rd_getr (pc := 6) d_S_workOutSupposing_6 fl_S_27 rfl rfl ?_
  refine rd_ildn (pc := 9) d_S_workOutSupposing_9 rfl ?_
  refine rd_ildn (pc := 10) d_S_workOutSupposing_10 rfl ?_
  refine rd_iast (pc := 11) d_S_workOutSupposing_11 rfl (by omega) (by omega) ?_
  refine rd_aldn (pc := 12) d_S_workOutSupposing_12 rfl ?_
  refine rd_ildn (pc := 13) d_S_workOutSupposing_13 rfl ?_
  refine rd_callVv (pc := 14) (n' := 0) [_] d_S_workOutSupposing_14 ml_S_57 rfl (Nat.le_of_ble_eq_true rfl) (Nat.le_of_ble_eq_true rfl) (Nat.le_of_ble_eq_true rfl) rfl rfl rfl (Nat.le_of_ble_eq_true rfl) (Nat.le_of_ble_eq_true rfl) ?_
  have hs : ∀ q, q ≠ 24 → rd_up M1 24 c e q = M1 q := fun q h => rd_up_ne h
  have hd1 : c_d (rd_up M1 24 c e) = c_d M := by rw [← h1.d]; exact c_d_of (fun q h => hs q (by omega))
  have hz1 : sp_Z0 (c_d M) n y c e (c_z (rd_up M1 24 c e)) := by
    obtain ⟨a1, a2, a3, a4, a5⟩ := h1.z
    refine ⟨fun k k0 k1 => ?_, a2, a3, a4, a5⟩
    show rd_up M1 24 c e 24 k = _
    rw [rd_up_at]
    by_cases hk : k = c
    · rw [if_pos hk, if_pos (by rw [hk]; exact hcc), if_pos hk]
    · have := a1 k k0 k1
      rw [if_neg (show ¬ k = -1 by omega)] at this
      rw [if_neg hk, if_neg hk]; exact this
  have hV := h1.V hB
  have hV1 : c_V (rd_up M1 24 c e) n nt o y := by
    obtain ⟨vI, vC, vn, vm, vH, vk, vc, vr⟩ := hV
    refine ⟨vI.of (fun q h => hs q (by omega)), vC, vn, vm, vH, hz1.ok (hB.1.D hB.2.1) hn40 he, fun k k0 k1 => ?_, vr⟩
    rw [hd1, ← h1.d]
    refine ⟨(vc k k0 k1).1, fun z => ?_⟩
    rw [rd_up_at, if_neg (fun hk => z (by rw [hk, h1.d]; exact hcc))]
    exact (vc k k0 k1).2 z
  refine ev_S_cedeYear hV1 hy (by rw [hd1]; exact hz1.fr hn40) (fun M2 hV2 hF2 hz2 => ?_)
  refine ⟨rfl, ?_⟩
  try simp (decide := true) only [rd_up_app, rd_up_hit]
  exact rd_vret (pc := 17) d_S_workOutSupposing_17 rfl (Nat.le_of_ble_eq_true rfl) (hQ M2 _ hV2 (fun q a b => by rw [hF2 q a (by omega), hs q (by omega)]; exact h1.1 q (by omega)) hz1 (by rw [hz2, hd1]))

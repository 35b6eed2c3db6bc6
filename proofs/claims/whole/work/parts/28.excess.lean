/-! cession: the excess of each claim; groups gathered -/
theorem fp_0_11 : rd_fp 0 11 .int := ⟨_, _, _, rd_t0, rfl, by decide, rd_tt0, rd_nn0, rfl, by decide +kernel⟩
theorem fp_1_0 : rd_fp 1 0 .int := ⟨_, _, _, rd_t1, rfl, by decide, rd_tt1, rd_nn1, rfl, by decide +kernel⟩
theorem fp_3_0 : rd_fp 3 0 .int := ⟨_, _, _, rd_t3, rfl, by decide, rd_tt3, rd_nn3, rfl, by decide +kernel⟩
theorem fp_5_9 : rd_fp 5 9 .int := ⟨_, _, _, rd_t5, rfl, by decide, rd_tt5, rd_nn5, rfl, by decide +kernel⟩
theorem fp_5_15 : rd_fp 5 15 .int := ⟨_, _, _, rd_t5, rfl, by decide, rd_tt5, rd_nn5, rfl, by decide +kernel⟩
theorem fp_5_28 : rd_fp 5 28 .long := ⟨_, _, _, rd_t5, rfl, by decide, rd_tt5, rd_nn5, rfl, by decide +kernel⟩
theorem fp_5_29 : rd_fp 5 29 .long := ⟨_, _, _, rd_t5, rfl, by decide, rd_tt5, rd_nn5, rfl, by decide +kernel⟩
theorem c_H.bf {M : rd_M} {n : Nat} {o : Int → Int} {i j : Int} (h : c_H M n o) (j0 : 0 ≤ j) (j1 : j < n) (i0 : 0 ≤ i) (i1 : i < n) : o j < i ↔ sp_bf (fun k => - M 12 k) j (M 15 i) := by
  obtain ⟨h1, h2, h3⟩ := h
  have a := h1 j j0 j1
  have b := h2 i i0 i1
  constructor
  · intro hlt
    have := h3 (o j) i a.1.1 hlt i1
    rw [a.2] at this
    exact this
  · intro hb
    by_cases c : o j < i
    · exact c
    · by_cases c2 : o j = i
      · have e : M 15 i = j := by rw [← c2]; exact a.2
        rw [e] at hb
        omega
      · have := h3 i (o j) i0 (by omega) a.1.2
        rw [a.2] at this
        omega
theorem rd_growo {w o : Int → Int} {c i j a : Int} (ha : a = w c) (hc : o c = i) (hj : o j = i → j = c) : (if j = c then (if o j < i then w j else 0) + a else (if o j < i then w j else 0)) = if o j < i + 1 then w j else 0 := by
  by_cases h : j = c
  · subst h; rw [if_pos rfl, if_neg (by omega), if_pos (by omega), ha]; omega
  · rw [if_neg h]
    have : o j ≠ i := fun z => h (hj z)
    by_cases h : o j < i
    · rw [if_pos h, if_pos (by omega)]
    · rw [if_neg h, if_neg (by omega)]
theorem rd_growo0 {w o : Int → Int} {c i j : Int} (ha : w c = 0) (hj : o j = i → j = c) : (if o j < i then w j else 0) = if o j < i + 1 then w j else 0 := by
  by_cases h : j = c
  · subst h; rw [ha]; split <;> split <;> rfl
  · have : o j ≠ i := fun z => h (hj z)
    by_cases h : o j < i
    · rw [if_pos h, if_pos (by omega)]
    · rw [if_neg h, if_neg (by omega)]
theorem c_take_26 {M : rd_M} {t k v : Int} : c_take M t k v 26 t = M 26 t + v := by
  unfold c_take
  simp (decide := true) only [rd_up_app, rd_up_hit]
/-- the layers of the claims whose place is below i -/
def sp_oB (d : rd_M) (n : Nat) (t : Int) (κ o : Int → Int) (i : Int) : Int := rd_sm (fun k => if sp_in d (d 9 t) k = 1 ∧ o k < i then sp_Lt d t (κ k) else 0) n
theorem sp_oB_b {d : rd_M} {n : Nat} {t i : Int} {κ o : Int → Int} (h : sp_tm d t) (hk : ∀ j : Int, 0 ≤ j → j < n → 0 ≤ κ j) : 0 ≤ sp_oB d n t κ o i ∧ sp_oB d n t κ o i ≤ n * 1000000000 := by
  have := rd_sm_b (f := fun k => if sp_in d (d 9 t) k = 1 ∧ o k < i then sp_Lt d t (κ k) else 0) (A := 0) (B := 1000000000) n (fun j a b => by
    have := sp_Lt_b h (hk j a b)
    by_cases hj : sp_in d (d 9 t) j = 1 ∧ o j < i
    · rw [if_pos hj]; omega
    · rw [if_neg hj]; omega)
  unfold sp_oB
  omega
theorem sp_oB_s {d : rd_M} {n : Nat} {t i c : Int} {κ o : Int → Int} (hc : o c = i) (c0 : 0 ≤ c) (c1 : c < n) (hj : ∀ j : Int, 0 ≤ j → j < n → o j = i → j = c) : sp_oB d n t κ o (i + 1) = sp_oB d n t κ o i + (if sp_in d (d 9 t) c = 1 then sp_Lt d t (κ c) else 0) := by
  unfold sp_oB
  rw [← rd_sm_add (w := fun k => if sp_in d (d 9 t) k = 1 ∧ o k < i then sp_Lt d t (κ k) else 0) (k := c) n c0 c1]
  refine rd_sm_c n (fun j a b => ?_)
  by_cases h : j = c
  · subst h
    rw [if_pos rfl, if_neg (c := sp_in d (d 9 t) j = 1 ∧ o j < i) (fun z => by omega)]
    by_cases hi : sp_in d (d 9 t) j = 1
    · rw [if_pos ⟨hi, by omega⟩, if_pos hi]; omega
    · rw [if_neg (fun z => hi z.1), if_neg hi]; rfl
  · rw [if_neg h]
    have hne : o j ≠ i := fun z => h (hj j a b z)
    by_cases hi : sp_in d (d 9 t) j = 1
    · by_cases hz : o j < i
      · rw [if_pos ⟨hi, by omega⟩, if_pos ⟨hi, hz⟩]
      · rw [if_neg (by omega), if_neg (by omega)]
    · rw [if_neg (fun z => hi z.1), if_neg (fun z => hi z.1)]
theorem c_H.xB {M : rd_M} {n : Nat} {o : Int → Int} {t i : Int} (h : c_H M n o) (i0 : 0 ≤ i) (i1 : i < n) : sp_xB (c_d M) n t (M 24) (M 15 i) = sp_oB (c_d M) n t (M 24) o i := by
  refine rd_sm_c n (fun j a b => ?_)
  have hb := h.bf a b i0 i1
  by_cases hj : sp_in (c_d M) (c_d M 9 t) j = 1 ∧ o j < i
  · rw [if_pos ⟨hj.1, hb.1 hj.2⟩, if_pos hj]
  · rw [if_neg (fun z => hj ⟨z.1, hb.2 z.2⟩), if_neg hj]
set_option maxHeartbeats 4000000 in
set_option maxRecDepth 100000 in
theorem lq_S_cedeExcessOfEachClaim {t : Int} {n : Nat} {o : Int → Int} {M : rd_M} {Q : rd_R → rd_M → Prop} (hI : c_I M) (hC : c_Q M) (hn : M 2 0 = n) (hY : c_Y M (M 17 t)) (h0 : 0 ≤ t) (h1 : t < 10) (hH : c_H M n o) (hz : M 26 t = 0) (hQ : Q (.inl none) (c_tks M t n (sp_tkX (c_d M) n t (M 24)))) : ∀ (d : Nat) (i B : Int) (M1 : rd_M), (n - i).toNat = d → (0 ≤ i) → (i ≤ n) → (B = sp_oB (c_d M) n t (M 24) o i) → (M1 = c_tks M t n (fun k => if o k < i then (sp_tkX (c_d M) n t (M 24)) k else 0)) → (M1 26 t = sp_Tt (c_d M) t B) → rd_G x_S_cedeExcessOfEachClaim 5 [some (.ref 4), some (rd_i t), some (rd_l B), none, some (rd_i i), none] [] M1 0 Q := by
  intro d
  induction d using Nat.strongRecOn with
  | ind d ih =>
    intro i B M1 hd i0 i1 hB hM hT
    have hn40 := hI.n hn
    have hI1 : c_I M1 := hI.of (fun q h => by rw [hM]; exact c_tks_low q h)
    have e2 : M1 2 = M 2 := by rw [hM]; exact c_tks_ne (by decide) (by decide) (by decide)
    have e15 : M1 15 = M 15 := by rw [hM]; exact c_tks_ne (by decide) (by decide) (by decide)
    have e18 : M1 18 = M 18 := by rw [hM]; exact c_tks_ne (by decide) (by decide) (by decide)
    have e19 : M1 19 = M 19 := by rw [hM]; exact c_tks_ne (by decide) (by decide) (by decide)
    have e20 : M1 20 = M 20 := by rw [hM]; exact c_tks_ne (by decide) (by decide) (by decide)
    have e21 : M1 21 = M 21 := by rw [hM]; exact c_tks_ne (by decide) (by decide) (by decide)
    have e23 : M1 23 = M 23 := by rw [hM]; exact c_tks_ne (by decide) (by decide) (by decide)
    refine rd_ild (pc := 5) d_S_cedeExcessOfEachClaim_5 rfl ?_
    refine rd_aldn (pc := 7) d_S_cedeExcessOfEachClaim_7 rfl ?_
    refine rd_getr (pc := 8) d_S_cedeExcessOfEachClaim_8 fl_S_15 rfl rfl ?_
    refine rd_gi (pc := 11) (ki := 0) d_S_cedeExcessOfEachClaim_11 fl_S_69 rfl rfl rfl ?_
    first | simp (decide := true) only [rd_up_app, rd_up_hit, e2, e15, e18, e19, e20, e21, e23, e24] | simp (decide := true) only [rd_up_app, rd_up_hit, e2, e15, e18, e19, e20, e21, e23] | skip
    refine rd_icmp_ge (pc := 14) (tgt := 87) d_S_cedeExcessOfEachClaim_14 rfl ⟨by omega, by omega⟩ ⟨by omega, by omega⟩ (fun h14 => ?_) (fun h14 => ?_)
    · skip
      exact rd_vret (pc := 87) d_S_cedeExcessOfEachClaim_87 rfl (Nat.le_of_ble_eq_true rfl) (by rw [hM, c_tks_congr (w' := (sp_tkX (c_d M) n t (M 24))) (fun j a b => by rw [if_pos (by have := (hH.1 j a b).1; omega)])]; exact hQ)
    · skip
      obtain ⟨hc, hoc⟩ := hH.2.1 i i0 (by omega)
      have hoj : ∀ j : Int, 0 ≤ j → j < n → o j = i → j = M 15 i := fun j a b z => by rw [← z]; exact (hH.1 j a b).2.symm
      have e24 : M1 24 (M 15 i) = M 24 (M 15 i) := by rw [hM, c_tks_24, if_pos ⟨hc.1, by omega⟩, if_neg (by omega)]; omega
      obtain ⟨y1, y2, y3⟩ := hY.cnt hn hc.1 (by omega)
      have y4 := sp_in_01 (d := c_d M) (y := M 17 t) (k := M 15 i)
      have htm := hI.tm hC h0 h1
      have hkn : ∀ j : Int, 0 ≤ j → j < n → 0 ≤ M 24 j := fun j a b => (hY.cnt hn a b).2.1.1
      have hBb := sp_oB_b (i := i) (o := o) htm hkn
      have hLb := sp_Lt_b htm (hkn _ hc.1 (by omega))
      have hLb' : 0 ≤ sp_layer (M 18 t) (M 19 t) (M 24 (M 15 i)) ∧ sp_layer (M 18 t) (M 19 t) (M 24 (M 15 i)) ≤ 1000000000 := ⟨hLb.1, hLb.2.2⟩
      have hBs := sp_oB_s (d := c_d M) (t := t) (κ := M 24) hoc hc.1 (by omega) hoj
      refine rd_aldn (pc := 17) d_S_cedeExcessOfEachClaim_17 rfl ?_
      refine rd_getr (pc := 18) d_S_cedeExcessOfEachClaim_18 fl_S_15 rfl rfl ?_
      refine rd_getr (pc := 21) d_S_cedeExcessOfEachClaim_21 fl_S_130 rfl rfl ?_
      refine rd_ild (pc := 24) d_S_cedeExcessOfEachClaim_24 rfl ?_
      refine rd_iald (pc := 26) d_S_cedeExcessOfEachClaim_26 rfl (by omega) (by omega) ?_
      first | simp (decide := true) only [rd_up_app, rd_up_hit, e2, e15, e18, e19, e20, e21, e23, e24] | simp (decide := true) only [rd_up_app, rd_up_hit, e2, e15, e18, e19, e20, e21, e23] | skip
      refine rd_ist5 (pc := 27) d_S_cedeExcessOfEachClaim_27 rfl ?_
      refine rd_aldn (pc := 29) d_S_cedeExcessOfEachClaim_29 rfl ?_
      refine rd_getr (pc := 30) d_S_cedeExcessOfEachClaim_30 fl_S_23 rfl rfl ?_
      refine rd_ild (pc := 33) d_S_cedeExcessOfEachClaim_33 rfl ?_
      refine rd_zald (pc := 35) d_S_cedeExcessOfEachClaim_35 rfl (by omega) (by omega) ?_
      first | simp (decide := true) only [rd_up_app, rd_up_hit, e2, e15, e18, e19, e20, e21, e23, e24] | simp (decide := true) only [rd_up_app, rd_up_hit, e2, e15, e18, e19, e20, e21, e23] | skip
      refine rd_if_eq (pc := 36) (tgt := 81) d_S_cedeExcessOfEachClaim_36 rfl ⟨by omega, by omega⟩ (fun h36 => ?_) (fun h36 => ?_)
      · skip
        refine rd_iinc4 (pc := 81) d_S_cedeExcessOfEachClaim_81 rfl ?_
        refine rd_goto (pc := 84) (tgt := 5) d_S_cedeExcessOfEachClaim_84 rfl ?_
        first
          | (refine rd_weak (L' := [some (.ref 4), some (rd_i t), some (rd_l (B + sp_layer (M 18 t) (M 19 t) (M 24 (M 15 i)))), none, some (rd_i (i + 1)), none]) (by simp [rd_le]) ?_
             have hin : sp_in (c_d M) (c_d M 9 t) (M 15 i) = 1 := (show sp_in (c_d M) (M 17 t) (M 15 i) = 1 by omega)
             rw [if_pos hin] at hBs
             refine ih _ (by omega) (i + 1) _ _ rfl (by omega) (by omega) (by rw [hBs, hB]; rfl) ?_ ?_
             · rw [hT, hM, c_tks_take hc.1 hc.2]
               refine c_tks_congr (fun j a b => rd_growo (w := (sp_tkX (c_d M) n t (M 24))) ?_ hoc (hoj j a b))
               unfold sp_tkX
               rw [if_pos hin, hH.xB i0 (by omega), ← hB]
               rfl
             · rw [c_take_26, hT]
               show _ + (sp_T (M 19 t) (M 20 t) (M 21 t) (B + sp_layer (M 18 t) (M 19 t) (M 24 (M 15 i))) - _) = sp_T (M 19 t) (M 20 t) (M 21 t) (B + sp_layer (M 18 t) (M 19 t) (M 24 (M 15 i)))
               omega)
          | (refine rd_weak (L' := [some (.ref 4), some (rd_i t), some (rd_l B), none, some (rd_i (i + 1)), none]) (by simp [rd_le]) ?_
             have hin : sp_in (c_d M) (c_d M 9 t) (M 15 i) ≠ 1 := (show sp_in (c_d M) (M 17 t) (M 15 i) ≠ 1 by omega)
             rw [if_neg hin] at hBs
             refine ih _ (by omega) (i + 1) _ _ rfl (by omega) (by omega) (by omega) ?_ hT
             rw [hM]; exact c_tks_congr (fun j a b => rd_growo0 (w := (sp_tkX (c_d M) n t (M 24))) (c := M 15 i) (if_neg hin) (hoj j a b)))
      · skip
        refine rd_lldn (pc := 39) d_S_cedeExcessOfEachClaim_39 rfl ?_
        refine rd_aldn (pc := 40) d_S_cedeExcessOfEachClaim_40 rfl ?_
        refine rd_getr (pc := 41) d_S_cedeExcessOfEachClaim_41 fl_S_19 rfl rfl ?_
        refine rd_ildn (pc := 44) d_S_cedeExcessOfEachClaim_44 rfl ?_
        refine rd_aldn (pc := 45) d_S_cedeExcessOfEachClaim_45 rfl ?_
        refine rd_getr (pc := 46) d_S_cedeExcessOfEachClaim_46 fl_S_27 rfl rfl ?_
        refine rd_ild (pc := 49) d_S_cedeExcessOfEachClaim_49 rfl ?_
        refine rd_iald (pc := 51) d_S_cedeExcessOfEachClaim_51 rfl (by omega) (by omega) ?_
        first | simp (decide := true) only [rd_up_app, rd_up_hit, e2, e15, e18, e19, e20, e21, e23, e24] | simp (decide := true) only [rd_up_app, rd_up_hit, e2, e15, e18, e19, e20, e21, e23] | skip
        refine rd_i2l (pc := 52) d_S_cedeExcessOfEachClaim_52 ⟨by omega, by omega⟩ ?_
        refine rd_callVl (pc := 53) (n' := 0) [_, _] d_S_cedeExcessOfEachClaim_53 ml_S_133 rfl (Nat.le_of_ble_eq_true rfl) (Nat.le_of_ble_eq_true rfl) (Nat.le_of_ble_eq_true rfl) rfl rfl rfl (Nat.le_of_ble_eq_true rfl) (Nat.le_of_ble_eq_true rfl) ?_
        refine ev_T_layerOf hI1 h0 h1 ⟨by omega, by omega⟩ ?_
        refine ⟨_, rfl, ?_⟩
        first | simp (decide := true) only [rd_up_app, rd_up_hit, e2, e15, e18, e19, e20, e21, e23, e24] | simp (decide := true) only [rd_up_app, rd_up_hit, e2, e15, e18, e19, e20, e21, e23] | skip
        refine rd_ladd (pc := 56) d_S_cedeExcessOfEachClaim_56 ?_
        refine rd_lst2 (pc := 57) d_S_cedeExcessOfEachClaim_57 rfl ?_
        refine rd_aldn (pc := 58) d_S_cedeExcessOfEachClaim_58 rfl ?_
        refine rd_ildn (pc := 59) d_S_cedeExcessOfEachClaim_59 rfl ?_
        refine rd_ild (pc := 60) d_S_cedeExcessOfEachClaim_60 rfl ?_
        refine rd_aldn (pc := 62) d_S_cedeExcessOfEachClaim_62 rfl ?_
        refine rd_getr (pc := 63) d_S_cedeExcessOfEachClaim_63 fl_S_19 rfl rfl ?_
        refine rd_ildn (pc := 66) d_S_cedeExcessOfEachClaim_66 rfl ?_
        refine rd_lldn (pc := 67) d_S_cedeExcessOfEachClaim_67 rfl ?_
        refine rd_callVl (pc := 68) (n' := 0) [_, _] d_S_cedeExcessOfEachClaim_68 ml_S_136 rfl (Nat.le_of_ble_eq_true rfl) (Nat.le_of_ble_eq_true rfl) (Nat.le_of_ble_eq_true rfl) rfl rfl rfl (Nat.le_of_ble_eq_true rfl) (Nat.le_of_ble_eq_true rfl) ?_
        refine ev_T_takenOfLayers hI1 h0 h1 ⟨by omega, by omega⟩ ?_
        refine ⟨_, rfl, ?_⟩
        first | simp (decide := true) only [rd_up_app, rd_up_hit, e2, e15, e18, e19, e20, e21, e23, e24] | simp (decide := true) only [rd_up_app, rd_up_hit, e2, e15, e18, e19, e20, e21, e23] | skip
        refine rd_aldn (pc := 71) d_S_cedeExcessOfEachClaim_71 rfl ?_
        refine rd_getr (pc := 72) d_S_cedeExcessOfEachClaim_72 fl_S_34 rfl rfl ?_
        refine rd_ildn (pc := 75) d_S_cedeExcessOfEachClaim_75 rfl ?_
        refine rd_lald (pc := 76) d_S_cedeExcessOfEachClaim_76 rfl (by omega) (by omega) ?_
        first | simp (decide := true) only [rd_up_app, rd_up_hit, e2, e15, e18, e19, e20, e21, e23, e24] | simp (decide := true) only [rd_up_app, rd_up_hit, e2, e15, e18, e19, e20, e21, e23] | skip
        refine rd_lsub (pc := 77) d_S_cedeExcessOfEachClaim_77 ?_
        refine rd_callVv (pc := 78) (n' := 0) [_, _, _] d_S_cedeExcessOfEachClaim_78 ml_S_126 rfl (Nat.le_of_ble_eq_true rfl) (Nat.le_of_ble_eq_true rfl) (Nat.le_of_ble_eq_true rfl) rfl rfl rfl (Nat.le_of_ble_eq_true rfl) (Nat.le_of_ble_eq_true rfl) ?_
        refine ev_S_take h0 h1 hc.1 (by omega) ?_
        refine ⟨rfl, ?_⟩
        first | simp (decide := true) only [rd_up_app, rd_up_hit, e2, e15, e18, e19, e20, e21, e23, e24] | simp (decide := true) only [rd_up_app, rd_up_hit, e2, e15, e18, e19, e20, e21, e23] | skip
        refine rd_iinc4 (pc := 81) d_S_cedeExcessOfEachClaim_81 rfl ?_
        refine rd_goto (pc := 84) (tgt := 5) d_S_cedeExcessOfEachClaim_84 rfl ?_
        first
          | (refine rd_weak (L' := [some (.ref 4), some (rd_i t), some (rd_l (B + sp_layer (M 18 t) (M 19 t) (M 24 (M 15 i)))), none, some (rd_i (i + 1)), none]) (by simp [rd_le]) ?_
             have hin : sp_in (c_d M) (c_d M 9 t) (M 15 i) = 1 := (show sp_in (c_d M) (M 17 t) (M 15 i) = 1 by omega)
             rw [if_pos hin] at hBs
             refine ih _ (by omega) (i + 1) _ _ rfl (by omega) (by omega) (by rw [hBs, hB]; rfl) ?_ ?_
             · rw [hT, hM, c_tks_take hc.1 hc.2]
               refine c_tks_congr (fun j a b => rd_growo (w := (sp_tkX (c_d M) n t (M 24))) ?_ hoc (hoj j a b))
               unfold sp_tkX
               rw [if_pos hin, hH.xB i0 (by omega), ← hB]
               rfl
             · rw [c_take_26, hT]
               show _ + (sp_T (M 19 t) (M 20 t) (M 21 t) (B + sp_layer (M 18 t) (M 19 t) (M 24 (M 15 i))) - _) = sp_T (M 19 t) (M 20 t) (M 21 t) (B + sp_layer (M 18 t) (M 19 t) (M 24 (M 15 i)))
               omega)
          | (refine rd_weak (L' := [some (.ref 4), some (rd_i t), some (rd_l B), none, some (rd_i (i + 1)), none]) (by simp [rd_le]) ?_
             have hin : sp_in (c_d M) (c_d M 9 t) (M 15 i) ≠ 1 := (show sp_in (c_d M) (M 17 t) (M 15 i) ≠ 1 by omega)
             rw [if_neg hin] at hBs
             refine ih _ (by omega) (i + 1) _ _ rfl (by omega) (by omega) (by omega) ?_ hT
             rw [hM]; exact c_tks_congr (fun j a b => rd_growo0 (w := (sp_tkX (c_d M) n t (M 24))) (c := M 15 i) (if_neg hin) (hoj j a b)))
set_option maxHeartbeats 4000000 in
set_option maxRecDepth 100000 in
theorem ev_S_cedeExcessOfEachClaim {t : Int} {n : Nat} {o : Int → Int} {M : rd_M} {Q : rd_R → rd_M → Prop} (hI : c_I M) (hC : c_Q M) (hn : M 2 0 = n) (hY : c_Y M (M 17 t)) (h0 : 0 ≤ t) (h1 : t < 10) (hH : c_H M n o) (hz : M 26 t = 0) (hQ : Q (.inl none) (c_tks M t n (sp_tkX (c_d M) n t (M 24)))) : rd_G x_S_cedeExcessOfEachClaim 0 [some (.ref 4), some (rd_i t), none, none, none, none] [] M 0 Q := by
  refine rd_lconst (pc := 0) (v := 0) d_S_cedeExcessOfEachClaim_0 rfl ?_
  refine rd_lst2 (pc := 1) d_S_cedeExcessOfEachClaim_1 rfl ?_
  refine rd_iconst (pc := 2) d_S_cedeExcessOfEachClaim_2 ?_
  refine rd_ist4 (pc := 3) d_S_cedeExcessOfEachClaim_3 rfl ?_
  have hs0 : sp_oB (c_d M) n t (M 24) o 0 = 0 := rd_sm_z n (fun j a b => if_neg (fun z => by have := (hH.1 j a b).1; omega))
  exact lq_S_cedeExcessOfEachClaim hI hC hn hY h0 h1 hH hz hQ _ 0 0 M rfl (by omega) (by omega) hs0.symm (c_tks_0 (fun j a b => by rw [if_neg (by have := (hH.1 j a b).1; omega)])).symm (by rw [hz, sp_Tt_0 (hI.tm hC h0 h1)])
theorem c_G_p {M : rd_M} {p : Int → Int} {n : Nat} {s : Int} (hs : s = sp_cn n p) (h : c_g (M 30) n p) (hp : p n = 1) : c_G (rd_up (rd_up M 30 s n) 4 11 (s + 1)) (n + 1) p := by
  refine ⟨by rw [rd_up_hit, sp_cn_s, if_pos hp, hs], ?_⟩
  have e : (rd_up (rd_up M 30 s n) 4 11 (s + 1)) 30 = fun j => if j = sp_cn n p then (n : Int) else M 30 j := by
    funext j
    rw [rd_up_app (by decide), rd_up_at, hs]
  rw [e]
  exact c_g_p h hp
theorem c_sm.refl {M : rd_M} : c_sm M M := fun _ _ _ _ => rfl
theorem c_sm.up {M M1 : rd_M} {q : Nat} {i v : Int} (h : c_sm M1 M) (hq : q = 4 ∨ q = 30 ∨ q = 31) : c_sm (rd_up M1 q i v) M := fun r a b c => by
  rw [rd_up_ne (by omega)]; exact h r a b c
theorem c_sm.low {M M1 : rd_M} (h : c_sm M1 M) (hI : c_I M) : c_I M1 := by
  have h2 := h 2 (by decide) (by decide) (by decide)
  unfold c_I at *
  rw [h 2 (by decide) (by decide) (by decide), h 3 (by decide) (by decide) (by decide), h 5 (by decide) (by decide) (by decide), h 7 (by decide) (by decide) (by decide), h 8 (by decide) (by decide) (by decide), h 9 (by decide) (by decide) (by decide), h 10 (by decide) (by decide) (by decide), h 11 (by decide) (by decide) (by decide), h 12 (by decide) (by decide) (by decide), h 13 (by decide) (by decide) (by decide), h 14 (by decide) (by decide) (by decide), h 15 (by decide) (by decide) (by decide), h 16 (by decide) (by decide) (by decide), h 17 (by decide) (by decide) (by decide), h 18 (by decide) (by decide) (by decide), h 19 (by decide) (by decide) (by decide), h 20 (by decide) (by decide) (by decide), h 21 (by decide) (by decide) (by decide), h 22 (by decide) (by decide) (by decide)]
  exact hI
theorem c_sm.d {M M1 : rd_M} (h : c_sm M1 M) : c_d M1 = c_d M := by
  funext q
  unfold c_d
  split <;> exact h _ (by decide) (by decide) (by decide)
theorem sp_inE_1 {d : rd_M} {y e k : Int} : sp_inE d y e k = 1 ↔ sp_cnt d y k ∧ d 4 k = e := by
  unfold sp_inE
  by_cases h : sp_cnt d y k ∧ d 4 k = e
  · rw [if_pos h]; exact ⟨fun _ => h, fun _ => rfl⟩
  · rw [if_neg h]; exact ⟨fun z => by omega, fun z => absurd z h⟩
theorem c_g_n' {G p : Int → Int} {i : Int} (i0 : 0 ≤ i) (h : c_g G i.toNat p) (hp : p i ≠ 1) : c_g G (i + 1).toNat p ∧ sp_cn (i + 1).toNat p = sp_cn i.toNat p := by
  have e : (i + 1).toNat = i.toNat + 1 := by omega
  have f : ((i.toNat : Nat) : Int) = i := by omega
  rw [e]
  refine ⟨c_g_n h (by rw [f]; exact hp), ?_⟩
  rw [sp_cn_s, f, if_neg hp]; omega
theorem c_G_p' {M : rd_M} {p : Int → Int} {i s : Int} (i0 : 0 ≤ i) (hs : s = sp_cn i.toNat p) (h : c_g (M 30) i.toNat p) (hp : p i = 1) : c_G (rd_up (rd_up M 30 s i) 4 11 (s + 1)) (i + 1).toNat p := by
  have e : (i + 1).toNat = i.toNat + 1 := by omega
  have f : ((i.toNat : Nat) : Int) = i := by omega
  rw [e]
  have := c_G_p hs h (by rw [f]; exact hp)
  rw [f] at this
  exact this
set_option maxHeartbeats 4000000 in
set_option maxRecDepth 100000 in
theorem lq_S_gatherEvent {y e : Int} {n : Nat} {M : rd_M} {Q : rd_R → rd_M → Prop} (hI : c_I M) (hn : M 2 0 = n) (hY : c_Y M y) (he : 0 ≤ e ∧ e ≤ 9) (hQ : ∀ M', c_sm M' M → c_G M' n (sp_inE (c_d M) y e) → Q (.inl none) M') : ∀ (d : Nat) (i : Int) (M1 : rd_M), (n - i).toNat = d → (0 ≤ i) → (i ≤ n) → (c_sm M1 M) → (c_G M1 i.toNat (sp_inE (c_d M) y e)) → rd_G x_S_gatherEvent 7 [some (.ref 4), some (rd_i e), some (rd_i i)] [] M1 0 Q := by
  intro d
  induction d using Nat.strongRecOn with
  | ind d ih =>
    intro i M1 hd i0 i1 hS hG
    have hn40 := hI.n hn
    have hsz := sp_cn_hi (n := i.toNat) (p := (sp_inE (c_d M) y e))
    have hs0 := sp_cn_nn (n := i.toNat) (p := (sp_inE (c_d M) y e))
    obtain ⟨hG1, hG2⟩ := hG
    have e2 : M1 2 = M 2 := hS 2 (by decide) (by decide) (by decide)
    have e11 : M1 11 = M 11 := hS 11 (by decide) (by decide) (by decide)
    have e23 : M1 23 = M 23 := hS 23 (by decide) (by decide) (by decide)
    refine rd_ildn (pc := 7) d_S_gatherEvent_7 rfl ?_
    refine rd_aldn (pc := 8) d_S_gatherEvent_8 rfl ?_
    refine rd_getr (pc := 9) d_S_gatherEvent_9 fl_S_15 rfl rfl ?_
    refine rd_gi (pc := 12) (ki := 0) d_S_gatherEvent_12 fl_S_69 rfl rfl rfl ?_
    first | simp (decide := true) only [rd_up_app, rd_up_hit, e2, e11, e23, hG1] | simp (decide := true) only [rd_up_app, rd_up_hit, e2, e11, e23] | skip
    refine rd_icmp_ge (pc := 15) (tgt := 66) d_S_gatherEvent_15 rfl ⟨by omega, by omega⟩ ⟨by omega, by omega⟩ (fun h15 => ?_) (fun h15 => ?_)
    · skip
      exact rd_vret (pc := 66) d_S_gatherEvent_66 rfl (Nat.le_of_ble_eq_true rfl) (by have e : i.toNat = n := (by omega); rw [e] at hG1 hG2; exact hQ _ hS ⟨hG1, hG2⟩)
    · skip
      obtain ⟨y1, y2, y3⟩ := hY.cnt hn i0 (by omega)
      have y4 := sp_in_01 (d := c_d M) (y := y) (k := i)
      obtain ⟨hr, hev, _⟩ := hI.claim i0 (by omega)
      refine rd_aldn (pc := 18) d_S_gatherEvent_18 rfl ?_
      refine rd_getr (pc := 19) d_S_gatherEvent_19 fl_S_23 rfl rfl ?_
      refine rd_ildn (pc := 22) d_S_gatherEvent_22 rfl ?_
      refine rd_zald (pc := 23) d_S_gatherEvent_23 rfl (by omega) (by omega) ?_
      first | simp (decide := true) only [rd_up_app, rd_up_hit, e2, e11, e23, hG1] | simp (decide := true) only [rd_up_app, rd_up_hit, e2, e11, e23] | skip
      refine rd_if_eq (pc := 24) (tgt := 60) d_S_gatherEvent_24 rfl ⟨by omega, by omega⟩ (fun h24 => ?_) (fun h24 => ?_)
      · skip
        refine rd_iinc2 (pc := 60) d_S_gatherEvent_60 rfl ?_
        refine rd_goto (pc := 63) (tgt := 7) d_S_gatherEvent_63 rfl ?_
        first
          | (refine ih _ (by omega) (i + 1) _ rfl (by omega) (by omega) ((hS.up (by omega)).up (by omega)) ?_
             exact c_G_p' i0 rfl hG2 (sp_inE_1.2 ⟨sp_in_1.1 (by omega), (show M 11 i = e by omega)⟩))
          | (have hno : (sp_inE (c_d M) y e) i ≠ 1 := fun z => (by have z1 := sp_inE_1.1 z; have z2 := sp_in_1.2 z1.1; have z3 : M 11 i = e := z1.2; omega)
             have hg := c_g_n' i0 hG2 hno
             exact ih _ (by omega) (i + 1) _ rfl (by omega) (by omega) hS ⟨by rw [hG1, hg.2], hg.1⟩)
      · skip
        refine rd_aldn (pc := 27) d_S_gatherEvent_27 rfl ?_
        refine rd_getr (pc := 28) d_S_gatherEvent_28 fl_S_15 rfl rfl ?_
        refine rd_getr (pc := 31) d_S_gatherEvent_31 fl_S_160 rfl rfl ?_
        refine rd_ildn (pc := 34) d_S_gatherEvent_34 rfl ?_
        refine rd_iald (pc := 35) d_S_gatherEvent_35 rfl (by omega) (by omega) ?_
        first | simp (decide := true) only [rd_up_app, rd_up_hit, e2, e11, e23, hG1] | simp (decide := true) only [rd_up_app, rd_up_hit, e2, e11, e23] | skip
        refine rd_ildn (pc := 36) d_S_gatherEvent_36 rfl ?_
        refine rd_icmp_ne (pc := 37) (tgt := 60) d_S_gatherEvent_37 rfl ⟨by omega, by omega⟩ ⟨by omega, by omega⟩ (fun h37 => ?_) (fun h37 => ?_)
        · skip
          refine rd_iinc2 (pc := 60) d_S_gatherEvent_60 rfl ?_
          refine rd_goto (pc := 63) (tgt := 7) d_S_gatherEvent_63 rfl ?_
          first
            | (refine ih _ (by omega) (i + 1) _ rfl (by omega) (by omega) ((hS.up (by omega)).up (by omega)) ?_
               exact c_G_p' i0 rfl hG2 (sp_inE_1.2 ⟨sp_in_1.1 (by omega), (show M 11 i = e by omega)⟩))
            | (have hno : (sp_inE (c_d M) y e) i ≠ 1 := fun z => (by have z1 := sp_inE_1.1 z; have z2 := sp_in_1.2 z1.1; have z3 : M 11 i = e := z1.2; omega)
               have hg := c_g_n' i0 hG2 hno
               exact ih _ (by omega) (i + 1) _ rfl (by omega) (by omega) hS ⟨by rw [hG1, hg.2], hg.1⟩)
        · skip
          refine rd_aldn (pc := 40) d_S_gatherEvent_40 rfl ?_
          refine rd_getr (pc := 41) d_S_gatherEvent_41 fl_S_47 rfl rfl ?_
          refine rd_aldn (pc := 44) d_S_gatherEvent_44 rfl ?_
          refine rd_gi (pc := 45) (ki := 11) d_S_gatherEvent_45 fl_S_142 rfl rfl rfl ?_
          first | simp (decide := true) only [rd_up_app, rd_up_hit, e2, e11, e23, hG1] | simp (decide := true) only [rd_up_app, rd_up_hit, e2, e11, e23] | skip
          refine rd_ildn (pc := 48) d_S_gatherEvent_48 rfl ?_
          refine rd_iast (pc := 49) d_S_gatherEvent_49 rfl (by omega) (by omega) ?_
          refine rd_aldn (pc := 50) d_S_gatherEvent_50 rfl ?_
          refine rd_dup (pc := 51) d_S_gatherEvent_51 rfl ?_
          refine rd_gi (pc := 52) (ki := 11) d_S_gatherEvent_52 fl_S_142 rfl rfl rfl ?_
          first | simp (decide := true) only [rd_up_app, rd_up_hit, e2, e11, e23, hG1] | simp (decide := true) only [rd_up_app, rd_up_hit, e2, e11, e23] | skip
          refine rd_iconst (pc := 55) d_S_gatherEvent_55 ?_
          refine rd_iadd (pc := 56) d_S_gatherEvent_56 ?_
          refine rd_pi (pc := 57) (ki := 11) d_S_gatherEvent_57 fl_S_142 fp_0_11 rfl rfl rfl ?_
          refine rd_iinc2 (pc := 60) d_S_gatherEvent_60 rfl ?_
          refine rd_goto (pc := 63) (tgt := 7) d_S_gatherEvent_63 rfl ?_
          first
            | (refine ih _ (by omega) (i + 1) _ rfl (by omega) (by omega) ((hS.up (by omega)).up (by omega)) ?_
               exact c_G_p' i0 rfl hG2 (sp_inE_1.2 ⟨sp_in_1.1 (by omega), (show M 11 i = e by omega)⟩))
            | (have hno : (sp_inE (c_d M) y e) i ≠ 1 := fun z => (by have z1 := sp_inE_1.1 z; have z2 := sp_in_1.2 z1.1; have z3 : M 11 i = e := z1.2; omega)
               have hg := c_g_n' i0 hG2 hno
               exact ih _ (by omega) (i + 1) _ rfl (by omega) (by omega) hS ⟨by rw [hG1, hg.2], hg.1⟩)
set_option maxHeartbeats 4000000 in
set_option maxRecDepth 100000 in
theorem ev_S_gatherEvent {y e : Int} {n : Nat} {M : rd_M} {Q : rd_R → rd_M → Prop} (hI : c_I M) (hn : M 2 0 = n) (hY : c_Y M y) (he : 0 ≤ e ∧ e ≤ 9) (hQ : ∀ M', c_sm M' M → c_G M' n (sp_inE (c_d M) y e) → Q (.inl none) M') : rd_G x_S_gatherEvent 0 [some (.ref 4), some (rd_i e), none] [] M 0 Q := by
  refine rd_aldn (pc := 0) d_S_gatherEvent_0 rfl ?_
  refine rd_iconst (pc := 1) d_S_gatherEvent_1 ?_
  refine rd_pi (pc := 2) (ki := 11) d_S_gatherEvent_2 fl_S_142 fp_0_11 rfl rfl rfl ?_
  refine rd_iconst (pc := 5) d_S_gatherEvent_5 ?_
  refine rd_ist2 (pc := 6) d_S_gatherEvent_6 rfl ?_
  exact lq_S_gatherEvent hI hn hY he hQ _ 0 _ rfl (by omega) (by omega) (c_sm.refl.up (by omega)) ⟨rd_up_hit, c_g_0⟩

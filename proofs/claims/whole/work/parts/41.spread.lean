/-! the reference: windows and spreads -/
set_option maxHeartbeats 4000000 in
set_option maxRecDepth 100000 in
theorem lq_M_inWindow {t e h : Int} {n nt : Nat} {M : rd_M} {Q : rd_R → rd_M → Prop} (hB : r_B M n nt) (hK : ∀ k : Int, 0 ≤ k → k < n → 0 ≤ M 49 k ∧ M 49 k ≤ 1000000000) (h0 : 0 ≤ t) (h1 : t < 10) (he : 1 ≤ e ∧ e ≤ 9) (hh : 0 ≤ h ∧ h ≤ 100000) (hQ : Q (.inl (some (rd_l (sp_W (r_d M) n ((M 41 t).tmod 10) e (M 49) h)))) M) : ∀ (d : Nat) (i a : Int), (n - i).toNat = d → (0 ≤ i) → (i ≤ n) → (a = rd_sm (fun k => if sp_inW (r_d M) ((M 41 t).tmod 10) e h k = 1 then M 49 k else 0) i.toNat) → rd_G x_M_inWindow 6 [some (.ref 32), some (rd_i t), some (rd_i e), some (rd_i h), some (rd_l a), none, some (rd_i i)] [] M 0 Q := by
  intro d
  induction d using Nat.strongRecOn with
  | ind d ih =>
    intro i a hd i0 i1 ha
    have hn := hB.1
    have hn4 := hB.2.2.1
    obtain ⟨s1, s2, s3, _⟩ := hB.sh h0 h1
    refine rd_ild (pc := 6) d_M_inWindow_6 rfl ?_
    refine rd_aldn (pc := 8) d_M_inWindow_8 rfl ?_
    refine rd_gi (pc := 9) (ki := 9) d_M_inWindow_9 fl_M_97 rfl rfl rfl ?_
    refine rd_icmp_ge (pc := 12) (tgt := 85) d_M_inWindow_12 rfl ⟨by omega, by omega⟩ ⟨by omega, by omega⟩ (fun h12 => ?_) (fun h12 => ?_)
    · skip
      refine rd_lld (pc := 85) d_M_inWindow_85 rfl ?_
      exact rd_lret (pc := 87) d_M_inWindow_87 rfl (Nat.le_of_ble_eq_true rfl) (by rw [ha, show i.toNat = n by omega]; exact hQ)
    · skip
      have hs := rd_sm_s (f := (fun k => if sp_inW (r_d M) ((M 41 t).tmod 10) e h k = 1 then M 49 k else 0)) i0
      obtain ⟨c1, c2, c3, c4, c5⟩ := hB.claim i0 (by omega)
      have hk := hK i i0 (by omega)
      refine rd_lld (pc := 15) d_M_inWindow_15 rfl ?_
      refine rd_aldn (pc := 17) d_M_inWindow_17 rfl ?_
      refine rd_ild (pc := 18) d_M_inWindow_18 rfl ?_
      refine rd_aldn (pc := 20) d_M_inWindow_20 rfl ?_
      refine rd_ildn (pc := 21) d_M_inWindow_21 rfl ?_
      refine rd_callVi (pc := 22) (n' := 0) [_] d_M_inWindow_22 ml_M_130 rfl (Nat.le_of_ble_eq_true rfl) (Nat.le_of_ble_eq_true rfl) (Nat.le_of_ble_eq_true rfl) rfl rfl rfl (Nat.le_of_ble_eq_true rfl) (Nat.le_of_ble_eq_true rfl) ?_
      refine ev_M_treatyYear hB h0 h1 ?_
      refine ⟨_, rfl, ?_⟩
      refine rd_callVi (pc := 25) (n' := 0) [_, _] d_M_inWindow_25 ml_M_160 rfl (Nat.le_of_ble_eq_true rfl) (Nat.le_of_ble_eq_true rfl) (Nat.le_of_ble_eq_true rfl) rfl rfl rfl (Nat.le_of_ble_eq_true rfl) (Nat.le_of_ble_eq_true rfl) ?_
      refine ev_M_counts hB i0 (by omega) ⟨by omega, by omega⟩ (fun c25 => ⟨_, rfl, ?_⟩) (fun c25 => ⟨_, rfl, ?_⟩)
      · skip
        refine rd_if_eq (pc := 28) (tgt := 75) d_M_inWindow_28 rfl ⟨by omega, by omega⟩ (fun h28 => ?_) (fun h28 => ?_)
        · exact absurd h28 (by decide)
        · skip
          refine rd_aldn (pc := 31) d_M_inWindow_31 rfl ?_
          refine rd_getr (pc := 32) d_M_inWindow_32 fl_M_22 rfl rfl ?_
          refine rd_ild (pc := 35) d_M_inWindow_35 rfl ?_
          refine rd_iald (pc := 37) d_M_inWindow_37 rfl (by omega) (by omega) ?_
          refine rd_ildn (pc := 38) d_M_inWindow_38 rfl ?_
          refine rd_icmp_ne (pc := 39) (tgt := 75) d_M_inWindow_39 rfl ⟨by omega, by omega⟩ ⟨by omega, by omega⟩ (fun h39 => ?_) (fun h39 => ?_)
          · skip
            refine rd_lconst (pc := 75) (v := 0) d_M_inWindow_75 rfl ?_
            refine rd_ladd (pc := 76) d_M_inWindow_76 ?_
            refine rd_lst4 (pc := 77) d_M_inWindow_77 rfl ?_
            refine rd_iinc6 (pc := 79) d_M_inWindow_79 rfl ?_
            refine rd_goto (pc := 82) (tgt := 6) d_M_inWindow_82 rfl ?_
            by_cases hc : (M 40 i = 0 ∧ M 35 (M 36 i) = (M 41 t).tmod 10) ∧ M 37 i = e ∧ h ≤ M 38 i ∧ M 38 i < h + 72
            · first | (exfalso; omega) | exact ih _ (by omega) (i + 1) _ rfl (by omega) (by omega) (by rw [hs, ha, if_pos (sp_inW_1.2 ⟨sp_inE_1.2 ⟨hc.1, hc.2.1⟩, hc.2.2⟩)])
            · first | (exfalso; omega) | exact ih _ (by omega) (i + 1) _ rfl (by omega) (by omega) (by rw [hs, ha, if_neg (fun z => hc (by have z1 := sp_inW_1.1 z; have z2 := sp_inE_1.1 z1.1; exact ⟨z2.1, z2.2, z1.2⟩))])
          · skip
            refine rd_aldn (pc := 42) d_M_inWindow_42 rfl ?_
            refine rd_getr (pc := 43) d_M_inWindow_43 fl_M_25 rfl rfl ?_
            refine rd_ild (pc := 46) d_M_inWindow_46 rfl ?_
            refine rd_iald (pc := 48) d_M_inWindow_48 rfl (by omega) (by omega) ?_
            refine rd_i2l (pc := 49) d_M_inWindow_49 ⟨by omega, by omega⟩ ?_
            refine rd_ildn (pc := 50) d_M_inWindow_50 rfl ?_
            refine rd_i2l (pc := 51) d_M_inWindow_51 ⟨by omega, by omega⟩ ?_
            refine rd_ildn (pc := 52) d_M_inWindow_52 rfl ?_
            refine rd_bipush (pc := 53) d_M_inWindow_53 rfl ?_
            refine rd_iadd (pc := 55) d_M_inWindow_55 ?_
            refine rd_iconst (pc := 56) d_M_inWindow_56 ?_
            refine rd_isub (pc := 57) d_M_inWindow_57 ?_
            refine rd_i2l (pc := 58) d_M_inWindow_58 ⟨by omega, by omega⟩ ?_
            refine rd_callSi (pc := 59) (n' := 0) [_, _, _] d_M_inWindow_59 ml_M_93 (Nat.le_of_ble_eq_true rfl) (Nat.le_of_ble_eq_true rfl) (Nat.le_of_ble_eq_true rfl) rfl rfl rfl (Nat.le_of_ble_eq_true rfl) (Nat.le_of_ble_eq_true rfl) ?_
            refine ev_M_in ⟨by omega, by omega⟩ ⟨by omega, by omega⟩ ⟨by omega, by omega⟩ (fun c59 => ⟨_, rfl, ?_⟩) (fun c59 => ⟨_, rfl, ?_⟩)
            · skip
              refine rd_if_eq (pc := 62) (tgt := 75) d_M_inWindow_62 rfl ⟨by omega, by omega⟩ (fun h62 => ?_) (fun h62 => ?_)
              · exact absurd h62 (by decide)
              · skip
                refine rd_aldn (pc := 65) d_M_inWindow_65 rfl ?_
                refine rd_getr (pc := 66) d_M_inWindow_66 fl_M_60 rfl rfl ?_
                refine rd_ild (pc := 69) d_M_inWindow_69 rfl ?_
                refine rd_lald (pc := 71) d_M_inWindow_71 rfl (by omega) (by omega) ?_
                refine rd_goto (pc := 72) (tgt := 76) d_M_inWindow_72 rfl ?_
                refine rd_ladd (pc := 76) d_M_inWindow_76 ?_
                refine rd_lst4 (pc := 77) d_M_inWindow_77 rfl ?_
                refine rd_iinc6 (pc := 79) d_M_inWindow_79 rfl ?_
                refine rd_goto (pc := 82) (tgt := 6) d_M_inWindow_82 rfl ?_
                by_cases hc : (M 40 i = 0 ∧ M 35 (M 36 i) = (M 41 t).tmod 10) ∧ M 37 i = e ∧ h ≤ M 38 i ∧ M 38 i < h + 72
                · first | (exfalso; omega) | exact ih _ (by omega) (i + 1) _ rfl (by omega) (by omega) (by rw [hs, ha, if_pos (sp_inW_1.2 ⟨sp_inE_1.2 ⟨hc.1, hc.2.1⟩, hc.2.2⟩)])
                · first | (exfalso; omega) | exact ih _ (by omega) (i + 1) _ rfl (by omega) (by omega) (by rw [hs, ha, if_neg (fun z => hc (by have z1 := sp_inW_1.1 z; have z2 := sp_inE_1.1 z1.1; exact ⟨z2.1, z2.2, z1.2⟩))])
            · skip
              refine rd_if_eq (pc := 62) (tgt := 75) d_M_inWindow_62 rfl ⟨by omega, by omega⟩ (fun h62 => ?_) (fun h62 => ?_)
              · skip
                refine rd_lconst (pc := 75) (v := 0) d_M_inWindow_75 rfl ?_
                refine rd_ladd (pc := 76) d_M_inWindow_76 ?_
                refine rd_lst4 (pc := 77) d_M_inWindow_77 rfl ?_
                refine rd_iinc6 (pc := 79) d_M_inWindow_79 rfl ?_
                refine rd_goto (pc := 82) (tgt := 6) d_M_inWindow_82 rfl ?_
                by_cases hc : (M 40 i = 0 ∧ M 35 (M 36 i) = (M 41 t).tmod 10) ∧ M 37 i = e ∧ h ≤ M 38 i ∧ M 38 i < h + 72
                · first | (exfalso; omega) | exact ih _ (by omega) (i + 1) _ rfl (by omega) (by omega) (by rw [hs, ha, if_pos (sp_inW_1.2 ⟨sp_inE_1.2 ⟨hc.1, hc.2.1⟩, hc.2.2⟩)])
                · first | (exfalso; omega) | exact ih _ (by omega) (i + 1) _ rfl (by omega) (by omega) (by rw [hs, ha, if_neg (fun z => hc (by have z1 := sp_inW_1.1 z; have z2 := sp_inE_1.1 z1.1; exact ⟨z2.1, z2.2, z1.2⟩))])
              · exact absurd h62 (by decide)
      · skip
        refine rd_if_eq (pc := 28) (tgt := 75) d_M_inWindow_28 rfl ⟨by omega, by omega⟩ (fun h28 => ?_) (fun h28 => ?_)
        · skip
          refine rd_lconst (pc := 75) (v := 0) d_M_inWindow_75 rfl ?_
          refine rd_ladd (pc := 76) d_M_inWindow_76 ?_
          refine rd_lst4 (pc := 77) d_M_inWindow_77 rfl ?_
          refine rd_iinc6 (pc := 79) d_M_inWindow_79 rfl ?_
          refine rd_goto (pc := 82) (tgt := 6) d_M_inWindow_82 rfl ?_
          by_cases hc : (M 40 i = 0 ∧ M 35 (M 36 i) = (M 41 t).tmod 10) ∧ M 37 i = e ∧ h ≤ M 38 i ∧ M 38 i < h + 72
          · first | (exfalso; omega) | exact ih _ (by omega) (i + 1) _ rfl (by omega) (by omega) (by rw [hs, ha, if_pos (sp_inW_1.2 ⟨sp_inE_1.2 ⟨hc.1, hc.2.1⟩, hc.2.2⟩)])
          · first | (exfalso; omega) | exact ih _ (by omega) (i + 1) _ rfl (by omega) (by omega) (by rw [hs, ha, if_neg (fun z => hc (by have z1 := sp_inW_1.1 z; have z2 := sp_inE_1.1 z1.1; exact ⟨z2.1, z2.2, z1.2⟩))])
        · exact absurd h28 (by decide)
set_option maxHeartbeats 4000000 in
set_option maxRecDepth 100000 in
theorem ev_M_inWindow {t e h : Int} {n nt : Nat} {M : rd_M} {Q : rd_R → rd_M → Prop} (hB : r_B M n nt) (hK : ∀ k : Int, 0 ≤ k → k < n → 0 ≤ M 49 k ∧ M 49 k ≤ 1000000000) (h0 : 0 ≤ t) (h1 : t < 10) (he : 1 ≤ e ∧ e ≤ 9) (hh : 0 ≤ h ∧ h ≤ 100000) (hQ : Q (.inl (some (rd_l (sp_W (r_d M) n ((M 41 t).tmod 10) e (M 49) h)))) (M)) : rd_G x_M_inWindow 0 [some (.ref 32), some (rd_i t), some (rd_i e), some (rd_i h), none, none, none] [] M 0 Q := by
  refine rd_lconst (pc := 0) (v := 0) d_M_inWindow_0 rfl ?_
  refine rd_lst4 (pc := 1) d_M_inWindow_1 rfl ?_
  refine rd_iconst (pc := 3) d_M_inWindow_3 ?_
  refine rd_ist6 (pc := 4) d_M_inWindow_4 rfl ?_
  exact lq_M_inWindow hB hK h0 h1 he hh hQ _ 0 0 rfl (by omega) (by omega) rfl
/-- the same but for rows that the reference uses again -/
def r_sm (A B : rd_M) : Prop := ∀ q, q ≠ 56 → q ≠ 57 → A q = B q
theorem r_sm.trans {A B C : rd_M} (h : r_sm A B) (h' : r_sm B C) : r_sm A C := fun q a b => (h q a b).trans (h' q a b)
theorem r_sm.refl {A : rd_M} : r_sm A A := fun _ _ _ => rfl
theorem r_sm.up {M M1 : rd_M} {q : Nat} {i v : Int} (h : r_sm M1 M) (hq : q = 56 ∨ q = 57) : r_sm (rd_up M1 q i v) M := fun r a b => by
  rw [rd_up_ne (by omega)]; exact h r a b
theorem r_sm.tks {A B : rd_M} {t : Int} {n : Nat} {w : Int → Int} (h : r_sm A B) : r_sm (r_tks A t n w) (r_tks B t n w) := by
  intro q a b
  unfold r_tks
  rw [h 49 (by decide) (by decide), h 50 (by decide) (by decide), h 51 (by decide) (by decide), h q a b]
theorem r_sm.fr {A B : rd_M} (h : r_sm A B) : r_fr A B := ⟨fun q a b => h q (by omega) (by omega), fun i a b => by rw [h 32 (by decide) (by decide)]⟩
theorem rd_sm_s' {f : Int → Int} {i : Int} (h : 0 ≤ i) : rd_sm f (i + 1).toNat = rd_sm f i.toNat + f i := rd_sm_s h
set_option maxHeartbeats 4000000 in
set_option maxRecDepth 100000 in
theorem lq_M_spreadD {t v s : Int} {n nt : Nat} {p : Int → Int} {M : rd_M} {Q : rd_R → rd_M → Prop} (hB : r_B M n nt) (hK : ∀ k : Int, 0 ≤ k → k < n → 0 ≤ M 49 k ∧ M 49 k ≤ 1000000000) (hp : ∀ k : Int, 0 ≤ k → k < n → M 55 k = p k ∧ (0 ≤ p k ∧ p k ≤ 1)) (h0 : 0 ≤ t) (h1 : t < 10) (hv : 0 ≤ v ∧ v ≤ 1000000000) (hs : s = sp_sum n p (M 49)) (hvs : v ≤ s) (hs0 : 0 < s) (hQ : ∀ M', r_sm M' (r_tks M t n (sp_spr n p (M 49) v s)) → Q (.inl none) M') : ∀ (d : Nat) (i : Int) (B M1 : rd_M), (n - i).toNat = d → (0 ≤ i) → (i ≤ n) → (r_sm B M) → (∀ k : Int, 0 ≤ k → k < n → p k = 1 → B 57 k = if sp_rk n p (sp_r (M 49) v s) k < sp_ov n p (M 49) v s then 1 else 0) → (M1 = r_tks B t n (fun k => if k < i then (sp_spr n p (M 49) v s) k else 0)) → rd_G x_M_spread 217 [some (.ref 32), some (rd_i t), some (rd_l v), none, some (rd_l s), none, none, none, some (rd_i i), none, none] [] M1 0 Q := by
  intro d
  induction d using Nat.strongRecOn with
  | ind d ih =>
    intro i B M1 hd i0 i1 hB1 hm hM
    have hn := hB.1
    have hn4 := hB.2.2.1
    have e32 : M1 32 9 = M 32 9 := by rw [hM, r_tks_ne (by decide) (by decide) (by decide), hB1 32 (by decide) (by decide)]
    have e55 : M1 55 = M 55 := by rw [hM, r_tks_ne (by decide) (by decide) (by decide), hB1 55 (by decide) (by decide)]
    refine rd_ild (pc := 217) d_M_spread_217 rfl ?_
    refine rd_aldn (pc := 219) d_M_spread_219 rfl ?_
    refine rd_gi (pc := 220) (ki := 9) d_M_spread_220 fl_M_97 rfl rfl rfl ?_
    first | simp (decide := true) only [rd_up_app, rd_up_hit, e32, e55, p1, e49, e57, h57'] | simp (decide := true) only [rd_up_app, rd_up_hit, e32, e55, p1, e49, e57] | simp (decide := true) only [rd_up_app, rd_up_hit, e32] | skip
    refine rd_icmp_ge (pc := 223) (tgt := 270) d_M_spread_223 rfl ⟨by omega, by omega⟩ ⟨by omega, by omega⟩ (fun h223 => ?_) (fun h223 => ?_)
    · skip
      exact rd_vret (pc := 270) d_M_spread_270 rfl (Nat.le_of_ble_eq_true rfl) (by
      refine hQ _ ?_
      rw [hM, r_tks_congr (w' := (sp_spr n p (M 49) v s)) (fun j a b => by rw [if_pos (by omega)])]
      exact hB1.tks)
    · skip
      obtain ⟨p1, p2⟩ := hp i i0 (by omega)
      have hk := hK i i0 (by omega)
      have hmul := rd_mulb hk.1 hk.2 hv.1 hv.2
      have hsb := sp_sum_hi (p := p) hK
      have e49 : M1 49 i = M 49 i := by (rw [hM, r_tks_24, if_pos (by omega), if_neg (by omega), hB1 49 (by decide) (by decide)]; omega)
      have e57 : M1 57 i = B 57 i := by rw [hM, r_tks_ne (by decide) (by decide) (by decide)]
      have h57 : p i = 1 → B 57 i = if sp_rk n p (sp_r (M 49) v s) i < sp_ov n p (M 49) v s then 1 else 0 := hm i i0 (by omega)
      have h01 := rd_01 (P := sp_rk n p (sp_r (M 49) v s) i < sp_ov n p (M 49) v s)
      refine rd_aldn (pc := 226) d_M_spread_226 rfl ?_
      refine rd_getr (pc := 227) d_M_spread_227 fl_M_78 rfl rfl ?_
      refine rd_ild (pc := 230) d_M_spread_230 rfl ?_
      refine rd_zald (pc := 232) d_M_spread_232 rfl (by omega) (by omega) ?_
      first | simp (decide := true) only [rd_up_app, rd_up_hit, e32, e55, p1, e49, e57, h57'] | simp (decide := true) only [rd_up_app, rd_up_hit, e32, e55, p1, e49, e57] | simp (decide := true) only [rd_up_app, rd_up_hit, e32] | skip
      refine rd_if_eq (pc := 233) (tgt := 264) d_M_spread_233 rfl ⟨by omega, by omega⟩ (fun h233 => ?_) (fun h233 => ?_)
      · skip
        refine rd_iinc8 (pc := 264) d_M_spread_264 rfl ?_
        refine rd_goto (pc := 267) (tgt := 217) d_M_spread_267 rfl ?_
        refine ih _ (by omega) (i + 1) B _ rfl (by omega) (by omega) hB1 hm ?_
        first
          | (rw [hM, r_tks_take i0 (by omega)]; exact r_tks_congr (fun j a b => rd_grow (w := (sp_spr n p (M 49) v s)) (by unfold sp_spr; rw [if_neg (c := s ≤ 0) (by omega), if_pos p3]; rfl)))
          | (rw [hM]; exact r_tks_congr (fun j a b => rd_grow0 (w := (sp_spr n p (M 49) v s)) (sp_spr_out (by omega))))
      · skip
        have p3 : p i = 1 := by omega
        have h57' := h57 p3
        refine rd_aldn (pc := 236) d_M_spread_236 rfl ?_
        refine rd_ildn (pc := 237) d_M_spread_237 rfl ?_
        refine rd_ild (pc := 238) d_M_spread_238 rfl ?_
        refine rd_aldn (pc := 240) d_M_spread_240 rfl ?_
        refine rd_getr (pc := 241) d_M_spread_241 fl_M_60 rfl rfl ?_
        refine rd_ild (pc := 244) d_M_spread_244 rfl ?_
        refine rd_lald (pc := 246) d_M_spread_246 rfl (by omega) (by omega) ?_
        first | simp (decide := true) only [rd_up_app, rd_up_hit, e32, e55, p1, e49, e57, h57'] | simp (decide := true) only [rd_up_app, rd_up_hit, e32, e55, p1, e49, e57] | simp (decide := true) only [rd_up_app, rd_up_hit, e32] | skip
        refine rd_lldn (pc := 247) d_M_spread_247 rfl ?_
        refine rd_lmul (pc := 248) d_M_spread_248 ?_
        refine rd_lld (pc := 249) d_M_spread_249 rfl ?_
        refine rd_ldiv (pc := 251) d_M_spread_251 ⟨by omega, by omega⟩ ⟨by omega, by omega⟩ (by omega) ?_
        refine rd_aldn (pc := 252) d_M_spread_252 rfl ?_
        refine rd_getr (pc := 253) d_M_spread_253 fl_M_84 rfl rfl ?_
        refine rd_ild (pc := 256) d_M_spread_256 rfl ?_
        refine rd_iald (pc := 258) d_M_spread_258 rfl (by omega) (by omega) ?_
        first | simp (decide := true) only [rd_up_app, rd_up_hit, e32, e55, p1, e49, e57, h57'] | simp (decide := true) only [rd_up_app, rd_up_hit, e32, e55, p1, e49, e57] | simp (decide := true) only [rd_up_app, rd_up_hit, e32] | skip
        refine rd_i2l (pc := 259) d_M_spread_259 ⟨by omega, by omega⟩ ?_
        refine rd_ladd (pc := 260) d_M_spread_260 ?_
        refine rd_callVv (pc := 261) (n' := 0) [_, _, _] d_M_spread_261 ml_M_156 rfl (Nat.le_of_ble_eq_true rfl) (Nat.le_of_ble_eq_true rfl) (Nat.le_of_ble_eq_true rfl) rfl rfl rfl (Nat.le_of_ble_eq_true rfl) (Nat.le_of_ble_eq_true rfl) ?_
        refine ev_M_take h0 h1 i0 (by omega) ?_
        refine ⟨rfl, ?_⟩
        first | simp (decide := true) only [rd_up_app, rd_up_hit, e32, e55, p1, e49, e57, h57'] | simp (decide := true) only [rd_up_app, rd_up_hit, e32, e55, p1, e49, e57] | simp (decide := true) only [rd_up_app, rd_up_hit, e32] | skip
        refine rd_iinc8 (pc := 264) d_M_spread_264 rfl ?_
        refine rd_goto (pc := 267) (tgt := 217) d_M_spread_267 rfl ?_
        refine ih _ (by omega) (i + 1) B _ rfl (by omega) (by omega) hB1 hm ?_
        first
          | (rw [hM, r_tks_take i0 (by omega)]; exact r_tks_congr (fun j a b => rd_grow (w := (sp_spr n p (M 49) v s)) (by unfold sp_spr; rw [if_neg (c := s ≤ 0) (by omega), if_pos p3]; rfl)))
          | (rw [hM]; exact r_tks_congr (fun j a b => rd_grow0 (w := (sp_spr n p (M 49) v s)) (sp_spr_out (by omega))))
set_option maxHeartbeats 4000000 in
set_option maxRecDepth 100000 in
theorem lq_M_spreadC {t v s k ov : Int} {n : Nat} {M : rd_M} {Q : rd_R → rd_M → Prop} (hn : M 32 9 = n) (hn4 : n ≤ 40) (k0 : 0 ≤ k) (k1 : k < n) (hr : ∀ j : Int, 0 ≤ j → j < n → -1 ≤ M 56 j ∧ M 56 j ≤ 1000000000000000000) (hX : ∀ i, rd_G x_M_spread 187 [some (.ref 32), some (rd_i t), some (rd_l v), none, some (rd_l s), none, some (rd_l ov), none, some (rd_i k), some (rd_i (rd_sm (fun j => if M 56 k < M 56 j ∨ (M 56 j = M 56 k ∧ j < k) then 1 else 0) n)), some (rd_i i)] [] M 0 Q) : ∀ (d : Nat) (i a : Int), (n - i).toNat = d → (0 ≤ i) → (i ≤ n) → (a = rd_sm (fun j => if M 56 k < M 56 j ∨ (M 56 j = M 56 k ∧ j < k) then 1 else 0) i.toNat) → rd_G x_M_spread 119 [some (.ref 32), some (rd_i t), some (rd_l v), none, some (rd_l s), none, some (rd_l ov), none, some (rd_i k), some (rd_i a), some (rd_i i)] [] M 0 Q := by
  intro d
  induction d using Nat.strongRecOn with
  | ind d ih =>
    intro i a hd i0 i1 ha
    refine rd_ild (pc := 119) d_M_spread_119 rfl ?_
    refine rd_aldn (pc := 121) d_M_spread_121 rfl ?_
    refine rd_gi (pc := 122) (ki := 9) d_M_spread_122 fl_M_97 rfl rfl rfl ?_
    refine rd_icmp_ge (pc := 125) (tgt := 187) d_M_spread_125 rfl ⟨by omega, by omega⟩ ⟨by omega, by omega⟩ (fun h125 => ?_) (fun h125 => ?_)
    · skip
      have hh := hX i
      rw [show n = i.toNat by omega, ← ha] at hh
      exact hh
    · skip
      have r1 := hr i i0 (by omega)
      have r2 := hr k k0 k1
      have hs := rd_sm_s (f := (fun j => if M 56 k < M 56 j ∨ (M 56 j = M 56 k ∧ j < k) then 1 else 0)) i0
      refine rd_ild (pc := 128) d_M_spread_128 rfl ?_
      refine rd_aldn (pc := 130) d_M_spread_130 rfl ?_
      refine rd_getr (pc := 131) d_M_spread_131 fl_M_81 rfl rfl ?_
      refine rd_ild (pc := 134) d_M_spread_134 rfl ?_
      refine rd_lald (pc := 136) d_M_spread_136 rfl (by omega) (by omega) ?_
      refine rd_aldn (pc := 137) d_M_spread_137 rfl ?_
      refine rd_getr (pc := 138) d_M_spread_138 fl_M_81 rfl rfl ?_
      refine rd_ild (pc := 141) d_M_spread_141 rfl ?_
      refine rd_lald (pc := 143) d_M_spread_143 rfl (by omega) (by omega) ?_
      refine rd_lcmp_gt (pc := 144) (tgt := 173) d_M_spread_144 d_M_spread_145 rfl ⟨by omega, by omega⟩ ⟨by omega, by omega⟩ (fun h144 => ?_) (fun h144 => ?_)
      · skip
        refine rd_iconst (pc := 173) d_M_spread_173 ?_
        refine rd_goto (pc := 174) (tgt := 178) d_M_spread_174 rfl ?_
        refine rd_iadd (pc := 178) d_M_spread_178 ?_
        refine rd_ist9 (pc := 179) d_M_spread_179 rfl ?_
        refine rd_iinc10 (pc := 181) d_M_spread_181 rfl ?_
        refine rd_goto (pc := 184) (tgt := 119) d_M_spread_184 rfl ?_
        by_cases hc : M 56 k < M 56 i ∨ (M 56 i = M 56 k ∧ i < k)
        · first | (exfalso; omega) | exact ih _ (by omega) (i + 1) _ rfl (by omega) (by omega) (by rw [hs, ha, if_pos hc])
        · first | (exfalso; omega) | exact ih _ (by omega) (i + 1) _ rfl (by omega) (by omega) (by rw [hs, ha, if_neg hc])
      · skip
        refine rd_aldn (pc := 148) d_M_spread_148 rfl ?_
        refine rd_getr (pc := 149) d_M_spread_149 fl_M_81 rfl rfl ?_
        refine rd_ild (pc := 152) d_M_spread_152 rfl ?_
        refine rd_lald (pc := 154) d_M_spread_154 rfl (by omega) (by omega) ?_
        refine rd_aldn (pc := 155) d_M_spread_155 rfl ?_
        refine rd_getr (pc := 156) d_M_spread_156 fl_M_81 rfl rfl ?_
        refine rd_ild (pc := 159) d_M_spread_159 rfl ?_
        refine rd_lald (pc := 161) d_M_spread_161 rfl (by omega) (by omega) ?_
        refine rd_lcmp_ne (pc := 162) (tgt := 177) d_M_spread_162 d_M_spread_163 rfl ⟨by omega, by omega⟩ ⟨by omega, by omega⟩ (fun h162 => ?_) (fun h162 => ?_)
        · skip
          refine rd_iconst (pc := 177) d_M_spread_177 ?_
          refine rd_iadd (pc := 178) d_M_spread_178 ?_
          refine rd_ist9 (pc := 179) d_M_spread_179 rfl ?_
          refine rd_iinc10 (pc := 181) d_M_spread_181 rfl ?_
          refine rd_goto (pc := 184) (tgt := 119) d_M_spread_184 rfl ?_
          by_cases hc : M 56 k < M 56 i ∨ (M 56 i = M 56 k ∧ i < k)
          · first | (exfalso; omega) | exact ih _ (by omega) (i + 1) _ rfl (by omega) (by omega) (by rw [hs, ha, if_pos hc])
          · first | (exfalso; omega) | exact ih _ (by omega) (i + 1) _ rfl (by omega) (by omega) (by rw [hs, ha, if_neg hc])
        · skip
          refine rd_ild (pc := 166) d_M_spread_166 rfl ?_
          refine rd_ild (pc := 168) d_M_spread_168 rfl ?_
          refine rd_icmp_ge (pc := 170) (tgt := 177) d_M_spread_170 rfl ⟨by omega, by omega⟩ ⟨by omega, by omega⟩ (fun h170 => ?_) (fun h170 => ?_)
          · skip
            refine rd_iconst (pc := 177) d_M_spread_177 ?_
            refine rd_iadd (pc := 178) d_M_spread_178 ?_
            refine rd_ist9 (pc := 179) d_M_spread_179 rfl ?_
            refine rd_iinc10 (pc := 181) d_M_spread_181 rfl ?_
            refine rd_goto (pc := 184) (tgt := 119) d_M_spread_184 rfl ?_
            by_cases hc : M 56 k < M 56 i ∨ (M 56 i = M 56 k ∧ i < k)
            · first | (exfalso; omega) | exact ih _ (by omega) (i + 1) _ rfl (by omega) (by omega) (by rw [hs, ha, if_pos hc])
            · first | (exfalso; omega) | exact ih _ (by omega) (i + 1) _ rfl (by omega) (by omega) (by rw [hs, ha, if_neg hc])
          · skip
            refine rd_iconst (pc := 173) d_M_spread_173 ?_
            refine rd_goto (pc := 174) (tgt := 178) d_M_spread_174 rfl ?_
            refine rd_iadd (pc := 178) d_M_spread_178 ?_
            refine rd_ist9 (pc := 179) d_M_spread_179 rfl ?_
            refine rd_iinc10 (pc := 181) d_M_spread_181 rfl ?_
            refine rd_goto (pc := 184) (tgt := 119) d_M_spread_184 rfl ?_
            by_cases hc : M 56 k < M 56 i ∨ (M 56 i = M 56 k ∧ i < k)
            · first | (exfalso; omega) | exact ih _ (by omega) (i + 1) _ rfl (by omega) (by omega) (by rw [hs, ha, if_pos hc])
            · first | (exfalso; omega) | exact ih _ (by omega) (i + 1) _ rfl (by omega) (by omega) (by rw [hs, ha, if_neg hc])
theorem sp_rk_ref {M R : rd_M} {n : Nat} {p : Int → Int} {v s k : Int} (hr0 : ∀ j : Int, 0 ≤ j → j < n → 0 ≤ (sp_r (M 49) v s) j) (hR : ∀ j : Int, 0 ≤ j → j < n → R 56 j = if p j = 1 then (sp_r (M 49) v s) j else -1) (k0 : 0 ≤ k) (k1 : k < n) (kp : p k = 1) : rd_sm (fun j => if R 56 k < R 56 j ∨ (R 56 j = R 56 k ∧ j < k) then 1 else 0) n = sp_rk n p (sp_r (M 49) v s) k := by
  refine rd_sm_c n (fun j a b => ?_)
  have h1 := hR k k0 k1
  rw [if_pos kp] at h1
  have h2 := hR j a b
  have h3 := hr0 k k0 k1
  by_cases pj : p j = 1
  · rw [if_pos pj] at h2
    by_cases hb : sp_bf (sp_r (M 49) v s) j k
    · have hc : R 56 k < R 56 j ∨ (R 56 j = R 56 k ∧ j < k) := by omega
      rw [if_pos hc, if_pos ⟨pj, hb⟩]
    · have hc : ¬ (R 56 k < R 56 j ∨ (R 56 j = R 56 k ∧ j < k)) := by omega
      rw [if_neg hc, if_neg (fun z => hb z.2)]
  · rw [if_neg pj] at h2
    have hc : ¬ (R 56 k < R 56 j ∨ (R 56 j = R 56 k ∧ j < k)) := by omega
    rw [if_neg hc, if_neg (fun z => pj z.1)]
set_option maxHeartbeats 4000000 in
set_option maxRecDepth 100000 in
theorem lq_M_spreadB {t v s : Int} {n nt : Nat} {p : Int → Int} {M : rd_M} {Q : rd_R → rd_M → Prop} (hB : r_B M n nt) (hK : ∀ k : Int, 0 ≤ k → k < n → 0 ≤ M 49 k ∧ M 49 k ≤ 1000000000) (hp : ∀ k : Int, 0 ≤ k → k < n → M 55 k = p k ∧ (0 ≤ p k ∧ p k ≤ 1)) (h0 : 0 ≤ t) (h1 : t < 10) (hv : 0 ≤ v ∧ v ≤ 1000000000) (hs : s = sp_sum n p (M 49)) (hvs : v ≤ s) (hs0 : 0 < s) (hQ : ∀ M', r_sm M' (r_tks M t n (sp_spr n p (M 49) v s)) → Q (.inl none) M') : ∀ (d : Nat) (i : Int) (M1 : rd_M), (n - i).toNat = d → (0 ≤ i) → (i ≤ n) → (r_sm M1 M) → (∀ j : Int, 0 ≤ j → j < n → M1 56 j = if p j = 1 then (sp_r (M 49) v s) j else -1) → (∀ k : Int, 0 ≤ k → k < i → p k = 1 → M1 57 k = if sp_rk n p (sp_r (M 49) v s) k < sp_ov n p (M 49) v s then 1 else 0) → rd_G x_M_spread 94 [some (.ref 32), some (rd_i t), some (rd_l v), none, some (rd_l s), none, some (rd_l (sp_ov n p (M 49) v s)), none, some (rd_i i), none, none] [] M1 0 Q := by
  intro d
  induction d using Nat.strongRecOn with
  | ind d ih =>
    intro i M1 hd i0 i1 hS hR hm
    have hn := hB.1
    have hn4 := hB.2.2.1
    have e32 : M1 32 = M 32 := hS 32 (by decide) (by decide)
    have e55 : M1 55 = M 55 := hS 55 (by decide) (by decide)
    refine rd_ild (pc := 94) d_M_spread_94 rfl ?_
    refine rd_aldn (pc := 96) d_M_spread_96 rfl ?_
    refine rd_gi (pc := 97) (ki := 9) d_M_spread_97 fl_M_97 rfl rfl rfl ?_
    first | simp (decide := true) only [rd_up_app, rd_up_hit, e32, e55, p1] | simp (decide := true) only [rd_up_app, rd_up_hit, e32, e55] | skip
    refine rd_icmp_ge (pc := 100) (tgt := 214) d_M_spread_100 rfl ⟨by omega, by omega⟩ ⟨by omega, by omega⟩ (fun h100 => ?_) (fun h100 => ?_)
    · skip
      refine rd_iconst (pc := 214) d_M_spread_214 ?_
      refine rd_ist8 (pc := 215) d_M_spread_215 rfl ?_
      refine rd_weak (L' := [some (.ref 32), some (rd_i t), some (rd_l v), none, some (rd_l s), none, none, none, some (rd_i 0), none, none]) (by simp [rd_le]) ?_
      exact lq_M_spreadD hB hK hp h0 h1 hv hs hvs hs0 hQ _ 0 M1 M1 rfl (by omega) (by omega) hS (fun k a b c => hm k a (by omega) c) (r_tks_0 (fun j a b => by rw [if_neg (by omega)])).symm
    · skip
      obtain ⟨p1, p2⟩ := hp i i0 (by omega)
      have hsb := sp_sum_hi (p := p) hK
      have hqr := fun (j : Int) (a : 0 ≤ j) (b : j < n) => sp_qr (κ := M 49) (k := j) (hK j a b).1 hv.1 hvs hs0
      have hov := sp_ov_cn (n := n) (p := p) (κ := M 49) (v := v) (fun j a b _ => (hK j a b).1) hv.1 (by omega) (by omega)
      rw [← hs] at hov
      have hcn := sp_cn_hi (n := n) (p := p)
      refine rd_aldn (pc := 103) d_M_spread_103 rfl ?_
      refine rd_getr (pc := 104) d_M_spread_104 fl_M_78 rfl rfl ?_
      refine rd_ild (pc := 107) d_M_spread_107 rfl ?_
      refine rd_zald (pc := 109) d_M_spread_109 rfl (by omega) (by omega) ?_
      first | simp (decide := true) only [rd_up_app, rd_up_hit, e32, e55, p1] | simp (decide := true) only [rd_up_app, rd_up_hit, e32, e55] | skip
      refine rd_if_eq (pc := 110) (tgt := 208) d_M_spread_110 rfl ⟨by omega, by omega⟩ (fun h110 => ?_) (fun h110 => ?_)
      · skip
        refine rd_iinc8 (pc := 208) d_M_spread_208 rfl ?_
        refine rd_goto (pc := 211) (tgt := 94) d_M_spread_211 rfl ?_
        refine rd_weak (L' := [some (.ref 32), some (rd_i t), some (rd_l v), none, some (rd_l s), none, some (rd_l (sp_ov n p (M 49) v s)), none, some (rd_i (i + 1)), none, none]) (by simp [rd_le]) ?_
        exact ih _ (by omega) (i + 1) _ rfl (by omega) (by omega) hS hR (fun k a b c => by by_cases hk : k = i; (subst hk; omega); (exact hm k a (by omega) c))
      · skip
        refine rd_iconst (pc := 113) d_M_spread_113 ?_
        refine rd_ist9 (pc := 114) d_M_spread_114 rfl ?_
        refine rd_iconst (pc := 116) d_M_spread_116 ?_
        refine rd_ist10 (pc := 117) d_M_spread_117 rfl ?_
        have p3 : p i = 1 := by omega
        refine lq_M_spreadC (n := n) (by rw [e32]; exact hn) hn4 i0 (by omega) (fun j a b => by rw [hR j a b]; have := hqr j a b; split <;> omega) (fun i2 => ?_) _ 0 0 rfl (by omega) (by omega) rfl
        rw [sp_rk_ref (p := p) (v := v) (s := s) (M := M) (fun j a b => (hqr j a b).2.1) hR i0 (by omega) p3]
        have hrk := sp_rk_nn (n := n) (p := p) (f := (sp_r (M 49) v s)) (k := i)
        have hrk2 : sp_rk n p (sp_r (M 49) v s) i ≤ n := (by have := (rd_sm_b (f := fun j => if p j = 1 ∧ sp_bf (sp_r (M 49) v s) j i then 1 else 0) (A := 0) (B := 1) n (fun _ _ _ => rd_01)).2; unfold sp_rk; omega)
        refine rd_aldn (pc := 187) d_M_spread_187 rfl ?_
        refine rd_getr (pc := 188) d_M_spread_188 fl_M_84 rfl rfl ?_
        refine rd_ild (pc := 191) d_M_spread_191 rfl ?_
        refine rd_ild (pc := 193) d_M_spread_193 rfl ?_
        refine rd_i2l (pc := 195) d_M_spread_195 ⟨by omega, by omega⟩ ?_
        refine rd_lld (pc := 196) d_M_spread_196 rfl ?_
        refine rd_lcmp_ge (pc := 198) (tgt := 206) d_M_spread_198 d_M_spread_199 rfl ⟨by omega, by omega⟩ ⟨by omega, by omega⟩ (fun h198 => ?_) (fun h198 => ?_)
        · skip
          refine rd_iconst (pc := 206) d_M_spread_206 ?_
          refine rd_iast (pc := 207) d_M_spread_207 rfl (by omega) (by omega) ?_
          refine rd_iinc8 (pc := 208) d_M_spread_208 rfl ?_
          refine rd_goto (pc := 211) (tgt := 94) d_M_spread_211 rfl ?_
          refine rd_weak (L' := [some (.ref 32), some (rd_i t), some (rd_l v), none, some (rd_l s), none, some (rd_l (sp_ov n p (M 49) v s)), none, some (rd_i (i + 1)), none, none]) (by simp [rd_le]) ?_
          refine ih _ (by omega) (i + 1) _ rfl (by omega) (by omega) (hS.up (by omega)) (fun j a b => by rw [rd_up_app (by decide)]; exact hR j a b) (fun k a b c => ?_)
          by_cases hk : k = i
          · subst hk; rw [rd_up_hit]; first | exact (if_pos (by omega)).symm | exact (if_neg (by omega)).symm
          · rw [rd_up_at, if_neg hk]; exact hm k a (by omega) c
        · skip
          refine rd_iconst (pc := 202) d_M_spread_202 ?_
          refine rd_goto (pc := 203) (tgt := 207) d_M_spread_203 rfl ?_
          refine rd_iast (pc := 207) d_M_spread_207 rfl (by omega) (by omega) ?_
          refine rd_iinc8 (pc := 208) d_M_spread_208 rfl ?_
          refine rd_goto (pc := 211) (tgt := 94) d_M_spread_211 rfl ?_
          refine rd_weak (L' := [some (.ref 32), some (rd_i t), some (rd_l v), none, some (rd_l s), none, some (rd_l (sp_ov n p (M 49) v s)), none, some (rd_i (i + 1)), none, none]) (by simp [rd_le]) ?_
          refine ih _ (by omega) (i + 1) _ rfl (by omega) (by omega) (hS.up (by omega)) (fun j a b => by rw [rd_up_app (by decide)]; exact hR j a b) (fun k a b c => ?_)
          by_cases hk : k = i
          · subst hk; rw [rd_up_hit]; first | exact (if_pos (by omega)).symm | exact (if_neg (by omega)).symm
          · rw [rd_up_at, if_neg hk]; exact hm k a (by omega) c
set_option maxHeartbeats 4000000 in
set_option maxRecDepth 100000 in
theorem lq_M_spreadA {t v s : Int} {n nt : Nat} {p : Int → Int} {M : rd_M} {Q : rd_R → rd_M → Prop} (hB : r_B M n nt) (hK : ∀ k : Int, 0 ≤ k → k < n → 0 ≤ M 49 k ∧ M 49 k ≤ 1000000000) (hp : ∀ k : Int, 0 ≤ k → k < n → M 55 k = p k ∧ (0 ≤ p k ∧ p k ≤ 1)) (h0 : 0 ≤ t) (h1 : t < 10) (hv : 0 ≤ v ∧ v ≤ 1000000000) (hs : s = sp_sum n p (M 49)) (hvs : v ≤ s) (hs0 : 0 < s) (hQ : ∀ M', r_sm M' (r_tks M t n (sp_spr n p (M 49) v s)) → Q (.inl none) M') : ∀ (d : Nat) (i o : Int) (M1 : rd_M), (n - i).toNat = d → (0 ≤ i) → (i ≤ n) → (o = v - sp_sum i.toNat p (sp_q (M 49) v s)) → (∀ x, x ≠ 56 → M1 x = M x) → (∀ j : Int, 0 ≤ j → j < i → M1 56 j = if p j = 1 then (sp_r (M 49) v s) j else -1) → rd_G x_M_spread 14 [some (.ref 32), some (rd_i t), some (rd_l v), none, some (rd_l s), none, some (rd_l o), none, some (rd_i i), none, none] [] M1 0 Q := by
  intro d
  induction d using Nat.strongRecOn with
  | ind d ih =>
    intro i o M1 hd i0 i1 ho hS hR
    have hn := hB.1
    have hn4 := hB.2.2.1
    have e32 : M1 32 = M 32 := hS 32 (by decide)
    have e55 : M1 55 = M 55 := hS 55 (by decide)
    have e49 : M1 49 = M 49 := hS 49 (by decide)
    refine rd_ild (pc := 14) d_M_spread_14 rfl ?_
    refine rd_aldn (pc := 16) d_M_spread_16 rfl ?_
    refine rd_gi (pc := 17) (ki := 9) d_M_spread_17 fl_M_97 rfl rfl rfl ?_
    first | simp (decide := true) only [rd_up_app, rd_up_hit, e32, e55, e49, p1] | simp (decide := true) only [rd_up_app, rd_up_hit, e32, e55, e49] | skip
    refine rd_icmp_ge (pc := 20) (tgt := 91) d_M_spread_20 rfl ⟨by omega, by omega⟩ ⟨by omega, by omega⟩ (fun h20 => ?_) (fun h20 => ?_)
    · skip
      refine rd_iconst (pc := 91) d_M_spread_91 ?_
      refine rd_ist8 (pc := 92) d_M_spread_92 rfl ?_
      have en : i.toNat = n := by omega
      rw [en] at ho
      have ho2 : o = sp_ov n p (M 49) v s := ho
      rw [ho2]
      exact lq_M_spreadB hB hK hp h0 h1 hv hs hvs hs0 hQ _ 0 M1 rfl (by omega) (by omega) (fun x a _ => hS x a) (fun j a b => hR j a (by omega)) (fun k a b => by omega)
    · skip
      obtain ⟨p1, p2⟩ := hp i i0 (by omega)
      have hk := hK i i0 (by omega)
      have hmul := rd_mulb hk.1 hk.2 hv.1 hv.2
      have hsb := sp_sum_hi (p := p) hK
      have hss := sp_sum_s (p := p) (κ := (sp_q (M 49) v s)) i0
      refine rd_aldn (pc := 23) d_M_spread_23 rfl ?_
      refine rd_getr (pc := 24) d_M_spread_24 fl_M_81 rfl rfl ?_
      refine rd_ild (pc := 27) d_M_spread_27 rfl ?_
      refine rd_aldn (pc := 29) d_M_spread_29 rfl ?_
      refine rd_getr (pc := 30) d_M_spread_30 fl_M_78 rfl rfl ?_
      refine rd_ild (pc := 33) d_M_spread_33 rfl ?_
      refine rd_zald (pc := 35) d_M_spread_35 rfl (by omega) (by omega) ?_
      first | simp (decide := true) only [rd_up_app, rd_up_hit, e32, e55, e49, p1] | simp (decide := true) only [rd_up_app, rd_up_hit, e32, e55, e49] | skip
      refine rd_if_eq (pc := 36) (tgt := 54) d_M_spread_36 rfl ⟨by omega, by omega⟩ (fun h36 => ?_) (fun h36 => ?_)
      · skip
        refine rd_ldc2 (pc := 54) (v := -1) d_M_spread_54 kl_M_154 ?_
        refine rd_last (pc := 57) d_M_spread_57 rfl (by omega) (by omega) ?_
        refine rd_aldn (pc := 58) d_M_spread_58 rfl ?_
        refine rd_getr (pc := 59) d_M_spread_59 fl_M_78 rfl rfl ?_
        refine rd_ild (pc := 62) d_M_spread_62 rfl ?_
        refine rd_zald (pc := 64) d_M_spread_64 rfl (by omega) (by omega) ?_
        first | simp (decide := true) only [rd_up_app, rd_up_hit, e32, e55, e49, p1] | simp (decide := true) only [rd_up_app, rd_up_hit, e32, e55, e49] | skip
        refine rd_if_eq (pc := 65) (tgt := 85) d_M_spread_65 rfl ⟨by omega, by omega⟩ (fun h65 => ?_) (fun h65 => ?_)
        · skip
          refine rd_iinc8 (pc := 85) d_M_spread_85 rfl ?_
          refine rd_goto (pc := 88) (tgt := 14) d_M_spread_88 rfl ?_
          first
            | (exfalso; omega)
            | (refine ih _ (by omega) (i + 1) _ _ rfl (by omega) (by omega) (by rw [hss, ho, if_pos (by omega)]; show _ - _ - _ = _; unfold sp_q; omega) (fun x hx => by rw [rd_up_ne hx]; exact hS x hx) (fun j a b => ?_)
               by_cases hj : j = i
               · subst hj; rw [rd_up_hit, if_pos (by omega)]; rfl
               · rw [rd_up_at, if_neg hj]; exact hR j a (by omega))
            | (refine ih _ (by omega) (i + 1) _ _ rfl (by omega) (by omega) (by rw [hss, ho, if_neg (by omega)]; omega) (fun x hx => by rw [rd_up_ne hx]; exact hS x hx) (fun j a b => ?_)
               by_cases hj : j = i
               · subst hj; rw [rd_up_hit, if_neg (by omega)]
               · rw [rd_up_at, if_neg hj]; exact hR j a (by omega))
        · skip
          refine rd_lld (pc := 68) d_M_spread_68 rfl ?_
          refine rd_aldn (pc := 70) d_M_spread_70 rfl ?_
          refine rd_getr (pc := 71) d_M_spread_71 fl_M_60 rfl rfl ?_
          refine rd_ild (pc := 74) d_M_spread_74 rfl ?_
          refine rd_lald (pc := 76) d_M_spread_76 rfl (by omega) (by omega) ?_
          first | simp (decide := true) only [rd_up_app, rd_up_hit, e32, e55, e49, p1] | simp (decide := true) only [rd_up_app, rd_up_hit, e32, e55, e49] | skip
          refine rd_lldn (pc := 77) d_M_spread_77 rfl ?_
          refine rd_lmul (pc := 78) d_M_spread_78 ?_
          refine rd_lld (pc := 79) d_M_spread_79 rfl ?_
          refine rd_ldiv (pc := 81) d_M_spread_81 ⟨by omega, by omega⟩ ⟨by omega, by omega⟩ (by omega) ?_
          refine rd_lsub (pc := 82) d_M_spread_82 ?_
          refine rd_lst6 (pc := 83) d_M_spread_83 rfl ?_
          refine rd_iinc8 (pc := 85) d_M_spread_85 rfl ?_
          refine rd_goto (pc := 88) (tgt := 14) d_M_spread_88 rfl ?_
          first
            | (exfalso; omega)
            | (refine ih _ (by omega) (i + 1) _ _ rfl (by omega) (by omega) (by rw [hss, ho, if_pos (by omega)]; show _ - _ - _ = _; unfold sp_q; omega) (fun x hx => by rw [rd_up_ne hx]; exact hS x hx) (fun j a b => ?_)
               by_cases hj : j = i
               · subst hj; rw [rd_up_hit, if_pos (by omega)]; rfl
               · rw [rd_up_at, if_neg hj]; exact hR j a (by omega))
            | (refine ih _ (by omega) (i + 1) _ _ rfl (by omega) (by omega) (by rw [hss, ho, if_neg (by omega)]; omega) (fun x hx => by rw [rd_up_ne hx]; exact hS x hx) (fun j a b => ?_)
               by_cases hj : j = i
               · subst hj; rw [rd_up_hit, if_neg (by omega)]
               · rw [rd_up_at, if_neg hj]; exact hR j a (by omega))
      · skip
        refine rd_aldn (pc := 39) d_M_spread_39 rfl ?_
        refine rd_getr (pc := 40) d_M_spread_40 fl_M_60 rfl rfl ?_
        refine rd_ild (pc := 43) d_M_spread_43 rfl ?_
        refine rd_lald (pc := 45) d_M_spread_45 rfl (by omega) (by omega) ?_
        first | simp (decide := true) only [rd_up_app, rd_up_hit, e32, e55, e49, p1] | simp (decide := true) only [rd_up_app, rd_up_hit, e32, e55, e49] | skip
        refine rd_lldn (pc := 46) d_M_spread_46 rfl ?_
        refine rd_lmul (pc := 47) d_M_spread_47 ?_
        refine rd_lld (pc := 48) d_M_spread_48 rfl ?_
        refine rd_lrem (pc := 50) d_M_spread_50 ⟨by omega, by omega⟩ ⟨by omega, by omega⟩ (by omega) ?_
        refine rd_goto (pc := 51) (tgt := 57) d_M_spread_51 rfl ?_
        refine rd_last (pc := 57) d_M_spread_57 rfl (by omega) (by omega) ?_
        refine rd_aldn (pc := 58) d_M_spread_58 rfl ?_
        refine rd_getr (pc := 59) d_M_spread_59 fl_M_78 rfl rfl ?_
        refine rd_ild (pc := 62) d_M_spread_62 rfl ?_
        refine rd_zald (pc := 64) d_M_spread_64 rfl (by omega) (by omega) ?_
        first | simp (decide := true) only [rd_up_app, rd_up_hit, e32, e55, e49, p1] | simp (decide := true) only [rd_up_app, rd_up_hit, e32, e55, e49] | skip
        refine rd_if_eq (pc := 65) (tgt := 85) d_M_spread_65 rfl ⟨by omega, by omega⟩ (fun h65 => ?_) (fun h65 => ?_)
        · skip
          refine rd_iinc8 (pc := 85) d_M_spread_85 rfl ?_
          refine rd_goto (pc := 88) (tgt := 14) d_M_spread_88 rfl ?_
          first
            | (exfalso; omega)
            | (refine ih _ (by omega) (i + 1) _ _ rfl (by omega) (by omega) (by rw [hss, ho, if_pos (by omega)]; show _ - _ - _ = _; unfold sp_q; omega) (fun x hx => by rw [rd_up_ne hx]; exact hS x hx) (fun j a b => ?_)
               by_cases hj : j = i
               · subst hj; rw [rd_up_hit, if_pos (by omega)]; rfl
               · rw [rd_up_at, if_neg hj]; exact hR j a (by omega))
            | (refine ih _ (by omega) (i + 1) _ _ rfl (by omega) (by omega) (by rw [hss, ho, if_neg (by omega)]; omega) (fun x hx => by rw [rd_up_ne hx]; exact hS x hx) (fun j a b => ?_)
               by_cases hj : j = i
               · subst hj; rw [rd_up_hit, if_neg (by omega)]
               · rw [rd_up_at, if_neg hj]; exact hR j a (by omega))
        · skip
          refine rd_lld (pc := 68) d_M_spread_68 rfl ?_
          refine rd_aldn (pc := 70) d_M_spread_70 rfl ?_
          refine rd_getr (pc := 71) d_M_spread_71 fl_M_60 rfl rfl ?_
          refine rd_ild (pc := 74) d_M_spread_74 rfl ?_
          refine rd_lald (pc := 76) d_M_spread_76 rfl (by omega) (by omega) ?_
          first | simp (decide := true) only [rd_up_app, rd_up_hit, e32, e55, e49, p1] | simp (decide := true) only [rd_up_app, rd_up_hit, e32, e55, e49] | skip
          refine rd_lldn (pc := 77) d_M_spread_77 rfl ?_
          refine rd_lmul (pc := 78) d_M_spread_78 ?_
          refine rd_lld (pc := 79) d_M_spread_79 rfl ?_
          refine rd_ldiv (pc := 81) d_M_spread_81 ⟨by omega, by omega⟩ ⟨by omega, by omega⟩ (by omega) ?_
          refine rd_lsub (pc := 82) d_M_spread_82 ?_
          refine rd_lst6 (pc := 83) d_M_spread_83 rfl ?_
          refine rd_iinc8 (pc := 85) d_M_spread_85 rfl ?_
          refine rd_goto (pc := 88) (tgt := 14) d_M_spread_88 rfl ?_
          first
            | (exfalso; omega)
            | (refine ih _ (by omega) (i + 1) _ _ rfl (by omega) (by omega) (by rw [hss, ho, if_pos (by omega)]; show _ - _ - _ = _; unfold sp_q; omega) (fun x hx => by rw [rd_up_ne hx]; exact hS x hx) (fun j a b => ?_)
               by_cases hj : j = i
               · subst hj; rw [rd_up_hit, if_pos (by omega)]; rfl
               · rw [rd_up_at, if_neg hj]; exact hR j a (by omega))
            | (refine ih _ (by omega) (i + 1) _ _ rfl (by omega) (by omega) (by rw [hss, ho, if_neg (by omega)]; omega) (fun x hx => by rw [rd_up_ne hx]; exact hS x hx) (fun j a b => ?_)
               by_cases hj : j = i
               · subst hj; rw [rd_up_hit, if_neg (by omega)]
               · rw [rd_up_at, if_neg hj]; exact hR j a (by omega))
set_option maxHeartbeats 4000000 in
set_option maxRecDepth 100000 in
theorem ev_M_spread {t v s : Int} {n nt : Nat} {p : Int → Int} {M : rd_M} {Q : rd_R → rd_M → Prop} (hB : r_B M n nt) (hK : ∀ k : Int, 0 ≤ k → k < n → 0 ≤ M 49 k ∧ M 49 k ≤ 1000000000) (hp : ∀ k : Int, 0 ≤ k → k < n → M 55 k = p k ∧ (0 ≤ p k ∧ p k ≤ 1)) (h0 : 0 ≤ t) (h1 : t < 10) (hv : 0 ≤ v ∧ v ≤ 1000000000) (hs : s = sp_sum n p (M 49)) (hvs : v ≤ s) (hQ : ∀ M', r_sm M' (r_tks M t n (sp_spr n p (M 49) v s)) → Q (.inl none) M') : rd_G x_M_spread 0 [some (.ref 32), some (rd_i t), some (rd_l v), none, some (rd_l s), none, none, none, none, none, none] [] M 0 Q := by
  have hn4 := hB.2.2.1
  have hsb := sp_sum_hi (p := p) hK
  have hsn := sp_sum_nn (p := p) (fun k a b => (hK k a b).1)
  refine rd_lld (pc := 0) d_M_spread_0 rfl ?_
  refine rd_lconst (pc := 2) (v := 0) d_M_spread_2 rfl ?_
  refine rd_lcmp_ne (pc := 3) (tgt := 8) d_M_spread_3 d_M_spread_4 rfl ⟨by omega, by omega⟩ ⟨by omega, by omega⟩ (fun h3 => ?_) (fun h3 => ?_)
  · skip
    refine rd_lldn (pc := 8) d_M_spread_8 rfl ?_
    refine rd_lst6 (pc := 9) d_M_spread_9 rfl ?_
    refine rd_iconst (pc := 11) d_M_spread_11 ?_
    refine rd_ist8 (pc := 12) d_M_spread_12 rfl ?_
    exact lq_M_spreadA hB hK hp h0 h1 hv hs hvs (by omega) hQ _ 0 v M rfl (by omega) (by omega) (by show v = v - 0; omega) (fun _ _ => rfl) (fun j a b => by omega)
  · skip
    exact rd_vret (pc := 7) d_M_spread_7 rfl (Nat.le_of_ble_eq_true rfl) (by refine hQ _ ?_; rw [r_tks_0 (w := (sp_spr n p (M 49) v s)) (fun j a b => if_pos (by omega))]; exact r_sm.refl)

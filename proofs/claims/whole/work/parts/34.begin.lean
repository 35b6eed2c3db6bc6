/-! cession: a year begins; a treaty takes -/
section RdSwitch
variable {x : rd_X} {pc : Nat} {L : List (Option Value)} {st : List Value} {M : rd_M} {n : Nat} {Q : rd_R → rd_M → Prop}
theorem rd_tswI {a c off dflt lo hi : Int} {offs : Array Int} {len tgt : Nat} (hd : decode (rd_cd x) pc = .ok (.tableswitch dflt lo hi offs, len)) (he : a = c) (hi' : (Int32.ofInt c).toInt = c) (h1 : ¬ c < lo) (h2 : ¬ hi < c) (ho : offs[(c - lo).toNat]? = some off) (ht : (pc : Int) + off = (tgt : Int)) (k : rd_G x tgt L st M n Q) : rd_G x pc L (rd_i a :: st) M n Q := by
  subst he
  intro p l e R s m args below meth c σ D cA A C H locs ls cells slots hc hs hP hS hl
  exact lv_tableIn (x := Int32.ofInt a) (rest := st.map (rd_pv σ)) C.1 C.2.1 hd (by rw [hi']; exact h1) (by rw [hi']; exact h2) (by rw [hi']; exact ho) ht (k p l e R s m args below meth c σ D cA A C H locs ls cells slots hc hs hP hS hl)
theorem rd_tswO {a dflt lo hi : Int} {offs : Array Int} {len tgt : Nat} (hd : decode (rd_cd x) pc = .ok (.tableswitch dflt lo hi offs, len)) (ha : rd_I a) (h : a < lo ∨ hi < a) (ht : (pc : Int) + dflt = (tgt : Int)) (k : rd_G x tgt L st M n Q) : rd_G x pc L (rd_i a :: st) M n Q := by
  intro p l e R s m args below meth c σ D cA A C H locs ls cells slots hc hs hP hS hl
  exact lv_tableOut (x := Int32.ofInt a) (rest := st.map (rd_pv σ)) C.1 C.2.1 hd (by rw [rd_i32 ha]; exact h) ht (k p l e R s m args below meth c σ D cA A C H locs ls cells slots hc hs hP hS hl)
end RdSwitch
/-- behind the claims below i -/
def c_b1 (B : rd_M) (y i : Int) (M1 : rd_M) : Prop := (∀ q, q ≠ 23 → q ≠ 24 → M1 q = B q) ∧ ∀ k : Int, 0 ≤ k → k < i → M1 23 k = sp_in (c_d B) y k ∧ M1 24 k = if sp_cnt (c_d B) y k then B 13 k else 0
theorem c_b1.s {B M1 : rd_M} {y i v v' : Int} (h : c_b1 B y i M1) (hv : v = sp_in (c_d B) y i) (hv' : v' = if sp_cnt (c_d B) y i then B 13 i else 0) : c_b1 B y (i + 1) (rd_up (rd_up M1 23 i v) 24 i v') := by
  refine ⟨fun q a b => by rw [rd_up_ne b, rd_up_ne a]; exact h.1 q a b, fun k k0 k1 => ?_⟩
  by_cases hk : k = i
  · subst hk
    rw [rd_up_app (by decide), rd_up_hit, rd_up_hit]
    exact ⟨hv, hv'⟩
  · rw [rd_up_app (by decide), rd_up_at, if_neg hk, rd_up_at, if_neg hk, rd_up_app (by decide)]
    exact h.2 k k0 (by omega)
/-- a year has begun -/
def c_beg (M : rd_M) (n : Nat) (y : Int) (M' : rd_M) : Prop := (∀ q, q < 23 ∨ 29 < q → M' q = M q) ∧ (∀ k : Int, 0 ≤ k → k < n → M' 23 k = sp_in (c_d M) y k ∧ M' 24 k = if sp_cnt (c_d M) y k then M 13 k else 0) ∧ (∀ j : Int, 0 ≤ j → j < 400 → M' 25 j = 0) ∧ (∀ t : Int, 0 ≤ t → t < 10 → M' 26 t = 0 ∧ M' 29 t = 0) ∧ (∀ j : Int, 0 ≤ j → j < 100 → M' 27 j = -1) ∧ (∀ r : Int, 0 ≤ r → r < 12 → M' 28 r = if M 9 r = y then M 8 r else 0)
set_option maxHeartbeats 4000000 in
set_option maxRecDepth 100000 in
theorem lq_S_begin2 {y : Int} {B : rd_M} {Q : rd_R → rd_M → Prop} (hI : c_I B) (hy : 0 ≤ y ∧ y ≤ 3) (hQ : ∀ M', (∀ q, q ≠ 28 → M' q = B q) → (∀ r : Int, 0 ≤ r → r < 12 → M' 28 r = if B 9 r = y then B 8 r else 0) → Q (.inl none) M') : ∀ (d : Nat) (i : Int) (M1 : rd_M), (12 - i).toNat = d → (0 ≤ i) → (i ≤ 12) → (∀ q, q ≠ 28 → M1 q = B q) → (∀ r : Int, 0 ≤ r → r < i → M1 28 r = if B 9 r = y then B 8 r else 0) → rd_G x_S_begin 125 [some (.ref 4), some (rd_i y), some (rd_i i)] [] M1 0 Q := by
  intro d
  induction d using Nat.strongRecOn with
  | ind d ih =>
    intro i M1 hd i0 i1 hB hR
    have e8 := hB 8 (by decide)
    have e9 := hB 9 (by decide)
    refine rd_ildn (pc := 125) d_S_begin_125 rfl ?_
    refine rd_bipush (pc := 126) d_S_begin_126 rfl ?_
    refine rd_icmp_ge (pc := 128) (tgt := 170) d_S_begin_128 rfl ⟨by omega, by omega⟩ ⟨by omega, by omega⟩ (fun h128 => ?_) (fun h128 => ?_)
    · skip
      exact rd_vret (pc := 170) d_S_begin_170 rfl (Nat.le_of_ble_eq_true rfl) (hQ _ hB (fun r a b => hR r a (by omega)))
    · skip
      obtain ⟨r1, r2, r3⟩ := hI.risk i0 (by omega)
      refine rd_aldn (pc := 131) d_S_begin_131 rfl ?_
      refine rd_getr (pc := 132) d_S_begin_132 fl_S_41 rfl rfl ?_
      refine rd_ildn (pc := 135) d_S_begin_135 rfl ?_
      refine rd_aldn (pc := 136) d_S_begin_136 rfl ?_
      refine rd_getr (pc := 137) d_S_begin_137 fl_S_9 rfl rfl ?_
      refine rd_getr (pc := 140) d_S_begin_140 fl_S_78 rfl rfl ?_
      refine rd_ildn (pc := 143) d_S_begin_143 rfl ?_
      refine rd_iald (pc := 144) d_S_begin_144 rfl (by omega) (by omega) ?_
      first | simp (decide := true) only [rd_up_app, rd_up_hit, e8, e9] | skip
      refine rd_ildn (pc := 145) d_S_begin_145 rfl ?_
      refine rd_icmp_ne (pc := 146) (tgt := 162) d_S_begin_146 rfl ⟨by omega, by omega⟩ ⟨by omega, by omega⟩ (fun h146 => ?_) (fun h146 => ?_)
      · skip
        refine rd_lconst (pc := 162) (v := 0) d_S_begin_162 rfl ?_
        refine rd_last (pc := 163) d_S_begin_163 rfl (by omega) (by omega) ?_
        refine rd_iinc2 (pc := 164) d_S_begin_164 rfl ?_
        refine rd_goto (pc := 167) (tgt := 125) d_S_begin_167 rfl ?_
        refine ih _ (by omega) (i + 1) _ rfl (by omega) (by omega) (fun q hq => by rw [rd_up_ne hq]; exact hB q hq) (fun r a b => ?_)
        by_cases hr : r = i
        · subst hr
          rw [rd_up_hit]
          first | exact (if_pos (by omega)).symm | exact (if_neg (by omega)).symm
        · rw [rd_up_at, if_neg hr]
          exact hR r a (by omega)
      · skip
        refine rd_aldn (pc := 149) d_S_begin_149 rfl ?_
        refine rd_getr (pc := 150) d_S_begin_150 fl_S_9 rfl rfl ?_
        refine rd_getr (pc := 153) d_S_begin_153 fl_S_89 rfl rfl ?_
        refine rd_ildn (pc := 156) d_S_begin_156 rfl ?_
        refine rd_iald (pc := 157) d_S_begin_157 rfl (by omega) (by omega) ?_
        first | simp (decide := true) only [rd_up_app, rd_up_hit, e8, e9] | skip
        refine rd_i2l (pc := 158) d_S_begin_158 ⟨by omega, by omega⟩ ?_
        refine rd_goto (pc := 159) (tgt := 163) d_S_begin_159 rfl ?_
        refine rd_last (pc := 163) d_S_begin_163 rfl (by omega) (by omega) ?_
        refine rd_iinc2 (pc := 164) d_S_begin_164 rfl ?_
        refine rd_goto (pc := 167) (tgt := 125) d_S_begin_167 rfl ?_
        refine ih _ (by omega) (i + 1) _ rfl (by omega) (by omega) (fun q hq => by rw [rd_up_ne hq]; exact hB q hq) (fun r a b => ?_)
        by_cases hr : r = i
        · subst hr
          rw [rd_up_hit]
          first | exact (if_pos (by omega)).symm | exact (if_neg (by omega)).symm
        · rw [rd_up_at, if_neg hr]
          exact hR r a (by omega)
set_option maxHeartbeats 4000000 in
set_option maxRecDepth 100000 in
theorem lq_S_begin {y : Int} {n : Nat} {B : rd_M} {Q : rd_R → rd_M → Prop} (hI : c_I B) (hn : B 2 0 = n) (hy : 0 ≤ y ∧ y ≤ 3) (hQ : ∀ M', (∀ q, q ≠ 23 → q ≠ 24 → q ≠ 28 → M' q = B q) → (∀ k : Int, 0 ≤ k → k < n → M' 23 k = sp_in (c_d B) y k ∧ M' 24 k = if sp_cnt (c_d B) y k then B 13 k else 0) → (∀ r : Int, 0 ≤ r → r < 12 → M' 28 r = if B 9 r = y then B 8 r else 0) → Q (.inl none) M') : ∀ (d : Nat) (i : Int) (M1 : rd_M), (n - i).toNat = d → (0 ≤ i) → (i ≤ n) → (c_b1 B y i M1) → rd_G x_S_begin 34 [some (.ref 4), some (rd_i y), some (rd_i i)] [] M1 0 Q := by
  intro d
  induction d using Nat.strongRecOn with
  | ind d ih =>
    intro i M1 hd i0 i1 hB
    have hn40 := hI.n hn
    have e2 := hB.1 2 (by decide) (by decide)
    have e8 := hB.1 8 (by decide) (by decide)
    have e9 := hB.1 9 (by decide) (by decide)
    have e10 := hB.1 10 (by decide) (by decide)
    have e13 := hB.1 13 (by decide) (by decide)
    have e14 := hB.1 14 (by decide) (by decide)
    refine rd_ildn (pc := 34) d_S_begin_34 rfl ?_
    refine rd_aldn (pc := 35) d_S_begin_35 rfl ?_
    refine rd_getr (pc := 36) d_S_begin_36 fl_S_15 rfl rfl ?_
    refine rd_gi (pc := 39) (ki := 0) d_S_begin_39 fl_S_69 rfl rfl rfl ?_
    first | simp (decide := true) only [rd_up_app, rd_up_hit, e2, e8, e9, e10, e13, e14] | skip
    refine rd_icmp_ge (pc := 42) (tgt := 123) d_S_begin_42 rfl ⟨by omega, by omega⟩ ⟨by omega, by omega⟩ (fun h42 => ?_) (fun h42 => ?_)
    · skip
      refine rd_iconst (pc := 123) d_S_begin_123 ?_
      refine rd_ist2 (pc := 124) d_S_begin_124 rfl ?_
      have hI1 : c_I M1 := by (unfold c_I at *; rw [hB.1 2 (by decide) (by decide), hB.1 3 (by decide) (by decide), hB.1 5 (by decide) (by decide), hB.1 7 (by decide) (by decide), hB.1 8 (by decide) (by decide), hB.1 9 (by decide) (by decide), hB.1 10 (by decide) (by decide), hB.1 11 (by decide) (by decide), hB.1 12 (by decide) (by decide), hB.1 13 (by decide) (by decide), hB.1 14 (by decide) (by decide), hB.1 15 (by decide) (by decide), hB.1 16 (by decide) (by decide), hB.1 17 (by decide) (by decide), hB.1 18 (by decide) (by decide), hB.1 19 (by decide) (by decide), hB.1 20 (by decide) (by decide), hB.1 21 (by decide) (by decide), hB.1 22 (by decide) (by decide)]; exact hI)
      refine lq_S_begin2 hI1 hy (fun M' h1 h2 => hQ M' (fun q a b c => by rw [h1 q c]; exact hB.1 q a b) (fun k a b => by rw [h1 23 (by decide), h1 24 (by decide)]; exact hB.2 k a (by omega)) (fun r a b => by rw [h2 r a b, e9, e8])) _ 0 M1 rfl (by omega) (by omega) (fun _ _ => rfl) (fun r a b => by omega)
    · skip
      obtain ⟨hr, _, _, ha, hs, _⟩ := hI.claim i0 (by omega)
      obtain ⟨_, _, hyy⟩ := hI.risk hr.1 hr.2
      refine rd_aldn (pc := 45) d_S_begin_45 rfl ?_
      refine rd_getr (pc := 46) d_S_begin_46 fl_S_23 rfl rfl ?_
      refine rd_ildn (pc := 49) d_S_begin_49 rfl ?_
      refine rd_aldn (pc := 50) d_S_begin_50 rfl ?_
      refine rd_getr (pc := 51) d_S_begin_51 fl_S_15 rfl rfl ?_
      refine rd_getr (pc := 54) d_S_begin_54 fl_S_75 rfl rfl ?_
      refine rd_ildn (pc := 57) d_S_begin_57 rfl ?_
      refine rd_zald (pc := 58) d_S_begin_58 rfl (by omega) (by omega) ?_
      first | simp (decide := true) only [rd_up_app, rd_up_hit, e2, e8, e9, e10, e13, e14] | skip
      refine rd_if_ne (pc := 59) (tgt := 87) d_S_begin_59 rfl ⟨by omega, by omega⟩ (fun h59 => ?_) (fun h59 => ?_)
      · skip
        refine rd_iconst (pc := 87) d_S_begin_87 ?_
        refine rd_zast (pc := 88) d_S_begin_88 rfl (by omega) (by omega) (by omega) ?_
        refine rd_aldn (pc := 89) d_S_begin_89 rfl ?_
        refine rd_getr (pc := 90) d_S_begin_90 fl_S_27 rfl rfl ?_
        refine rd_ildn (pc := 93) d_S_begin_93 rfl ?_
        refine rd_aldn (pc := 94) d_S_begin_94 rfl ?_
        refine rd_getr (pc := 95) d_S_begin_95 fl_S_23 rfl rfl ?_
        refine rd_ildn (pc := 98) d_S_begin_98 rfl ?_
        refine rd_zald (pc := 99) d_S_begin_99 rfl (by omega) (by omega) ?_
        first | simp (decide := true) only [rd_up_app, rd_up_hit, e2, e8, e9, e10, e13, e14] | skip
        refine rd_if_eq (pc := 100) (tgt := 115) d_S_begin_100 rfl ⟨by omega, by omega⟩ (fun h100 => ?_) (fun h100 => ?_)
        · skip
          refine rd_iconst (pc := 115) d_S_begin_115 ?_
          refine rd_iast (pc := 116) d_S_begin_116 rfl (by omega) (by omega) ?_
          refine rd_iinc2 (pc := 117) d_S_begin_117 rfl ?_
          refine rd_goto (pc := 120) (tgt := 34) d_S_begin_120 rfl ?_
          by_cases hc : B 14 i = 0 ∧ B 9 (B 10 i) = y
          · first | (exfalso; omega) | exact ih _ (by omega) (i + 1) _ rfl (by omega) (by omega) (hB.s (if_pos hc).symm (if_pos hc).symm)
          · first | (exfalso; omega) | exact ih _ (by omega) (i + 1) _ rfl (by omega) (by omega) (hB.s (if_neg hc).symm (if_neg hc).symm)
        · skip
          refine rd_aldn (pc := 103) d_S_begin_103 rfl ?_
          refine rd_getr (pc := 104) d_S_begin_104 fl_S_15 rfl rfl ?_
          refine rd_getr (pc := 107) d_S_begin_107 fl_S_86 rfl rfl ?_
          refine rd_ildn (pc := 110) d_S_begin_110 rfl ?_
          refine rd_iald (pc := 111) d_S_begin_111 rfl (by omega) (by omega) ?_
          first | simp (decide := true) only [rd_up_app, rd_up_hit, e2, e8, e9, e10, e13, e14] | skip
          refine rd_goto (pc := 112) (tgt := 116) d_S_begin_112 rfl ?_
          refine rd_iast (pc := 116) d_S_begin_116 rfl (by omega) (by omega) ?_
          refine rd_iinc2 (pc := 117) d_S_begin_117 rfl ?_
          refine rd_goto (pc := 120) (tgt := 34) d_S_begin_120 rfl ?_
          by_cases hc : B 14 i = 0 ∧ B 9 (B 10 i) = y
          · first | (exfalso; omega) | exact ih _ (by omega) (i + 1) _ rfl (by omega) (by omega) (hB.s (if_pos hc).symm (if_pos hc).symm)
          · first | (exfalso; omega) | exact ih _ (by omega) (i + 1) _ rfl (by omega) (by omega) (hB.s (if_neg hc).symm (if_neg hc).symm)
      · skip
        refine rd_aldn (pc := 62) d_S_begin_62 rfl ?_
        refine rd_getr (pc := 63) d_S_begin_63 fl_S_9 rfl rfl ?_
        refine rd_getr (pc := 66) d_S_begin_66 fl_S_78 rfl rfl ?_
        refine rd_aldn (pc := 69) d_S_begin_69 rfl ?_
        refine rd_getr (pc := 70) d_S_begin_70 fl_S_15 rfl rfl ?_
        refine rd_getr (pc := 73) d_S_begin_73 fl_S_83 rfl rfl ?_
        refine rd_ildn (pc := 76) d_S_begin_76 rfl ?_
        refine rd_iald (pc := 77) d_S_begin_77 rfl (by omega) (by omega) ?_
        first | simp (decide := true) only [rd_up_app, rd_up_hit, e2, e8, e9, e10, e13, e14] | skip
        refine rd_iald (pc := 78) d_S_begin_78 rfl (by omega) (by omega) ?_
        first | simp (decide := true) only [rd_up_app, rd_up_hit, e2, e8, e9, e10, e13, e14] | skip
        refine rd_ildn (pc := 79) d_S_begin_79 rfl ?_
        refine rd_icmp_ne (pc := 80) (tgt := 87) d_S_begin_80 rfl ⟨by omega, by omega⟩ ⟨by omega, by omega⟩ (fun h80 => ?_) (fun h80 => ?_)
        · skip
          refine rd_iconst (pc := 87) d_S_begin_87 ?_
          refine rd_zast (pc := 88) d_S_begin_88 rfl (by omega) (by omega) (by omega) ?_
          refine rd_aldn (pc := 89) d_S_begin_89 rfl ?_
          refine rd_getr (pc := 90) d_S_begin_90 fl_S_27 rfl rfl ?_
          refine rd_ildn (pc := 93) d_S_begin_93 rfl ?_
          refine rd_aldn (pc := 94) d_S_begin_94 rfl ?_
          refine rd_getr (pc := 95) d_S_begin_95 fl_S_23 rfl rfl ?_
          refine rd_ildn (pc := 98) d_S_begin_98 rfl ?_
          refine rd_zald (pc := 99) d_S_begin_99 rfl (by omega) (by omega) ?_
          first | simp (decide := true) only [rd_up_app, rd_up_hit, e2, e8, e9, e10, e13, e14] | skip
          refine rd_if_eq (pc := 100) (tgt := 115) d_S_begin_100 rfl ⟨by omega, by omega⟩ (fun h100 => ?_) (fun h100 => ?_)
          · skip
            refine rd_iconst (pc := 115) d_S_begin_115 ?_
            refine rd_iast (pc := 116) d_S_begin_116 rfl (by omega) (by omega) ?_
            refine rd_iinc2 (pc := 117) d_S_begin_117 rfl ?_
            refine rd_goto (pc := 120) (tgt := 34) d_S_begin_120 rfl ?_
            by_cases hc : B 14 i = 0 ∧ B 9 (B 10 i) = y
            · first | (exfalso; omega) | exact ih _ (by omega) (i + 1) _ rfl (by omega) (by omega) (hB.s (if_pos hc).symm (if_pos hc).symm)
            · first | (exfalso; omega) | exact ih _ (by omega) (i + 1) _ rfl (by omega) (by omega) (hB.s (if_neg hc).symm (if_neg hc).symm)
          · skip
            refine rd_aldn (pc := 103) d_S_begin_103 rfl ?_
            refine rd_getr (pc := 104) d_S_begin_104 fl_S_15 rfl rfl ?_
            refine rd_getr (pc := 107) d_S_begin_107 fl_S_86 rfl rfl ?_
            refine rd_ildn (pc := 110) d_S_begin_110 rfl ?_
            refine rd_iald (pc := 111) d_S_begin_111 rfl (by omega) (by omega) ?_
            first | simp (decide := true) only [rd_up_app, rd_up_hit, e2, e8, e9, e10, e13, e14] | skip
            refine rd_goto (pc := 112) (tgt := 116) d_S_begin_112 rfl ?_
            refine rd_iast (pc := 116) d_S_begin_116 rfl (by omega) (by omega) ?_
            refine rd_iinc2 (pc := 117) d_S_begin_117 rfl ?_
            refine rd_goto (pc := 120) (tgt := 34) d_S_begin_120 rfl ?_
            by_cases hc : B 14 i = 0 ∧ B 9 (B 10 i) = y
            · first | (exfalso; omega) | exact ih _ (by omega) (i + 1) _ rfl (by omega) (by omega) (hB.s (if_pos hc).symm (if_pos hc).symm)
            · first | (exfalso; omega) | exact ih _ (by omega) (i + 1) _ rfl (by omega) (by omega) (hB.s (if_neg hc).symm (if_neg hc).symm)
        · skip
          refine rd_iconst (pc := 83) d_S_begin_83 ?_
          refine rd_goto (pc := 84) (tgt := 88) d_S_begin_84 rfl ?_
          refine rd_zast (pc := 88) d_S_begin_88 rfl (by omega) (by omega) (by omega) ?_
          refine rd_aldn (pc := 89) d_S_begin_89 rfl ?_
          refine rd_getr (pc := 90) d_S_begin_90 fl_S_27 rfl rfl ?_
          refine rd_ildn (pc := 93) d_S_begin_93 rfl ?_
          refine rd_aldn (pc := 94) d_S_begin_94 rfl ?_
          refine rd_getr (pc := 95) d_S_begin_95 fl_S_23 rfl rfl ?_
          refine rd_ildn (pc := 98) d_S_begin_98 rfl ?_
          refine rd_zald (pc := 99) d_S_begin_99 rfl (by omega) (by omega) ?_
          first | simp (decide := true) only [rd_up_app, rd_up_hit, e2, e8, e9, e10, e13, e14] | skip
          refine rd_if_eq (pc := 100) (tgt := 115) d_S_begin_100 rfl ⟨by omega, by omega⟩ (fun h100 => ?_) (fun h100 => ?_)
          · skip
            refine rd_iconst (pc := 115) d_S_begin_115 ?_
            refine rd_iast (pc := 116) d_S_begin_116 rfl (by omega) (by omega) ?_
            refine rd_iinc2 (pc := 117) d_S_begin_117 rfl ?_
            refine rd_goto (pc := 120) (tgt := 34) d_S_begin_120 rfl ?_
            by_cases hc : B 14 i = 0 ∧ B 9 (B 10 i) = y
            · first | (exfalso; omega) | exact ih _ (by omega) (i + 1) _ rfl (by omega) (by omega) (hB.s (if_pos hc).symm (if_pos hc).symm)
            · first | (exfalso; omega) | exact ih _ (by omega) (i + 1) _ rfl (by omega) (by omega) (hB.s (if_neg hc).symm (if_neg hc).symm)
          · skip
            refine rd_aldn (pc := 103) d_S_begin_103 rfl ?_
            refine rd_getr (pc := 104) d_S_begin_104 fl_S_15 rfl rfl ?_
            refine rd_getr (pc := 107) d_S_begin_107 fl_S_86 rfl rfl ?_
            refine rd_ildn (pc := 110) d_S_begin_110 rfl ?_
            refine rd_iald (pc := 111) d_S_begin_111 rfl (by omega) (by omega) ?_
            first | simp (decide := true) only [rd_up_app, rd_up_hit, e2, e8, e9, e10, e13, e14] | skip
            refine rd_goto (pc := 112) (tgt := 116) d_S_begin_112 rfl ?_
            refine rd_iast (pc := 116) d_S_begin_116 rfl (by omega) (by omega) ?_
            refine rd_iinc2 (pc := 117) d_S_begin_117 rfl ?_
            refine rd_goto (pc := 120) (tgt := 34) d_S_begin_120 rfl ?_
            by_cases hc : B 14 i = 0 ∧ B 9 (B 10 i) = y
            · first | (exfalso; omega) | exact ih _ (by omega) (i + 1) _ rfl (by omega) (by omega) (hB.s (if_pos hc).symm (if_pos hc).symm)
            · first | (exfalso; omega) | exact ih _ (by omega) (i + 1) _ rfl (by omega) (by omega) (hB.s (if_neg hc).symm (if_neg hc).symm)
theorem rd_fill_ne {M : rd_M} {p q : Nat} {len v : Int} (h : p ≠ q) : rd_fill M q len v p = M p := by
  funext j; unfold rd_fill; rw [if_neg (fun z => h z.1)]
theorem rd_fill_at {M : rd_M} {q : Nat} {len v j : Int} (h0 : 0 ≤ j) (h1 : j < len) : rd_fill M q len v q j = v := by
  unfold rd_fill; rw [if_pos ⟨rfl, h0, h1⟩]
set_option maxHeartbeats 4000000 in
set_option maxRecDepth 100000 in
theorem ev_S_begin {y : Int} {n : Nat} {M : rd_M} {Q : rd_R → rd_M → Prop} (hI : c_I M) (hn : M 2 0 = n) (hy : 0 ≤ y ∧ y ≤ 3) (hQ : ∀ M', c_beg M n y M' → Q (.inl none) M') : rd_G x_S_begin 0 [some (.ref 4), some (rd_i y), none] [] M 0 Q := by
  refine rd_aldn (pc := 0) d_S_begin_0 rfl ?_
  refine rd_getr (pc := 1) d_S_begin_1 fl_S_31 rfl rfl ?_
  refine rd_iconst (pc := 4) d_S_begin_4 ?_
  refine rd_callSv (pc := 5) (n' := 0) [_, _] d_S_begin_5 ml_S_60 (Nat.le_of_ble_eq_true rfl) (Nat.le_of_ble_eq_true rfl) (Nat.le_of_ble_eq_true rfl) rfl rfl rfl (Nat.le_of_ble_eq_true rfl) (Nat.le_of_ble_eq_true rfl) ?_
  refine ev_J_fillI (q := 25) (len := 400) (v := 0) rfl (by decide) ?_
  refine ⟨rfl, ?_⟩
  refine rd_aldn (pc := 8) d_S_begin_8 rfl ?_
  refine rd_getr (pc := 9) d_S_begin_9 fl_S_34 rfl rfl ?_
  refine rd_lconst (pc := 12) (v := 0) d_S_begin_12 rfl ?_
  refine rd_callSv (pc := 13) (n' := 0) [_, _] d_S_begin_13 ml_S_66 (Nat.le_of_ble_eq_true rfl) (Nat.le_of_ble_eq_true rfl) (Nat.le_of_ble_eq_true rfl) rfl rfl rfl (Nat.le_of_ble_eq_true rfl) (Nat.le_of_ble_eq_true rfl) ?_
  refine ev_J_fillJ (q := 26) (len := 10) (v := 0) rfl (by decide) ?_
  refine ⟨rfl, ?_⟩
  refine rd_aldn (pc := 16) d_S_begin_16 rfl ?_
  refine rd_getr (pc := 17) d_S_begin_17 fl_S_44 rfl rfl ?_
  refine rd_lconst (pc := 20) (v := 0) d_S_begin_20 rfl ?_
  refine rd_callSv (pc := 21) (n' := 0) [_, _] d_S_begin_21 ml_S_66 (Nat.le_of_ble_eq_true rfl) (Nat.le_of_ble_eq_true rfl) (Nat.le_of_ble_eq_true rfl) rfl rfl rfl (Nat.le_of_ble_eq_true rfl) (Nat.le_of_ble_eq_true rfl) ?_
  refine ev_J_fillJ (q := 29) (len := 10) (v := 0) rfl (by decide) ?_
  refine ⟨rfl, ?_⟩
  refine rd_aldn (pc := 24) d_S_begin_24 rfl ?_
  refine rd_getr (pc := 25) d_S_begin_25 fl_S_38 rfl rfl ?_
  refine rd_iconst (pc := 28) d_S_begin_28 ?_
  refine rd_callSv (pc := 29) (n' := 0) [_, _] d_S_begin_29 ml_S_60 (Nat.le_of_ble_eq_true rfl) (Nat.le_of_ble_eq_true rfl) (Nat.le_of_ble_eq_true rfl) rfl rfl rfl (Nat.le_of_ble_eq_true rfl) (Nat.le_of_ble_eq_true rfl) ?_
  refine ev_J_fillI (q := 27) (len := 100) (v := -1) rfl (by decide) ?_
  refine ⟨rfl, ?_⟩
  refine rd_iconst (pc := 32) d_S_begin_32 ?_
  refine rd_ist2 (pc := 33) d_S_begin_33 rfl ?_
  have hl : ∀ q, q ≠ 25 → q ≠ 26 → q ≠ 29 → q ≠ 27 → (rd_fill (rd_fill (rd_fill (rd_fill M 25 400 0) 26 10 0) 29 10 0) 27 100 (-1)) q = M q := fun q a b c e => by rw [rd_fill_ne e, rd_fill_ne c, rd_fill_ne b, rd_fill_ne a]
  have hlow : ∀ q, q ≤ 22 → (rd_fill (rd_fill (rd_fill (rd_fill M 25 400 0) 26 10 0) 29 10 0) 27 100 (-1)) q = M q := fun q h => hl q (by omega) (by omega) (by omega) (by omega)
  have hd := c_d_of hlow
  refine lq_S_begin (B := (rd_fill (rd_fill (rd_fill (rd_fill M 25 400 0) 26 10 0) 29 10 0) 27 100 (-1))) (hI.of hlow) (by rw [hlow 2 (by decide)]; exact hn) hy (fun M' h1 h2 h3 => hQ M' ⟨fun q hq => ?_, fun k a b => ?_, fun j a b => ?_, fun t a b => ⟨?_, ?_⟩, fun j a b => ?_, fun r a b => ?_⟩) _ 0 (rd_fill (rd_fill (rd_fill (rd_fill M 25 400 0) 26 10 0) 29 10 0) 27 100 (-1)) rfl (by omega) (by omega) ⟨fun _ _ _ => rfl, fun k a b => by omega⟩
  · rw [h1 q (by omega) (by omega) (by omega)]; exact hl q (by omega) (by omega) (by omega) (by omega)
  · have := h2 k a b; rw [hd, hlow 13 (by decide)] at this; exact this
  · rw [h1 25 (by decide) (by decide) (by decide), rd_fill_ne (by decide), rd_fill_ne (by decide), rd_fill_ne (by decide)]; exact rd_fill_at a b
  · rw [h1 26 (by decide) (by decide) (by decide), rd_fill_ne (by decide), rd_fill_ne (by decide)]; exact rd_fill_at a b
  · rw [h1 29 (by decide) (by decide) (by decide), rd_fill_ne (by decide)]; exact rd_fill_at a b
  · rw [h1 27 (by decide) (by decide) (by decide)]; exact rd_fill_at a b
  · rw [h3 r a b, hlow 9 (by decide), hlow 8 (by decide)]

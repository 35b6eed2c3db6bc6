/-! the reference: the excess of risks -/
/-- layers of those that are done: in, and no longer inside -/
def sp_xS (d : rd_M) (n : Nat) (t : Int) (κ I : Int → Int) : Int := rd_sm (fun k => if sp_in d (d 9 t) k = 1 ∧ I k = 0 then sp_Lt d t (κ k) else 0) n
def sp_xw (d : rd_M) (n : Nat) (t : Int) (κ I : Int → Int) (k : Int) : Int := if sp_in d (d 9 t) k = 1 ∧ I k = 0 then sp_tkX d n t κ k else 0
/-- inside: some of those that are in; those that are done stand before them -/
def sp_xI (d : rd_M) (n : Nat) (t : Int) (I : Int → Int) : Prop := (∀ k : Int, 0 ≤ k → k < n → (0 ≤ I k ∧ I k ≤ 1) ∧ (I k = 1 → sp_in d (d 9 t) k = 1)) ∧ (∀ j k : Int, 0 ≤ j → j < n → 0 ≤ k → k < n → sp_in d (d 9 t) j = 1 → I j = 0 → I k = 1 → sp_bf (fun i => - d 5 i) j k)
def sp_xm (d : rd_M) (n : Nat) (I : Int → Int) (x : Int) : Prop := ∀ j : Int, 0 ≤ j → j < n → I j = 1 → ¬ sp_bf (fun i => - d 5 i) j x
theorem sp_xI.xB {d : rd_M} {n : Nat} {t x : Int} {κ I : Int → Int} (h : sp_xI d n t I) (x0 : 0 ≤ x) (x1 : x < n) (hx : I x = 1) (hm : sp_xm d n I x) : sp_xB d n t κ x = sp_xS d n t κ I := by
  refine rd_sm_c n (fun j a b => ?_)
  have h1 := h.1 j a b
  by_cases hj : sp_in d (d 9 t) j = 1
  · by_cases hI : I j = 0
    · have hc : sp_in d (d 9 t) j = 1 ∧ sp_bf (fun i => - d 5 i) j x := ⟨hj, h.2 j x a b x0 x1 hj hI hx⟩
      rw [if_pos hc, if_pos ⟨hj, hI⟩]
    · have hc : ¬ (sp_in d (d 9 t) j = 1 ∧ sp_bf (fun i => - d 5 i) j x) := fun z => hm j a b (by omega) z.2
      rw [if_neg hc, if_neg (fun z => hI z.2)]
  · rw [if_neg (fun z => hj z.1), if_neg (fun z => hj z.1)]
theorem sp_xS_s {d : rd_M} {n : Nat} {t x : Int} {κ I I' : Int → Int} (x0 : 0 ≤ x) (x1 : x < n) (hx : I x = 1) (hin : sp_in d (d 9 t) x = 1) (hI' : ∀ j : Int, I' j = if j = x then 0 else I j) : sp_xS d n t κ I' = sp_xS d n t κ I + sp_Lt d t (κ x) := by
  unfold sp_xS
  rw [← rd_sm_add (w := fun k => if sp_in d (d 9 t) k = 1 ∧ I k = 0 then sp_Lt d t (κ k) else 0) (k := x) n x0 x1]
  refine rd_sm_c n (fun j a b => ?_)
  rw [hI' j]
  by_cases hj : j = x
  · subst hj
    have hc : ¬ (sp_in d (d 9 t) j = 1 ∧ I j = 0) := by omega
    rw [if_pos rfl, if_pos ⟨hin, rfl⟩, if_pos rfl, if_neg hc]; omega
  · rw [if_neg hj, if_neg hj]
theorem sp_xw_s {d : rd_M} {n : Nat} {t x j a : Int} {κ I I' : Int → Int} (hx : I x = 1) (hin : sp_in d (d 9 t) x = 1) (hI' : ∀ j : Int, I' j = if j = x then 0 else I j) (ha : a = sp_tkX d n t κ x) : (if j = x then sp_xw d n t κ I j + a else sp_xw d n t κ I j) = sp_xw d n t κ I' j := by
  unfold sp_xw
  rw [hI' j]
  by_cases hj : j = x
  · subst hj
    have hc : ¬ (sp_in d (d 9 t) j = 1 ∧ I j = 0) := by omega
    rw [if_pos rfl, if_neg hc, if_pos rfl, if_pos ⟨hin, rfl⟩, ha]; omega
  · rw [if_neg hj, if_neg hj]
theorem sp_xI.s {d : rd_M} {n : Nat} {t x : Int} {I I' : Int → Int} (h : sp_xI d n t I) (x0 : 0 ≤ x) (x1 : x < n) (hm : sp_xm d n I x) (hI' : ∀ j : Int, I' j = if j = x then 0 else I j) : sp_xI d n t I' := by
  refine ⟨fun k k0 k1 => ?_, fun j k j0 j1 k0 k1 jn jI kI => ?_⟩
  · have := h.1 k k0 k1
    rw [hI' k]
    by_cases hk : k = x
    · rw [if_pos hk]; exact ⟨by omega, fun z => by omega⟩
    · rw [if_neg hk]; exact this
  · rw [hI' k] at kI
    rw [hI' j] at jI
    by_cases hk : k = x
    · rw [if_pos hk] at kI; omega
    · rw [if_neg hk] at kI
      by_cases hj : j = x
      · have := hm k k0 k1 kI
        subst hj
        show - d 5 k < - d 5 j ∨ (- d 5 j = - d 5 k ∧ j < k)
        have h2 : ¬ (- d 5 j < - d 5 k ∨ (- d 5 k = - d 5 j ∧ k < j)) := this
        omega
      · rw [if_neg hj] at jI
        exact h.2 j k j0 j1 k0 k1 jn jI kI
theorem sp_cn_x {n : Nat} {x : Int} {I I' : Int → Int} (x0 : 0 ≤ x) (x1 : x < n) (hx : I x = 1) (hI' : ∀ j : Int, I' j = if j = x then 0 else I j) : sp_cn n I = sp_cn n I' + 1 := by
  unfold sp_cn
  rw [← rd_sm_add (w := fun j => if I' j = 1 then 1 else 0) (k := x) n x0 x1]
  refine rd_sm_c n (fun j a b => ?_)
  by_cases hj : j = x
  · subst hj
    have : I' j = 0 := by rw [hI' j, if_pos rfl]
    rw [if_pos rfl, if_pos hx, if_neg (by omega)]; rfl
  · rw [if_neg hj, hI' j, if_neg hj]
set_option maxHeartbeats 4000000 in
set_option maxRecDepth 100000 in
theorem lq_M_xrF {t : Int} {n nt : Nat} {M : rd_M} {Q : rd_R → rd_M → Prop} (hB : r_B M n nt) (hI : ∀ k : Int, 0 ≤ k → k < n → 0 ≤ M 55 k ∧ M 55 k ≤ 1) (hX : ∀ i x : Int, ((x = -1 ∧ ∀ j : Int, 0 ≤ j → j < n → M 55 j ≠ 1) ∨ (0 ≤ x ∧ x < n ∧ M 55 x = 1 ∧ ∀ j : Int, 0 ≤ j → j < n → M 55 j = 1 → ¬ sp_bf (fun i => - M 38 i) j x)) → rd_G x_M_excessOfRisks 90 [some (.ref 32), some (rd_i t), some (rd_i x), some (rd_i i)] [] M 0 Q) : ∀ (d : Nat) (i x : Int), (n - i).toNat = d → (0 ≤ i) → (i ≤ n) → ((x = -1 ∧ ∀ j : Int, 0 ≤ j → j < i → M 55 j ≠ 1) ∨ (0 ≤ x ∧ x < i ∧ M 55 x = 1 ∧ ∀ j : Int, 0 ≤ j → j < i → M 55 j = 1 → ¬ sp_bf (fun i => - M 38 i) j x)) → rd_G x_M_excessOfRisks 42 [some (.ref 32), some (rd_i t), some (rd_i x), some (rd_i i)] [] M 0 Q := by
  intro d
  induction d using Nat.strongRecOn with
  | ind d ih =>
    intro i x hd i0 i1 hx
    have hn := hB.1
    have hn4 := hB.2.2.1
    refine rd_ildn (pc := 42) d_M_excessOfRisks_42 rfl ?_
    refine rd_aldn (pc := 43) d_M_excessOfRisks_43 rfl ?_
    refine rd_gi (pc := 44) (ki := 9) d_M_excessOfRisks_44 fl_M_97 rfl rfl rfl ?_
    refine rd_icmp_ge (pc := 47) (tgt := 90) d_M_excessOfRisks_47 rfl ⟨by omega, by omega⟩ ⟨by omega, by omega⟩ (fun h47 => ?_) (fun h47 => ?_)
    · skip
      exact hX i x (by rw [show (n : Int) = i by omega]; exact hx)
    · skip
      have hi := hI i i0 (by omega)
      obtain ⟨_, _, c3, _⟩ := hB.claim i0 (by omega)
      refine rd_aldn (pc := 50) d_M_excessOfRisks_50 rfl ?_
      refine rd_getr (pc := 51) d_M_excessOfRisks_51 fl_M_78 rfl rfl ?_
      refine rd_ildn (pc := 54) d_M_excessOfRisks_54 rfl ?_
      refine rd_zald (pc := 55) d_M_excessOfRisks_55 rfl (by omega) (by omega) ?_
      refine rd_if_eq (pc := 56) (tgt := 82) d_M_excessOfRisks_56 rfl ⟨by omega, by omega⟩ (fun h56 => ?_) (fun h56 => ?_)
      · skip
        refine rd_ildn (pc := 82) d_M_excessOfRisks_82 rfl ?_
        refine rd_ist2 (pc := 83) d_M_excessOfRisks_83 rfl ?_
        refine rd_iinc3 (pc := 84) d_M_excessOfRisks_84 rfl ?_
        refine rd_goto (pc := 87) (tgt := 42) d_M_excessOfRisks_87 rfl ?_
        first
          | (refine ih _ (by omega) (i + 1) i rfl (by omega) (by omega) (Or.inr ⟨by omega, by omega, by omega, fun j a b c => ?_⟩)
             show ¬ (- M 38 i < - M 38 j ∨ (- M 38 j = - M 38 i ∧ j < i))
             by_cases hj : j = i
             · subst hj; omega
             · rcases hx with ⟨_, h2⟩ | ⟨_, _, _, h2⟩
               · exact absurd c (h2 j a (by omega))
               · have h3 : ¬ (- M 38 x < - M 38 j ∨ (- M 38 j = - M 38 x ∧ j < x)) := h2 j a (by omega) c
                 omega)
          | (refine ih _ (by omega) (i + 1) x rfl (by omega) (by omega) ?_
             rcases hx with ⟨h1, h2⟩ | ⟨h1, h1b, h1c, h2⟩
             · exact Or.inl ⟨h1, fun j a b => by by_cases hj : j = i; (subst hj; omega); (exact h2 j a (by omega))⟩
             · exact Or.inr ⟨h1, by omega, h1c, fun j a b c => by by_cases hj : j = i; (subst hj; show ¬ (- M 38 x < - M 38 j ∨ (- M 38 j = - M 38 x ∧ j < x)); omega); (exact h2 j a (by omega) c)⟩)
      · skip
        refine rd_ildn (pc := 59) d_M_excessOfRisks_59 rfl ?_
        refine rd_if_lt (pc := 60) (tgt := 78) d_M_excessOfRisks_60 rfl ⟨by omega, by omega⟩ (fun h60 => ?_) (fun h60 => ?_)
        · skip
          refine rd_ildn (pc := 78) d_M_excessOfRisks_78 rfl ?_
          refine rd_goto (pc := 79) (tgt := 83) d_M_excessOfRisks_79 rfl ?_
          refine rd_ist2 (pc := 83) d_M_excessOfRisks_83 rfl ?_
          refine rd_iinc3 (pc := 84) d_M_excessOfRisks_84 rfl ?_
          refine rd_goto (pc := 87) (tgt := 42) d_M_excessOfRisks_87 rfl ?_
          first
            | (refine ih _ (by omega) (i + 1) i rfl (by omega) (by omega) (Or.inr ⟨by omega, by omega, by omega, fun j a b c => ?_⟩)
               show ¬ (- M 38 i < - M 38 j ∨ (- M 38 j = - M 38 i ∧ j < i))
               by_cases hj : j = i
               · subst hj; omega
               · rcases hx with ⟨_, h2⟩ | ⟨_, _, _, h2⟩
                 · exact absurd c (h2 j a (by omega))
                 · have h3 : ¬ (- M 38 x < - M 38 j ∨ (- M 38 j = - M 38 x ∧ j < x)) := h2 j a (by omega) c
                   omega)
            | (refine ih _ (by omega) (i + 1) x rfl (by omega) (by omega) ?_
               rcases hx with ⟨h1, h2⟩ | ⟨h1, h1b, h1c, h2⟩
               · exact Or.inl ⟨h1, fun j a b => by by_cases hj : j = i; (subst hj; omega); (exact h2 j a (by omega))⟩
               · exact Or.inr ⟨h1, by omega, h1c, fun j a b c => by by_cases hj : j = i; (subst hj; show ¬ (- M 38 x < - M 38 j ∨ (- M 38 j = - M 38 x ∧ j < x)); omega); (exact h2 j a (by omega) c)⟩)
        · skip
          obtain ⟨_, _, d3, _⟩ := hB.claim (k := x) (by omega) (by omega)
          refine rd_aldn (pc := 63) d_M_excessOfRisks_63 rfl ?_
          refine rd_getr (pc := 64) d_M_excessOfRisks_64 fl_M_25 rfl rfl ?_
          refine rd_ildn (pc := 67) d_M_excessOfRisks_67 rfl ?_
          refine rd_iald (pc := 68) d_M_excessOfRisks_68 rfl (by omega) (by omega) ?_
          refine rd_aldn (pc := 69) d_M_excessOfRisks_69 rfl ?_
          refine rd_getr (pc := 70) d_M_excessOfRisks_70 fl_M_25 rfl rfl ?_
          refine rd_ildn (pc := 73) d_M_excessOfRisks_73 rfl ?_
          refine rd_iald (pc := 74) d_M_excessOfRisks_74 rfl (by omega) (by omega) ?_
          refine rd_icmp_ge (pc := 75) (tgt := 82) d_M_excessOfRisks_75 rfl ⟨by omega, by omega⟩ ⟨by omega, by omega⟩ (fun h75 => ?_) (fun h75 => ?_)
          · skip
            refine rd_ildn (pc := 82) d_M_excessOfRisks_82 rfl ?_
            refine rd_ist2 (pc := 83) d_M_excessOfRisks_83 rfl ?_
            refine rd_iinc3 (pc := 84) d_M_excessOfRisks_84 rfl ?_
            refine rd_goto (pc := 87) (tgt := 42) d_M_excessOfRisks_87 rfl ?_
            first
              | (refine ih _ (by omega) (i + 1) i rfl (by omega) (by omega) (Or.inr ⟨by omega, by omega, by omega, fun j a b c => ?_⟩)
                 show ¬ (- M 38 i < - M 38 j ∨ (- M 38 j = - M 38 i ∧ j < i))
                 by_cases hj : j = i
                 · subst hj; omega
                 · rcases hx with ⟨_, h2⟩ | ⟨_, _, _, h2⟩
                   · exact absurd c (h2 j a (by omega))
                   · have h3 : ¬ (- M 38 x < - M 38 j ∨ (- M 38 j = - M 38 x ∧ j < x)) := h2 j a (by omega) c
                     omega)
              | (refine ih _ (by omega) (i + 1) x rfl (by omega) (by omega) ?_
                 rcases hx with ⟨h1, h2⟩ | ⟨h1, h1b, h1c, h2⟩
                 · exact Or.inl ⟨h1, fun j a b => by by_cases hj : j = i; (subst hj; omega); (exact h2 j a (by omega))⟩
                 · exact Or.inr ⟨h1, by omega, h1c, fun j a b c => by by_cases hj : j = i; (subst hj; show ¬ (- M 38 x < - M 38 j ∨ (- M 38 j = - M 38 x ∧ j < x)); omega); (exact h2 j a (by omega) c)⟩)
          · skip
            refine rd_ildn (pc := 78) d_M_excessOfRisks_78 rfl ?_
            refine rd_goto (pc := 79) (tgt := 83) d_M_excessOfRisks_79 rfl ?_
            refine rd_ist2 (pc := 83) d_M_excessOfRisks_83 rfl ?_
            refine rd_iinc3 (pc := 84) d_M_excessOfRisks_84 rfl ?_
            refine rd_goto (pc := 87) (tgt := 42) d_M_excessOfRisks_87 rfl ?_
            first
              | (refine ih _ (by omega) (i + 1) i rfl (by omega) (by omega) (Or.inr ⟨by omega, by omega, by omega, fun j a b c => ?_⟩)
                 show ¬ (- M 38 i < - M 38 j ∨ (- M 38 j = - M 38 i ∧ j < i))
                 by_cases hj : j = i
                 · subst hj; omega
                 · rcases hx with ⟨_, h2⟩ | ⟨_, _, _, h2⟩
                   · exact absurd c (h2 j a (by omega))
                   · have h3 : ¬ (- M 38 x < - M 38 j ∨ (- M 38 j = - M 38 x ∧ j < x)) := h2 j a (by omega) c
                     omega)
              | (refine ih _ (by omega) (i + 1) x rfl (by omega) (by omega) ?_
                 rcases hx with ⟨h1, h2⟩ | ⟨h1, h1b, h1c, h2⟩
                 · exact Or.inl ⟨h1, fun j a b => by by_cases hj : j = i; (subst hj; omega); (exact h2 j a (by omega))⟩
                 · exact Or.inr ⟨h1, by omega, h1c, fun j a b c => by by_cases hj : j = i; (subst hj; show ¬ (- M 38 x < - M 38 j ∨ (- M 38 j = - M 38 x ∧ j < x)); omega); (exact h2 j a (by omega) c)⟩)
set_option maxHeartbeats 4000000 in
set_option maxRecDepth 100000 in
theorem lq_M_xrW {t : Int} {n nt : Nat} {M : rd_M} {Q : rd_R → rd_M → Prop} (hB : r_B M n nt) (hK : ∀ k : Int, 0 ≤ k → k < n → 0 ≤ M 49 k ∧ M 49 k ≤ 1000000000) (h0 : 0 ≤ t) (h1 : t < 10) (hQ : ∀ M', r_fr M' M → (∀ q, q ≠ 32 → q ≠ 55 → M' q = r_tks M t n (sp_tkX (r_d M) n t (M 49)) q) → Q (.inl none) M') : ∀ (d : Nat) (x i : Int) (B M1 : rd_M), (if x < 0 then 0 else sp_cn n (B 55) + 1).toNat = d → (-1 ≤ x ∧ x < 40) → (∀ q, q ≠ 55 → q ≠ 32 → B q = M q) → (∀ j : Int, j ≠ 28 → j ≠ 29 → B 32 j = M 32 j) → (sp_xI (r_d M) n t (B 55)) → (B 32 28 = min (M 45 t) (sp_xS (r_d M) n t (M 49) (B 55))) → (B 32 29 = sp_Tt (r_d M) t (sp_xS (r_d M) n t (M 49) (B 55))) → (M1 = r_tks B t n (sp_xw (r_d M) n t (M 49) (B 55))) → (x < 0 → ∀ k : Int, 0 ≤ k → k < n → B 55 k ≠ 1) → rd_G x_M_excessOfRisks 34 [some (.ref 32), some (rd_i t), some (rd_i x), none] [] M1 0 Q := by
  intro d
  induction d using Nat.strongRecOn with
  | ind d ih =>
    intro x i B M1 hd hx hB1 hB2 hI hp hu hM hz
    have hn := hB.1
    have hn4 := hB.2.2.1
    have htm := hB.tm h0 h1
    obtain ⟨s1, s2, s3, ta, tb, tc, td⟩ := hB.sh h0 h1
    have hf : r_fr M1 M := by (rw [hM]; exact r_fr.tks.trans ⟨fun q a b => hB1 q (by omega) a, hB2⟩)
    have hBM := hf.B hB
    have e55 : M1 55 = B 55 := by rw [hM, r_tks_ne (by decide) (by decide) (by decide)]
    have e38 : M1 38 = M 38 := hf.low 38 (by decide) (by decide)
    have e42 : M1 42 = M 42 := hf.low 42 (by decide) (by decide)
    have e43 : M1 43 = M 43 := hf.low 43 (by decide) (by decide)
    have hcn := sp_cn_nn (n := n) (p := B 55)
    refine rd_ildn (pc := 34) d_M_excessOfRisks_34 rfl ?_
    refine rd_if_lt (pc := 35) (tgt := 138) d_M_excessOfRisks_35 rfl ⟨by omega, by omega⟩ (fun h35 => ?_) (fun h35 => ?_)
    · skip
      exact rd_vret (pc := 138) d_M_excessOfRisks_138 rfl (Nat.le_of_ble_eq_true rfl) (by
      have hzz := hz (by omega)
      refine hQ _ hf (fun q a b => ?_)
      rw [hM, r_tks_congr (w' := sp_tkX (r_d M) n t (M 49)) (fun j j0 j1 => ?_)]
      · by_cases q1 : q = 49
        · subst q1; funext j; rw [r_tks_24, r_tks_24, hB1 49 (by decide) (by decide)]
        · by_cases q2 : q = 50
          · subst q2; funext j; rw [r_tks_25, r_tks_25, hB1 50 (by decide) (by decide)]
          · by_cases q3 : q = 51
            · subst q3; funext j; rw [r_tks_26, r_tks_26, hB1 51 (by decide) (by decide)]
            · rw [r_tks_ne q1 q2 q3, r_tks_ne q1 q2 q3, hB1 q b a]
      · have h1 := hzz j j0 j1
        have h2 := (hI.1 j j0 j1).1
        unfold sp_xw
        by_cases hj : sp_in (r_d M) ((r_d M) 9 t) j = 1
        · rw [if_pos ⟨hj, by omega⟩]
        · rw [if_neg (fun z => hj z.1)]; exact (if_neg hj).symm)
    · skip
      refine rd_iconst (pc := 38) d_M_excessOfRisks_38 ?_
      refine rd_ist2 (pc := 39) d_M_excessOfRisks_39 rfl ?_
      refine rd_iconst (pc := 40) d_M_excessOfRisks_40 ?_
      refine rd_ist3 (pc := 41) d_M_excessOfRisks_41 rfl ?_
      have hxd : ¬ x < 0 := h35
      rw [if_neg hxd] at hd
      refine lq_M_xrF hBM (fun k a b => by rw [e55]; exact (hI.1 k a b).1) (fun i2 x2 hx2 => ?_) _ 0 (-1) rfl (by omega) (by omega) (Or.inl ⟨rfl, fun j a b => by omega⟩)
      rw [e55, e38] at hx2
      have hx2r : -1 ≤ x2 ∧ x2 < n := by (rcases hx2 with ⟨a, _⟩ | ⟨a, b, _⟩ <;> omega)
      refine rd_ildn (pc := 90) d_M_excessOfRisks_90 rfl ?_
      refine rd_if_lt (pc := 91) (tgt := 34) d_M_excessOfRisks_91 rfl ⟨by omega, by omega⟩ (fun h91 => ?_) (fun h91 => ?_)
      · skip
        first
          | (refine rd_weak (L' := [some (.ref 32), some (rd_i t), some (rd_i x2), none]) (by simp [rd_le]) ?_
             have hneg : x2 < 0 := by omega
             refine ih _ ?_ x2 0 B M1 rfl (by omega) hB1 hB2 hI hp hu hM (fun _ => ?_)
             · rw [if_pos hneg]; omega
             · rcases hx2 with ⟨_, a⟩ | ⟨a, _⟩
               · exact a
               · exfalso; omega)
          | (refine rd_weak (L' := [some (.ref 32), some (rd_i t), some (rd_i x2), none]) (by simp [rd_le]) ?_
             have hxs := sp_xS_s (κ := M 49) (I := B 55) (I' := rd_up B 55 x2 0 55) (d := (r_d M)) (t := t) x0 x1 xI hin hI'
             have ec := sp_cn_x (n := n) (I := B 55) (I' := rd_up B 55 x2 0 55) x0 x1 xI hI'
             have e5 : ∀ a b : Int, rd_up (rd_up (rd_up B 55 x2 0) 32 28 a) 32 29 b 55 = rd_up B 55 x2 0 55 := fun a b => by rw [rd_up_ne (by decide), rd_up_ne (by decide)]
             refine ih _ ?_ x2 0 (rd_up (rd_up (rd_up B 55 x2 0) 32 28 (min (M 45 t) (sp_xS (r_d M) n t (M 49) (B 55) + sp_layer (M 42 t) (M 43 t) (M 49 x2)))) 32 29 (sp_Tt (r_d M) t (sp_xS (r_d M) n t (M 49) (B 55) + sp_layer (M 42 t) (M 43 t) (M 49 x2)))) _ rfl ⟨by omega, by omega⟩ ?_ ?_ ?_ ?_ ?_ ?_ (fun z => by omega)
             · rw [if_neg (by omega), e5]; omega
             · intro q a b; rw [rd_up_ne b, rd_up_ne b, rd_up_ne a]; exact hB1 q a b
             · intro j a b; rw [rd_up_at, if_neg b, rd_up_at, if_neg a, rd_up_app (by decide)]; exact hB2 j a b
             · rw [e5]; exact hI.s x0 x1 xm hI'
             · rw [e5, hxs, rd_up_at, if_neg (by decide), rd_up_hit]; rfl
             · rw [e5, hxs, rd_up_hit]; rfl
             · rw [r_tks_take x0 x1]
               refine r_tks_congr (fun j a b => ?_)
               rw [e5]
               refine sp_xw_s (κ := M 49) xI hin hI' ?_
               unfold sp_tkX
               rw [if_pos hin, hI.xB x0 x1 xI xm]
               rfl)
      · skip
        have hx3 : 0 ≤ x2 ∧ x2 < n ∧ B 55 x2 = 1 ∧ ∀ j : Int, 0 ≤ j → j < n → B 55 j = 1 → ¬ sp_bf (fun i => - M 38 i) j x2 := by (rcases hx2 with ⟨a, _⟩ | a; (exfalso; omega); (exact a))
        obtain ⟨x0, x1, xI, xm⟩ := hx3
        have hin : sp_in (r_d M) ((r_d M) 9 t) x2 = 1 := (hI.1 x2 x0 x1).2 xI
        have hkx := hK x2 x0 x1
        have e49 : M1 49 x2 = M 49 x2 := by (rw [hM, r_tks_24, if_pos ⟨x0, x1⟩]; unfold sp_xw; rw [if_neg (by omega), hB1 49 (by decide) (by decide)]; omega)
        have hS0 : 0 ≤ sp_xS (r_d M) n t (M 49) (B 55) ∧ sp_xS (r_d M) n t (M 49) (B 55) ≤ n * 1000000000 := by
          have hb := rd_sm_b (f := fun k => if sp_in (r_d M) ((r_d M) 9 t) k = 1 ∧ B 55 k = 0 then sp_Lt (r_d M) t (M 49 k) else 0) (A := 0) (B := 1000000000) n (fun j a b => by
            have := sp_Lt_b htm (hK j a b).1
            by_cases hj : sp_in (r_d M) ((r_d M) 9 t) j = 1 ∧ B 55 j = 0
            · rw [if_pos hj]; omega
            · rw [if_neg hj]; omega)
          unfold sp_xS; omega
        have hLb := sp_Lt_b htm hkx.1
        have hLb' : 0 ≤ sp_layer (M 42 t) (M 43 t) (M 49 x2) ∧ sp_layer (M 42 t) (M 43 t) (M 49 x2) ≤ 1000000000 := ⟨hLb.1, hLb.2.2⟩
        have hI' : ∀ j : Int, rd_up B 55 x2 0 55 j = if j = x2 then 0 else B 55 j := fun j => rd_up_at
        refine rd_aldn (pc := 94) d_M_excessOfRisks_94 rfl ?_
        refine rd_getr (pc := 95) d_M_excessOfRisks_95 fl_M_78 rfl rfl ?_
        refine rd_ildn (pc := 98) d_M_excessOfRisks_98 rfl ?_
        refine rd_iconst (pc := 99) d_M_excessOfRisks_99 ?_
        refine rd_zast (pc := 100) d_M_excessOfRisks_100 rfl (by omega) (by omega) (by omega) ?_
        refine rd_aldn (pc := 101) d_M_excessOfRisks_101 rfl ?_
        refine rd_ildn (pc := 102) d_M_excessOfRisks_102 rfl ?_
        refine rd_ildn (pc := 103) d_M_excessOfRisks_103 rfl ?_
        refine rd_aldn (pc := 104) d_M_excessOfRisks_104 rfl ?_
        refine rd_ildn (pc := 105) d_M_excessOfRisks_105 rfl ?_
        refine rd_aldn (pc := 106) d_M_excessOfRisks_106 rfl ?_
        refine rd_getr (pc := 107) d_M_excessOfRisks_107 fl_M_60 rfl rfl ?_
        refine rd_ildn (pc := 110) d_M_excessOfRisks_110 rfl ?_
        refine rd_lald (pc := 111) d_M_excessOfRisks_111 rfl (by omega) (by omega) ?_
        first | simp (decide := true) only [rd_up_app, rd_up_hit, e38, e42, e43, e49] | simp (decide := true) only [rd_up_app, rd_up_hit, e38, e42, e43] | skip
        refine rd_aldn (pc := 112) d_M_excessOfRisks_112 rfl ?_
        refine rd_getr (pc := 113) d_M_excessOfRisks_113 fl_M_38 rfl rfl ?_
        refine rd_ildn (pc := 116) d_M_excessOfRisks_116 rfl ?_
        refine rd_iald (pc := 117) d_M_excessOfRisks_117 rfl (by omega) (by omega) ?_
        first | simp (decide := true) only [rd_up_app, rd_up_hit, e38, e42, e43, e49] | simp (decide := true) only [rd_up_app, rd_up_hit, e38, e42, e43] | skip
        refine rd_i2l (pc := 118) d_M_excessOfRisks_118 ⟨by omega, by omega⟩ ?_
        refine rd_aldn (pc := 119) d_M_excessOfRisks_119 rfl ?_
        refine rd_getr (pc := 120) d_M_excessOfRisks_120 fl_M_41 rfl rfl ?_
        refine rd_ildn (pc := 123) d_M_excessOfRisks_123 rfl ?_
        refine rd_iald (pc := 124) d_M_excessOfRisks_124 rfl (by omega) (by omega) ?_
        first | simp (decide := true) only [rd_up_app, rd_up_hit, e38, e42, e43, e49] | simp (decide := true) only [rd_up_app, rd_up_hit, e38, e42, e43] | skip
        refine rd_i2l (pc := 125) d_M_excessOfRisks_125 ⟨by omega, by omega⟩ ?_
        refine rd_callSl (pc := 126) (n' := 0) [_, _, _] d_M_excessOfRisks_126 ml_M_164 (Nat.le_of_ble_eq_true rfl) (Nat.le_of_ble_eq_true rfl) (Nat.le_of_ble_eq_true rfl) rfl rfl rfl (Nat.le_of_ble_eq_true rfl) (Nat.le_of_ble_eq_true rfl) ?_
        refine ev_M_layer ⟨by omega, by omega⟩ ⟨by omega, by omega⟩ ⟨by omega, by omega⟩ ?_
        refine ⟨_, rfl, ?_⟩
        first | simp (decide := true) only [rd_up_app, rd_up_hit, e38, e42, e43, e49] | simp (decide := true) only [rd_up_app, rd_up_hit, e38, e42, e43] | skip
        refine rd_callVl (pc := 129) (n' := 0) [_, _] d_M_excessOfRisks_129 ml_M_168 rfl (Nat.le_of_ble_eq_true rfl) (Nat.le_of_ble_eq_true rfl) (Nat.le_of_ble_eq_true rfl) rfl rfl rfl (Nat.le_of_ble_eq_true rfl) (Nat.le_of_ble_eq_true rfl) ?_
        have eM : rd_up M1 55 x2 0 = r_tks (rd_up B 55 x2 0) t n (sp_xw (r_d M) n t (M 49) (B 55)) := by rw [hM, r_tks_up (by decide) (by decide) (by decide)]
        have hf2 : r_fr (rd_up M1 55 x2 0) M := (r_fr.up (by omega)).trans hf
        refine ev_M_allowed (S := sp_xS (r_d M) n t (M 49) (B 55)) (hf2.B hB) h0 h1 ⟨hLb'.1, hLb'.2⟩ ⟨by omega, by omega⟩ ?_ ?_ ?_
        · rw [hf2.low 45 (by decide) (by decide), rd_up_app (by decide), hM, r_tks_ne (by decide) (by decide) (by decide), hp]
        · rw [hf2.d, rd_up_app (by decide), hM, r_tks_ne (by decide) (by decide) (by decide), hu]
        rw [hf2.d, hf2.low 45 (by decide) (by decide), eM, r_tks_up (by decide) (by decide) (by decide), r_tks_up (by decide) (by decide) (by decide)]
        refine ⟨_, rfl, ?_⟩
        first | simp (decide := true) only [rd_up_app, rd_up_hit, e38, e42, e43, e49] | simp (decide := true) only [rd_up_app, rd_up_hit, e38, e42, e43] | skip
        refine rd_callVv (pc := 132) (n' := 0) [_, _, _] d_M_excessOfRisks_132 ml_M_156 rfl (Nat.le_of_ble_eq_true rfl) (Nat.le_of_ble_eq_true rfl) (Nat.le_of_ble_eq_true rfl) rfl rfl rfl (Nat.le_of_ble_eq_true rfl) (Nat.le_of_ble_eq_true rfl) ?_
        refine ev_M_take h0 h1 x0 (by omega) ?_
        refine ⟨rfl, ?_⟩
        first | simp (decide := true) only [rd_up_app, rd_up_hit, e38, e42, e43, e49] | simp (decide := true) only [rd_up_app, rd_up_hit, e38, e42, e43] | skip
        refine rd_goto (pc := 135) (tgt := 34) d_M_excessOfRisks_135 rfl ?_
        first
          | (refine rd_weak (L' := [some (.ref 32), some (rd_i t), some (rd_i x2), none]) (by simp [rd_le]) ?_
             have hneg : x2 < 0 := by omega
             refine ih _ ?_ x2 0 B M1 rfl (by omega) hB1 hB2 hI hp hu hM (fun _ => ?_)
             · rw [if_pos hneg]; omega
             · rcases hx2 with ⟨_, a⟩ | ⟨a, _⟩
               · exact a
               · exfalso; omega)
          | (refine rd_weak (L' := [some (.ref 32), some (rd_i t), some (rd_i x2), none]) (by simp [rd_le]) ?_
             have hxs := sp_xS_s (κ := M 49) (I := B 55) (I' := rd_up B 55 x2 0 55) (d := (r_d M)) (t := t) x0 x1 xI hin hI'
             have ec := sp_cn_x (n := n) (I := B 55) (I' := rd_up B 55 x2 0 55) x0 x1 xI hI'
             have e5 : ∀ a b : Int, rd_up (rd_up (rd_up B 55 x2 0) 32 28 a) 32 29 b 55 = rd_up B 55 x2 0 55 := fun a b => by rw [rd_up_ne (by decide), rd_up_ne (by decide)]
             refine ih _ ?_ x2 0 (rd_up (rd_up (rd_up B 55 x2 0) 32 28 (min (M 45 t) (sp_xS (r_d M) n t (M 49) (B 55) + sp_layer (M 42 t) (M 43 t) (M 49 x2)))) 32 29 (sp_Tt (r_d M) t (sp_xS (r_d M) n t (M 49) (B 55) + sp_layer (M 42 t) (M 43 t) (M 49 x2)))) _ rfl ⟨by omega, by omega⟩ ?_ ?_ ?_ ?_ ?_ ?_ (fun z => by omega)
             · rw [if_neg (by omega), e5]; omega
             · intro q a b; rw [rd_up_ne b, rd_up_ne b, rd_up_ne a]; exact hB1 q a b
             · intro j a b; rw [rd_up_at, if_neg b, rd_up_at, if_neg a, rd_up_app (by decide)]; exact hB2 j a b
             · rw [e5]; exact hI.s x0 x1 xm hI'
             · rw [e5, hxs, rd_up_at, if_neg (by decide), rd_up_hit]; rfl
             · rw [e5, hxs, rd_up_hit]; rfl
             · rw [r_tks_take x0 x1]
               refine r_tks_congr (fun j a b => ?_)
               rw [e5]
               refine sp_xw_s (κ := M 49) xI hin hI' ?_
               unfold sp_tkX
               rw [if_pos hin, hI.xB x0 x1 xI xm]
               rfl)
set_option maxHeartbeats 4000000 in
set_option maxRecDepth 100000 in
theorem lq_M_xrI {t : Int} {n nt : Nat} {M : rd_M} {Q : rd_R → rd_M → Prop} (hB : r_B M n nt) (hK : ∀ k : Int, 0 ≤ k → k < n → 0 ≤ M 49 k ∧ M 49 k ≤ 1000000000) (h0 : 0 ≤ t) (h1 : t < 10) (hp : M 32 28 = 0) (hu : M 32 29 = 0) (hQ : ∀ M', r_fr M' M → (∀ q, q ≠ 32 → q ≠ 55 → M' q = r_tks M t n (sp_tkX (r_d M) n t (M 49)) q) → Q (.inl none) M') : ∀ (d : Nat) (i : Int) (M1 : rd_M), (n - i).toNat = d → (0 ≤ i) → (i ≤ n) → (∀ q, q ≠ 55 → M1 q = M q) → ((∀ k : Int, 0 ≤ k → k < i → M1 55 k = sp_in (r_d M) ((M 41 t).tmod 10) k)) → rd_G x_M_excessOfRisks 2 [some (.ref 32), some (rd_i t), some (rd_i i), none] [] M1 0 Q := by
  intro d
  induction d using Nat.strongRecOn with
  | ind d ih =>
    intro i M1 hd i0 i1 hS hi
    have hn := hB.1
    have hn4 := hB.2.2.1
    have htm := hB.tm h0 h1
    obtain ⟨s1, s2, s3, ta, tb, tc, td⟩ := hB.sh h0 h1
    have e32 : M1 32 = M 32 := hS 32 (by decide)
    have e35 : M1 35 = M 35 := hS 35 (by decide)
    have e36 : M1 36 = M 36 := hS 36 (by decide)
    have e40 : M1 40 = M 40 := hS 40 (by decide)
    have e41 : M1 41 = M 41 := hS 41 (by decide)
    have hf : r_fr M1 M := ⟨fun q a b => hS q (by omega), fun j a b => by rw [e32]⟩
    have hB1 := hf.B hB
    refine rd_ildn (pc := 2) d_M_excessOfRisks_2 rfl ?_
    refine rd_aldn (pc := 3) d_M_excessOfRisks_3 rfl ?_
    refine rd_gi (pc := 4) (ki := 9) d_M_excessOfRisks_4 fl_M_97 rfl rfl rfl ?_
    first | simp (decide := true) only [rd_up_app, rd_up_hit, e32, e41, e40, e35, e36] | skip
    refine rd_icmp_ge (pc := 7) (tgt := 32) d_M_excessOfRisks_7 rfl ⟨by omega, by omega⟩ ⟨by omega, by omega⟩ (fun h7 => ?_) (fun h7 => ?_)
    · skip
      refine rd_iconst (pc := 32) d_M_excessOfRisks_32 ?_
      refine rd_ist2 (pc := 33) d_M_excessOfRisks_33 rfl ?_
      have hI55 : ∀ k : Int, 0 ≤ k → k < n → M1 55 k = sp_in (r_d M) (r_d M 9 t) k := fun k a b => hi k a (by omega)
      have h01 := fun k => sp_in_01 (d := r_d M) (y := r_d M 9 t) (k := k)
      have hS0 : sp_xS (r_d M) n t (M 49) (M1 55) = 0 := rd_sm_z n (fun k a b => if_neg (fun z => by have := hI55 k a b; omega))
      refine rd_weak (L' := [some (.ref 32), some (rd_i t), some (rd_i 0), none]) (by simp [rd_le]) ?_
      refine lq_M_xrW hB hK h0 h1 hQ _ 0 0 M1 M1 rfl (by omega) (fun q a _ => hS q a) (fun j _ _ => by rw [e32]) ⟨fun k a b => ?_, fun j k j0 j1 k0 k1 a b c => ?_⟩ ?_ ?_ ?_ (fun z => by omega)
      · rw [hI55 k a b]; exact ⟨h01 k, fun z => z⟩
      · have := hI55 j j0 j1; omega
      · rw [hS0, e32, hp]; omega
      · rw [hS0, e32, hu, sp_Tt_0 htm]
      · exact (r_tks_0 (fun j a b => by unfold sp_xw; rw [if_neg (fun z => by have := hI55 j a b; omega)])).symm
    · skip
      refine rd_aldn (pc := 10) d_M_excessOfRisks_10 rfl ?_
      refine rd_getr (pc := 11) d_M_excessOfRisks_11 fl_M_78 rfl rfl ?_
      refine rd_ildn (pc := 14) d_M_excessOfRisks_14 rfl ?_
      refine rd_aldn (pc := 15) d_M_excessOfRisks_15 rfl ?_
      refine rd_ildn (pc := 16) d_M_excessOfRisks_16 rfl ?_
      refine rd_aldn (pc := 17) d_M_excessOfRisks_17 rfl ?_
      refine rd_ildn (pc := 18) d_M_excessOfRisks_18 rfl ?_
      refine rd_callVi (pc := 19) (n' := 0) [_] d_M_excessOfRisks_19 ml_M_130 rfl (Nat.le_of_ble_eq_true rfl) (Nat.le_of_ble_eq_true rfl) (Nat.le_of_ble_eq_true rfl) rfl rfl rfl (Nat.le_of_ble_eq_true rfl) (Nat.le_of_ble_eq_true rfl) ?_
      refine ev_M_treatyYear hB1 h0 h1 ?_
      refine ⟨_, rfl, ?_⟩
      first | simp (decide := true) only [rd_up_app, rd_up_hit, e32, e41, e40, e35, e36] | skip
      refine rd_callVi (pc := 22) (n' := 0) [_, _] d_M_excessOfRisks_22 ml_M_160 rfl (Nat.le_of_ble_eq_true rfl) (Nat.le_of_ble_eq_true rfl) (Nat.le_of_ble_eq_true rfl) rfl rfl rfl (Nat.le_of_ble_eq_true rfl) (Nat.le_of_ble_eq_true rfl) ?_
      refine ev_M_counts hB1 i0 (by omega) ⟨by omega, by omega⟩ (fun hct => ⟨_, rfl, ?_⟩) (fun hct => ⟨_, rfl, ?_⟩)
      · skip
        refine rd_zast (pc := 25) d_M_excessOfRisks_25 rfl (by omega) (by omega) (by omega) ?_
        refine rd_iinc2 (pc := 26) d_M_excessOfRisks_26 rfl ?_
        refine rd_goto (pc := 29) (tgt := 2) d_M_excessOfRisks_29 rfl ?_
        rw [e40, e35, e36] at hct
        refine ih _ (by omega) (i + 1) _ rfl (by omega) (by omega) (fun q h => by rw [rd_up_ne h]; exact hS q h) (fun k a b => ?_)
        by_cases hk : k = i
        · subst hk
          rw [rd_up_hit]
          first | exact (if_pos hct).symm | exact (if_neg hct).symm
        · rw [rd_up_at, if_neg hk]; exact hi k a (by omega)
      · skip
        refine rd_zast (pc := 25) d_M_excessOfRisks_25 rfl (by omega) (by omega) (by omega) ?_
        refine rd_iinc2 (pc := 26) d_M_excessOfRisks_26 rfl ?_
        refine rd_goto (pc := 29) (tgt := 2) d_M_excessOfRisks_29 rfl ?_
        rw [e40, e35, e36] at hct
        refine ih _ (by omega) (i + 1) _ rfl (by omega) (by omega) (fun q h => by rw [rd_up_ne h]; exact hS q h) (fun k a b => ?_)
        by_cases hk : k = i
        · subst hk
          rw [rd_up_hit]
          first | exact (if_pos hct).symm | exact (if_neg hct).symm
        · rw [rd_up_at, if_neg hk]; exact hi k a (by omega)
set_option maxHeartbeats 4000000 in
set_option maxRecDepth 100000 in
theorem ev_M_excessOfRisks {t : Int} {n nt : Nat} {M : rd_M} {Q : rd_R → rd_M → Prop} (hB : r_B M n nt) (hK : ∀ k : Int, 0 ≤ k → k < n → 0 ≤ M 49 k ∧ M 49 k ≤ 1000000000) (h0 : 0 ≤ t) (h1 : t < 10) (hp : M 32 28 = 0) (hu : M 32 29 = 0) (hQ : ∀ M', r_fr M' M → (∀ q, q ≠ 32 → q ≠ 55 → M' q = r_tks M t n (sp_tkX (r_d M) n t (M 49)) q) → Q (.inl none) M') : rd_G x_M_excessOfRisks 0 [some (.ref 32), some (rd_i t), none, none] [] M 0 Q := by
  refine rd_iconst (pc := 0) d_M_excessOfRisks_0 ?_
  refine rd_ist2 (pc := 1) d_M_excessOfRisks_1 rfl ?_
  exact lq_M_xrI hB hK h0 h1 hp hu hQ _ 0 M rfl (by omega) (by omega) (fun _ _ => rfl) (fun k a b => by omega)

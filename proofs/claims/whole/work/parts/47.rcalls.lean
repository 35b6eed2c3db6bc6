/-! the reference: calls that change -/
theorem rd_up_32 {M : rd_M} {v i : Int} (h : i ≠ 0) : rd_up M 32 0 v 32 i = M 32 i := by rw [rd_up_at, if_neg h]
theorem rd_up_32f {M : rd_M} {v i : Int} : rd_up M 32 0 v 32 i = if i = 0 then v else M 32 i := rd_up_at
/-- the reference's memory, but for what was thrown -/
def r_fq (M' M : rd_M) : Prop := (∀ q, q ≠ 32 → (q < 49 ∨ 57 < q) → M' q = M q) ∧ M' 32 9 = M 32 9 ∧ M' 32 15 = M 32 15
theorem r_fq.th {M : rd_M} {v : Int} : r_fq (rd_up M 32 0 v) M := ⟨fun q a _ => rd_up_ne a, rd_up_32 (by decide), rd_up_32 (by decide)⟩
theorem r_fr.q {M M' : rd_M} (h : r_fr M' M) : r_fq M' M := ⟨h.1, h.2 9 (by decide) (by decide), h.2 15 (by decide) (by decide)⟩
theorem r_fq.trans {A B C : rd_M} (h : r_fq A B) (h' : r_fq B C) : r_fq A C := ⟨fun q a b => (h.1 q a b).trans (h'.1 q a b), h.2.1.trans h'.2.1, h.2.2.trans h'.2.2⟩
theorem r_fq.low {M M' : rd_M} (h : r_fq M' M) (q : Nat) (h4 : q ≠ 32) (hq : q ≤ 48) : M' q = M q := h.1 q h4 (by omega)
theorem r_fq.d {M M' : rd_M} (h : r_fq M' M) : r_d M' = r_d M := by
  funext q
  unfold r_d
  split <;> first | exact h.low _ (by decide) (by decide) | rw [h.low 41 (by decide) (by decide)]
theorem r_fq.B {M M' : rd_M} {n nt : Nat} (h : r_fq M' M) (hB : r_B M n nt) : r_B M' n nt := by
  unfold r_B at *
  rw [h.d, h.low 41 (by decide) (by decide), h.low 46 (by decide) (by decide), h.low 48 (by decide) (by decide), h.2.1, h.2.2]
  exact hB
theorem r_fq.T {M M' : rd_M} {n : Nat} (h : r_fq M' M) (hT : r_T M n) : r_T M' n := by
  unfold r_T; rw [h.low 33 (by decide) (by decide), h.low 36 (by decide) (by decide)]; exact hT
set_option maxHeartbeats 4000000 in
set_option maxRecDepth 100000 in
theorem ev_M_throwing1  {M : rd_M} {Q : rd_R → rd_M → Prop}  (hQ : Q (.inl (some (rd_i (1)))) (rd_up M 32 0 1)) : rd_G x_M_throwing 0 [some (.ref 32), some (rd_i 1), some (rd_i 0)] [] M 0 Q := by
  refine rd_aldn (pc := 0) d_M_throwing_0 rfl ?_
  refine rd_ildn (pc := 1) d_M_throwing_1 rfl ?_
  refine rd_if_eq (pc := 2) (tgt := 9) d_M_throwing_2 rfl ⟨by omega, by omega⟩ (fun h2 => ?_) (fun h2 => ?_)
  · skip
    refine rd_ildn (pc := 9) d_M_throwing_9 rfl ?_
    refine rd_if_eq (pc := 10) (tgt := 17) d_M_throwing_10 rfl ⟨by omega, by omega⟩ (fun h10 => ?_) (fun h10 => ?_)
    · skip
      refine rd_iconst (pc := 17) d_M_throwing_17 ?_
      refine rd_pi (pc := 18) (ki := 0) d_M_throwing_18 fl_M_87 fp_5_0 rfl rfl rfl ?_
      refine rd_aldn (pc := 21) d_M_throwing_21 rfl ?_
      refine rd_gi (pc := 22) (ki := 0) d_M_throwing_22 fl_M_87 rfl rfl rfl ?_
      try simp (decide := true) only [rd_up_hit]
      refine rd_if_le (pc := 25) (tgt := 32) d_M_throwing_25 rfl ⟨by omega, by omega⟩ (fun h25 => ?_) (fun h25 => ?_)
      · skip
        refine rd_iconst (pc := 32) d_M_throwing_32 ?_
        exact rd_zret (pc := 33) d_M_throwing_33 rfl (Nat.le_of_ble_eq_true rfl) (by omega) (by first | (exfalso; omega) | exact hQ)
      · skip
        refine rd_iconst (pc := 28) d_M_throwing_28 ?_
        refine rd_goto (pc := 29) (tgt := 33) d_M_throwing_29 rfl ?_
        exact rd_zret (pc := 33) d_M_throwing_33 rfl (Nat.le_of_ble_eq_true rfl) (by omega) (by first | (exfalso; omega) | exact hQ)
    · skip
      refine rd_iconst (pc := 13) d_M_throwing_13 ?_
      refine rd_goto (pc := 14) (tgt := 18) d_M_throwing_14 rfl ?_
      refine rd_pi (pc := 18) (ki := 0) d_M_throwing_18 fl_M_87 fp_5_0 rfl rfl rfl ?_
      refine rd_aldn (pc := 21) d_M_throwing_21 rfl ?_
      refine rd_gi (pc := 22) (ki := 0) d_M_throwing_22 fl_M_87 rfl rfl rfl ?_
      try simp (decide := true) only [rd_up_hit]
      refine rd_if_le (pc := 25) (tgt := 32) d_M_throwing_25 rfl ⟨by omega, by omega⟩ (fun h25 => ?_) (fun h25 => ?_)
      · skip
        refine rd_iconst (pc := 32) d_M_throwing_32 ?_
        exact rd_zret (pc := 33) d_M_throwing_33 rfl (Nat.le_of_ble_eq_true rfl) (by omega) (by first | (exfalso; omega) | exact hQ)
      · skip
        refine rd_iconst (pc := 28) d_M_throwing_28 ?_
        refine rd_goto (pc := 29) (tgt := 33) d_M_throwing_29 rfl ?_
        exact rd_zret (pc := 33) d_M_throwing_33 rfl (Nat.le_of_ble_eq_true rfl) (by omega) (by first | (exfalso; omega) | exact hQ)
  · skip
    refine rd_iconst (pc := 5) d_M_throwing_5 ?_
    refine rd_goto (pc := 6) (tgt := 18) d_M_throwing_6 rfl ?_
    refine rd_pi (pc := 18) (ki := 0) d_M_throwing_18 fl_M_87 fp_5_0 rfl rfl rfl ?_
    refine rd_aldn (pc := 21) d_M_throwing_21 rfl ?_
    refine rd_gi (pc := 22) (ki := 0) d_M_throwing_22 fl_M_87 rfl rfl rfl ?_
    try simp (decide := true) only [rd_up_hit]
    refine rd_if_le (pc := 25) (tgt := 32) d_M_throwing_25 rfl ⟨by omega, by omega⟩ (fun h25 => ?_) (fun h25 => ?_)
    · skip
      refine rd_iconst (pc := 32) d_M_throwing_32 ?_
      exact rd_zret (pc := 33) d_M_throwing_33 rfl (Nat.le_of_ble_eq_true rfl) (by omega) (by first | (exfalso; omega) | exact hQ)
    · skip
      refine rd_iconst (pc := 28) d_M_throwing_28 ?_
      refine rd_goto (pc := 29) (tgt := 33) d_M_throwing_29 rfl ?_
      exact rd_zret (pc := 33) d_M_throwing_33 rfl (Nat.le_of_ble_eq_true rfl) (by omega) (by first | (exfalso; omega) | exact hQ)
set_option maxHeartbeats 4000000 in
set_option maxRecDepth 100000 in
theorem ev_M_throwing2  {M : rd_M} {Q : rd_R → rd_M → Prop}  (hQ : Q (.inl (some (rd_i (1)))) (rd_up M 32 0 2)) : rd_G x_M_throwing 0 [some (.ref 32), some (rd_i 0), some (rd_i 1)] [] M 0 Q := by
  refine rd_aldn (pc := 0) d_M_throwing_0 rfl ?_
  refine rd_ildn (pc := 1) d_M_throwing_1 rfl ?_
  refine rd_if_eq (pc := 2) (tgt := 9) d_M_throwing_2 rfl ⟨by omega, by omega⟩ (fun h2 => ?_) (fun h2 => ?_)
  · skip
    refine rd_ildn (pc := 9) d_M_throwing_9 rfl ?_
    refine rd_if_eq (pc := 10) (tgt := 17) d_M_throwing_10 rfl ⟨by omega, by omega⟩ (fun h10 => ?_) (fun h10 => ?_)
    · skip
      refine rd_iconst (pc := 17) d_M_throwing_17 ?_
      refine rd_pi (pc := 18) (ki := 0) d_M_throwing_18 fl_M_87 fp_5_0 rfl rfl rfl ?_
      refine rd_aldn (pc := 21) d_M_throwing_21 rfl ?_
      refine rd_gi (pc := 22) (ki := 0) d_M_throwing_22 fl_M_87 rfl rfl rfl ?_
      try simp (decide := true) only [rd_up_hit]
      refine rd_if_le (pc := 25) (tgt := 32) d_M_throwing_25 rfl ⟨by omega, by omega⟩ (fun h25 => ?_) (fun h25 => ?_)
      · skip
        refine rd_iconst (pc := 32) d_M_throwing_32 ?_
        exact rd_zret (pc := 33) d_M_throwing_33 rfl (Nat.le_of_ble_eq_true rfl) (by omega) (by first | (exfalso; omega) | exact hQ)
      · skip
        refine rd_iconst (pc := 28) d_M_throwing_28 ?_
        refine rd_goto (pc := 29) (tgt := 33) d_M_throwing_29 rfl ?_
        exact rd_zret (pc := 33) d_M_throwing_33 rfl (Nat.le_of_ble_eq_true rfl) (by omega) (by first | (exfalso; omega) | exact hQ)
    · skip
      refine rd_iconst (pc := 13) d_M_throwing_13 ?_
      refine rd_goto (pc := 14) (tgt := 18) d_M_throwing_14 rfl ?_
      refine rd_pi (pc := 18) (ki := 0) d_M_throwing_18 fl_M_87 fp_5_0 rfl rfl rfl ?_
      refine rd_aldn (pc := 21) d_M_throwing_21 rfl ?_
      refine rd_gi (pc := 22) (ki := 0) d_M_throwing_22 fl_M_87 rfl rfl rfl ?_
      try simp (decide := true) only [rd_up_hit]
      refine rd_if_le (pc := 25) (tgt := 32) d_M_throwing_25 rfl ⟨by omega, by omega⟩ (fun h25 => ?_) (fun h25 => ?_)
      · skip
        refine rd_iconst (pc := 32) d_M_throwing_32 ?_
        exact rd_zret (pc := 33) d_M_throwing_33 rfl (Nat.le_of_ble_eq_true rfl) (by omega) (by first | (exfalso; omega) | exact hQ)
      · skip
        refine rd_iconst (pc := 28) d_M_throwing_28 ?_
        refine rd_goto (pc := 29) (tgt := 33) d_M_throwing_29 rfl ?_
        exact rd_zret (pc := 33) d_M_throwing_33 rfl (Nat.le_of_ble_eq_true rfl) (by omega) (by first | (exfalso; omega) | exact hQ)
  · skip
    refine rd_iconst (pc := 5) d_M_throwing_5 ?_
    refine rd_goto (pc := 6) (tgt := 18) d_M_throwing_6 rfl ?_
    refine rd_pi (pc := 18) (ki := 0) d_M_throwing_18 fl_M_87 fp_5_0 rfl rfl rfl ?_
    refine rd_aldn (pc := 21) d_M_throwing_21 rfl ?_
    refine rd_gi (pc := 22) (ki := 0) d_M_throwing_22 fl_M_87 rfl rfl rfl ?_
    try simp (decide := true) only [rd_up_hit]
    refine rd_if_le (pc := 25) (tgt := 32) d_M_throwing_25 rfl ⟨by omega, by omega⟩ (fun h25 => ?_) (fun h25 => ?_)
    · skip
      refine rd_iconst (pc := 32) d_M_throwing_32 ?_
      exact rd_zret (pc := 33) d_M_throwing_33 rfl (Nat.le_of_ble_eq_true rfl) (by omega) (by first | (exfalso; omega) | exact hQ)
    · skip
      refine rd_iconst (pc := 28) d_M_throwing_28 ?_
      refine rd_goto (pc := 29) (tgt := 33) d_M_throwing_29 rfl ?_
      exact rd_zret (pc := 33) d_M_throwing_33 rfl (Nat.le_of_ble_eq_true rfl) (by omega) (by first | (exfalso; omega) | exact hQ)
set_option maxHeartbeats 4000000 in
set_option maxRecDepth 100000 in
theorem ev_M_throwing0  {M : rd_M} {Q : rd_R → rd_M → Prop}  (hQ : Q (.inl (some (rd_i (0)))) (rd_up M 32 0 0)) : rd_G x_M_throwing 0 [some (.ref 32), some (rd_i 0), some (rd_i 0)] [] M 0 Q := by
  refine rd_aldn (pc := 0) d_M_throwing_0 rfl ?_
  refine rd_ildn (pc := 1) d_M_throwing_1 rfl ?_
  refine rd_if_eq (pc := 2) (tgt := 9) d_M_throwing_2 rfl ⟨by omega, by omega⟩ (fun h2 => ?_) (fun h2 => ?_)
  · skip
    refine rd_ildn (pc := 9) d_M_throwing_9 rfl ?_
    refine rd_if_eq (pc := 10) (tgt := 17) d_M_throwing_10 rfl ⟨by omega, by omega⟩ (fun h10 => ?_) (fun h10 => ?_)
    · skip
      refine rd_iconst (pc := 17) d_M_throwing_17 ?_
      refine rd_pi (pc := 18) (ki := 0) d_M_throwing_18 fl_M_87 fp_5_0 rfl rfl rfl ?_
      refine rd_aldn (pc := 21) d_M_throwing_21 rfl ?_
      refine rd_gi (pc := 22) (ki := 0) d_M_throwing_22 fl_M_87 rfl rfl rfl ?_
      try simp (decide := true) only [rd_up_hit]
      refine rd_if_le (pc := 25) (tgt := 32) d_M_throwing_25 rfl ⟨by omega, by omega⟩ (fun h25 => ?_) (fun h25 => ?_)
      · skip
        refine rd_iconst (pc := 32) d_M_throwing_32 ?_
        exact rd_zret (pc := 33) d_M_throwing_33 rfl (Nat.le_of_ble_eq_true rfl) (by omega) (by first | (exfalso; omega) | exact hQ)
      · skip
        refine rd_iconst (pc := 28) d_M_throwing_28 ?_
        refine rd_goto (pc := 29) (tgt := 33) d_M_throwing_29 rfl ?_
        exact rd_zret (pc := 33) d_M_throwing_33 rfl (Nat.le_of_ble_eq_true rfl) (by omega) (by first | (exfalso; omega) | exact hQ)
    · skip
      refine rd_iconst (pc := 13) d_M_throwing_13 ?_
      refine rd_goto (pc := 14) (tgt := 18) d_M_throwing_14 rfl ?_
      refine rd_pi (pc := 18) (ki := 0) d_M_throwing_18 fl_M_87 fp_5_0 rfl rfl rfl ?_
      refine rd_aldn (pc := 21) d_M_throwing_21 rfl ?_
      refine rd_gi (pc := 22) (ki := 0) d_M_throwing_22 fl_M_87 rfl rfl rfl ?_
      try simp (decide := true) only [rd_up_hit]
      refine rd_if_le (pc := 25) (tgt := 32) d_M_throwing_25 rfl ⟨by omega, by omega⟩ (fun h25 => ?_) (fun h25 => ?_)
      · skip
        refine rd_iconst (pc := 32) d_M_throwing_32 ?_
        exact rd_zret (pc := 33) d_M_throwing_33 rfl (Nat.le_of_ble_eq_true rfl) (by omega) (by first | (exfalso; omega) | exact hQ)
      · skip
        refine rd_iconst (pc := 28) d_M_throwing_28 ?_
        refine rd_goto (pc := 29) (tgt := 33) d_M_throwing_29 rfl ?_
        exact rd_zret (pc := 33) d_M_throwing_33 rfl (Nat.le_of_ble_eq_true rfl) (by omega) (by first | (exfalso; omega) | exact hQ)
  · skip
    refine rd_iconst (pc := 5) d_M_throwing_5 ?_
    refine rd_goto (pc := 6) (tgt := 18) d_M_throwing_6 rfl ?_
    refine rd_pi (pc := 18) (ki := 0) d_M_throwing_18 fl_M_87 fp_5_0 rfl rfl rfl ?_
    refine rd_aldn (pc := 21) d_M_throwing_21 rfl ?_
    refine rd_gi (pc := 22) (ki := 0) d_M_throwing_22 fl_M_87 rfl rfl rfl ?_
    try simp (decide := true) only [rd_up_hit]
    refine rd_if_le (pc := 25) (tgt := 32) d_M_throwing_25 rfl ⟨by omega, by omega⟩ (fun h25 => ?_) (fun h25 => ?_)
    · skip
      refine rd_iconst (pc := 32) d_M_throwing_32 ?_
      exact rd_zret (pc := 33) d_M_throwing_33 rfl (Nat.le_of_ble_eq_true rfl) (by omega) (by first | (exfalso; omega) | exact hQ)
    · skip
      refine rd_iconst (pc := 28) d_M_throwing_28 ?_
      refine rd_goto (pc := 29) (tgt := 33) d_M_throwing_29 rfl ?_
      exact rd_zret (pc := 33) d_M_throwing_33 rfl (Nat.le_of_ble_eq_true rfl) (by omega) (by first | (exfalso; omega) | exact hQ)
set_option maxHeartbeats 4000000 in
set_option maxRecDepth 100000 in
theorem ev_M_risk {r s y : Int} {n nt : Nat} {M : rd_M} {Q : rd_R → rd_M → Prop} (hB : r_B M n nt) (hr : rd_I r) (hs : rd_I s) (hy : rd_I y) (hA : ¬ ((0 ≤ r ∧ r < 12) ∧ (1 ≤ s ∧ s ≤ 1000000000) ∧ (0 ≤ y ∧ y < 4)) → Q (.inl none) (rd_up M 32 0 1)) (hS : ((0 ≤ r ∧ r < 12) ∧ (1 ≤ s ∧ s ≤ 1000000000) ∧ (0 ≤ y ∧ y < 4)) → (0 < M 33 r ∨ M 48 y ≠ 0) → Q (.inl none) (rd_up M 32 0 2)) (hQ : ((0 ≤ r ∧ r < 12) ∧ (1 ≤ s ∧ s ≤ 1000000000) ∧ (0 ≤ y ∧ y < 4)) → ¬ (0 < M 33 r ∨ M 48 y ≠ 0) → Q (.inl none) (rd_up (rd_up (rd_up M 32 0 0) 33 r s) 35 r y)) : rd_G x_M_risk 0 [some (.ref 32), some (rd_i r), some (rd_i s), some (rd_i y), none] [] M 0 Q := by
  have hn := hB.1
  have hm := hB.2.1
  have hn4 := hB.2.2.1
  have hm10 := hB.2.2.2.1
  have hcl : ∀ y : Int, 0 ≤ y → y < 4 → 0 ≤ M 48 y ∧ M 48 y ≤ 1 := hB.2.2.2.2.2.2.2
  refine rd_ildn (pc := 0) d_M_risk_0 rfl ?_
  refine rd_i2l (pc := 1) d_M_risk_1 ⟨by omega, by omega⟩ ?_
  refine rd_lconst (pc := 2) (v := 0) d_M_risk_2 rfl ?_
  refine rd_ldc2 (pc := 3) (v := 11) d_M_risk_3 kl_M_91 ?_
  refine rd_callSi (pc := 6) (n' := 0) [_, _, _] d_M_risk_6 ml_M_93 (Nat.le_of_ble_eq_true rfl) (Nat.le_of_ble_eq_true rfl) (Nat.le_of_ble_eq_true rfl) rfl rfl rfl (Nat.le_of_ble_eq_true rfl) (Nat.le_of_ble_eq_true rfl) ?_
  refine ev_M_in ⟨by omega, by omega⟩ ⟨by omega, by omega⟩ ⟨by omega, by omega⟩ (fun c6 => ⟨_, rfl, ?_⟩) (fun c6 => ⟨_, rfl, ?_⟩)
  · skip
    refine rd_if_eq (pc := 9) (tgt := 36) d_M_risk_9 rfl ⟨by omega, by omega⟩ (fun h9 => ?_) (fun h9 => ?_)
    · exact absurd h9 (by decide)
    · skip
      refine rd_ildn (pc := 12) d_M_risk_12 rfl ?_
      refine rd_i2l (pc := 13) d_M_risk_13 ⟨by omega, by omega⟩ ?_
      refine rd_lconst (pc := 14) (v := 1) d_M_risk_14 rfl ?_
      refine rd_ldc2 (pc := 15) (v := 1000000000) d_M_risk_15 kl_M_103 ?_
      refine rd_callSi (pc := 18) (n' := 0) [_, _, _] d_M_risk_18 ml_M_93 (Nat.le_of_ble_eq_true rfl) (Nat.le_of_ble_eq_true rfl) (Nat.le_of_ble_eq_true rfl) rfl rfl rfl (Nat.le_of_ble_eq_true rfl) (Nat.le_of_ble_eq_true rfl) ?_
      refine ev_M_in ⟨by omega, by omega⟩ ⟨by omega, by omega⟩ ⟨by omega, by omega⟩ (fun c18 => ⟨_, rfl, ?_⟩) (fun c18 => ⟨_, rfl, ?_⟩)
      · skip
        refine rd_if_eq (pc := 21) (tgt := 36) d_M_risk_21 rfl ⟨by omega, by omega⟩ (fun h21 => ?_) (fun h21 => ?_)
        · exact absurd h21 (by decide)
        · skip
          refine rd_ildn (pc := 24) d_M_risk_24 rfl ?_
          refine rd_i2l (pc := 25) d_M_risk_25 ⟨by omega, by omega⟩ ?_
          refine rd_lconst (pc := 26) (v := 0) d_M_risk_26 rfl ?_
          refine rd_ldc2 (pc := 27) (v := 3) d_M_risk_27 kl_M_105 ?_
          refine rd_callSi (pc := 30) (n' := 0) [_, _, _] d_M_risk_30 ml_M_93 (Nat.le_of_ble_eq_true rfl) (Nat.le_of_ble_eq_true rfl) (Nat.le_of_ble_eq_true rfl) rfl rfl rfl (Nat.le_of_ble_eq_true rfl) (Nat.le_of_ble_eq_true rfl) ?_
          refine ev_M_in ⟨by omega, by omega⟩ ⟨by omega, by omega⟩ ⟨by omega, by omega⟩ (fun c30 => ⟨_, rfl, ?_⟩) (fun c30 => ⟨_, rfl, ?_⟩)
          · skip
            refine rd_if_ne (pc := 33) (tgt := 40) d_M_risk_33 rfl ⟨by omega, by omega⟩ (fun h33 => ?_) (fun h33 => ?_)
            · skip
              refine rd_iconst (pc := 40) d_M_risk_40 ?_
              refine rd_ist4 (pc := 41) d_M_risk_41 rfl ?_
              refine rd_aldn (pc := 43) d_M_risk_43 rfl ?_
              refine rd_ild (pc := 44) d_M_risk_44 rfl ?_
              refine rd_ild (pc := 46) d_M_risk_46 rfl ?_
              refine rd_if_ne (pc := 48) (tgt := 73) d_M_risk_48 rfl ⟨by omega, by omega⟩ (fun h48 => ?_) (fun h48 => ?_)
              · exact absurd h48 (by decide)
              · skip
                obtain ⟨r1, r2, r3⟩ := hB.risk (r := r) (by omega) (by omega)
                have hc := hcl y (by omega) (by omega)
                refine rd_aldn (pc := 51) d_M_risk_51 rfl ?_
                refine rd_getr (pc := 52) d_M_risk_52 fl_M_7 rfl rfl ?_
                refine rd_ildn (pc := 55) d_M_risk_55 rfl ?_
                refine rd_iald (pc := 56) d_M_risk_56 rfl (by omega) (by omega) ?_
                refine rd_if_gt (pc := 57) (tgt := 69) d_M_risk_57 rfl ⟨by omega, by omega⟩ (fun h57 => ?_) (fun h57 => ?_)
                · skip
                  refine rd_iconst (pc := 69) d_M_risk_69 ?_
                  refine rd_goto (pc := 70) (tgt := 74) d_M_risk_70 rfl ?_
                  refine rd_callVi (pc := 74) (n' := 0) [_, _] d_M_risk_74 ml_M_107 rfl (Nat.le_of_ble_eq_true rfl) (Nat.le_of_ble_eq_true rfl) (Nat.le_of_ble_eq_true rfl) rfl rfl rfl (Nat.le_of_ble_eq_true rfl) (Nat.le_of_ble_eq_true rfl) ?_
                  refine ev_M_throwing2 ?_
                  refine ⟨_, rfl, ?_⟩
                  refine rd_if_eq (pc := 77) (tgt := 81) d_M_risk_77 rfl ⟨by omega, by omega⟩ (fun h77 => ?_) (fun h77 => ?_)
                  · exact absurd h77 (by decide)
                  · skip
                    exact rd_vret (pc := 80) d_M_risk_80 rfl (Nat.le_of_ble_eq_true rfl) (by first | exact hA (by omega) | exact hS (by omega) (by omega))
                · skip
                  refine rd_aldn (pc := 60) d_M_risk_60 rfl ?_
                  refine rd_getr (pc := 61) d_M_risk_61 fl_M_57 rfl rfl ?_
                  refine rd_ildn (pc := 64) d_M_risk_64 rfl ?_
                  refine rd_zald (pc := 65) d_M_risk_65 rfl (by omega) (by omega) ?_
                  refine rd_if_eq (pc := 66) (tgt := 73) d_M_risk_66 rfl ⟨by omega, by omega⟩ (fun h66 => ?_) (fun h66 => ?_)
                  · skip
                    refine rd_iconst (pc := 73) d_M_risk_73 ?_
                    refine rd_callVi (pc := 74) (n' := 0) [_, _] d_M_risk_74 ml_M_107 rfl (Nat.le_of_ble_eq_true rfl) (Nat.le_of_ble_eq_true rfl) (Nat.le_of_ble_eq_true rfl) rfl rfl rfl (Nat.le_of_ble_eq_true rfl) (Nat.le_of_ble_eq_true rfl) ?_
                    refine ev_M_throwing0 ?_
                    refine ⟨_, rfl, ?_⟩
                    refine rd_if_eq (pc := 77) (tgt := 81) d_M_risk_77 rfl ⟨by omega, by omega⟩ (fun h77 => ?_) (fun h77 => ?_)
                    · skip
                      refine rd_aldn (pc := 81) d_M_risk_81 rfl ?_
                      refine rd_getr (pc := 82) d_M_risk_82 fl_M_7 rfl rfl ?_
                      refine rd_ildn (pc := 85) d_M_risk_85 rfl ?_
                      refine rd_ildn (pc := 86) d_M_risk_86 rfl ?_
                      refine rd_iast (pc := 87) d_M_risk_87 rfl (by omega) (by omega) ?_
                      refine rd_aldn (pc := 88) d_M_risk_88 rfl ?_
                      refine rd_getr (pc := 89) d_M_risk_89 fl_M_16 rfl rfl ?_
                      refine rd_ildn (pc := 92) d_M_risk_92 rfl ?_
                      refine rd_ildn (pc := 93) d_M_risk_93 rfl ?_
                      refine rd_iast (pc := 94) d_M_risk_94 rfl (by omega) (by omega) ?_
                      exact rd_vret (pc := 95) d_M_risk_95 rfl (Nat.le_of_ble_eq_true rfl) (hQ (by omega) (by omega))
                    · exact absurd h77 (by decide)
                  · skip
                    refine rd_iconst (pc := 69) d_M_risk_69 ?_
                    refine rd_goto (pc := 70) (tgt := 74) d_M_risk_70 rfl ?_
                    refine rd_callVi (pc := 74) (n' := 0) [_, _] d_M_risk_74 ml_M_107 rfl (Nat.le_of_ble_eq_true rfl) (Nat.le_of_ble_eq_true rfl) (Nat.le_of_ble_eq_true rfl) rfl rfl rfl (Nat.le_of_ble_eq_true rfl) (Nat.le_of_ble_eq_true rfl) ?_
                    refine ev_M_throwing2 ?_
                    refine ⟨_, rfl, ?_⟩
                    refine rd_if_eq (pc := 77) (tgt := 81) d_M_risk_77 rfl ⟨by omega, by omega⟩ (fun h77 => ?_) (fun h77 => ?_)
                    · exact absurd h77 (by decide)
                    · skip
                      exact rd_vret (pc := 80) d_M_risk_80 rfl (Nat.le_of_ble_eq_true rfl) (by first | exact hA (by omega) | exact hS (by omega) (by omega))
            · exact absurd h33 (by decide)
          · skip
            refine rd_if_ne (pc := 33) (tgt := 40) d_M_risk_33 rfl ⟨by omega, by omega⟩ (fun h33 => ?_) (fun h33 => ?_)
            · exact absurd h33 (by decide)
            · skip
              refine rd_iconst (pc := 36) d_M_risk_36 ?_
              refine rd_goto (pc := 37) (tgt := 41) d_M_risk_37 rfl ?_
              refine rd_ist4 (pc := 41) d_M_risk_41 rfl ?_
              refine rd_aldn (pc := 43) d_M_risk_43 rfl ?_
              refine rd_ild (pc := 44) d_M_risk_44 rfl ?_
              refine rd_ild (pc := 46) d_M_risk_46 rfl ?_
              refine rd_if_ne (pc := 48) (tgt := 73) d_M_risk_48 rfl ⟨by omega, by omega⟩ (fun h48 => ?_) (fun h48 => ?_)
              · skip
                refine rd_iconst (pc := 73) d_M_risk_73 ?_
                refine rd_callVi (pc := 74) (n' := 0) [_, _] d_M_risk_74 ml_M_107 rfl (Nat.le_of_ble_eq_true rfl) (Nat.le_of_ble_eq_true rfl) (Nat.le_of_ble_eq_true rfl) rfl rfl rfl (Nat.le_of_ble_eq_true rfl) (Nat.le_of_ble_eq_true rfl) ?_
                refine ev_M_throwing1 ?_
                refine ⟨_, rfl, ?_⟩
                refine rd_if_eq (pc := 77) (tgt := 81) d_M_risk_77 rfl ⟨by omega, by omega⟩ (fun h77 => ?_) (fun h77 => ?_)
                · exact absurd h77 (by decide)
                · skip
                  exact rd_vret (pc := 80) d_M_risk_80 rfl (Nat.le_of_ble_eq_true rfl) (by first | exact hA (by omega) | exact hS (by omega) (by omega))
              · exact absurd h48 (by decide)
      · skip
        refine rd_if_eq (pc := 21) (tgt := 36) d_M_risk_21 rfl ⟨by omega, by omega⟩ (fun h21 => ?_) (fun h21 => ?_)
        · skip
          refine rd_iconst (pc := 36) d_M_risk_36 ?_
          refine rd_goto (pc := 37) (tgt := 41) d_M_risk_37 rfl ?_
          refine rd_ist4 (pc := 41) d_M_risk_41 rfl ?_
          refine rd_aldn (pc := 43) d_M_risk_43 rfl ?_
          refine rd_ild (pc := 44) d_M_risk_44 rfl ?_
          refine rd_ild (pc := 46) d_M_risk_46 rfl ?_
          refine rd_if_ne (pc := 48) (tgt := 73) d_M_risk_48 rfl ⟨by omega, by omega⟩ (fun h48 => ?_) (fun h48 => ?_)
          · skip
            refine rd_iconst (pc := 73) d_M_risk_73 ?_
            refine rd_callVi (pc := 74) (n' := 0) [_, _] d_M_risk_74 ml_M_107 rfl (Nat.le_of_ble_eq_true rfl) (Nat.le_of_ble_eq_true rfl) (Nat.le_of_ble_eq_true rfl) rfl rfl rfl (Nat.le_of_ble_eq_true rfl) (Nat.le_of_ble_eq_true rfl) ?_
            refine ev_M_throwing1 ?_
            refine ⟨_, rfl, ?_⟩
            refine rd_if_eq (pc := 77) (tgt := 81) d_M_risk_77 rfl ⟨by omega, by omega⟩ (fun h77 => ?_) (fun h77 => ?_)
            · exact absurd h77 (by decide)
            · skip
              exact rd_vret (pc := 80) d_M_risk_80 rfl (Nat.le_of_ble_eq_true rfl) (by first | exact hA (by omega) | exact hS (by omega) (by omega))
          · exact absurd h48 (by decide)
        · exact absurd h21 (by decide)
  · skip
    refine rd_if_eq (pc := 9) (tgt := 36) d_M_risk_9 rfl ⟨by omega, by omega⟩ (fun h9 => ?_) (fun h9 => ?_)
    · skip
      refine rd_iconst (pc := 36) d_M_risk_36 ?_
      refine rd_goto (pc := 37) (tgt := 41) d_M_risk_37 rfl ?_
      refine rd_ist4 (pc := 41) d_M_risk_41 rfl ?_
      refine rd_aldn (pc := 43) d_M_risk_43 rfl ?_
      refine rd_ild (pc := 44) d_M_risk_44 rfl ?_
      refine rd_ild (pc := 46) d_M_risk_46 rfl ?_
      refine rd_if_ne (pc := 48) (tgt := 73) d_M_risk_48 rfl ⟨by omega, by omega⟩ (fun h48 => ?_) (fun h48 => ?_)
      · skip
        refine rd_iconst (pc := 73) d_M_risk_73 ?_
        refine rd_callVi (pc := 74) (n' := 0) [_, _] d_M_risk_74 ml_M_107 rfl (Nat.le_of_ble_eq_true rfl) (Nat.le_of_ble_eq_true rfl) (Nat.le_of_ble_eq_true rfl) rfl rfl rfl (Nat.le_of_ble_eq_true rfl) (Nat.le_of_ble_eq_true rfl) ?_
        refine ev_M_throwing1 ?_
        refine ⟨_, rfl, ?_⟩
        refine rd_if_eq (pc := 77) (tgt := 81) d_M_risk_77 rfl ⟨by omega, by omega⟩ (fun h77 => ?_) (fun h77 => ?_)
        · exact absurd h77 (by decide)
        · skip
          exact rd_vret (pc := 80) d_M_risk_80 rfl (Nat.le_of_ble_eq_true rfl) (by first | exact hA (by omega) | exact hS (by omega) (by omega))
      · exact absurd h48 (by decide)
    · exact absurd h9 (by decide)
set_option maxHeartbeats 4000000 in
set_option maxRecDepth 100000 in
theorem ev_M_premium {r a : Int} {n nt : Nat} {M : rd_M} {Q : rd_R → rd_M → Prop} (hB : r_B M n nt) (hr : rd_I r) (ha : rd_I a) (hA : ¬ (((0 ≤ r ∧ r < 12) ∧ 0 < M 33 r) ∧ (0 ≤ a ∧ a ≤ 1000000000)) → Q (.inl none) (rd_up M 32 0 1)) (hS : (((0 ≤ r ∧ r < 12) ∧ 0 < M 33 r) ∧ (0 ≤ a ∧ a ≤ 1000000000)) → (M 48 (M 35 r) ≠ 0) → Q (.inl none) (rd_up M 32 0 2)) (hQ : (((0 ≤ r ∧ r < 12) ∧ 0 < M 33 r) ∧ (0 ≤ a ∧ a ≤ 1000000000)) → ¬ (M 48 (M 35 r) ≠ 0) → Q (.inl none) (rd_up (rd_up M 32 0 0) 34 r a)) : rd_G x_M_premium 0 [some (.ref 32), some (rd_i r), some (rd_i a), none] [] M 0 Q := by
  have hn := hB.1
  have hm := hB.2.1
  have hn4 := hB.2.2.1
  have hm10 := hB.2.2.2.1
  have hcl : ∀ y : Int, 0 ≤ y → y < 4 → 0 ≤ M 48 y ∧ M 48 y ≤ 1 := hB.2.2.2.2.2.2.2
  refine rd_aldn (pc := 0) d_M_premium_0 rfl ?_
  refine rd_ildn (pc := 1) d_M_premium_1 rfl ?_
  refine rd_callVi (pc := 2) (n' := 0) [_] d_M_premium_2 ml_M_111 rfl (Nat.le_of_ble_eq_true rfl) (Nat.le_of_ble_eq_true rfl) (Nat.le_of_ble_eq_true rfl) rfl rfl rfl (Nat.le_of_ble_eq_true rfl) (Nat.le_of_ble_eq_true rfl) ?_
  refine ev_M_isRisk hB ⟨by omega, by omega⟩ (fun c2 => ⟨_, rfl, ?_⟩) (fun c2 => ⟨_, rfl, ?_⟩)
  · skip
    refine rd_if_eq (pc := 5) (tgt := 20) d_M_premium_5 rfl ⟨by omega, by omega⟩ (fun h5 => ?_) (fun h5 => ?_)
    · exact absurd h5 (by decide)
    · skip
      refine rd_ildn (pc := 8) d_M_premium_8 rfl ?_
      refine rd_i2l (pc := 9) d_M_premium_9 ⟨by omega, by omega⟩ ?_
      refine rd_lconst (pc := 10) (v := 0) d_M_premium_10 rfl ?_
      refine rd_ldc2 (pc := 11) (v := 1000000000) d_M_premium_11 kl_M_103 ?_
      refine rd_callSi (pc := 14) (n' := 0) [_, _, _] d_M_premium_14 ml_M_93 (Nat.le_of_ble_eq_true rfl) (Nat.le_of_ble_eq_true rfl) (Nat.le_of_ble_eq_true rfl) rfl rfl rfl (Nat.le_of_ble_eq_true rfl) (Nat.le_of_ble_eq_true rfl) ?_
      refine ev_M_in ⟨by omega, by omega⟩ ⟨by omega, by omega⟩ ⟨by omega, by omega⟩ (fun c14 => ⟨_, rfl, ?_⟩) (fun c14 => ⟨_, rfl, ?_⟩)
      · skip
        refine rd_if_ne (pc := 17) (tgt := 24) d_M_premium_17 rfl ⟨by omega, by omega⟩ (fun h17 => ?_) (fun h17 => ?_)
        · skip
          refine rd_iconst (pc := 24) d_M_premium_24 ?_
          refine rd_ist3 (pc := 25) d_M_premium_25 rfl ?_
          refine rd_aldn (pc := 26) d_M_premium_26 rfl ?_
          refine rd_ildn (pc := 27) d_M_premium_27 rfl ?_
          refine rd_ildn (pc := 28) d_M_premium_28 rfl ?_
          refine rd_if_ne (pc := 29) (tgt := 50) d_M_premium_29 rfl ⟨by omega, by omega⟩ (fun h29 => ?_) (fun h29 => ?_)
          · exact absurd h29 (by decide)
          · skip
            refine rd_aldn (pc := 32) d_M_premium_32 rfl ?_
            obtain ⟨r1, r2, r3⟩ := hB.risk (r := r) (by omega) (by omega)
            have hc := hcl (M 35 r) (by omega) (by omega)
            refine rd_getr (pc := 33) d_M_premium_33 fl_M_57 rfl rfl ?_
            refine rd_aldn (pc := 36) d_M_premium_36 rfl ?_
            refine rd_getr (pc := 37) d_M_premium_37 fl_M_16 rfl rfl ?_
            refine rd_ildn (pc := 40) d_M_premium_40 rfl ?_
            refine rd_iald (pc := 41) d_M_premium_41 rfl (by omega) (by omega) ?_
            refine rd_zald (pc := 42) d_M_premium_42 rfl (by omega) (by omega) ?_
            refine rd_if_eq (pc := 43) (tgt := 50) d_M_premium_43 rfl ⟨by omega, by omega⟩ (fun h43 => ?_) (fun h43 => ?_)
            · skip
              refine rd_iconst (pc := 50) d_M_premium_50 ?_
              refine rd_callVi (pc := 51) (n' := 0) [_, _] d_M_premium_51 ml_M_107 rfl (Nat.le_of_ble_eq_true rfl) (Nat.le_of_ble_eq_true rfl) (Nat.le_of_ble_eq_true rfl) rfl rfl rfl (Nat.le_of_ble_eq_true rfl) (Nat.le_of_ble_eq_true rfl) ?_
              refine ev_M_throwing0 ?_
              refine ⟨_, rfl, ?_⟩
              refine rd_if_eq (pc := 54) (tgt := 58) d_M_premium_54 rfl ⟨by omega, by omega⟩ (fun h54 => ?_) (fun h54 => ?_)
              · skip
                refine rd_aldn (pc := 58) d_M_premium_58 rfl ?_
                refine rd_getr (pc := 59) d_M_premium_59 fl_M_13 rfl rfl ?_
                refine rd_ildn (pc := 62) d_M_premium_62 rfl ?_
                refine rd_ildn (pc := 63) d_M_premium_63 rfl ?_
                refine rd_iast (pc := 64) d_M_premium_64 rfl (by omega) (by omega) ?_
                exact rd_vret (pc := 65) d_M_premium_65 rfl (Nat.le_of_ble_eq_true rfl) (hQ (by omega) (by omega))
              · exact absurd h54 (by decide)
            · skip
              refine rd_iconst (pc := 46) d_M_premium_46 ?_
              refine rd_goto (pc := 47) (tgt := 51) d_M_premium_47 rfl ?_
              refine rd_callVi (pc := 51) (n' := 0) [_, _] d_M_premium_51 ml_M_107 rfl (Nat.le_of_ble_eq_true rfl) (Nat.le_of_ble_eq_true rfl) (Nat.le_of_ble_eq_true rfl) rfl rfl rfl (Nat.le_of_ble_eq_true rfl) (Nat.le_of_ble_eq_true rfl) ?_
              refine ev_M_throwing2 ?_
              refine ⟨_, rfl, ?_⟩
              refine rd_if_eq (pc := 54) (tgt := 58) d_M_premium_54 rfl ⟨by omega, by omega⟩ (fun h54 => ?_) (fun h54 => ?_)
              · exact absurd h54 (by decide)
              · skip
                exact rd_vret (pc := 57) d_M_premium_57 rfl (Nat.le_of_ble_eq_true rfl) (by first | exact hA (by omega) | exact hS (by omega) (by omega))
        · exact absurd h17 (by decide)
      · skip
        refine rd_if_ne (pc := 17) (tgt := 24) d_M_premium_17 rfl ⟨by omega, by omega⟩ (fun h17 => ?_) (fun h17 => ?_)
        · exact absurd h17 (by decide)
        · skip
          refine rd_iconst (pc := 20) d_M_premium_20 ?_
          refine rd_goto (pc := 21) (tgt := 25) d_M_premium_21 rfl ?_
          refine rd_ist3 (pc := 25) d_M_premium_25 rfl ?_
          refine rd_aldn (pc := 26) d_M_premium_26 rfl ?_
          refine rd_ildn (pc := 27) d_M_premium_27 rfl ?_
          refine rd_ildn (pc := 28) d_M_premium_28 rfl ?_
          refine rd_if_ne (pc := 29) (tgt := 50) d_M_premium_29 rfl ⟨by omega, by omega⟩ (fun h29 => ?_) (fun h29 => ?_)
          · skip
            refine rd_iconst (pc := 50) d_M_premium_50 ?_
            refine rd_callVi (pc := 51) (n' := 0) [_, _] d_M_premium_51 ml_M_107 rfl (Nat.le_of_ble_eq_true rfl) (Nat.le_of_ble_eq_true rfl) (Nat.le_of_ble_eq_true rfl) rfl rfl rfl (Nat.le_of_ble_eq_true rfl) (Nat.le_of_ble_eq_true rfl) ?_
            refine ev_M_throwing1 ?_
            refine ⟨_, rfl, ?_⟩
            refine rd_if_eq (pc := 54) (tgt := 58) d_M_premium_54 rfl ⟨by omega, by omega⟩ (fun h54 => ?_) (fun h54 => ?_)
            · exact absurd h54 (by decide)
            · skip
              exact rd_vret (pc := 57) d_M_premium_57 rfl (Nat.le_of_ble_eq_true rfl) (by first | exact hA (by omega) | exact hS (by omega) (by omega))
          · exact absurd h29 (by decide)
  · skip
    refine rd_if_eq (pc := 5) (tgt := 20) d_M_premium_5 rfl ⟨by omega, by omega⟩ (fun h5 => ?_) (fun h5 => ?_)
    · skip
      refine rd_iconst (pc := 20) d_M_premium_20 ?_
      refine rd_goto (pc := 21) (tgt := 25) d_M_premium_21 rfl ?_
      refine rd_ist3 (pc := 25) d_M_premium_25 rfl ?_
      refine rd_aldn (pc := 26) d_M_premium_26 rfl ?_
      refine rd_ildn (pc := 27) d_M_premium_27 rfl ?_
      refine rd_ildn (pc := 28) d_M_premium_28 rfl ?_
      refine rd_if_ne (pc := 29) (tgt := 50) d_M_premium_29 rfl ⟨by omega, by omega⟩ (fun h29 => ?_) (fun h29 => ?_)
      · skip
        refine rd_iconst (pc := 50) d_M_premium_50 ?_
        refine rd_callVi (pc := 51) (n' := 0) [_, _] d_M_premium_51 ml_M_107 rfl (Nat.le_of_ble_eq_true rfl) (Nat.le_of_ble_eq_true rfl) (Nat.le_of_ble_eq_true rfl) rfl rfl rfl (Nat.le_of_ble_eq_true rfl) (Nat.le_of_ble_eq_true rfl) ?_
        refine ev_M_throwing1 ?_
        refine ⟨_, rfl, ?_⟩
        refine rd_if_eq (pc := 54) (tgt := 58) d_M_premium_54 rfl ⟨by omega, by omega⟩ (fun h54 => ?_) (fun h54 => ?_)
        · exact absurd h54 (by decide)
        · skip
          exact rd_vret (pc := 57) d_M_premium_57 rfl (Nat.le_of_ble_eq_true rfl) (by first | exact hA (by omega) | exact hS (by omega) (by omega))
      · exact absurd h29 (by decide)
    · exact absurd h5 (by decide)
set_option maxHeartbeats 4000000 in
set_option maxRecDepth 100000 in
theorem ev_M_claim {r e h : Int} {n nt : Nat} {M : rd_M} {Q : rd_R → rd_M → Prop} (hB : r_B M n nt) (hr : rd_I r) (he : rd_I e) (hh : rd_I h) (hA : ¬ (((0 ≤ r ∧ r < 12) ∧ 0 < M 33 r) ∧ (0 ≤ e ∧ e < 10) ∧ (0 ≤ h ∧ h ≤ 100000)) → Q (.inl (some (rd_i 0))) (rd_up M 32 0 1)) (hS : (((0 ≤ r ∧ r < 12) ∧ 0 < M 33 r) ∧ (0 ≤ e ∧ e < 10) ∧ (0 ≤ h ∧ h ≤ 100000)) → ((40 : Int) ≤ n ∨ M 48 (M 35 r) ≠ 0) → Q (.inl (some (rd_i 0))) (rd_up M 32 0 2)) (hQ : (((0 ≤ r ∧ r < 12) ∧ 0 < M 33 r) ∧ (0 ≤ e ∧ e < 10) ∧ (0 ≤ h ∧ h ≤ 100000)) → ¬ ((40 : Int) ≤ n ∨ M 48 (M 35 r) ≠ 0) → Q (.inl (some (rd_i ((n : Int) + 1 - 1)))) (rd_up (rd_up (rd_up (rd_up (rd_up M 32 0 0) 36 n r) 37 n e) 38 n h) 32 9 (n + 1))) : rd_G x_M_claim 0 [some (.ref 32), some (rd_i r), some (rd_i e), some (rd_i h), none] [] M 0 Q := by
  have hn := hB.1
  have hm := hB.2.1
  have hn4 := hB.2.2.1
  have hm10 := hB.2.2.2.1
  have hcl : ∀ y : Int, 0 ≤ y → y < 4 → 0 ≤ M 48 y ∧ M 48 y ≤ 1 := hB.2.2.2.2.2.2.2
  refine rd_aldn (pc := 0) d_M_claim_0 rfl ?_
  refine rd_ildn (pc := 1) d_M_claim_1 rfl ?_
  refine rd_callVi (pc := 2) (n' := 0) [_] d_M_claim_2 ml_M_111 rfl (Nat.le_of_ble_eq_true rfl) (Nat.le_of_ble_eq_true rfl) (Nat.le_of_ble_eq_true rfl) rfl rfl rfl (Nat.le_of_ble_eq_true rfl) (Nat.le_of_ble_eq_true rfl) ?_
  refine ev_M_isRisk hB ⟨by omega, by omega⟩ (fun c2 => ⟨_, rfl, ?_⟩) (fun c2 => ⟨_, rfl, ?_⟩)
  · skip
    refine rd_if_eq (pc := 5) (tgt := 32) d_M_claim_5 rfl ⟨by omega, by omega⟩ (fun h5 => ?_) (fun h5 => ?_)
    · exact absurd h5 (by decide)
    · skip
      refine rd_ildn (pc := 8) d_M_claim_8 rfl ?_
      refine rd_i2l (pc := 9) d_M_claim_9 ⟨by omega, by omega⟩ ?_
      refine rd_lconst (pc := 10) (v := 0) d_M_claim_10 rfl ?_
      refine rd_ldc2 (pc := 11) (v := 9) d_M_claim_11 kl_M_134 ?_
      refine rd_callSi (pc := 14) (n' := 0) [_, _, _] d_M_claim_14 ml_M_93 (Nat.le_of_ble_eq_true rfl) (Nat.le_of_ble_eq_true rfl) (Nat.le_of_ble_eq_true rfl) rfl rfl rfl (Nat.le_of_ble_eq_true rfl) (Nat.le_of_ble_eq_true rfl) ?_
      refine ev_M_in ⟨by omega, by omega⟩ ⟨by omega, by omega⟩ ⟨by omega, by omega⟩ (fun c14 => ⟨_, rfl, ?_⟩) (fun c14 => ⟨_, rfl, ?_⟩)
      · skip
        refine rd_if_eq (pc := 17) (tgt := 32) d_M_claim_17 rfl ⟨by omega, by omega⟩ (fun h17 => ?_) (fun h17 => ?_)
        · exact absurd h17 (by decide)
        · skip
          refine rd_ildn (pc := 20) d_M_claim_20 rfl ?_
          refine rd_i2l (pc := 21) d_M_claim_21 ⟨by omega, by omega⟩ ?_
          refine rd_lconst (pc := 22) (v := 0) d_M_claim_22 rfl ?_
          refine rd_ldc2 (pc := 23) (v := 100000) d_M_claim_23 kl_M_136 ?_
          refine rd_callSi (pc := 26) (n' := 0) [_, _, _] d_M_claim_26 ml_M_93 (Nat.le_of_ble_eq_true rfl) (Nat.le_of_ble_eq_true rfl) (Nat.le_of_ble_eq_true rfl) rfl rfl rfl (Nat.le_of_ble_eq_true rfl) (Nat.le_of_ble_eq_true rfl) ?_
          refine ev_M_in ⟨by omega, by omega⟩ ⟨by omega, by omega⟩ ⟨by omega, by omega⟩ (fun c26 => ⟨_, rfl, ?_⟩) (fun c26 => ⟨_, rfl, ?_⟩)
          · skip
            refine rd_if_ne (pc := 29) (tgt := 36) d_M_claim_29 rfl ⟨by omega, by omega⟩ (fun h29 => ?_) (fun h29 => ?_)
            · skip
              refine rd_iconst (pc := 36) d_M_claim_36 ?_
              refine rd_ist4 (pc := 37) d_M_claim_37 rfl ?_
              refine rd_aldn (pc := 39) d_M_claim_39 rfl ?_
              refine rd_ild (pc := 40) d_M_claim_40 rfl ?_
              refine rd_ild (pc := 42) d_M_claim_42 rfl ?_
              refine rd_if_ne (pc := 44) (tgt := 74) d_M_claim_44 rfl ⟨by omega, by omega⟩ (fun h44 => ?_) (fun h44 => ?_)
              · exact absurd h44 (by decide)
              · skip
                obtain ⟨r1, r2, r3⟩ := hB.risk (r := r) (by omega) (by omega)
                have hc := hcl (M 35 r) (by omega) (by omega)
                refine rd_aldn (pc := 47) d_M_claim_47 rfl ?_
                refine rd_gi (pc := 48) (ki := 9) d_M_claim_48 fl_M_97 rfl rfl rfl ?_
                try simp (decide := true) only [rd_up_app, rd_up_hit, rd_up_32, hn]
                refine rd_bipush (pc := 51) d_M_claim_51 rfl ?_
                refine rd_icmp_eq (pc := 53) (tgt := 70) d_M_claim_53 rfl ⟨by omega, by omega⟩ ⟨by omega, by omega⟩ (fun h53 => ?_) (fun h53 => ?_)
                · skip
                  refine rd_iconst (pc := 70) d_M_claim_70 ?_
                  refine rd_goto (pc := 71) (tgt := 75) d_M_claim_71 rfl ?_
                  refine rd_callVi (pc := 75) (n' := 0) [_, _] d_M_claim_75 ml_M_107 rfl (Nat.le_of_ble_eq_true rfl) (Nat.le_of_ble_eq_true rfl) (Nat.le_of_ble_eq_true rfl) rfl rfl rfl (Nat.le_of_ble_eq_true rfl) (Nat.le_of_ble_eq_true rfl) ?_
                  refine ev_M_throwing2 ?_
                  refine ⟨_, rfl, ?_⟩
                  refine rd_if_eq (pc := 78) (tgt := 83) d_M_claim_78 rfl ⟨by omega, by omega⟩ (fun h78 => ?_) (fun h78 => ?_)
                  · exact absurd h78 (by decide)
                  · skip
                    refine rd_iconst (pc := 81) d_M_claim_81 ?_
                    exact rd_iret (pc := 82) d_M_claim_82 rfl (Nat.le_of_ble_eq_true rfl) (by first | exact hA (by omega) | exact hS (by omega) (by omega))
                · skip
                  refine rd_aldn (pc := 56) d_M_claim_56 rfl ?_
                  refine rd_getr (pc := 57) d_M_claim_57 fl_M_57 rfl rfl ?_
                  refine rd_aldn (pc := 60) d_M_claim_60 rfl ?_
                  refine rd_getr (pc := 61) d_M_claim_61 fl_M_16 rfl rfl ?_
                  refine rd_ildn (pc := 64) d_M_claim_64 rfl ?_
                  refine rd_iald (pc := 65) d_M_claim_65 rfl (by omega) (by omega) ?_
                  try simp (decide := true) only [rd_up_app, rd_up_hit, rd_up_32, hn]
                  refine rd_zald (pc := 66) d_M_claim_66 rfl (by omega) (by omega) ?_
                  try simp (decide := true) only [rd_up_app, rd_up_hit, rd_up_32, hn]
                  refine rd_if_eq (pc := 67) (tgt := 74) d_M_claim_67 rfl ⟨by omega, by omega⟩ (fun h67 => ?_) (fun h67 => ?_)
                  · skip
                    refine rd_iconst (pc := 74) d_M_claim_74 ?_
                    refine rd_callVi (pc := 75) (n' := 0) [_, _] d_M_claim_75 ml_M_107 rfl (Nat.le_of_ble_eq_true rfl) (Nat.le_of_ble_eq_true rfl) (Nat.le_of_ble_eq_true rfl) rfl rfl rfl (Nat.le_of_ble_eq_true rfl) (Nat.le_of_ble_eq_true rfl) ?_
                    refine ev_M_throwing0 ?_
                    refine ⟨_, rfl, ?_⟩
                    refine rd_if_eq (pc := 78) (tgt := 83) d_M_claim_78 rfl ⟨by omega, by omega⟩ (fun h78 => ?_) (fun h78 => ?_)
                    · skip
                      refine rd_aldn (pc := 83) d_M_claim_83 rfl ?_
                      refine rd_getr (pc := 84) d_M_claim_84 fl_M_19 rfl rfl ?_
                      refine rd_aldn (pc := 87) d_M_claim_87 rfl ?_
                      refine rd_gi (pc := 88) (ki := 9) d_M_claim_88 fl_M_97 rfl rfl rfl ?_
                      try simp (decide := true) only [rd_up_app, rd_up_hit, rd_up_32, hn]
                      refine rd_ildn (pc := 91) d_M_claim_91 rfl ?_
                      refine rd_iast (pc := 92) d_M_claim_92 rfl (by omega) (by omega) ?_
                      refine rd_aldn (pc := 93) d_M_claim_93 rfl ?_
                      refine rd_getr (pc := 94) d_M_claim_94 fl_M_22 rfl rfl ?_
                      refine rd_aldn (pc := 97) d_M_claim_97 rfl ?_
                      refine rd_gi (pc := 98) (ki := 9) d_M_claim_98 fl_M_97 rfl rfl rfl ?_
                      try simp (decide := true) only [rd_up_app, rd_up_hit, rd_up_32, hn]
                      refine rd_ildn (pc := 101) d_M_claim_101 rfl ?_
                      refine rd_iast (pc := 102) d_M_claim_102 rfl (by omega) (by omega) ?_
                      refine rd_aldn (pc := 103) d_M_claim_103 rfl ?_
                      refine rd_getr (pc := 104) d_M_claim_104 fl_M_25 rfl rfl ?_
                      refine rd_aldn (pc := 107) d_M_claim_107 rfl ?_
                      refine rd_gi (pc := 108) (ki := 9) d_M_claim_108 fl_M_97 rfl rfl rfl ?_
                      try simp (decide := true) only [rd_up_app, rd_up_hit, rd_up_32, hn]
                      refine rd_ildn (pc := 111) d_M_claim_111 rfl ?_
                      refine rd_iast (pc := 112) d_M_claim_112 rfl (by omega) (by omega) ?_
                      refine rd_aldn (pc := 113) d_M_claim_113 rfl ?_
                      refine rd_dup (pc := 114) d_M_claim_114 rfl ?_
                      refine rd_gi (pc := 115) (ki := 9) d_M_claim_115 fl_M_97 rfl rfl rfl ?_
                      try simp (decide := true) only [rd_up_app, rd_up_hit, rd_up_32, hn]
                      refine rd_iconst (pc := 118) d_M_claim_118 ?_
                      refine rd_iadd (pc := 119) d_M_claim_119 ?_
                      refine rd_pi (pc := 120) (ki := 9) d_M_claim_120 fl_M_97 fp_5_9 rfl rfl rfl ?_
                      refine rd_aldn (pc := 123) d_M_claim_123 rfl ?_
                      refine rd_gi (pc := 124) (ki := 9) d_M_claim_124 fl_M_97 rfl rfl rfl ?_
                      try simp (decide := true) only [rd_up_app, rd_up_hit, rd_up_32, hn]
                      refine rd_iconst (pc := 127) d_M_claim_127 ?_
                      refine rd_isub (pc := 128) d_M_claim_128 ?_
                      exact rd_iret (pc := 129) d_M_claim_129 rfl (Nat.le_of_ble_eq_true rfl) (hQ (by omega) (by omega))
                    · exact absurd h78 (by decide)
                  · skip
                    refine rd_iconst (pc := 70) d_M_claim_70 ?_
                    refine rd_goto (pc := 71) (tgt := 75) d_M_claim_71 rfl ?_
                    refine rd_callVi (pc := 75) (n' := 0) [_, _] d_M_claim_75 ml_M_107 rfl (Nat.le_of_ble_eq_true rfl) (Nat.le_of_ble_eq_true rfl) (Nat.le_of_ble_eq_true rfl) rfl rfl rfl (Nat.le_of_ble_eq_true rfl) (Nat.le_of_ble_eq_true rfl) ?_
                    refine ev_M_throwing2 ?_
                    refine ⟨_, rfl, ?_⟩
                    refine rd_if_eq (pc := 78) (tgt := 83) d_M_claim_78 rfl ⟨by omega, by omega⟩ (fun h78 => ?_) (fun h78 => ?_)
                    · exact absurd h78 (by decide)
                    · skip
                      refine rd_iconst (pc := 81) d_M_claim_81 ?_
                      exact rd_iret (pc := 82) d_M_claim_82 rfl (Nat.le_of_ble_eq_true rfl) (by first | exact hA (by omega) | exact hS (by omega) (by omega))
            · exact absurd h29 (by decide)
          · skip
            refine rd_if_ne (pc := 29) (tgt := 36) d_M_claim_29 rfl ⟨by omega, by omega⟩ (fun h29 => ?_) (fun h29 => ?_)
            · exact absurd h29 (by decide)
            · skip
              refine rd_iconst (pc := 32) d_M_claim_32 ?_
              refine rd_goto (pc := 33) (tgt := 37) d_M_claim_33 rfl ?_
              refine rd_ist4 (pc := 37) d_M_claim_37 rfl ?_
              refine rd_aldn (pc := 39) d_M_claim_39 rfl ?_
              refine rd_ild (pc := 40) d_M_claim_40 rfl ?_
              refine rd_ild (pc := 42) d_M_claim_42 rfl ?_
              refine rd_if_ne (pc := 44) (tgt := 74) d_M_claim_44 rfl ⟨by omega, by omega⟩ (fun h44 => ?_) (fun h44 => ?_)
              · skip
                refine rd_iconst (pc := 74) d_M_claim_74 ?_
                refine rd_callVi (pc := 75) (n' := 0) [_, _] d_M_claim_75 ml_M_107 rfl (Nat.le_of_ble_eq_true rfl) (Nat.le_of_ble_eq_true rfl) (Nat.le_of_ble_eq_true rfl) rfl rfl rfl (Nat.le_of_ble_eq_true rfl) (Nat.le_of_ble_eq_true rfl) ?_
                refine ev_M_throwing1 ?_
                refine ⟨_, rfl, ?_⟩
                refine rd_if_eq (pc := 78) (tgt := 83) d_M_claim_78 rfl ⟨by omega, by omega⟩ (fun h78 => ?_) (fun h78 => ?_)
                · exact absurd h78 (by decide)
                · skip
                  refine rd_iconst (pc := 81) d_M_claim_81 ?_
                  exact rd_iret (pc := 82) d_M_claim_82 rfl (Nat.le_of_ble_eq_true rfl) (by first | exact hA (by omega) | exact hS (by omega) (by omega))
              · exact absurd h44 (by decide)
      · skip
        refine rd_if_eq (pc := 17) (tgt := 32) d_M_claim_17 rfl ⟨by omega, by omega⟩ (fun h17 => ?_) (fun h17 => ?_)
        · skip
          refine rd_iconst (pc := 32) d_M_claim_32 ?_
          refine rd_goto (pc := 33) (tgt := 37) d_M_claim_33 rfl ?_
          refine rd_ist4 (pc := 37) d_M_claim_37 rfl ?_
          refine rd_aldn (pc := 39) d_M_claim_39 rfl ?_
          refine rd_ild (pc := 40) d_M_claim_40 rfl ?_
          refine rd_ild (pc := 42) d_M_claim_42 rfl ?_
          refine rd_if_ne (pc := 44) (tgt := 74) d_M_claim_44 rfl ⟨by omega, by omega⟩ (fun h44 => ?_) (fun h44 => ?_)
          · skip
            refine rd_iconst (pc := 74) d_M_claim_74 ?_
            refine rd_callVi (pc := 75) (n' := 0) [_, _] d_M_claim_75 ml_M_107 rfl (Nat.le_of_ble_eq_true rfl) (Nat.le_of_ble_eq_true rfl) (Nat.le_of_ble_eq_true rfl) rfl rfl rfl (Nat.le_of_ble_eq_true rfl) (Nat.le_of_ble_eq_true rfl) ?_
            refine ev_M_throwing1 ?_
            refine ⟨_, rfl, ?_⟩
            refine rd_if_eq (pc := 78) (tgt := 83) d_M_claim_78 rfl ⟨by omega, by omega⟩ (fun h78 => ?_) (fun h78 => ?_)
            · exact absurd h78 (by decide)
            · skip
              refine rd_iconst (pc := 81) d_M_claim_81 ?_
              exact rd_iret (pc := 82) d_M_claim_82 rfl (Nat.le_of_ble_eq_true rfl) (by first | exact hA (by omega) | exact hS (by omega) (by omega))
          · exact absurd h44 (by decide)
        · exact absurd h17 (by decide)
  · skip
    refine rd_if_eq (pc := 5) (tgt := 32) d_M_claim_5 rfl ⟨by omega, by omega⟩ (fun h5 => ?_) (fun h5 => ?_)
    · skip
      refine rd_iconst (pc := 32) d_M_claim_32 ?_
      refine rd_goto (pc := 33) (tgt := 37) d_M_claim_33 rfl ?_
      refine rd_ist4 (pc := 37) d_M_claim_37 rfl ?_
      refine rd_aldn (pc := 39) d_M_claim_39 rfl ?_
      refine rd_ild (pc := 40) d_M_claim_40 rfl ?_
      refine rd_ild (pc := 42) d_M_claim_42 rfl ?_
      refine rd_if_ne (pc := 44) (tgt := 74) d_M_claim_44 rfl ⟨by omega, by omega⟩ (fun h44 => ?_) (fun h44 => ?_)
      · skip
        refine rd_iconst (pc := 74) d_M_claim_74 ?_
        refine rd_callVi (pc := 75) (n' := 0) [_, _] d_M_claim_75 ml_M_107 rfl (Nat.le_of_ble_eq_true rfl) (Nat.le_of_ble_eq_true rfl) (Nat.le_of_ble_eq_true rfl) rfl rfl rfl (Nat.le_of_ble_eq_true rfl) (Nat.le_of_ble_eq_true rfl) ?_
        refine ev_M_throwing1 ?_
        refine ⟨_, rfl, ?_⟩
        refine rd_if_eq (pc := 78) (tgt := 83) d_M_claim_78 rfl ⟨by omega, by omega⟩ (fun h78 => ?_) (fun h78 => ?_)
        · exact absurd h78 (by decide)
        · skip
          refine rd_iconst (pc := 81) d_M_claim_81 ?_
          exact rd_iret (pc := 82) d_M_claim_82 rfl (Nat.le_of_ble_eq_true rfl) (by first | exact hA (by omega) | exact hS (by omega) (by omega))
      · exact absurd h44 (by decide)
    · exact absurd h5 (by decide)
set_option maxHeartbeats 4000000 in
set_option maxRecDepth 100000 in
theorem ev_M_estimate {k a : Int} {n nt : Nat} {M : rd_M} {Q : rd_R → rd_M → Prop} (hB : r_B M n nt) (hk : rd_I k) (ha : rd_I a) (hA : ¬ ((0 ≤ k ∧ k < n) ∧ (0 ≤ a ∧ a ≤ 1000000000)) → Q (.inl none) (rd_up M 32 0 1)) (hS : ((0 ≤ k ∧ k < n) ∧ (0 ≤ a ∧ a ≤ 1000000000)) → (M 40 k ≠ 0 ∨ M 48 (M 35 (M 36 k)) ≠ 0) → Q (.inl none) (rd_up M 32 0 2)) (hQ : ((0 ≤ k ∧ k < n) ∧ (0 ≤ a ∧ a ≤ 1000000000)) → ¬ (M 40 k ≠ 0 ∨ M 48 (M 35 (M 36 k)) ≠ 0) → Q (.inl none) (rd_up (rd_up M 32 0 0) 39 k a)) : rd_G x_M_estimate 0 [some (.ref 32), some (rd_i k), some (rd_i a), none] [] M 0 Q := by
  have hn := hB.1
  have hm := hB.2.1
  have hn4 := hB.2.2.1
  have hm10 := hB.2.2.2.1
  have hcl : ∀ y : Int, 0 ≤ y → y < 4 → 0 ≤ M 48 y ∧ M 48 y ≤ 1 := hB.2.2.2.2.2.2.2
  refine rd_aldn (pc := 0) d_M_estimate_0 rfl ?_
  refine rd_ildn (pc := 1) d_M_estimate_1 rfl ?_
  refine rd_callVi (pc := 2) (n' := 0) [_] d_M_estimate_2 ml_M_138 rfl (Nat.le_of_ble_eq_true rfl) (Nat.le_of_ble_eq_true rfl) (Nat.le_of_ble_eq_true rfl) rfl rfl rfl (Nat.le_of_ble_eq_true rfl) (Nat.le_of_ble_eq_true rfl) ?_
  refine ev_M_isClaim hB ⟨by omega, by omega⟩ (fun c2 => ⟨_, rfl, ?_⟩) (fun c2 => ⟨_, rfl, ?_⟩)
  · skip
    refine rd_if_eq (pc := 5) (tgt := 20) d_M_estimate_5 rfl ⟨by omega, by omega⟩ (fun h5 => ?_) (fun h5 => ?_)
    · exact absurd h5 (by decide)
    · skip
      refine rd_ildn (pc := 8) d_M_estimate_8 rfl ?_
      refine rd_i2l (pc := 9) d_M_estimate_9 ⟨by omega, by omega⟩ ?_
      refine rd_lconst (pc := 10) (v := 0) d_M_estimate_10 rfl ?_
      refine rd_ldc2 (pc := 11) (v := 1000000000) d_M_estimate_11 kl_M_103 ?_
      refine rd_callSi (pc := 14) (n' := 0) [_, _, _] d_M_estimate_14 ml_M_93 (Nat.le_of_ble_eq_true rfl) (Nat.le_of_ble_eq_true rfl) (Nat.le_of_ble_eq_true rfl) rfl rfl rfl (Nat.le_of_ble_eq_true rfl) (Nat.le_of_ble_eq_true rfl) ?_
      refine ev_M_in ⟨by omega, by omega⟩ ⟨by omega, by omega⟩ ⟨by omega, by omega⟩ (fun c14 => ⟨_, rfl, ?_⟩) (fun c14 => ⟨_, rfl, ?_⟩)
      · skip
        refine rd_if_ne (pc := 17) (tgt := 24) d_M_estimate_17 rfl ⟨by omega, by omega⟩ (fun h17 => ?_) (fun h17 => ?_)
        · skip
          refine rd_iconst (pc := 24) d_M_estimate_24 ?_
          refine rd_ist3 (pc := 25) d_M_estimate_25 rfl ?_
          refine rd_aldn (pc := 26) d_M_estimate_26 rfl ?_
          refine rd_ildn (pc := 27) d_M_estimate_27 rfl ?_
          refine rd_ildn (pc := 28) d_M_estimate_28 rfl ?_
          refine rd_if_ne (pc := 29) (tgt := 58) d_M_estimate_29 rfl ⟨by omega, by omega⟩ (fun h29 => ?_) (fun h29 => ?_)
          · exact absurd h29 (by decide)
          · skip
            refine rd_aldn (pc := 32) d_M_estimate_32 rfl ?_
            obtain ⟨k1, k2, k3, k4, k5⟩ := hB.claim (k := k) (by omega) (by omega)
            obtain ⟨r1, r2, r3⟩ := hB.risk (r := M 36 k) (by omega) (by omega)
            have hc := hcl (M 35 (M 36 k)) (by omega) (by omega)
            refine rd_getr (pc := 33) d_M_estimate_33 fl_M_31 rfl rfl ?_
            refine rd_ildn (pc := 36) d_M_estimate_36 rfl ?_
            refine rd_zald (pc := 37) d_M_estimate_37 rfl (by omega) (by omega) ?_
            refine rd_if_ne (pc := 38) (tgt := 54) d_M_estimate_38 rfl ⟨by omega, by omega⟩ (fun h38 => ?_) (fun h38 => ?_)
            · skip
              refine rd_iconst (pc := 54) d_M_estimate_54 ?_
              refine rd_goto (pc := 55) (tgt := 59) d_M_estimate_55 rfl ?_
              refine rd_callVi (pc := 59) (n' := 0) [_, _] d_M_estimate_59 ml_M_107 rfl (Nat.le_of_ble_eq_true rfl) (Nat.le_of_ble_eq_true rfl) (Nat.le_of_ble_eq_true rfl) rfl rfl rfl (Nat.le_of_ble_eq_true rfl) (Nat.le_of_ble_eq_true rfl) ?_
              refine ev_M_throwing2 ?_
              refine ⟨_, rfl, ?_⟩
              refine rd_if_eq (pc := 62) (tgt := 66) d_M_estimate_62 rfl ⟨by omega, by omega⟩ (fun h62 => ?_) (fun h62 => ?_)
              · exact absurd h62 (by decide)
              · skip
                exact rd_vret (pc := 65) d_M_estimate_65 rfl (Nat.le_of_ble_eq_true rfl) (by first | exact hA (by omega) | exact hS (by omega) (by omega))
            · skip
              refine rd_aldn (pc := 41) d_M_estimate_41 rfl ?_
              refine rd_getr (pc := 42) d_M_estimate_42 fl_M_57 rfl rfl ?_
              refine rd_aldn (pc := 45) d_M_estimate_45 rfl ?_
              refine rd_ildn (pc := 46) d_M_estimate_46 rfl ?_
              refine rd_callVi (pc := 47) (n' := 0) [_] d_M_estimate_47 ml_M_141 rfl (Nat.le_of_ble_eq_true rfl) (Nat.le_of_ble_eq_true rfl) (Nat.le_of_ble_eq_true rfl) rfl rfl rfl (Nat.le_of_ble_eq_true rfl) (Nat.le_of_ble_eq_true rfl) ?_
              refine ev_M_claimYear hB (by omega) (by omega) ?_
              refine ⟨_, rfl, ?_⟩
              refine rd_zald (pc := 50) d_M_estimate_50 rfl (by omega) (by omega) ?_
              refine rd_if_eq (pc := 51) (tgt := 58) d_M_estimate_51 rfl ⟨by omega, by omega⟩ (fun h51 => ?_) (fun h51 => ?_)
              · skip
                refine rd_iconst (pc := 58) d_M_estimate_58 ?_
                refine rd_callVi (pc := 59) (n' := 0) [_, _] d_M_estimate_59 ml_M_107 rfl (Nat.le_of_ble_eq_true rfl) (Nat.le_of_ble_eq_true rfl) (Nat.le_of_ble_eq_true rfl) rfl rfl rfl (Nat.le_of_ble_eq_true rfl) (Nat.le_of_ble_eq_true rfl) ?_
                refine ev_M_throwing0 ?_
                refine ⟨_, rfl, ?_⟩
                refine rd_if_eq (pc := 62) (tgt := 66) d_M_estimate_62 rfl ⟨by omega, by omega⟩ (fun h62 => ?_) (fun h62 => ?_)
                · skip
                  refine rd_aldn (pc := 66) d_M_estimate_66 rfl ?_
                  refine rd_getr (pc := 67) d_M_estimate_67 fl_M_28 rfl rfl ?_
                  refine rd_ildn (pc := 70) d_M_estimate_70 rfl ?_
                  refine rd_ildn (pc := 71) d_M_estimate_71 rfl ?_
                  refine rd_iast (pc := 72) d_M_estimate_72 rfl (by omega) (by omega) ?_
                  exact rd_vret (pc := 73) d_M_estimate_73 rfl (Nat.le_of_ble_eq_true rfl) (hQ (by omega) (by omega))
                · exact absurd h62 (by decide)
              · skip
                refine rd_iconst (pc := 54) d_M_estimate_54 ?_
                refine rd_goto (pc := 55) (tgt := 59) d_M_estimate_55 rfl ?_
                refine rd_callVi (pc := 59) (n' := 0) [_, _] d_M_estimate_59 ml_M_107 rfl (Nat.le_of_ble_eq_true rfl) (Nat.le_of_ble_eq_true rfl) (Nat.le_of_ble_eq_true rfl) rfl rfl rfl (Nat.le_of_ble_eq_true rfl) (Nat.le_of_ble_eq_true rfl) ?_
                refine ev_M_throwing2 ?_
                refine ⟨_, rfl, ?_⟩
                refine rd_if_eq (pc := 62) (tgt := 66) d_M_estimate_62 rfl ⟨by omega, by omega⟩ (fun h62 => ?_) (fun h62 => ?_)
                · exact absurd h62 (by decide)
                · skip
                  exact rd_vret (pc := 65) d_M_estimate_65 rfl (Nat.le_of_ble_eq_true rfl) (by first | exact hA (by omega) | exact hS (by omega) (by omega))
        · exact absurd h17 (by decide)
      · skip
        refine rd_if_ne (pc := 17) (tgt := 24) d_M_estimate_17 rfl ⟨by omega, by omega⟩ (fun h17 => ?_) (fun h17 => ?_)
        · exact absurd h17 (by decide)
        · skip
          refine rd_iconst (pc := 20) d_M_estimate_20 ?_
          refine rd_goto (pc := 21) (tgt := 25) d_M_estimate_21 rfl ?_
          refine rd_ist3 (pc := 25) d_M_estimate_25 rfl ?_
          refine rd_aldn (pc := 26) d_M_estimate_26 rfl ?_
          refine rd_ildn (pc := 27) d_M_estimate_27 rfl ?_
          refine rd_ildn (pc := 28) d_M_estimate_28 rfl ?_
          refine rd_if_ne (pc := 29) (tgt := 58) d_M_estimate_29 rfl ⟨by omega, by omega⟩ (fun h29 => ?_) (fun h29 => ?_)
          · skip
            refine rd_iconst (pc := 58) d_M_estimate_58 ?_
            refine rd_callVi (pc := 59) (n' := 0) [_, _] d_M_estimate_59 ml_M_107 rfl (Nat.le_of_ble_eq_true rfl) (Nat.le_of_ble_eq_true rfl) (Nat.le_of_ble_eq_true rfl) rfl rfl rfl (Nat.le_of_ble_eq_true rfl) (Nat.le_of_ble_eq_true rfl) ?_
            refine ev_M_throwing1 ?_
            refine ⟨_, rfl, ?_⟩
            refine rd_if_eq (pc := 62) (tgt := 66) d_M_estimate_62 rfl ⟨by omega, by omega⟩ (fun h62 => ?_) (fun h62 => ?_)
            · exact absurd h62 (by decide)
            · skip
              exact rd_vret (pc := 65) d_M_estimate_65 rfl (Nat.le_of_ble_eq_true rfl) (by first | exact hA (by omega) | exact hS (by omega) (by omega))
          · exact absurd h29 (by decide)
  · skip
    refine rd_if_eq (pc := 5) (tgt := 20) d_M_estimate_5 rfl ⟨by omega, by omega⟩ (fun h5 => ?_) (fun h5 => ?_)
    · skip
      refine rd_iconst (pc := 20) d_M_estimate_20 ?_
      refine rd_goto (pc := 21) (tgt := 25) d_M_estimate_21 rfl ?_
      refine rd_ist3 (pc := 25) d_M_estimate_25 rfl ?_
      refine rd_aldn (pc := 26) d_M_estimate_26 rfl ?_
      refine rd_ildn (pc := 27) d_M_estimate_27 rfl ?_
      refine rd_ildn (pc := 28) d_M_estimate_28 rfl ?_
      refine rd_if_ne (pc := 29) (tgt := 58) d_M_estimate_29 rfl ⟨by omega, by omega⟩ (fun h29 => ?_) (fun h29 => ?_)
      · skip
        refine rd_iconst (pc := 58) d_M_estimate_58 ?_
        refine rd_callVi (pc := 59) (n' := 0) [_, _] d_M_estimate_59 ml_M_107 rfl (Nat.le_of_ble_eq_true rfl) (Nat.le_of_ble_eq_true rfl) (Nat.le_of_ble_eq_true rfl) rfl rfl rfl (Nat.le_of_ble_eq_true rfl) (Nat.le_of_ble_eq_true rfl) ?_
        refine ev_M_throwing1 ?_
        refine ⟨_, rfl, ?_⟩
        refine rd_if_eq (pc := 62) (tgt := 66) d_M_estimate_62 rfl ⟨by omega, by omega⟩ (fun h62 => ?_) (fun h62 => ?_)
        · exact absurd h62 (by decide)
        · skip
          exact rd_vret (pc := 65) d_M_estimate_65 rfl (Nat.le_of_ble_eq_true rfl) (by first | exact hA (by omega) | exact hS (by omega) (by omega))
      · exact absurd h29 (by decide)
    · exact absurd h5 (by decide)
set_option maxHeartbeats 4000000 in
set_option maxRecDepth 100000 in
theorem ev_M_strike {k : Int} {n nt : Nat} {M : rd_M} {Q : rd_R → rd_M → Prop} (hB : r_B M n nt) (hk : rd_I k) (hA : ¬ (0 ≤ k ∧ k < n) → Q (.inl none) (rd_up M 32 0 1)) (hS : (0 ≤ k ∧ k < n) → (M 40 k ≠ 0 ∨ M 48 (M 35 (M 36 k)) ≠ 0) → Q (.inl none) (rd_up M 32 0 2)) (hQ : (0 ≤ k ∧ k < n) → ¬ (M 40 k ≠ 0 ∨ M 48 (M 35 (M 36 k)) ≠ 0) → Q (.inl none) (rd_up (rd_up M 32 0 0) 40 k 1)) : rd_G x_M_strike 0 [some (.ref 32), some (rd_i k), none] [] M 0 Q := by
  have hn := hB.1
  have hm := hB.2.1
  have hn4 := hB.2.2.1
  have hm10 := hB.2.2.2.1
  have hcl : ∀ y : Int, 0 ≤ y → y < 4 → 0 ≤ M 48 y ∧ M 48 y ≤ 1 := hB.2.2.2.2.2.2.2
  refine rd_aldn (pc := 0) d_M_strike_0 rfl ?_
  refine rd_ildn (pc := 1) d_M_strike_1 rfl ?_
  refine rd_callVi (pc := 2) (n' := 0) [_] d_M_strike_2 ml_M_138 rfl (Nat.le_of_ble_eq_true rfl) (Nat.le_of_ble_eq_true rfl) (Nat.le_of_ble_eq_true rfl) rfl rfl rfl (Nat.le_of_ble_eq_true rfl) (Nat.le_of_ble_eq_true rfl) ?_
  refine ev_M_isClaim hB ⟨by omega, by omega⟩ (fun c2 => ⟨_, rfl, ?_⟩) (fun c2 => ⟨_, rfl, ?_⟩)
  · skip
    refine rd_if_ne (pc := 5) (tgt := 12) d_M_strike_5 rfl ⟨by omega, by omega⟩ (fun h5 => ?_) (fun h5 => ?_)
    · skip
      refine rd_iconst (pc := 12) d_M_strike_12 ?_
      refine rd_ist2 (pc := 13) d_M_strike_13 rfl ?_
      refine rd_aldn (pc := 14) d_M_strike_14 rfl ?_
      refine rd_ildn (pc := 15) d_M_strike_15 rfl ?_
      refine rd_ildn (pc := 16) d_M_strike_16 rfl ?_
      refine rd_if_ne (pc := 17) (tgt := 46) d_M_strike_17 rfl ⟨by omega, by omega⟩ (fun h17 => ?_) (fun h17 => ?_)
      · exact absurd h17 (by decide)
      · skip
        refine rd_aldn (pc := 20) d_M_strike_20 rfl ?_
        obtain ⟨k1, k2, k3, k4, k5⟩ := hB.claim (k := k) (by omega) (by omega)
        obtain ⟨r1, r2, r3⟩ := hB.risk (r := M 36 k) (by omega) (by omega)
        have hc := hcl (M 35 (M 36 k)) (by omega) (by omega)
        refine rd_getr (pc := 21) d_M_strike_21 fl_M_31 rfl rfl ?_
        refine rd_ildn (pc := 24) d_M_strike_24 rfl ?_
        refine rd_zald (pc := 25) d_M_strike_25 rfl (by omega) (by omega) ?_
        refine rd_if_ne (pc := 26) (tgt := 42) d_M_strike_26 rfl ⟨by omega, by omega⟩ (fun h26 => ?_) (fun h26 => ?_)
        · skip
          refine rd_iconst (pc := 42) d_M_strike_42 ?_
          refine rd_goto (pc := 43) (tgt := 47) d_M_strike_43 rfl ?_
          refine rd_callVi (pc := 47) (n' := 0) [_, _] d_M_strike_47 ml_M_107 rfl (Nat.le_of_ble_eq_true rfl) (Nat.le_of_ble_eq_true rfl) (Nat.le_of_ble_eq_true rfl) rfl rfl rfl (Nat.le_of_ble_eq_true rfl) (Nat.le_of_ble_eq_true rfl) ?_
          refine ev_M_throwing2 ?_
          refine ⟨_, rfl, ?_⟩
          refine rd_if_eq (pc := 50) (tgt := 54) d_M_strike_50 rfl ⟨by omega, by omega⟩ (fun h50 => ?_) (fun h50 => ?_)
          · exact absurd h50 (by decide)
          · skip
            exact rd_vret (pc := 53) d_M_strike_53 rfl (Nat.le_of_ble_eq_true rfl) (by first | exact hA (by omega) | exact hS (by omega) (by omega))
        · skip
          refine rd_aldn (pc := 29) d_M_strike_29 rfl ?_
          refine rd_getr (pc := 30) d_M_strike_30 fl_M_57 rfl rfl ?_
          refine rd_aldn (pc := 33) d_M_strike_33 rfl ?_
          refine rd_ildn (pc := 34) d_M_strike_34 rfl ?_
          refine rd_callVi (pc := 35) (n' := 0) [_] d_M_strike_35 ml_M_141 rfl (Nat.le_of_ble_eq_true rfl) (Nat.le_of_ble_eq_true rfl) (Nat.le_of_ble_eq_true rfl) rfl rfl rfl (Nat.le_of_ble_eq_true rfl) (Nat.le_of_ble_eq_true rfl) ?_
          refine ev_M_claimYear hB (by omega) (by omega) ?_
          refine ⟨_, rfl, ?_⟩
          refine rd_zald (pc := 38) d_M_strike_38 rfl (by omega) (by omega) ?_
          refine rd_if_eq (pc := 39) (tgt := 46) d_M_strike_39 rfl ⟨by omega, by omega⟩ (fun h39 => ?_) (fun h39 => ?_)
          · skip
            refine rd_iconst (pc := 46) d_M_strike_46 ?_
            refine rd_callVi (pc := 47) (n' := 0) [_, _] d_M_strike_47 ml_M_107 rfl (Nat.le_of_ble_eq_true rfl) (Nat.le_of_ble_eq_true rfl) (Nat.le_of_ble_eq_true rfl) rfl rfl rfl (Nat.le_of_ble_eq_true rfl) (Nat.le_of_ble_eq_true rfl) ?_
            refine ev_M_throwing0 ?_
            refine ⟨_, rfl, ?_⟩
            refine rd_if_eq (pc := 50) (tgt := 54) d_M_strike_50 rfl ⟨by omega, by omega⟩ (fun h50 => ?_) (fun h50 => ?_)
            · skip
              refine rd_aldn (pc := 54) d_M_strike_54 rfl ?_
              refine rd_getr (pc := 55) d_M_strike_55 fl_M_31 rfl rfl ?_
              refine rd_ildn (pc := 58) d_M_strike_58 rfl ?_
              refine rd_iconst (pc := 59) d_M_strike_59 ?_
              refine rd_zast (pc := 60) d_M_strike_60 rfl (by omega) (by omega) (by omega) ?_
              exact rd_vret (pc := 61) d_M_strike_61 rfl (Nat.le_of_ble_eq_true rfl) (hQ (by omega) (by omega))
            · exact absurd h50 (by decide)
          · skip
            refine rd_iconst (pc := 42) d_M_strike_42 ?_
            refine rd_goto (pc := 43) (tgt := 47) d_M_strike_43 rfl ?_
            refine rd_callVi (pc := 47) (n' := 0) [_, _] d_M_strike_47 ml_M_107 rfl (Nat.le_of_ble_eq_true rfl) (Nat.le_of_ble_eq_true rfl) (Nat.le_of_ble_eq_true rfl) rfl rfl rfl (Nat.le_of_ble_eq_true rfl) (Nat.le_of_ble_eq_true rfl) ?_
            refine ev_M_throwing2 ?_
            refine ⟨_, rfl, ?_⟩
            refine rd_if_eq (pc := 50) (tgt := 54) d_M_strike_50 rfl ⟨by omega, by omega⟩ (fun h50 => ?_) (fun h50 => ?_)
            · exact absurd h50 (by decide)
            · skip
              exact rd_vret (pc := 53) d_M_strike_53 rfl (Nat.le_of_ble_eq_true rfl) (by first | exact hA (by omega) | exact hS (by omega) (by omega))
    · exact absurd h5 (by decide)
  · skip
    refine rd_if_ne (pc := 5) (tgt := 12) d_M_strike_5 rfl ⟨by omega, by omega⟩ (fun h5 => ?_) (fun h5 => ?_)
    · exact absurd h5 (by decide)
    · skip
      refine rd_iconst (pc := 8) d_M_strike_8 ?_
      refine rd_goto (pc := 9) (tgt := 13) d_M_strike_9 rfl ?_
      refine rd_ist2 (pc := 13) d_M_strike_13 rfl ?_
      refine rd_aldn (pc := 14) d_M_strike_14 rfl ?_
      refine rd_ildn (pc := 15) d_M_strike_15 rfl ?_
      refine rd_ildn (pc := 16) d_M_strike_16 rfl ?_
      refine rd_if_ne (pc := 17) (tgt := 46) d_M_strike_17 rfl ⟨by omega, by omega⟩ (fun h17 => ?_) (fun h17 => ?_)
      · skip
        refine rd_iconst (pc := 46) d_M_strike_46 ?_
        refine rd_callVi (pc := 47) (n' := 0) [_, _] d_M_strike_47 ml_M_107 rfl (Nat.le_of_ble_eq_true rfl) (Nat.le_of_ble_eq_true rfl) (Nat.le_of_ble_eq_true rfl) rfl rfl rfl (Nat.le_of_ble_eq_true rfl) (Nat.le_of_ble_eq_true rfl) ?_
        refine ev_M_throwing1 ?_
        refine ⟨_, rfl, ?_⟩
        refine rd_if_eq (pc := 50) (tgt := 54) d_M_strike_50 rfl ⟨by omega, by omega⟩ (fun h50 => ?_) (fun h50 => ?_)
        · exact absurd h50 (by decide)
        · skip
          exact rd_vret (pc := 53) d_M_strike_53 rfl (Nat.le_of_ble_eq_true rfl) (by first | exact hA (by omega) | exact hS (by omega) (by omega))
      · exact absurd h17 (by decide)
set_option maxHeartbeats 4000000 in
set_option maxRecDepth 100000 in
theorem ev_M_year {y b : Int} {n nt : Nat} {M : rd_M} {Q : rd_R → rd_M → Prop} (hB : r_B M n nt) (hy : rd_I y) (hb : 0 ≤ b ∧ b ≤ 1) (hA : ¬ (0 ≤ y ∧ y < 4) → Q (.inl none) (rd_up M 32 0 1)) (hS : (0 ≤ y ∧ y < 4) → (M 48 y ≠ b) → Q (.inl none) (rd_up M 32 0 2)) (hQ : (0 ≤ y ∧ y < 4) → ¬ (M 48 y ≠ b) → Q (.inl none) (rd_up (rd_up M 32 0 0) 48 y (1 - b))) : rd_G x_M_year 0 [some (.ref 32), some (rd_i y), some (rd_i b), none] [] M 0 Q := by
  have hn := hB.1
  have hm := hB.2.1
  have hn4 := hB.2.2.1
  have hm10 := hB.2.2.2.1
  have hcl : ∀ y : Int, 0 ≤ y → y < 4 → 0 ≤ M 48 y ∧ M 48 y ≤ 1 := hB.2.2.2.2.2.2.2
  refine rd_ildn (pc := 0) d_M_year_0 rfl ?_
  refine rd_i2l (pc := 1) d_M_year_1 ⟨by omega, by omega⟩ ?_
  refine rd_lconst (pc := 2) (v := 0) d_M_year_2 rfl ?_
  refine rd_ldc2 (pc := 3) (v := 3) d_M_year_3 kl_M_105 ?_
  refine rd_callSi (pc := 6) (n' := 0) [_, _, _] d_M_year_6 ml_M_93 (Nat.le_of_ble_eq_true rfl) (Nat.le_of_ble_eq_true rfl) (Nat.le_of_ble_eq_true rfl) rfl rfl rfl (Nat.le_of_ble_eq_true rfl) (Nat.le_of_ble_eq_true rfl) ?_
  refine ev_M_in ⟨by omega, by omega⟩ ⟨by omega, by omega⟩ ⟨by omega, by omega⟩ (fun c6 => ⟨_, rfl, ?_⟩) (fun c6 => ⟨_, rfl, ?_⟩)
  · skip
    refine rd_if_ne (pc := 9) (tgt := 16) d_M_year_9 rfl ⟨by omega, by omega⟩ (fun h9 => ?_) (fun h9 => ?_)
    · skip
      refine rd_iconst (pc := 16) d_M_year_16 ?_
      refine rd_ist3 (pc := 17) d_M_year_17 rfl ?_
      refine rd_aldn (pc := 18) d_M_year_18 rfl ?_
      refine rd_ildn (pc := 19) d_M_year_19 rfl ?_
      refine rd_ildn (pc := 20) d_M_year_20 rfl ?_
      refine rd_if_ne (pc := 21) (tgt := 38) d_M_year_21 rfl ⟨by omega, by omega⟩ (fun h21 => ?_) (fun h21 => ?_)
      · exact absurd h21 (by decide)
      · skip
        have hc := hcl y (by omega) (by omega)
        refine rd_aldn (pc := 24) d_M_year_24 rfl ?_
        refine rd_getr (pc := 25) d_M_year_25 fl_M_57 rfl rfl ?_
        refine rd_ildn (pc := 28) d_M_year_28 rfl ?_
        refine rd_zald (pc := 29) d_M_year_29 rfl (by omega) (by omega) ?_
        refine rd_ildn (pc := 30) d_M_year_30 rfl ?_
        refine rd_icmp_eq (pc := 31) (tgt := 38) d_M_year_31 rfl ⟨by omega, by omega⟩ ⟨by omega, by omega⟩ (fun h31 => ?_) (fun h31 => ?_)
        · skip
          refine rd_iconst (pc := 38) d_M_year_38 ?_
          refine rd_callVi (pc := 39) (n' := 0) [_, _] d_M_year_39 ml_M_107 rfl (Nat.le_of_ble_eq_true rfl) (Nat.le_of_ble_eq_true rfl) (Nat.le_of_ble_eq_true rfl) rfl rfl rfl (Nat.le_of_ble_eq_true rfl) (Nat.le_of_ble_eq_true rfl) ?_
          refine ev_M_throwing0 ?_
          refine ⟨_, rfl, ?_⟩
          refine rd_if_eq (pc := 42) (tgt := 46) d_M_year_42 rfl ⟨by omega, by omega⟩ (fun h42 => ?_) (fun h42 => ?_)
          · skip
            refine rd_aldn (pc := 46) d_M_year_46 rfl ?_
            refine rd_getr (pc := 47) d_M_year_47 fl_M_57 rfl rfl ?_
            refine rd_ildn (pc := 50) d_M_year_50 rfl ?_
            refine rd_ildn (pc := 51) d_M_year_51 rfl ?_
            refine rd_if_ne (pc := 52) (tgt := 59) d_M_year_52 rfl ⟨by omega, by omega⟩ (fun h52 => ?_) (fun h52 => ?_)
            · skip
              refine rd_iconst (pc := 59) d_M_year_59 ?_
              refine rd_zast (pc := 60) d_M_year_60 rfl (by omega) (by omega) (by omega) ?_
              exact rd_vret (pc := 61) d_M_year_61 rfl (Nat.le_of_ble_eq_true rfl) (by first | (have hb1 : b = 0 := (by omega); have hq := hQ (by omega) (by omega); rw [hb1] at hq; exact hq) | (have hb1 : b = 1 := (by omega); have hq := hQ (by omega) (by omega); rw [hb1] at hq; exact hq))
            · skip
              refine rd_iconst (pc := 55) d_M_year_55 ?_
              refine rd_goto (pc := 56) (tgt := 60) d_M_year_56 rfl ?_
              refine rd_zast (pc := 60) d_M_year_60 rfl (by omega) (by omega) (by omega) ?_
              exact rd_vret (pc := 61) d_M_year_61 rfl (Nat.le_of_ble_eq_true rfl) (by first | (have hb1 : b = 0 := (by omega); have hq := hQ (by omega) (by omega); rw [hb1] at hq; exact hq) | (have hb1 : b = 1 := (by omega); have hq := hQ (by omega) (by omega); rw [hb1] at hq; exact hq))
          · exact absurd h42 (by decide)
        · skip
          refine rd_iconst (pc := 34) d_M_year_34 ?_
          refine rd_goto (pc := 35) (tgt := 39) d_M_year_35 rfl ?_
          refine rd_callVi (pc := 39) (n' := 0) [_, _] d_M_year_39 ml_M_107 rfl (Nat.le_of_ble_eq_true rfl) (Nat.le_of_ble_eq_true rfl) (Nat.le_of_ble_eq_true rfl) rfl rfl rfl (Nat.le_of_ble_eq_true rfl) (Nat.le_of_ble_eq_true rfl) ?_
          refine ev_M_throwing2 ?_
          refine ⟨_, rfl, ?_⟩
          refine rd_if_eq (pc := 42) (tgt := 46) d_M_year_42 rfl ⟨by omega, by omega⟩ (fun h42 => ?_) (fun h42 => ?_)
          · exact absurd h42 (by decide)
          · skip
            exact rd_vret (pc := 45) d_M_year_45 rfl (Nat.le_of_ble_eq_true rfl) (by first | exact hA (by omega) | exact hS (by omega) (by omega))
    · exact absurd h9 (by decide)
  · skip
    refine rd_if_ne (pc := 9) (tgt := 16) d_M_year_9 rfl ⟨by omega, by omega⟩ (fun h9 => ?_) (fun h9 => ?_)
    · exact absurd h9 (by decide)
    · skip
      refine rd_iconst (pc := 12) d_M_year_12 ?_
      refine rd_goto (pc := 13) (tgt := 17) d_M_year_13 rfl ?_
      refine rd_ist3 (pc := 17) d_M_year_17 rfl ?_
      refine rd_aldn (pc := 18) d_M_year_18 rfl ?_
      refine rd_ildn (pc := 19) d_M_year_19 rfl ?_
      refine rd_ildn (pc := 20) d_M_year_20 rfl ?_
      refine rd_if_ne (pc := 21) (tgt := 38) d_M_year_21 rfl ⟨by omega, by omega⟩ (fun h21 => ?_) (fun h21 => ?_)
      · skip
        refine rd_iconst (pc := 38) d_M_year_38 ?_
        refine rd_callVi (pc := 39) (n' := 0) [_, _] d_M_year_39 ml_M_107 rfl (Nat.le_of_ble_eq_true rfl) (Nat.le_of_ble_eq_true rfl) (Nat.le_of_ble_eq_true rfl) rfl rfl rfl (Nat.le_of_ble_eq_true rfl) (Nat.le_of_ble_eq_true rfl) ?_
        refine ev_M_throwing1 ?_
        refine ⟨_, rfl, ?_⟩
        refine rd_if_eq (pc := 42) (tgt := 46) d_M_year_42 rfl ⟨by omega, by omega⟩ (fun h42 => ?_) (fun h42 => ?_)
        · exact absurd h42 (by decide)
        · skip
          exact rd_vret (pc := 45) d_M_year_45 rfl (Nat.le_of_ble_eq_true rfl) (by first | exact hA (by omega) | exact hS (by omega) (by omega))
      · exact absurd h21 (by decide)

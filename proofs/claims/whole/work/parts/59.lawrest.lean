/-! the law: claim, dissolve, whatIf, year -/
theorem rd_up_329 {M : rd_M} {v i : Int} (h : i ≠ 9) : rd_up M 32 9 v 32 i = M 32 i := by rw [rd_up_at, if_neg h]
theorem rd_up_3215 {M : rd_M} {v i : Int} (h : i ≠ 15) : rd_up M 32 15 v 32 i = M 32 i := by rw [rd_up_at, if_neg h]
set_option maxHeartbeats 4000000 in
set_option maxRecDepth 100000 in
theorem lw_claim {Ls n0 n nt : Nat} {xs : Int → Int} {o : Int → Int} {i : Int} {M : rd_M} {Q : rd_R → rd_M → Prop} (hx : ∀ j, rd_I (xs j)) (h : k_R M n nt o) (hn0 : n0 + 1 ≤ 1110) (i0 : 0 ≤ i) (i1 : i + 6 ≤ Ls) (hX : ∀ (M' : rd_M) (n' nt' : Nat) (o' : Int → Int), k_R M' n' nt' o' → rd_G (x_L_law Ls xs) 1220 [some (.ref 999), some (.ref 0), some (.ref 32), some (.ref 58), some (rd_i i), none, none, none] [] M' (n0 + 1) Q) : rd_G (x_L_law Ls xs) 396 [some (.ref 999), some (.ref 0), some (.ref 32), some (.ref 58), some (rd_i i), none, none, none] [] M n0 Q := by
  have hI := h.1.1
  have hn2 := h.1.2.2.1
  have hn3 := h.1.2.2.2.1
  have hH := h.1.2.2.2.2
  have hBc := h.1
  have E5 := h.2.2.2.2.1
  have E6 := h.2.2.2.2.2.1
  have E7 := h.e7
  have E8 := h.e8
  have E9 := h.e9
  have E10 := h.e10
  have E11 := h.e11
  have E12 := h.e12
  have E13 := h.e13
  have E14 := h.e14
  have E16 := h.e16
  have E17 := h.e17
  have E18 := h.e18
  have E19 := h.e19
  have E20 := h.e20
  have E21 := h.e21
  have E22 := h.e22
  refine rd_aldn (pc := 396) d_L_law_396 rfl ?_
  refine rd_aldn (pc := 397) d_L_law_397 rfl ?_
  refine rd_ild (pc := 398) d_L_law_398 rfl ?_
  refine rd_iconst (pc := 400) d_L_law_400 ?_
  refine rd_iadd (pc := 401) d_L_law_401 ?_
  refine rd_sld (pc := 402) d_L_law_402 rfl (by omega) (by omega) ?_
  refine rd_aldn (pc := 403) d_L_law_403 rfl ?_
  refine rd_ild (pc := 404) d_L_law_404 rfl ?_
  refine rd_iconst (pc := 406) d_L_law_406 ?_
  refine rd_iadd (pc := 407) d_L_law_407 ?_
  refine rd_sld (pc := 408) d_L_law_408 rfl (by omega) (by omega) ?_
  refine rd_aldn (pc := 409) d_L_law_409 rfl ?_
  refine rd_ild (pc := 410) d_L_law_410 rfl ?_
  refine rd_iconst (pc := 412) d_L_law_412 ?_
  refine rd_iadd (pc := 413) d_L_law_413 ?_
  refine rd_sld (pc := 414) d_L_law_414 rfl (by omega) (by omega) ?_
  refine rd_aldn (pc := 415) d_L_law_415 rfl ?_
  refine rd_callSi (pc := 416) (n' := n0 + 1) [_, _, _, _, _] d_L_law_416 ml_L_100 (Nat.le_of_ble_eq_true rfl) (Nat.le_of_ble_eq_true rfl) hn0 rfl rfl rfl (Nat.le_of_ble_eq_true rfl) (Nat.le_of_ble_eq_true rfl) ?_
  refine ev_L_claim hI hn2 hH (hx _) (hx _) (hx _) (fun z => ⟨_, rfl, ?_⟩) (fun z1 z2 => ⟨_, rfl, ?_⟩) (fun z1 z2 M1 o1 a1 a2 a3 a4 a5 a6 a7 => ⟨_, rfl, ?_⟩)
  · skip
    refine rd_ist5 (pc := 419) d_L_law_419 rfl ?_
    refine rd_aldn (pc := 421) d_L_law_421 rfl ?_
    refine rd_aldn (pc := 422) d_L_law_422 rfl ?_
    refine rd_ild (pc := 423) d_L_law_423 rfl ?_
    refine rd_iconst (pc := 425) d_L_law_425 ?_
    refine rd_iadd (pc := 426) d_L_law_426 ?_
    refine rd_sld (pc := 427) d_L_law_427 rfl (by omega) (by omega) ?_
    refine rd_aldn (pc := 428) d_L_law_428 rfl ?_
    refine rd_ild (pc := 429) d_L_law_429 rfl ?_
    refine rd_iconst (pc := 431) d_L_law_431 ?_
    refine rd_iadd (pc := 432) d_L_law_432 ?_
    refine rd_sld (pc := 433) d_L_law_433 rfl (by omega) (by omega) ?_
    refine rd_aldn (pc := 434) d_L_law_434 rfl ?_
    refine rd_ild (pc := 435) d_L_law_435 rfl ?_
    refine rd_iconst (pc := 437) d_L_law_437 ?_
    refine rd_iadd (pc := 438) d_L_law_438 ?_
    refine rd_sld (pc := 439) d_L_law_439 rfl (by omega) (by omega) ?_
    refine rd_callVi (pc := 440) (n' := n0 + 1) [_, _, _] d_L_law_440 ml_L_103 rfl (Nat.le_of_ble_eq_true rfl) (Nat.le_of_ble_eq_true rfl) hn0 rfl rfl rfl (Nat.le_of_ble_eq_true rfl) (Nat.le_of_ble_eq_true rfl) ?_
    refine ev_M_claim h.r (hx _) (hx _) (hx _) (fun w => ⟨_, rfl, ?_⟩) (fun w1 w2 => ⟨_, rfl, ?_⟩) (fun w1 w2  => ⟨_, rfl, ?_⟩)
    · skip
      refine rd_ist6 (pc := 443) d_L_law_443 rfl ?_
      refine rd_aldn (pc := 445) d_L_law_445 rfl ?_
      refine rd_callVi (pc := 446) (n' := n0 + 1) [] d_L_law_446 ml_L_85 rfl (Nat.le_of_ble_eq_true rfl) (Nat.le_of_ble_eq_true rfl) hn0 rfl rfl rfl (Nat.le_of_ble_eq_true rfl) (Nat.le_of_ble_eq_true rfl) ?_
      refine ev_M_thrown ?_
      refine ⟨_, rfl, ?_⟩
      try simp (decide := true) only [rd_up_app, rd_up_hit, rd_up_32]
      refine rd_ild (pc := 449) d_L_law_449 rfl ?_
      refine rd_icmp_eq (pc := 451) (tgt := 456) d_L_law_451 rfl ⟨by omega, by omega⟩ ⟨by omega, by omega⟩ (fun h451 => ?_) (fun h451 => ?_)
      · skip
        refine rd_ild (pc := 456) d_L_law_456 rfl ?_
        refine rd_if_ne (pc := 458) (tgt := 473) d_L_law_458 rfl ⟨by omega, by omega⟩ (fun h458 => ?_) (fun h458 => ?_)
        · skip
          refine rd_goto (pc := 473) (tgt := 1220) d_L_law_473 rfl ?_
          refine rd_weak (L' := [some (.ref 999), some (.ref 0), some (.ref 32), some (.ref 58), some (rd_i i), none, none, none]) (by simp [rd_le]) ?_
          exact hX _ _ _ _ (h.th)
        · exact absurd h458 (by decide)
      · skip
        exfalso; omega
    · skip
      exfalso
      simp (decide := true) only [rd_up_app, rd_up_32, E5, E6, E7, E8, E9, E10, E11, E12, E13, E14, E16, E17, E18, E19, E20, E21, E22, hn2, hn3] at *
      omega
    · skip
      exfalso
      simp (decide := true) only [rd_up_app, rd_up_32, E5, E6, E7, E8, E9, E10, E11, E12, E13, E14, E16, E17, E18, E19, E20, E21, E22, hn2, hn3] at *
      omega
  · skip
    refine rd_ist5 (pc := 419) d_L_law_419 rfl ?_
    refine rd_aldn (pc := 421) d_L_law_421 rfl ?_
    refine rd_aldn (pc := 422) d_L_law_422 rfl ?_
    refine rd_ild (pc := 423) d_L_law_423 rfl ?_
    refine rd_iconst (pc := 425) d_L_law_425 ?_
    refine rd_iadd (pc := 426) d_L_law_426 ?_
    refine rd_sld (pc := 427) d_L_law_427 rfl (by omega) (by omega) ?_
    refine rd_aldn (pc := 428) d_L_law_428 rfl ?_
    refine rd_ild (pc := 429) d_L_law_429 rfl ?_
    refine rd_iconst (pc := 431) d_L_law_431 ?_
    refine rd_iadd (pc := 432) d_L_law_432 ?_
    refine rd_sld (pc := 433) d_L_law_433 rfl (by omega) (by omega) ?_
    refine rd_aldn (pc := 434) d_L_law_434 rfl ?_
    refine rd_ild (pc := 435) d_L_law_435 rfl ?_
    refine rd_iconst (pc := 437) d_L_law_437 ?_
    refine rd_iadd (pc := 438) d_L_law_438 ?_
    refine rd_sld (pc := 439) d_L_law_439 rfl (by omega) (by omega) ?_
    refine rd_callVi (pc := 440) (n' := n0 + 1) [_, _, _] d_L_law_440 ml_L_103 rfl (Nat.le_of_ble_eq_true rfl) (Nat.le_of_ble_eq_true rfl) hn0 rfl rfl rfl (Nat.le_of_ble_eq_true rfl) (Nat.le_of_ble_eq_true rfl) ?_
    refine ev_M_claim h.r (hx _) (hx _) (hx _) (fun w => ⟨_, rfl, ?_⟩) (fun w1 w2 => ⟨_, rfl, ?_⟩) (fun w1 w2  => ⟨_, rfl, ?_⟩)
    · skip
      exfalso
      simp (decide := true) only [rd_up_app, rd_up_32, E5, E6, E7, E8, E9, E10, E11, E12, E13, E14, E16, E17, E18, E19, E20, E21, E22, hn2, hn3] at *
      omega
    · skip
      refine rd_ist6 (pc := 443) d_L_law_443 rfl ?_
      refine rd_aldn (pc := 445) d_L_law_445 rfl ?_
      refine rd_callVi (pc := 446) (n' := n0 + 1) [] d_L_law_446 ml_L_85 rfl (Nat.le_of_ble_eq_true rfl) (Nat.le_of_ble_eq_true rfl) hn0 rfl rfl rfl (Nat.le_of_ble_eq_true rfl) (Nat.le_of_ble_eq_true rfl) ?_
      refine ev_M_thrown ?_
      refine ⟨_, rfl, ?_⟩
      try simp (decide := true) only [rd_up_app, rd_up_hit, rd_up_32]
      refine rd_ild (pc := 449) d_L_law_449 rfl ?_
      refine rd_icmp_eq (pc := 451) (tgt := 456) d_L_law_451 rfl ⟨by omega, by omega⟩ ⟨by omega, by omega⟩ (fun h451 => ?_) (fun h451 => ?_)
      · skip
        refine rd_ild (pc := 456) d_L_law_456 rfl ?_
        refine rd_if_ne (pc := 458) (tgt := 473) d_L_law_458 rfl ⟨by omega, by omega⟩ (fun h458 => ?_) (fun h458 => ?_)
        · skip
          refine rd_goto (pc := 473) (tgt := 1220) d_L_law_473 rfl ?_
          refine rd_weak (L' := [some (.ref 999), some (.ref 0), some (.ref 32), some (.ref 58), some (rd_i i), none, none, none]) (by simp [rd_le]) ?_
          exact hX _ _ _ _ (h.th)
        · exact absurd h458 (by decide)
      · skip
        exfalso; omega
    · skip
      exfalso
      simp (decide := true) only [rd_up_app, rd_up_32, E5, E6, E7, E8, E9, E10, E11, E12, E13, E14, E16, E17, E18, E19, E20, E21, E22, hn2, hn3] at *
      omega
  · skip
    refine rd_ist5 (pc := 419) d_L_law_419 rfl ?_
    refine rd_aldn (pc := 421) d_L_law_421 rfl ?_
    refine rd_aldn (pc := 422) d_L_law_422 rfl ?_
    refine rd_ild (pc := 423) d_L_law_423 rfl ?_
    refine rd_iconst (pc := 425) d_L_law_425 ?_
    refine rd_iadd (pc := 426) d_L_law_426 ?_
    refine rd_sld (pc := 427) d_L_law_427 rfl (by omega) (by omega) ?_
    refine rd_aldn (pc := 428) d_L_law_428 rfl ?_
    refine rd_ild (pc := 429) d_L_law_429 rfl ?_
    refine rd_iconst (pc := 431) d_L_law_431 ?_
    refine rd_iadd (pc := 432) d_L_law_432 ?_
    refine rd_sld (pc := 433) d_L_law_433 rfl (by omega) (by omega) ?_
    refine rd_aldn (pc := 434) d_L_law_434 rfl ?_
    refine rd_ild (pc := 435) d_L_law_435 rfl ?_
    refine rd_iconst (pc := 437) d_L_law_437 ?_
    refine rd_iadd (pc := 438) d_L_law_438 ?_
    refine rd_sld (pc := 439) d_L_law_439 rfl (by omega) (by omega) ?_
    have hkp : ∀ q, 32 ≤ q → q ≤ 48 → rd_up M1 58 0 n q = M q := fun q qa qb => by rw [rd_up_ne (by omega)]; exact a1 q (by omega) (by omega) (by omega) (by omega) (by omega)
    have c33 := a1 33 (by decide) (by decide) (by decide) (by decide) (by decide)
    have c35 := a1 35 (by decide) (by decide) (by decide) (by decide) (by decide)
    have c48 := a1 48 (by decide) (by decide) (by decide) (by decide) (by decide)
    refine rd_callVi (pc := 440) (n' := n0 + 1) [_, _, _] d_L_law_440 ml_L_103 rfl (Nat.le_of_ble_eq_true rfl) (Nat.le_of_ble_eq_true rfl) hn0 rfl rfl rfl (Nat.le_of_ble_eq_true rfl) (Nat.le_of_ble_eq_true rfl) ?_
    refine ev_M_claim (h.r.keep hkp) (hx _) (hx _) (hx _) (fun w => ⟨_, rfl, ?_⟩) (fun w1 w2 => ⟨_, rfl, ?_⟩) (fun w1 w2  => ⟨_, rfl, ?_⟩)
    · skip
      exfalso
      simp (decide := true) only [rd_up_app, rd_up_32, E5, E6, E7, E8, E9, E10, E11, E12, E13, E14, E16, E17, E18, E19, E20, E21, E22, hn2, hn3, c33, c35, c48] at *
      omega
    · skip
      exfalso
      simp (decide := true) only [rd_up_app, rd_up_32, E5, E6, E7, E8, E9, E10, E11, E12, E13, E14, E16, E17, E18, E19, E20, E21, E22, hn2, hn3, c33, c35, c48] at *
      omega
    · skip
      refine rd_ist6 (pc := 443) d_L_law_443 rfl ?_
      refine rd_aldn (pc := 445) d_L_law_445 rfl ?_
      refine rd_callVi (pc := 446) (n' := n0 + 1) [] d_L_law_446 ml_L_85 rfl (Nat.le_of_ble_eq_true rfl) (Nat.le_of_ble_eq_true rfl) hn0 rfl rfl rfl (Nat.le_of_ble_eq_true rfl) (Nat.le_of_ble_eq_true rfl) ?_
      refine ev_M_thrown ?_
      refine ⟨_, rfl, ?_⟩
      try simp (decide := true) only [rd_up_app, rd_up_hit, rd_up_32, rd_up_329]
      refine rd_ild (pc := 449) d_L_law_449 rfl ?_
      refine rd_icmp_eq (pc := 451) (tgt := 456) d_L_law_451 rfl ⟨by omega, by omega⟩ ⟨by omega, by omega⟩ (fun h451 => ?_) (fun h451 => ?_)
      · skip
        refine rd_ild (pc := 456) d_L_law_456 rfl ?_
        refine rd_if_ne (pc := 458) (tgt := 473) d_L_law_458 rfl ⟨by omega, by omega⟩ (fun h458 => ?_) (fun h458 => ?_)
        · exact absurd h458 (by decide)
        · skip
          refine rd_aldn (pc := 461) d_L_law_461 rfl ?_
          refine rd_iconst (pc := 462) d_L_law_462 ?_
          refine rd_lald (pc := 463) d_L_law_463 rfl (by omega) (by omega) ?_
          try simp (decide := true) only [rd_up_app, rd_up_hit, rd_up_32, rd_up_329]
          refine rd_ild (pc := 464) d_L_law_464 rfl ?_
          refine rd_i2l (pc := 466) d_L_law_466 ⟨by omega, by omega⟩ ?_
          refine rd_lcmpE (pc := 467) (tgt := 473) d_L_law_467 d_L_law_468 rfl (by omega) ?_
          refine rd_goto (pc := 473) (tgt := 1220) d_L_law_473 rfl ?_
          refine rd_weak (L' := [some (.ref 999), some (.ref 0), some (.ref 32), some (.ref 58), some (rd_i i), none, none, none]) (by simp [rd_le]) ?_
          exact hX _ _ _ _ (h.claim (by omega) ⟨by omega, by omega⟩ ⟨by omega, by omega⟩ ⟨by omega, by omega⟩ a1 a2 a3 a4 a5 a6 a7)
      · skip
        exfalso; omega
set_option maxHeartbeats 4000000 in
set_option maxRecDepth 100000 in
theorem lw_whatIf {Ls n0 n nt : Nat} {xs : Int → Int} {o : Int → Int} {i : Int} {M : rd_M} {Q : rd_R → rd_M → Prop} (hx : ∀ j, rd_I (xs j)) (h : k_R M n nt o) (hn0 : n0 + 1 ≤ 1110) (i0 : 0 ≤ i) (i1 : i + 6 ≤ Ls) (hX : ∀ (M' : rd_M) (n' nt' : Nat) (o' : Int → Int), k_R M' n' nt' o' → rd_G (x_L_law Ls xs) 1220 [some (.ref 999), some (.ref 0), some (.ref 32), some (.ref 58), some (rd_i i), none, none, none] [] M' (n0 + 1) Q) : rd_G (x_L_law Ls xs) 1021 [some (.ref 999), some (.ref 0), some (.ref 32), some (.ref 58), some (rd_i i), none, none, none] [] M n0 Q := by
  have hI := h.1.1
  have hn2 := h.1.2.2.1
  have hn3 := h.1.2.2.2.1
  have hH := h.1.2.2.2.2
  have hBc := h.1
  have E5 := h.2.2.2.2.1
  have E6 := h.2.2.2.2.2.1
  have E7 := h.e7
  have E8 := h.e8
  have E9 := h.e9
  have E10 := h.e10
  have E11 := h.e11
  have E12 := h.e12
  have E13 := h.e13
  have E14 := h.e14
  have E16 := h.e16
  have E17 := h.e17
  have E18 := h.e18
  have E19 := h.e19
  have E20 := h.e20
  have E21 := h.e21
  have E22 := h.e22
  refine rd_aldn (pc := 1021) d_L_law_1021 rfl ?_
  refine rd_aldn (pc := 1022) d_L_law_1022 rfl ?_
  refine rd_ild (pc := 1023) d_L_law_1023 rfl ?_
  refine rd_iconst (pc := 1025) d_L_law_1025 ?_
  refine rd_iadd (pc := 1026) d_L_law_1026 ?_
  refine rd_sld (pc := 1027) d_L_law_1027 rfl (by omega) (by omega) ?_
  refine rd_aldn (pc := 1028) d_L_law_1028 rfl ?_
  refine rd_ild (pc := 1029) d_L_law_1029 rfl ?_
  refine rd_iconst (pc := 1031) d_L_law_1031 ?_
  refine rd_iadd (pc := 1032) d_L_law_1032 ?_
  refine rd_sld (pc := 1033) d_L_law_1033 rfl (by omega) (by omega) ?_
  refine rd_aldn (pc := 1034) d_L_law_1034 rfl ?_
  refine rd_ild (pc := 1035) d_L_law_1035 rfl ?_
  refine rd_iconst (pc := 1037) d_L_law_1037 ?_
  refine rd_iadd (pc := 1038) d_L_law_1038 ?_
  refine rd_sld (pc := 1039) d_L_law_1039 rfl (by omega) (by omega) ?_
  refine rd_aldn (pc := 1040) d_L_law_1040 rfl ?_
  refine rd_callSi (pc := 1041) (n' := n0 + 1) [_, _, _, _, _] d_L_law_1041 ml_L_134 (Nat.le_of_ble_eq_true rfl) (Nat.le_of_ble_eq_true rfl) hn0 rfl rfl rfl (Nat.le_of_ble_eq_true rfl) (Nat.le_of_ble_eq_true rfl) ?_
  refine ev_L_whatIf hBc (hx _) (hx _) (hx _) (fun z => ⟨_, rfl, ?_⟩) (fun z1 z2 => ⟨_, rfl, ?_⟩) (fun z1 z2 M1 Z v a1 a2 a3 a4 => ⟨_, rfl, ?_⟩)
  · skip
    refine rd_ist5 (pc := 1044) d_L_law_1044 rfl ?_
    refine rd_aldn (pc := 1046) d_L_law_1046 rfl ?_
    refine rd_aldn (pc := 1047) d_L_law_1047 rfl ?_
    refine rd_ild (pc := 1048) d_L_law_1048 rfl ?_
    refine rd_iconst (pc := 1050) d_L_law_1050 ?_
    refine rd_iadd (pc := 1051) d_L_law_1051 ?_
    refine rd_sld (pc := 1052) d_L_law_1052 rfl (by omega) (by omega) ?_
    refine rd_aldn (pc := 1053) d_L_law_1053 rfl ?_
    refine rd_ild (pc := 1054) d_L_law_1054 rfl ?_
    refine rd_iconst (pc := 1056) d_L_law_1056 ?_
    refine rd_iadd (pc := 1057) d_L_law_1057 ?_
    refine rd_sld (pc := 1058) d_L_law_1058 rfl (by omega) (by omega) ?_
    refine rd_aldn (pc := 1059) d_L_law_1059 rfl ?_
    refine rd_ild (pc := 1060) d_L_law_1060 rfl ?_
    refine rd_iconst (pc := 1062) d_L_law_1062 ?_
    refine rd_iadd (pc := 1063) d_L_law_1063 ?_
    refine rd_sld (pc := 1064) d_L_law_1064 rfl (by omega) (by omega) ?_
    refine rd_callVi (pc := 1065) (n' := n0 + 1) [_, _, _] d_L_law_1065 ml_L_136 rfl (Nat.le_of_ble_eq_true rfl) (Nat.le_of_ble_eq_true rfl) hn0 rfl rfl rfl (Nat.le_of_ble_eq_true rfl) (Nat.le_of_ble_eq_true rfl) ?_
    refine ev_M_whatIf h.r h.T (hx _) (hx _) (hx _) (fun w => ⟨_, rfl, ?_⟩) (fun w1 w2 => ⟨_, rfl, ?_⟩) (fun w1 w2 M2 Z' v' b1 b2 b3 b4 b5 => ⟨_, rfl, ?_⟩)
    · skip
      refine rd_ist6 (pc := 1068) d_L_law_1068 rfl ?_
      refine rd_aldn (pc := 1070) d_L_law_1070 rfl ?_
      refine rd_callVi (pc := 1071) (n' := n0 + 1) [] d_L_law_1071 ml_L_85 rfl (Nat.le_of_ble_eq_true rfl) (Nat.le_of_ble_eq_true rfl) hn0 rfl rfl rfl (Nat.le_of_ble_eq_true rfl) (Nat.le_of_ble_eq_true rfl) ?_
      refine ev_M_thrown ?_
      refine ⟨_, rfl, ?_⟩
      try simp (decide := true) only [rd_up_app, rd_up_hit, rd_up_32]
      refine rd_ild (pc := 1074) d_L_law_1074 rfl ?_
      refine rd_icmp_eq (pc := 1076) (tgt := 1081) d_L_law_1076 rfl ⟨by omega, by omega⟩ ⟨by omega, by omega⟩ (fun h1076 => ?_) (fun h1076 => ?_)
      · skip
        refine rd_ild (pc := 1081) d_L_law_1081 rfl ?_
        refine rd_if_ne (pc := 1083) (tgt := 1098) d_L_law_1083 rfl ⟨by omega, by omega⟩ (fun h1083 => ?_) (fun h1083 => ?_)
        · skip
          refine rd_goto (pc := 1098) (tgt := 1220) d_L_law_1098 rfl ?_
          refine rd_weak (L' := [some (.ref 999), some (.ref 0), some (.ref 32), some (.ref 58), some (rd_i i), none, none, none]) (by simp [rd_le]) ?_
          exact hX _ _ _ _ (h.th)
        · exact absurd h1083 (by decide)
      · skip
        exfalso; omega
    · skip
      exfalso
      simp (decide := true) only [rd_up_app, rd_up_32, E5, E6, E7, E8, E9, E10, E11, E12, E13, E14, E16, E17, E18, E19, E20, E21, E22, hn2, hn3] at *
      omega
    · skip
      exfalso
      simp (decide := true) only [rd_up_app, rd_up_32, E5, E6, E7, E8, E9, E10, E11, E12, E13, E14, E16, E17, E18, E19, E20, E21, E22, hn2, hn3] at *
      omega
  · skip
    refine rd_ist5 (pc := 1044) d_L_law_1044 rfl ?_
    refine rd_aldn (pc := 1046) d_L_law_1046 rfl ?_
    refine rd_aldn (pc := 1047) d_L_law_1047 rfl ?_
    refine rd_ild (pc := 1048) d_L_law_1048 rfl ?_
    refine rd_iconst (pc := 1050) d_L_law_1050 ?_
    refine rd_iadd (pc := 1051) d_L_law_1051 ?_
    refine rd_sld (pc := 1052) d_L_law_1052 rfl (by omega) (by omega) ?_
    refine rd_aldn (pc := 1053) d_L_law_1053 rfl ?_
    refine rd_ild (pc := 1054) d_L_law_1054 rfl ?_
    refine rd_iconst (pc := 1056) d_L_law_1056 ?_
    refine rd_iadd (pc := 1057) d_L_law_1057 ?_
    refine rd_sld (pc := 1058) d_L_law_1058 rfl (by omega) (by omega) ?_
    refine rd_aldn (pc := 1059) d_L_law_1059 rfl ?_
    refine rd_ild (pc := 1060) d_L_law_1060 rfl ?_
    refine rd_iconst (pc := 1062) d_L_law_1062 ?_
    refine rd_iadd (pc := 1063) d_L_law_1063 ?_
    refine rd_sld (pc := 1064) d_L_law_1064 rfl (by omega) (by omega) ?_
    refine rd_callVi (pc := 1065) (n' := n0 + 1) [_, _, _] d_L_law_1065 ml_L_136 rfl (Nat.le_of_ble_eq_true rfl) (Nat.le_of_ble_eq_true rfl) hn0 rfl rfl rfl (Nat.le_of_ble_eq_true rfl) (Nat.le_of_ble_eq_true rfl) ?_
    refine ev_M_whatIf h.r h.T (hx _) (hx _) (hx _) (fun w => ⟨_, rfl, ?_⟩) (fun w1 w2 => ⟨_, rfl, ?_⟩) (fun w1 w2 M2 Z' v' b1 b2 b3 b4 b5 => ⟨_, rfl, ?_⟩)
    · skip
      exfalso
      simp (decide := true) only [rd_up_app, rd_up_32, E5, E6, E7, E8, E9, E10, E11, E12, E13, E14, E16, E17, E18, E19, E20, E21, E22, hn2, hn3] at *
      omega
    · skip
      refine rd_ist6 (pc := 1068) d_L_law_1068 rfl ?_
      refine rd_aldn (pc := 1070) d_L_law_1070 rfl ?_
      refine rd_callVi (pc := 1071) (n' := n0 + 1) [] d_L_law_1071 ml_L_85 rfl (Nat.le_of_ble_eq_true rfl) (Nat.le_of_ble_eq_true rfl) hn0 rfl rfl rfl (Nat.le_of_ble_eq_true rfl) (Nat.le_of_ble_eq_true rfl) ?_
      refine ev_M_thrown ?_
      refine ⟨_, rfl, ?_⟩
      try simp (decide := true) only [rd_up_app, rd_up_hit, rd_up_32]
      refine rd_ild (pc := 1074) d_L_law_1074 rfl ?_
      refine rd_icmp_eq (pc := 1076) (tgt := 1081) d_L_law_1076 rfl ⟨by omega, by omega⟩ ⟨by omega, by omega⟩ (fun h1076 => ?_) (fun h1076 => ?_)
      · skip
        refine rd_ild (pc := 1081) d_L_law_1081 rfl ?_
        refine rd_if_ne (pc := 1083) (tgt := 1098) d_L_law_1083 rfl ⟨by omega, by omega⟩ (fun h1083 => ?_) (fun h1083 => ?_)
        · skip
          refine rd_goto (pc := 1098) (tgt := 1220) d_L_law_1098 rfl ?_
          refine rd_weak (L' := [some (.ref 999), some (.ref 0), some (.ref 32), some (.ref 58), some (rd_i i), none, none, none]) (by simp [rd_le]) ?_
          exact hX _ _ _ _ (h.th)
        · exact absurd h1083 (by decide)
      · skip
        exfalso; omega
    · skip
      exfalso
      simp (decide := true) only [rd_up_app, rd_up_32, E5, E6, E7, E8, E9, E10, E11, E12, E13, E14, E16, E17, E18, E19, E20, E21, E22, hn2, hn3] at *
      omega
  · skip
    refine rd_ist5 (pc := 1044) d_L_law_1044 rfl ?_
    refine rd_aldn (pc := 1046) d_L_law_1046 rfl ?_
    refine rd_aldn (pc := 1047) d_L_law_1047 rfl ?_
    refine rd_ild (pc := 1048) d_L_law_1048 rfl ?_
    refine rd_iconst (pc := 1050) d_L_law_1050 ?_
    refine rd_iadd (pc := 1051) d_L_law_1051 ?_
    refine rd_sld (pc := 1052) d_L_law_1052 rfl (by omega) (by omega) ?_
    refine rd_aldn (pc := 1053) d_L_law_1053 rfl ?_
    refine rd_ild (pc := 1054) d_L_law_1054 rfl ?_
    refine rd_iconst (pc := 1056) d_L_law_1056 ?_
    refine rd_iadd (pc := 1057) d_L_law_1057 ?_
    refine rd_sld (pc := 1058) d_L_law_1058 rfl (by omega) (by omega) ?_
    refine rd_aldn (pc := 1059) d_L_law_1059 rfl ?_
    refine rd_ild (pc := 1060) d_L_law_1060 rfl ?_
    refine rd_iconst (pc := 1062) d_L_law_1062 ?_
    refine rd_iadd (pc := 1063) d_L_law_1063 ?_
    refine rd_sld (pc := 1064) d_L_law_1064 rfl (by omega) (by omega) ?_
    have hkp : ∀ q, 32 ≤ q → q ≤ 48 → rd_up M1 58 0 v q = M q := fun q qa qb => by rw [rd_up_ne (by omega)]; exact a1 q (by omega) (by omega)
    have c40 := a1 40 (by decide) (by decide)
    refine rd_callVi (pc := 1065) (n' := n0 + 1) [_, _, _] d_L_law_1065 ml_L_136 rfl (Nat.le_of_ble_eq_true rfl) (Nat.le_of_ble_eq_true rfl) hn0 rfl rfl rfl (Nat.le_of_ble_eq_true rfl) (Nat.le_of_ble_eq_true rfl) ?_
    refine ev_M_whatIf (h.r.keep hkp) (h.T.keep hkp) (hx _) (hx _) (hx _) (fun w => ⟨_, rfl, ?_⟩) (fun w1 w2 => ⟨_, rfl, ?_⟩) (fun w1 w2 M2 Z' v' b1 b2 b3 b4 b5 => ⟨_, rfl, ?_⟩)
    · skip
      exfalso
      simp (decide := true) only [rd_up_app, rd_up_32, E5, E6, E7, E8, E9, E10, E11, E12, E13, E14, E16, E17, E18, E19, E20, E21, E22, hn2, hn3, c40] at *
      omega
    · skip
      exfalso
      simp (decide := true) only [rd_up_app, rd_up_32, E5, E6, E7, E8, E9, E10, E11, E12, E13, E14, E16, E17, E18, E19, E20, E21, E22, hn2, hn3, c40] at *
      omega
    · skip
      rw [r_d_keep hkp] at b3 b4
      rw [← h.2.2.2.1] at b3 b4
      have e58 : M2 58 0 = v := by rw [b1.1 58 (by decide) (by decide), rd_up_hit]
      have hn4 := hI.n hn2
      have hag := sp_run_ag (nt := nt) b3 a2 hn4
      refine rd_ist6 (pc := 1068) d_L_law_1068 rfl ?_
      refine rd_aldn (pc := 1070) d_L_law_1070 rfl ?_
      refine rd_callVi (pc := 1071) (n' := n0 + 1) [] d_L_law_1071 ml_L_85 rfl (Nat.le_of_ble_eq_true rfl) (Nat.le_of_ble_eq_true rfl) hn0 rfl rfl rfl (Nat.le_of_ble_eq_true rfl) (Nat.le_of_ble_eq_true rfl) ?_
      refine ev_M_thrown ?_
      refine ⟨_, rfl, ?_⟩
      try simp (decide := true) only [rd_up_app, rd_up_hit, rd_up_32, b2, e58]
      refine rd_ild (pc := 1074) d_L_law_1074 rfl ?_
      refine rd_icmp_eq (pc := 1076) (tgt := 1081) d_L_law_1076 rfl ⟨by omega, by omega⟩ ⟨by omega, by omega⟩ (fun h1076 => ?_) (fun h1076 => ?_)
      · skip
        refine rd_ild (pc := 1081) d_L_law_1081 rfl ?_
        refine rd_if_ne (pc := 1083) (tgt := 1098) d_L_law_1083 rfl ⟨by omega, by omega⟩ (fun h1083 => ?_) (fun h1083 => ?_)
        · exact absurd h1083 (by decide)
        · skip
          refine rd_aldn (pc := 1086) d_L_law_1086 rfl ?_
          refine rd_iconst (pc := 1087) d_L_law_1087 ?_
          refine rd_lald (pc := 1088) d_L_law_1088 rfl (by omega) (by omega) ?_
          try simp (decide := true) only [rd_up_app, rd_up_hit, rd_up_32, b2, e58]
          refine rd_ild (pc := 1089) d_L_law_1089 rfl ?_
          refine rd_i2l (pc := 1091) d_L_law_1091 ⟨by omega, by omega⟩ ?_
          refine rd_lcmpE (pc := 1092) (tgt := 1098) d_L_law_1092 d_L_law_1093 rfl (by have h3 := hI.2.1; rw [a3, b4]; exact (hag.2.1 (xs (i + 3)) (xs (i + 1)) (by omega) (by omega) (by omega) (by omega) rfl).symm) ?_
          refine rd_goto (pc := 1098) (tgt := 1220) d_L_law_1098 rfl ?_
          refine rd_weak (L' := [some (.ref 999), some (.ref 0), some (.ref 32), some (.ref 58), some (rd_i i), none, none, none]) (by simp [rd_le]) ?_
          exact hX _ _ _ _ (h.ask a1 b1)
      · skip
        exfalso; omega
set_option maxHeartbeats 4000000 in
set_option maxRecDepth 100000 in
theorem lw_dissolve {Ls n0 n nt : Nat} {xs : Int → Int} {o : Int → Int} {i : Int} {M : rd_M} {Q : rd_R → rd_M → Prop} (hx : ∀ j, rd_I (xs j)) (h : k_R M n nt o) (hn0 : n0 + 1 ≤ 1110) (i0 : 0 ≤ i) (i1 : i + 6 ≤ Ls) (hX : ∀ (M' : rd_M) (n' nt' : Nat) (o' : Int → Int), k_R M' n' nt' o' → rd_G (x_L_law Ls xs) 1220 [some (.ref 999), some (.ref 0), some (.ref 32), some (.ref 58), some (rd_i i), none, none, none] [] M' (n0 + 1) Q) : rd_G (x_L_law Ls xs) 560 [some (.ref 999), some (.ref 0), some (.ref 32), some (.ref 58), some (rd_i i), none, none, none] [] M n0 Q := by
  have hI := h.1.1
  have hn2 := h.1.2.2.1
  have hn3 := h.1.2.2.2.1
  have hH := h.1.2.2.2.2
  have hBc := h.1
  have E5 := h.2.2.2.2.1
  have E6 := h.2.2.2.2.2.1
  have E7 := h.e7
  have E8 := h.e8
  have E9 := h.e9
  have E10 := h.e10
  have E11 := h.e11
  have E12 := h.e12
  have E13 := h.e13
  have E14 := h.e14
  have E16 := h.e16
  have E17 := h.e17
  have E18 := h.e18
  have E19 := h.e19
  have E20 := h.e20
  have E21 := h.e21
  have E22 := h.e22
  refine rd_aldn (pc := 560) d_L_law_560 rfl ?_
  refine rd_aldn (pc := 561) d_L_law_561 rfl ?_
  refine rd_ild (pc := 562) d_L_law_562 rfl ?_
  refine rd_iconst (pc := 564) d_L_law_564 ?_
  refine rd_iadd (pc := 565) d_L_law_565 ?_
  refine rd_sld (pc := 566) d_L_law_566 rfl (by omega) (by omega) ?_
  refine rd_aldn (pc := 567) d_L_law_567 rfl ?_
  refine rd_ild (pc := 568) d_L_law_568 rfl ?_
  refine rd_iconst (pc := 570) d_L_law_570 ?_
  refine rd_iadd (pc := 571) d_L_law_571 ?_
  refine rd_sld (pc := 572) d_L_law_572 rfl (by omega) (by omega) ?_
  refine rd_aldn (pc := 573) d_L_law_573 rfl ?_
  refine rd_callSi (pc := 574) (n' := n0 + 1) [_, _, _, _] d_L_law_574 ml_L_111 (Nat.le_of_ble_eq_true rfl) (Nat.le_of_ble_eq_true rfl) hn0 rfl rfl rfl (Nat.le_of_ble_eq_true rfl) (Nat.le_of_ble_eq_true rfl) ?_
  refine ev_L_dissolve hI hn2 (hx _) (hx _) (fun z => ⟨_, rfl, ?_⟩) (fun z1 z2 => ⟨_, rfl, ?_⟩) (fun z1 z2 M1 a1 a2 => ⟨_, rfl, ?_⟩)
  · skip
    refine rd_ist5 (pc := 577) d_L_law_577 rfl ?_
    refine rd_aldn (pc := 579) d_L_law_579 rfl ?_
    refine rd_aldn (pc := 580) d_L_law_580 rfl ?_
    refine rd_ild (pc := 581) d_L_law_581 rfl ?_
    refine rd_iconst (pc := 583) d_L_law_583 ?_
    refine rd_iadd (pc := 584) d_L_law_584 ?_
    refine rd_sld (pc := 585) d_L_law_585 rfl (by omega) (by omega) ?_
    refine rd_aldn (pc := 586) d_L_law_586 rfl ?_
    refine rd_ild (pc := 587) d_L_law_587 rfl ?_
    refine rd_iconst (pc := 589) d_L_law_589 ?_
    refine rd_iadd (pc := 590) d_L_law_590 ?_
    refine rd_sld (pc := 591) d_L_law_591 rfl (by omega) (by omega) ?_
    refine rd_callVi (pc := 592) (n' := n0 + 1) [_, _] d_L_law_592 ml_L_114 rfl (Nat.le_of_ble_eq_true rfl) (Nat.le_of_ble_eq_true rfl) hn0 rfl rfl rfl (Nat.le_of_ble_eq_true rfl) (Nat.le_of_ble_eq_true rfl) ?_
    refine ev_M_dissolve h.r (hx _) (hx _) (fun w => ⟨_, rfl, ?_⟩) (fun w1 w2 => ⟨_, rfl, ?_⟩) (fun w1 w2 M2 b1 b2 => ⟨_, rfl, ?_⟩)
    · skip
      refine rd_ist6 (pc := 595) d_L_law_595 rfl ?_
      refine rd_aldn (pc := 597) d_L_law_597 rfl ?_
      refine rd_callVi (pc := 598) (n' := n0 + 1) [] d_L_law_598 ml_L_85 rfl (Nat.le_of_ble_eq_true rfl) (Nat.le_of_ble_eq_true rfl) hn0 rfl rfl rfl (Nat.le_of_ble_eq_true rfl) (Nat.le_of_ble_eq_true rfl) ?_
      refine ev_M_thrown ?_
      refine ⟨_, rfl, ?_⟩
      try simp (decide := true) only [rd_up_app, rd_up_hit, rd_up_32]
      refine rd_ild (pc := 601) d_L_law_601 rfl ?_
      refine rd_icmp_eq (pc := 603) (tgt := 608) d_L_law_603 rfl ⟨by omega, by omega⟩ ⟨by omega, by omega⟩ (fun h603 => ?_) (fun h603 => ?_)
      · skip
        refine rd_ild (pc := 608) d_L_law_608 rfl ?_
        refine rd_if_ne (pc := 610) (tgt := 625) d_L_law_610 rfl ⟨by omega, by omega⟩ (fun h610 => ?_) (fun h610 => ?_)
        · skip
          refine rd_goto (pc := 625) (tgt := 1220) d_L_law_625 rfl ?_
          refine rd_weak (L' := [some (.ref 999), some (.ref 0), some (.ref 32), some (.ref 58), some (rd_i i), none, none, none]) (by simp [rd_le]) ?_
          exact hX _ _ _ _ (h.th)
        · exact absurd h610 (by decide)
      · skip
        exfalso; omega
    · skip
      exfalso
      simp (decide := true) only [rd_up_app, rd_up_32, E5, E6, E7, E8, E9, E10, E11, E12, E13, E14, E16, E17, E18, E19, E20, E21, E22, hn2, hn3] at *
      omega
    · skip
      exfalso
      simp (decide := true) only [rd_up_app, rd_up_32, E5, E6, E7, E8, E9, E10, E11, E12, E13, E14, E16, E17, E18, E19, E20, E21, E22, hn2, hn3] at *
      omega
  · skip
    refine rd_ist5 (pc := 577) d_L_law_577 rfl ?_
    refine rd_aldn (pc := 579) d_L_law_579 rfl ?_
    refine rd_aldn (pc := 580) d_L_law_580 rfl ?_
    refine rd_ild (pc := 581) d_L_law_581 rfl ?_
    refine rd_iconst (pc := 583) d_L_law_583 ?_
    refine rd_iadd (pc := 584) d_L_law_584 ?_
    refine rd_sld (pc := 585) d_L_law_585 rfl (by omega) (by omega) ?_
    refine rd_aldn (pc := 586) d_L_law_586 rfl ?_
    refine rd_ild (pc := 587) d_L_law_587 rfl ?_
    refine rd_iconst (pc := 589) d_L_law_589 ?_
    refine rd_iadd (pc := 590) d_L_law_590 ?_
    refine rd_sld (pc := 591) d_L_law_591 rfl (by omega) (by omega) ?_
    refine rd_callVi (pc := 592) (n' := n0 + 1) [_, _] d_L_law_592 ml_L_114 rfl (Nat.le_of_ble_eq_true rfl) (Nat.le_of_ble_eq_true rfl) hn0 rfl rfl rfl (Nat.le_of_ble_eq_true rfl) (Nat.le_of_ble_eq_true rfl) ?_
    refine ev_M_dissolve h.r (hx _) (hx _) (fun w => ⟨_, rfl, ?_⟩) (fun w1 w2 => ⟨_, rfl, ?_⟩) (fun w1 w2 M2 b1 b2 => ⟨_, rfl, ?_⟩)
    · skip
      exfalso
      simp (decide := true) only [rd_up_app, rd_up_32, E5, E6, E7, E8, E9, E10, E11, E12, E13, E14, E16, E17, E18, E19, E20, E21, E22, hn2, hn3] at *
      omega
    · skip
      refine rd_ist6 (pc := 595) d_L_law_595 rfl ?_
      refine rd_aldn (pc := 597) d_L_law_597 rfl ?_
      refine rd_callVi (pc := 598) (n' := n0 + 1) [] d_L_law_598 ml_L_85 rfl (Nat.le_of_ble_eq_true rfl) (Nat.le_of_ble_eq_true rfl) hn0 rfl rfl rfl (Nat.le_of_ble_eq_true rfl) (Nat.le_of_ble_eq_true rfl) ?_
      refine ev_M_thrown ?_
      refine ⟨_, rfl, ?_⟩
      try simp (decide := true) only [rd_up_app, rd_up_hit, rd_up_32]
      refine rd_ild (pc := 601) d_L_law_601 rfl ?_
      refine rd_icmp_eq (pc := 603) (tgt := 608) d_L_law_603 rfl ⟨by omega, by omega⟩ ⟨by omega, by omega⟩ (fun h603 => ?_) (fun h603 => ?_)
      · skip
        refine rd_ild (pc := 608) d_L_law_608 rfl ?_
        refine rd_if_ne (pc := 610) (tgt := 625) d_L_law_610 rfl ⟨by omega, by omega⟩ (fun h610 => ?_) (fun h610 => ?_)
        · skip
          refine rd_goto (pc := 625) (tgt := 1220) d_L_law_625 rfl ?_
          refine rd_weak (L' := [some (.ref 999), some (.ref 0), some (.ref 32), some (.ref 58), some (rd_i i), none, none, none]) (by simp [rd_le]) ?_
          exact hX _ _ _ _ (h.th)
        · exact absurd h610 (by decide)
      · skip
        exfalso; omega
    · skip
      exfalso
      simp (decide := true) only [rd_up_app, rd_up_32, E5, E6, E7, E8, E9, E10, E11, E12, E13, E14, E16, E17, E18, E19, E20, E21, E22, hn2, hn3] at *
      omega
  · skip
    refine rd_ist5 (pc := 577) d_L_law_577 rfl ?_
    refine rd_aldn (pc := 579) d_L_law_579 rfl ?_
    refine rd_aldn (pc := 580) d_L_law_580 rfl ?_
    refine rd_ild (pc := 581) d_L_law_581 rfl ?_
    refine rd_iconst (pc := 583) d_L_law_583 ?_
    refine rd_iadd (pc := 584) d_L_law_584 ?_
    refine rd_sld (pc := 585) d_L_law_585 rfl (by omega) (by omega) ?_
    refine rd_aldn (pc := 586) d_L_law_586 rfl ?_
    refine rd_ild (pc := 587) d_L_law_587 rfl ?_
    refine rd_iconst (pc := 589) d_L_law_589 ?_
    refine rd_iadd (pc := 590) d_L_law_590 ?_
    refine rd_sld (pc := 591) d_L_law_591 rfl (by omega) (by omega) ?_
    have hkp : ∀ q, 32 ≤ q → q ≤ 48 → rd_up M1 58 0 (rd_sm (fun k => if sp_dc (c_d M) (xs (i + 1)) (xs (i + 2)) k then 1 else 0) n) q = M q := fun q qa qb => by rw [rd_up_ne (by omega)]; exact a1 q (by omega)
    have c48 := a1 48 (by decide)
    refine rd_callVi (pc := 592) (n' := n0 + 1) [_, _] d_L_law_592 ml_L_114 rfl (Nat.le_of_ble_eq_true rfl) (Nat.le_of_ble_eq_true rfl) hn0 rfl rfl rfl (Nat.le_of_ble_eq_true rfl) (Nat.le_of_ble_eq_true rfl) ?_
    refine ev_M_dissolve (h.r.keep hkp) (hx _) (hx _) (fun w => ⟨_, rfl, ?_⟩) (fun w1 w2 => ⟨_, rfl, ?_⟩) (fun w1 w2 M2 b1 b2 => ⟨_, rfl, ?_⟩)
    · skip
      exfalso
      simp (decide := true) only [rd_up_app, rd_up_32, E5, E6, E7, E8, E9, E10, E11, E12, E13, E14, E16, E17, E18, E19, E20, E21, E22, hn2, hn3, c48] at *
      omega
    · skip
      exfalso
      simp (decide := true) only [rd_up_app, rd_up_32, E5, E6, E7, E8, E9, E10, E11, E12, E13, E14, E16, E17, E18, E19, E20, E21, E22, hn2, hn3, c48] at *
      omega
    · skip
      have hrd : r_d (rd_up M1 58 0 (rd_sm (fun k => if sp_dc (c_d M) (xs (i + 1)) (xs (i + 2)) k then 1 else 0) n)) = c_d M := by rw [r_d_keep hkp, h.2.2.2.1]
      have e58 : M2 58 0 = rd_sm (fun k => if sp_dc (c_d M) (xs (i + 1)) (xs (i + 2)) k then 1 else 0) n := by rw [b1 58 (by decide), rd_up_app (by decide), rd_up_hit]
      have e320 : M2 32 0 = 0 := by rw [b1 32 (by decide), rd_up_hit]
      have hdb := rd_sm_b (f := fun k => if sp_dc (c_d M) (xs (i + 1)) (xs (i + 2)) k then 1 else 0) (A := 0) (B := 1) n (fun _ _ _ => rd_01)
      have hn4 := hI.n hn2
      rw [hrd]
      refine rd_ist6 (pc := 595) d_L_law_595 rfl ?_
      refine rd_aldn (pc := 597) d_L_law_597 rfl ?_
      refine rd_callVi (pc := 598) (n' := n0 + 1) [] d_L_law_598 ml_L_85 rfl (Nat.le_of_ble_eq_true rfl) (Nat.le_of_ble_eq_true rfl) hn0 rfl rfl rfl (Nat.le_of_ble_eq_true rfl) (Nat.le_of_ble_eq_true rfl) ?_
      refine ev_M_thrown ?_
      refine ⟨_, rfl, ?_⟩
      try simp (decide := true) only [rd_up_app, rd_up_hit, rd_up_32, e58, e320]
      refine rd_ild (pc := 601) d_L_law_601 rfl ?_
      refine rd_icmp_eq (pc := 603) (tgt := 608) d_L_law_603 rfl ⟨by omega, by omega⟩ ⟨by omega, by omega⟩ (fun h603 => ?_) (fun h603 => ?_)
      · skip
        refine rd_ild (pc := 608) d_L_law_608 rfl ?_
        refine rd_if_ne (pc := 610) (tgt := 625) d_L_law_610 rfl ⟨by omega, by omega⟩ (fun h610 => ?_) (fun h610 => ?_)
        · exact absurd h610 (by decide)
        · skip
          refine rd_aldn (pc := 613) d_L_law_613 rfl ?_
          refine rd_iconst (pc := 614) d_L_law_614 ?_
          refine rd_lald (pc := 615) d_L_law_615 rfl (by omega) (by omega) ?_
          try simp (decide := true) only [rd_up_app, rd_up_hit, rd_up_32, e58, e320]
          refine rd_ild (pc := 616) d_L_law_616 rfl ?_
          refine rd_i2l (pc := 618) d_L_law_618 ⟨by omega, by omega⟩ ?_
          refine rd_lcmpE (pc := 619) (tgt := 625) d_L_law_619 d_L_law_620 rfl (rfl) ?_
          refine rd_goto (pc := 625) (tgt := 1220) d_L_law_625 rfl ?_
          refine rd_weak (L' := [some (.ref 999), some (.ref 0), some (.ref 32), some (.ref 58), some (rd_i i), none, none, none]) (by simp [rd_le]) ?_
          exact hX _ _ _ _ (h.dissolve a1 a2 b1 b2)
      · skip
        exfalso; omega
set_option maxHeartbeats 4000000 in
set_option maxRecDepth 100000 in
theorem lw_year0 {Ls n0 n nt : Nat} {xs : Int → Int} {o : Int → Int} {i : Int} {M : rd_M} {Q : rd_R → rd_M → Prop} (hx : ∀ j, rd_I (xs j)) (h : k_R M n nt o) (hn0 : n0 + 1 ≤ 1110) (i0 : 0 ≤ i) (i1 : i + 6 ≤ Ls) (hb : (xs (i + 2)) = 0) (hX : ∀ (M' : rd_M) (n' nt' : Nat) (o' : Int → Int), k_R M' n' nt' o' → rd_G (x_L_law Ls xs) 1220 [some (.ref 999), some (.ref 0), some (.ref 32), some (.ref 58), some (rd_i i), none, none, none] [] M' (n0 + 1) Q) : rd_G (x_L_law Ls xs) 1156 [some (.ref 999), some (.ref 0), some (.ref 32), some (.ref 58), some (rd_i i), none, none, none] [] M n0 Q := by
  have hI := h.1.1
  have hn2 := h.1.2.2.1
  have hn3 := h.1.2.2.2.1
  have hH := h.1.2.2.2.2
  have hBc := h.1
  have E5 := h.2.2.2.2.1
  have E6 := h.2.2.2.2.2.1
  have E7 := h.e7
  have E8 := h.e8
  have E9 := h.e9
  have E10 := h.e10
  have E11 := h.e11
  have E12 := h.e12
  have E13 := h.e13
  have E14 := h.e14
  have E16 := h.e16
  have E17 := h.e17
  have E18 := h.e18
  have E19 := h.e19
  have E20 := h.e20
  have E21 := h.e21
  have E22 := h.e22
  refine rd_aldn (pc := 1156) d_L_law_1156 rfl ?_
  refine rd_aldn (pc := 1157) d_L_law_1157 rfl ?_
  refine rd_ild (pc := 1158) d_L_law_1158 rfl ?_
  refine rd_iconst (pc := 1160) d_L_law_1160 ?_
  refine rd_iadd (pc := 1161) d_L_law_1161 ?_
  refine rd_sld (pc := 1162) d_L_law_1162 rfl (by omega) (by omega) ?_
  refine rd_aldn (pc := 1163) d_L_law_1163 rfl ?_
  refine rd_ild (pc := 1164) d_L_law_1164 rfl ?_
  refine rd_iconst (pc := 1166) d_L_law_1166 ?_
  refine rd_iadd (pc := 1167) d_L_law_1167 ?_
  refine rd_sld (pc := 1168) d_L_law_1168 rfl (by omega) (by omega) ?_
  refine rd_if_eq (pc := 1169) (tgt := 1176) d_L_law_1169 rfl (hx _) (fun h1169 => ?_) (fun h1169 => ?_)
  · skip
    refine rd_iconst (pc := 1176) d_L_law_1176 ?_
    refine rd_callSi (pc := 1177) (n' := n0 + 1) [_, _, _] d_L_law_1177 ml_L_140 (Nat.le_of_ble_eq_true rfl) (Nat.le_of_ble_eq_true rfl) hn0 rfl rfl rfl (Nat.le_of_ble_eq_true rfl) (Nat.le_of_ble_eq_true rfl) ?_
    refine ev_L_year hI (hx _) ⟨by decide, by decide⟩ (fun z => ⟨_, rfl, ?_⟩) (fun z1 z2 => ⟨_, rfl, ?_⟩) (fun z1 z2  => ⟨_, rfl, ?_⟩)
    · skip
      refine rd_ist5 (pc := 1180) d_L_law_1180 rfl ?_
      refine rd_aldn (pc := 1182) d_L_law_1182 rfl ?_
      refine rd_aldn (pc := 1183) d_L_law_1183 rfl ?_
      refine rd_ild (pc := 1184) d_L_law_1184 rfl ?_
      refine rd_iconst (pc := 1186) d_L_law_1186 ?_
      refine rd_iadd (pc := 1187) d_L_law_1187 ?_
      refine rd_sld (pc := 1188) d_L_law_1188 rfl (by omega) (by omega) ?_
      refine rd_aldn (pc := 1189) d_L_law_1189 rfl ?_
      refine rd_ild (pc := 1190) d_L_law_1190 rfl ?_
      refine rd_iconst (pc := 1192) d_L_law_1192 ?_
      refine rd_iadd (pc := 1193) d_L_law_1193 ?_
      refine rd_sld (pc := 1194) d_L_law_1194 rfl (by omega) (by omega) ?_
      refine rd_if_eq (pc := 1195) (tgt := 1202) d_L_law_1195 rfl (hx _) (fun h1195 => ?_) (fun h1195 => ?_)
      · skip
        refine rd_iconst (pc := 1202) d_L_law_1202 ?_
        refine rd_callVv (pc := 1203) (n' := n0 + 1) [_, _] d_L_law_1203 ml_L_143 rfl (Nat.le_of_ble_eq_true rfl) (Nat.le_of_ble_eq_true rfl) hn0 rfl rfl rfl (Nat.le_of_ble_eq_true rfl) (Nat.le_of_ble_eq_true rfl) ?_
        refine ev_M_year h.r (hx _) ⟨by decide, by decide⟩ (fun w => ⟨rfl, ?_⟩) (fun w1 w2 => ⟨rfl, ?_⟩) (fun w1 w2  => ⟨rfl, ?_⟩)
        · skip
          refine rd_aldn (pc := 1206) d_L_law_1206 rfl ?_
          refine rd_callVi (pc := 1207) (n' := n0 + 1) [] d_L_law_1207 ml_L_85 rfl (Nat.le_of_ble_eq_true rfl) (Nat.le_of_ble_eq_true rfl) hn0 rfl rfl rfl (Nat.le_of_ble_eq_true rfl) (Nat.le_of_ble_eq_true rfl) ?_
          refine ev_M_thrown ?_
          refine ⟨_, rfl, ?_⟩
          try simp (decide := true) only [rd_up_app, rd_up_hit, rd_up_32]
          refine rd_ild (pc := 1210) d_L_law_1210 rfl ?_
          refine rd_icmp_eq (pc := 1212) (tgt := 1217) d_L_law_1212 rfl ⟨by omega, by omega⟩ ⟨by omega, by omega⟩ (fun h1212 => ?_) (fun h1212 => ?_)
          · skip
            refine rd_goto (pc := 1217) (tgt := 1220) d_L_law_1217 rfl ?_
            refine rd_weak (L' := [some (.ref 999), some (.ref 0), some (.ref 32), some (.ref 58), some (rd_i i), none, none, none]) (by simp [rd_le]) ?_
            exact hX _ _ _ _ (h.th)
          · skip
            exfalso; omega
        · skip
          exfalso
          simp (decide := true) only [rd_up_app, rd_up_32, E5, E6, E7, E8, E9, E10, E11, E12, E13, E14, E16, E17, E18, E19, E20, E21, E22, hn2, hn3] at *
          omega
        · skip
          exfalso
          simp (decide := true) only [rd_up_app, rd_up_32, E5, E6, E7, E8, E9, E10, E11, E12, E13, E14, E16, E17, E18, E19, E20, E21, E22, hn2, hn3] at *
          omega
      · skip
        exact absurd hb h1195
    · skip
      refine rd_ist5 (pc := 1180) d_L_law_1180 rfl ?_
      refine rd_aldn (pc := 1182) d_L_law_1182 rfl ?_
      refine rd_aldn (pc := 1183) d_L_law_1183 rfl ?_
      refine rd_ild (pc := 1184) d_L_law_1184 rfl ?_
      refine rd_iconst (pc := 1186) d_L_law_1186 ?_
      refine rd_iadd (pc := 1187) d_L_law_1187 ?_
      refine rd_sld (pc := 1188) d_L_law_1188 rfl (by omega) (by omega) ?_
      refine rd_aldn (pc := 1189) d_L_law_1189 rfl ?_
      refine rd_ild (pc := 1190) d_L_law_1190 rfl ?_
      refine rd_iconst (pc := 1192) d_L_law_1192 ?_
      refine rd_iadd (pc := 1193) d_L_law_1193 ?_
      refine rd_sld (pc := 1194) d_L_law_1194 rfl (by omega) (by omega) ?_
      refine rd_if_eq (pc := 1195) (tgt := 1202) d_L_law_1195 rfl (hx _) (fun h1195 => ?_) (fun h1195 => ?_)
      · skip
        refine rd_iconst (pc := 1202) d_L_law_1202 ?_
        refine rd_callVv (pc := 1203) (n' := n0 + 1) [_, _] d_L_law_1203 ml_L_143 rfl (Nat.le_of_ble_eq_true rfl) (Nat.le_of_ble_eq_true rfl) hn0 rfl rfl rfl (Nat.le_of_ble_eq_true rfl) (Nat.le_of_ble_eq_true rfl) ?_
        refine ev_M_year h.r (hx _) ⟨by decide, by decide⟩ (fun w => ⟨rfl, ?_⟩) (fun w1 w2 => ⟨rfl, ?_⟩) (fun w1 w2  => ⟨rfl, ?_⟩)
        · skip
          exfalso
          simp (decide := true) only [rd_up_app, rd_up_32, E5, E6, E7, E8, E9, E10, E11, E12, E13, E14, E16, E17, E18, E19, E20, E21, E22, hn2, hn3] at *
          omega
        · skip
          refine rd_aldn (pc := 1206) d_L_law_1206 rfl ?_
          refine rd_callVi (pc := 1207) (n' := n0 + 1) [] d_L_law_1207 ml_L_85 rfl (Nat.le_of_ble_eq_true rfl) (Nat.le_of_ble_eq_true rfl) hn0 rfl rfl rfl (Nat.le_of_ble_eq_true rfl) (Nat.le_of_ble_eq_true rfl) ?_
          refine ev_M_thrown ?_
          refine ⟨_, rfl, ?_⟩
          try simp (decide := true) only [rd_up_app, rd_up_hit, rd_up_32]
          refine rd_ild (pc := 1210) d_L_law_1210 rfl ?_
          refine rd_icmp_eq (pc := 1212) (tgt := 1217) d_L_law_1212 rfl ⟨by omega, by omega⟩ ⟨by omega, by omega⟩ (fun h1212 => ?_) (fun h1212 => ?_)
          · skip
            refine rd_goto (pc := 1217) (tgt := 1220) d_L_law_1217 rfl ?_
            refine rd_weak (L' := [some (.ref 999), some (.ref 0), some (.ref 32), some (.ref 58), some (rd_i i), none, none, none]) (by simp [rd_le]) ?_
            exact hX _ _ _ _ (h.th)
          · skip
            exfalso; omega
        · skip
          exfalso
          simp (decide := true) only [rd_up_app, rd_up_32, E5, E6, E7, E8, E9, E10, E11, E12, E13, E14, E16, E17, E18, E19, E20, E21, E22, hn2, hn3] at *
          omega
      · skip
        exact absurd hb h1195
    · skip
      refine rd_ist5 (pc := 1180) d_L_law_1180 rfl ?_
      refine rd_aldn (pc := 1182) d_L_law_1182 rfl ?_
      refine rd_aldn (pc := 1183) d_L_law_1183 rfl ?_
      refine rd_ild (pc := 1184) d_L_law_1184 rfl ?_
      refine rd_iconst (pc := 1186) d_L_law_1186 ?_
      refine rd_iadd (pc := 1187) d_L_law_1187 ?_
      refine rd_sld (pc := 1188) d_L_law_1188 rfl (by omega) (by omega) ?_
      refine rd_aldn (pc := 1189) d_L_law_1189 rfl ?_
      refine rd_ild (pc := 1190) d_L_law_1190 rfl ?_
      refine rd_iconst (pc := 1192) d_L_law_1192 ?_
      refine rd_iadd (pc := 1193) d_L_law_1193 ?_
      refine rd_sld (pc := 1194) d_L_law_1194 rfl (by omega) (by omega) ?_
      refine rd_if_eq (pc := 1195) (tgt := 1202) d_L_law_1195 rfl (hx _) (fun h1195 => ?_) (fun h1195 => ?_)
      · skip
        refine rd_iconst (pc := 1202) d_L_law_1202 ?_
        refine rd_callVv (pc := 1203) (n' := n0 + 1) [_, _] d_L_law_1203 ml_L_143 rfl (Nat.le_of_ble_eq_true rfl) (Nat.le_of_ble_eq_true rfl) hn0 rfl rfl rfl (Nat.le_of_ble_eq_true rfl) (Nat.le_of_ble_eq_true rfl) ?_
        refine ev_M_year (h.r.keep (fun q qa qb => by rw [rd_up_ne (by omega)])) (hx _) ⟨by decide, by decide⟩ (fun w => ⟨rfl, ?_⟩) (fun w1 w2 => ⟨rfl, ?_⟩) (fun w1 w2  => ⟨rfl, ?_⟩)
        · skip
          exfalso
          simp (decide := true) only [rd_up_app, rd_up_32, E5, E6, E7, E8, E9, E10, E11, E12, E13, E14, E16, E17, E18, E19, E20, E21, E22, hn2, hn3] at *
          omega
        · skip
          exfalso
          simp (decide := true) only [rd_up_app, rd_up_32, E5, E6, E7, E8, E9, E10, E11, E12, E13, E14, E16, E17, E18, E19, E20, E21, E22, hn2, hn3] at *
          omega
        · skip
          refine rd_aldn (pc := 1206) d_L_law_1206 rfl ?_
          refine rd_callVi (pc := 1207) (n' := n0 + 1) [] d_L_law_1207 ml_L_85 rfl (Nat.le_of_ble_eq_true rfl) (Nat.le_of_ble_eq_true rfl) hn0 rfl rfl rfl (Nat.le_of_ble_eq_true rfl) (Nat.le_of_ble_eq_true rfl) ?_
          refine ev_M_thrown ?_
          refine ⟨_, rfl, ?_⟩
          try simp (decide := true) only [rd_up_app, rd_up_hit, rd_up_32]
          refine rd_ild (pc := 1210) d_L_law_1210 rfl ?_
          refine rd_icmp_eq (pc := 1212) (tgt := 1217) d_L_law_1212 rfl ⟨by omega, by omega⟩ ⟨by omega, by omega⟩ (fun h1212 => ?_) (fun h1212 => ?_)
          · skip
            refine rd_goto (pc := 1217) (tgt := 1220) d_L_law_1217 rfl ?_
            refine rd_weak (L' := [some (.ref 999), some (.ref 0), some (.ref 32), some (.ref 58), some (rd_i i), none, none, none]) (by simp [rd_le]) ?_
            exact hX _ _ _ _ (h.year ⟨by decide, by decide⟩)
          · skip
            exfalso; omega
      · skip
        exact absurd hb h1195
  · skip
    exact absurd hb h1169
set_option maxHeartbeats 4000000 in
set_option maxRecDepth 100000 in
theorem lw_year1 {Ls n0 n nt : Nat} {xs : Int → Int} {o : Int → Int} {i : Int} {M : rd_M} {Q : rd_R → rd_M → Prop} (hx : ∀ j, rd_I (xs j)) (h : k_R M n nt o) (hn0 : n0 + 1 ≤ 1110) (i0 : 0 ≤ i) (i1 : i + 6 ≤ Ls) (hb : ¬ (xs (i + 2)) = 0) (hX : ∀ (M' : rd_M) (n' nt' : Nat) (o' : Int → Int), k_R M' n' nt' o' → rd_G (x_L_law Ls xs) 1220 [some (.ref 999), some (.ref 0), some (.ref 32), some (.ref 58), some (rd_i i), none, none, none] [] M' (n0 + 1) Q) : rd_G (x_L_law Ls xs) 1156 [some (.ref 999), some (.ref 0), some (.ref 32), some (.ref 58), some (rd_i i), none, none, none] [] M n0 Q := by
  have hI := h.1.1
  have hn2 := h.1.2.2.1
  have hn3 := h.1.2.2.2.1
  have hH := h.1.2.2.2.2
  have hBc := h.1
  have E5 := h.2.2.2.2.1
  have E6 := h.2.2.2.2.2.1
  have E7 := h.e7
  have E8 := h.e8
  have E9 := h.e9
  have E10 := h.e10
  have E11 := h.e11
  have E12 := h.e12
  have E13 := h.e13
  have E14 := h.e14
  have E16 := h.e16
  have E17 := h.e17
  have E18 := h.e18
  have E19 := h.e19
  have E20 := h.e20
  have E21 := h.e21
  have E22 := h.e22
  refine rd_aldn (pc := 1156) d_L_law_1156 rfl ?_
  refine rd_aldn (pc := 1157) d_L_law_1157 rfl ?_
  refine rd_ild (pc := 1158) d_L_law_1158 rfl ?_
  refine rd_iconst (pc := 1160) d_L_law_1160 ?_
  refine rd_iadd (pc := 1161) d_L_law_1161 ?_
  refine rd_sld (pc := 1162) d_L_law_1162 rfl (by omega) (by omega) ?_
  refine rd_aldn (pc := 1163) d_L_law_1163 rfl ?_
  refine rd_ild (pc := 1164) d_L_law_1164 rfl ?_
  refine rd_iconst (pc := 1166) d_L_law_1166 ?_
  refine rd_iadd (pc := 1167) d_L_law_1167 ?_
  refine rd_sld (pc := 1168) d_L_law_1168 rfl (by omega) (by omega) ?_
  refine rd_if_eq (pc := 1169) (tgt := 1176) d_L_law_1169 rfl (hx _) (fun h1169 => ?_) (fun h1169 => ?_)
  · skip
    exact absurd h1169 hb
  · skip
    refine rd_iconst (pc := 1172) d_L_law_1172 ?_
    refine rd_goto (pc := 1173) (tgt := 1177) d_L_law_1173 rfl ?_
    refine rd_callSi (pc := 1177) (n' := n0 + 1) [_, _, _] d_L_law_1177 ml_L_140 (Nat.le_of_ble_eq_true rfl) (Nat.le_of_ble_eq_true rfl) hn0 rfl rfl rfl (Nat.le_of_ble_eq_true rfl) (Nat.le_of_ble_eq_true rfl) ?_
    refine ev_L_year hI (hx _) ⟨by decide, by decide⟩ (fun z => ⟨_, rfl, ?_⟩) (fun z1 z2 => ⟨_, rfl, ?_⟩) (fun z1 z2  => ⟨_, rfl, ?_⟩)
    · skip
      refine rd_ist5 (pc := 1180) d_L_law_1180 rfl ?_
      refine rd_aldn (pc := 1182) d_L_law_1182 rfl ?_
      refine rd_aldn (pc := 1183) d_L_law_1183 rfl ?_
      refine rd_ild (pc := 1184) d_L_law_1184 rfl ?_
      refine rd_iconst (pc := 1186) d_L_law_1186 ?_
      refine rd_iadd (pc := 1187) d_L_law_1187 ?_
      refine rd_sld (pc := 1188) d_L_law_1188 rfl (by omega) (by omega) ?_
      refine rd_aldn (pc := 1189) d_L_law_1189 rfl ?_
      refine rd_ild (pc := 1190) d_L_law_1190 rfl ?_
      refine rd_iconst (pc := 1192) d_L_law_1192 ?_
      refine rd_iadd (pc := 1193) d_L_law_1193 ?_
      refine rd_sld (pc := 1194) d_L_law_1194 rfl (by omega) (by omega) ?_
      refine rd_if_eq (pc := 1195) (tgt := 1202) d_L_law_1195 rfl (hx _) (fun h1195 => ?_) (fun h1195 => ?_)
      · skip
        exact absurd h1195 hb
      · skip
        refine rd_iconst (pc := 1198) d_L_law_1198 ?_
        refine rd_goto (pc := 1199) (tgt := 1203) d_L_law_1199 rfl ?_
        refine rd_callVv (pc := 1203) (n' := n0 + 1) [_, _] d_L_law_1203 ml_L_143 rfl (Nat.le_of_ble_eq_true rfl) (Nat.le_of_ble_eq_true rfl) hn0 rfl rfl rfl (Nat.le_of_ble_eq_true rfl) (Nat.le_of_ble_eq_true rfl) ?_
        refine ev_M_year h.r (hx _) ⟨by decide, by decide⟩ (fun w => ⟨rfl, ?_⟩) (fun w1 w2 => ⟨rfl, ?_⟩) (fun w1 w2  => ⟨rfl, ?_⟩)
        · skip
          refine rd_aldn (pc := 1206) d_L_law_1206 rfl ?_
          refine rd_callVi (pc := 1207) (n' := n0 + 1) [] d_L_law_1207 ml_L_85 rfl (Nat.le_of_ble_eq_true rfl) (Nat.le_of_ble_eq_true rfl) hn0 rfl rfl rfl (Nat.le_of_ble_eq_true rfl) (Nat.le_of_ble_eq_true rfl) ?_
          refine ev_M_thrown ?_
          refine ⟨_, rfl, ?_⟩
          try simp (decide := true) only [rd_up_app, rd_up_hit, rd_up_32]
          refine rd_ild (pc := 1210) d_L_law_1210 rfl ?_
          refine rd_icmp_eq (pc := 1212) (tgt := 1217) d_L_law_1212 rfl ⟨by omega, by omega⟩ ⟨by omega, by omega⟩ (fun h1212 => ?_) (fun h1212 => ?_)
          · skip
            refine rd_goto (pc := 1217) (tgt := 1220) d_L_law_1217 rfl ?_
            refine rd_weak (L' := [some (.ref 999), some (.ref 0), some (.ref 32), some (.ref 58), some (rd_i i), none, none, none]) (by simp [rd_le]) ?_
            exact hX _ _ _ _ (h.th)
          · skip
            exfalso; omega
        · skip
          exfalso
          simp (decide := true) only [rd_up_app, rd_up_32, E5, E6, E7, E8, E9, E10, E11, E12, E13, E14, E16, E17, E18, E19, E20, E21, E22, hn2, hn3] at *
          omega
        · skip
          exfalso
          simp (decide := true) only [rd_up_app, rd_up_32, E5, E6, E7, E8, E9, E10, E11, E12, E13, E14, E16, E17, E18, E19, E20, E21, E22, hn2, hn3] at *
          omega
    · skip
      refine rd_ist5 (pc := 1180) d_L_law_1180 rfl ?_
      refine rd_aldn (pc := 1182) d_L_law_1182 rfl ?_
      refine rd_aldn (pc := 1183) d_L_law_1183 rfl ?_
      refine rd_ild (pc := 1184) d_L_law_1184 rfl ?_
      refine rd_iconst (pc := 1186) d_L_law_1186 ?_
      refine rd_iadd (pc := 1187) d_L_law_1187 ?_
      refine rd_sld (pc := 1188) d_L_law_1188 rfl (by omega) (by omega) ?_
      refine rd_aldn (pc := 1189) d_L_law_1189 rfl ?_
      refine rd_ild (pc := 1190) d_L_law_1190 rfl ?_
      refine rd_iconst (pc := 1192) d_L_law_1192 ?_
      refine rd_iadd (pc := 1193) d_L_law_1193 ?_
      refine rd_sld (pc := 1194) d_L_law_1194 rfl (by omega) (by omega) ?_
      refine rd_if_eq (pc := 1195) (tgt := 1202) d_L_law_1195 rfl (hx _) (fun h1195 => ?_) (fun h1195 => ?_)
      · skip
        exact absurd h1195 hb
      · skip
        refine rd_iconst (pc := 1198) d_L_law_1198 ?_
        refine rd_goto (pc := 1199) (tgt := 1203) d_L_law_1199 rfl ?_
        refine rd_callVv (pc := 1203) (n' := n0 + 1) [_, _] d_L_law_1203 ml_L_143 rfl (Nat.le_of_ble_eq_true rfl) (Nat.le_of_ble_eq_true rfl) hn0 rfl rfl rfl (Nat.le_of_ble_eq_true rfl) (Nat.le_of_ble_eq_true rfl) ?_
        refine ev_M_year h.r (hx _) ⟨by decide, by decide⟩ (fun w => ⟨rfl, ?_⟩) (fun w1 w2 => ⟨rfl, ?_⟩) (fun w1 w2  => ⟨rfl, ?_⟩)
        · skip
          exfalso
          simp (decide := true) only [rd_up_app, rd_up_32, E5, E6, E7, E8, E9, E10, E11, E12, E13, E14, E16, E17, E18, E19, E20, E21, E22, hn2, hn3] at *
          omega
        · skip
          refine rd_aldn (pc := 1206) d_L_law_1206 rfl ?_
          refine rd_callVi (pc := 1207) (n' := n0 + 1) [] d_L_law_1207 ml_L_85 rfl (Nat.le_of_ble_eq_true rfl) (Nat.le_of_ble_eq_true rfl) hn0 rfl rfl rfl (Nat.le_of_ble_eq_true rfl) (Nat.le_of_ble_eq_true rfl) ?_
          refine ev_M_thrown ?_
          refine ⟨_, rfl, ?_⟩
          try simp (decide := true) only [rd_up_app, rd_up_hit, rd_up_32]
          refine rd_ild (pc := 1210) d_L_law_1210 rfl ?_
          refine rd_icmp_eq (pc := 1212) (tgt := 1217) d_L_law_1212 rfl ⟨by omega, by omega⟩ ⟨by omega, by omega⟩ (fun h1212 => ?_) (fun h1212 => ?_)
          · skip
            refine rd_goto (pc := 1217) (tgt := 1220) d_L_law_1217 rfl ?_
            refine rd_weak (L' := [some (.ref 999), some (.ref 0), some (.ref 32), some (.ref 58), some (rd_i i), none, none, none]) (by simp [rd_le]) ?_
            exact hX _ _ _ _ (h.th)
          · skip
            exfalso; omega
        · skip
          exfalso
          simp (decide := true) only [rd_up_app, rd_up_32, E5, E6, E7, E8, E9, E10, E11, E12, E13, E14, E16, E17, E18, E19, E20, E21, E22, hn2, hn3] at *
          omega
    · skip
      refine rd_ist5 (pc := 1180) d_L_law_1180 rfl ?_
      refine rd_aldn (pc := 1182) d_L_law_1182 rfl ?_
      refine rd_aldn (pc := 1183) d_L_law_1183 rfl ?_
      refine rd_ild (pc := 1184) d_L_law_1184 rfl ?_
      refine rd_iconst (pc := 1186) d_L_law_1186 ?_
      refine rd_iadd (pc := 1187) d_L_law_1187 ?_
      refine rd_sld (pc := 1188) d_L_law_1188 rfl (by omega) (by omega) ?_
      refine rd_aldn (pc := 1189) d_L_law_1189 rfl ?_
      refine rd_ild (pc := 1190) d_L_law_1190 rfl ?_
      refine rd_iconst (pc := 1192) d_L_law_1192 ?_
      refine rd_iadd (pc := 1193) d_L_law_1193 ?_
      refine rd_sld (pc := 1194) d_L_law_1194 rfl (by omega) (by omega) ?_
      refine rd_if_eq (pc := 1195) (tgt := 1202) d_L_law_1195 rfl (hx _) (fun h1195 => ?_) (fun h1195 => ?_)
      · skip
        exact absurd h1195 hb
      · skip
        refine rd_iconst (pc := 1198) d_L_law_1198 ?_
        refine rd_goto (pc := 1199) (tgt := 1203) d_L_law_1199 rfl ?_
        refine rd_callVv (pc := 1203) (n' := n0 + 1) [_, _] d_L_law_1203 ml_L_143 rfl (Nat.le_of_ble_eq_true rfl) (Nat.le_of_ble_eq_true rfl) hn0 rfl rfl rfl (Nat.le_of_ble_eq_true rfl) (Nat.le_of_ble_eq_true rfl) ?_
        refine ev_M_year (h.r.keep (fun q qa qb => by rw [rd_up_ne (by omega)])) (hx _) ⟨by decide, by decide⟩ (fun w => ⟨rfl, ?_⟩) (fun w1 w2 => ⟨rfl, ?_⟩) (fun w1 w2  => ⟨rfl, ?_⟩)
        · skip
          exfalso
          simp (decide := true) only [rd_up_app, rd_up_32, E5, E6, E7, E8, E9, E10, E11, E12, E13, E14, E16, E17, E18, E19, E20, E21, E22, hn2, hn3] at *
          omega
        · skip
          exfalso
          simp (decide := true) only [rd_up_app, rd_up_32, E5, E6, E7, E8, E9, E10, E11, E12, E13, E14, E16, E17, E18, E19, E20, E21, E22, hn2, hn3] at *
          omega
        · skip
          refine rd_aldn (pc := 1206) d_L_law_1206 rfl ?_
          refine rd_callVi (pc := 1207) (n' := n0 + 1) [] d_L_law_1207 ml_L_85 rfl (Nat.le_of_ble_eq_true rfl) (Nat.le_of_ble_eq_true rfl) hn0 rfl rfl rfl (Nat.le_of_ble_eq_true rfl) (Nat.le_of_ble_eq_true rfl) ?_
          refine ev_M_thrown ?_
          refine ⟨_, rfl, ?_⟩
          try simp (decide := true) only [rd_up_app, rd_up_hit, rd_up_32]
          refine rd_ild (pc := 1210) d_L_law_1210 rfl ?_
          refine rd_icmp_eq (pc := 1212) (tgt := 1217) d_L_law_1212 rfl ⟨by omega, by omega⟩ ⟨by omega, by omega⟩ (fun h1212 => ?_) (fun h1212 => ?_)
          · skip
            refine rd_goto (pc := 1217) (tgt := 1220) d_L_law_1217 rfl ?_
            refine rd_weak (L' := [some (.ref 999), some (.ref 0), some (.ref 32), some (.ref 58), some (rd_i i), none, none, none]) (by simp [rd_le]) ?_
            exact hX _ _ _ _ (h.year ⟨by decide, by decide⟩)
          · skip
            exfalso; omega
set_option maxHeartbeats 4000000 in
set_option maxRecDepth 100000 in
theorem lw_year {Ls n0 n nt : Nat} {xs : Int → Int} {o : Int → Int} {i : Int} {M : rd_M} {Q : rd_R → rd_M → Prop} (hx : ∀ j, rd_I (xs j)) (h : k_R M n nt o) (hn0 : n0 + 1 ≤ 1110) (i0 : 0 ≤ i) (i1 : i + 6 ≤ Ls) (hX : ∀ (M' : rd_M) (n' nt' : Nat) (o' : Int → Int), k_R M' n' nt' o' → rd_G (x_L_law Ls xs) 1220 [some (.ref 999), some (.ref 0), some (.ref 32), some (.ref 58), some (rd_i i), none, none, none] [] M' (n0 + 1) Q) : rd_G (x_L_law Ls xs) 1156 [some (.ref 999), some (.ref 0), some (.ref 32), some (.ref 58), some (rd_i i), none, none, none] [] M n0 Q := by
  by_cases hb : (xs (i + 2)) = 0
  · exact lw_year0 hx h hn0 i0 i1 hb hX
  · exact lw_year1 hx h hn0 i0 i1 hb hX

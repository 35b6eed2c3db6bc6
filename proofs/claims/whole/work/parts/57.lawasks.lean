/-! the law: questions, both sides -/
set_option maxHeartbeats 4000000 in
set_option maxRecDepth 100000 in
theorem lw_kept {Ls n0 n nt : Nat} {xs : Int → Int} {o : Int → Int} {i : Int} {M : rd_M} {Q : rd_R → rd_M → Prop} (hx : ∀ j, rd_I (xs j)) (h : k_R M n nt o) (hn0 : n0 + 1 ≤ 1110) (i0 : 0 ≤ i) (i1 : i + 6 ≤ Ls) (hX : ∀ (M' : rd_M) (n' nt' : Nat) (o' : Int → Int), k_R M' n' nt' o' → rd_G (x_L_law Ls xs) 1220 [some (.ref 999), some (.ref 0), some (.ref 32), some (.ref 58), some (rd_i i), none, none, none] [] M' (n0 + 1) Q) : rd_G (x_L_law Ls xs) 628 [some (.ref 999), some (.ref 0), some (.ref 32), some (.ref 58), some (rd_i i), none, none, none] [] M n0 Q := by
  have hI := h.1.1
  have hn2 := h.1.2.2.1
  have hn3 := h.1.2.2.2.1
  have hH := h.1.2.2.2.2
  have hBc := h.1
  have E5 := h.2.2.2.2.1
  have E6 := h.2.2.2.2.2.1
  have E7 := h.e7
  have E8 := h.e8
  have E9 := h.e9
  have E10 := h.e10
  have E11 := h.e11
  have E12 := h.e12
  have E13 := h.e13
  have E14 := h.e14
  have E16 := h.e16
  have E17 := h.e17
  have E18 := h.e18
  have E19 := h.e19
  have E20 := h.e20
  have E21 := h.e21
  have E22 := h.e22
  refine rd_aldn (pc := 628) d_L_law_628 rfl ?_
  refine rd_aldn (pc := 629) d_L_law_629 rfl ?_
  refine rd_ild (pc := 630) d_L_law_630 rfl ?_
  refine rd_iconst (pc := 632) d_L_law_632 ?_
  refine rd_iadd (pc := 633) d_L_law_633 ?_
  refine rd_sld (pc := 634) d_L_law_634 rfl (by omega) (by omega) ?_
  refine rd_aldn (pc := 635) d_L_law_635 rfl ?_
  refine rd_callSi (pc := 636) (n' := n0 + 1) [_, _, _] d_L_law_636 ml_L_115 (Nat.le_of_ble_eq_true rfl) (Nat.le_of_ble_eq_true rfl) hn0 rfl rfl rfl (Nat.le_of_ble_eq_true rfl) (Nat.le_of_ble_eq_true rfl) ?_
  refine ev_L_kept hBc (hx _) (fun z => ⟨_, rfl, ?_⟩) (fun z M1 Z v a1 a2 a3 a4 => ⟨_, rfl, ?_⟩)
  · skip
    refine rd_ist5 (pc := 639) d_L_law_639 rfl ?_
    refine rd_aldn (pc := 641) d_L_law_641 rfl ?_
    refine rd_aldn (pc := 642) d_L_law_642 rfl ?_
    refine rd_ild (pc := 643) d_L_law_643 rfl ?_
    refine rd_iconst (pc := 645) d_L_law_645 ?_
    refine rd_iadd (pc := 646) d_L_law_646 ?_
    refine rd_sld (pc := 647) d_L_law_647 rfl (by omega) (by omega) ?_
    refine rd_callVi (pc := 648) (n' := n0 + 1) [_] d_L_law_648 ml_L_118 rfl (Nat.le_of_ble_eq_true rfl) (Nat.le_of_ble_eq_true rfl) hn0 rfl rfl rfl (Nat.le_of_ble_eq_true rfl) (Nat.le_of_ble_eq_true rfl) ?_
    refine ev_M_kept h.r h.T (hx _) (fun w => ⟨_, rfl, ?_⟩) (fun w M2 Z' v' b1 b2 b3 b4 b5 => ⟨_, rfl, ?_⟩)
    · skip
      refine rd_ist6 (pc := 651) d_L_law_651 rfl ?_
      refine rd_aldn (pc := 653) d_L_law_653 rfl ?_
      refine rd_callVi (pc := 654) (n' := n0 + 1) [] d_L_law_654 ml_L_85 rfl (Nat.le_of_ble_eq_true rfl) (Nat.le_of_ble_eq_true rfl) hn0 rfl rfl rfl (Nat.le_of_ble_eq_true rfl) (Nat.le_of_ble_eq_true rfl) ?_
      refine ev_M_thrown ?_
      refine ⟨_, rfl, ?_⟩
      try simp (decide := true) only [rd_up_app, rd_up_hit, rd_up_32]
      refine rd_ild (pc := 657) d_L_law_657 rfl ?_
      refine rd_icmp_eq (pc := 659) (tgt := 664) d_L_law_659 rfl ⟨by omega, by omega⟩ ⟨by omega, by omega⟩ (fun h659 => ?_) (fun h659 => ?_)
      · skip
        refine rd_ild (pc := 664) d_L_law_664 rfl ?_
        refine rd_if_ne (pc := 666) (tgt := 681) d_L_law_666 rfl ⟨by omega, by omega⟩ (fun h666 => ?_) (fun h666 => ?_)
        · skip
          refine rd_goto (pc := 681) (tgt := 1220) d_L_law_681 rfl ?_
          refine rd_weak (L' := [some (.ref 999), some (.ref 0), some (.ref 32), some (.ref 58), some (rd_i i), none, none, none]) (by simp [rd_le]) ?_
          exact hX _ _ _ _ h.th
        · exact absurd h666 (by decide)
      · skip
        exfalso; omega
    · skip
      exfalso
      simp (decide := true) only [rd_up_app, rd_up_32, E5, E6, E7, E8, E9, E10, E11, E12, E13, E14, E16, E17, E18, E19, E20, E21, E22, hn2, hn3] at *
      omega
  · skip
    refine rd_ist5 (pc := 639) d_L_law_639 rfl ?_
    refine rd_aldn (pc := 641) d_L_law_641 rfl ?_
    refine rd_aldn (pc := 642) d_L_law_642 rfl ?_
    refine rd_ild (pc := 643) d_L_law_643 rfl ?_
    refine rd_iconst (pc := 645) d_L_law_645 ?_
    refine rd_iadd (pc := 646) d_L_law_646 ?_
    refine rd_sld (pc := 647) d_L_law_647 rfl (by omega) (by omega) ?_
    have hkp : ∀ q, 32 ≤ q → q ≤ 48 → rd_up M1 58 0 v q = M q := fun q qa qb => by rw [rd_up_ne (by omega)]; exact a1 q (by omega) (by omega)
    have c41 := hkp 41 (by decide) (by decide)
    have c33 := hkp 33 (by decide) (by decide)
    refine rd_callVi (pc := 648) (n' := n0 + 1) [_] d_L_law_648 ml_L_118 rfl (Nat.le_of_ble_eq_true rfl) (Nat.le_of_ble_eq_true rfl) hn0 rfl rfl rfl (Nat.le_of_ble_eq_true rfl) (Nat.le_of_ble_eq_true rfl) ?_
    refine ev_M_kept (h.r.keep hkp) (h.T.keep hkp) (hx _) (fun w => ⟨_, rfl, ?_⟩) (fun w M2 Z' v' b1 b2 b3 b4 b5 => ⟨_, rfl, ?_⟩)
    · skip
      exfalso
      try rw [c41] at w
      simp (decide := true) only [E5, E6, E7, E8, E9, E10, E11, E12, E13, E14, E16, E17, E18, E19, E20, E21, E22, hn2, hn3] at z
      omega
    · skip
      rw [r_d_keep hkp] at b3 b4
      rw [← h.2.2.2.1] at b3 b4
      have e58 : M2 58 0 = v := by rw [b1.1 58 (by decide) (by decide), rd_up_hit]
      have hn4 := hI.n hn2
      have hag := sp_run_ag (nt := nt) b3 a2 hn4
      refine rd_ist6 (pc := 651) d_L_law_651 rfl ?_
      refine rd_aldn (pc := 653) d_L_law_653 rfl ?_
      refine rd_callVi (pc := 654) (n' := n0 + 1) [] d_L_law_654 ml_L_85 rfl (Nat.le_of_ble_eq_true rfl) (Nat.le_of_ble_eq_true rfl) hn0 rfl rfl rfl (Nat.le_of_ble_eq_true rfl) (Nat.le_of_ble_eq_true rfl) ?_
      refine ev_M_thrown ?_
      refine ⟨_, rfl, ?_⟩
      try simp (decide := true) only [rd_up_app, rd_up_hit, rd_up_32, b2, e58]
      refine rd_ild (pc := 657) d_L_law_657 rfl ?_
      refine rd_icmp_eq (pc := 659) (tgt := 664) d_L_law_659 rfl ⟨by omega, by omega⟩ ⟨by omega, by omega⟩ (fun h659 => ?_) (fun h659 => ?_)
      · skip
        refine rd_ild (pc := 664) d_L_law_664 rfl ?_
        refine rd_if_ne (pc := 666) (tgt := 681) d_L_law_666 rfl ⟨by omega, by omega⟩ (fun h666 => ?_) (fun h666 => ?_)
        · exact absurd h666 (by decide)
        · skip
          refine rd_aldn (pc := 669) d_L_law_669 rfl ?_
          refine rd_iconst (pc := 670) d_L_law_670 ?_
          refine rd_lald (pc := 671) d_L_law_671 rfl (by omega) (by omega) ?_
          try simp (decide := true) only [rd_up_app, rd_up_hit, rd_up_32, b2, e58]
          refine rd_ild (pc := 672) d_L_law_672 rfl ?_
          refine rd_i2l (pc := 674) d_L_law_674 ⟨by omega, by omega⟩ ?_
          refine rd_lcmpE (pc := 675) (tgt := 681) d_L_law_675 d_L_law_676 rfl (by rw [a3, b4]; exact (hag.1 (xs (i + 1)) (by omega) (by omega) rfl).symm) ?_
          refine rd_goto (pc := 681) (tgt := 1220) d_L_law_681 rfl ?_
          refine rd_weak (L' := [some (.ref 999), some (.ref 0), some (.ref 32), some (.ref 58), some (rd_i i), none, none, none]) (by simp [rd_le]) ?_
          exact hX _ _ _ _ (h.ask a1 b1)
      · skip
        exfalso; omega
set_option maxHeartbeats 4000000 in
set_option maxRecDepth 100000 in
theorem lw_ceded {Ls n0 n nt : Nat} {xs : Int → Int} {o : Int → Int} {i : Int} {M : rd_M} {Q : rd_R → rd_M → Prop} (hx : ∀ j, rd_I (xs j)) (h : k_R M n nt o) (hn0 : n0 + 1 ≤ 1110) (i0 : 0 ≤ i) (i1 : i + 6 ≤ Ls) (hX : ∀ (M' : rd_M) (n' nt' : Nat) (o' : Int → Int), k_R M' n' nt' o' → rd_G (x_L_law Ls xs) 1220 [some (.ref 999), some (.ref 0), some (.ref 32), some (.ref 58), some (rd_i i), none, none, none] [] M' (n0 + 1) Q) : rd_G (x_L_law Ls xs) 684 [some (.ref 999), some (.ref 0), some (.ref 32), some (.ref 58), some (rd_i i), none, none, none] [] M n0 Q := by
  have hI := h.1.1
  have hn2 := h.1.2.2.1
  have hn3 := h.1.2.2.2.1
  have hH := h.1.2.2.2.2
  have hBc := h.1
  have E5 := h.2.2.2.2.1
  have E6 := h.2.2.2.2.2.1
  have E7 := h.e7
  have E8 := h.e8
  have E9 := h.e9
  have E10 := h.e10
  have E11 := h.e11
  have E12 := h.e12
  have E13 := h.e13
  have E14 := h.e14
  have E16 := h.e16
  have E17 := h.e17
  have E18 := h.e18
  have E19 := h.e19
  have E20 := h.e20
  have E21 := h.e21
  have E22 := h.e22
  refine rd_aldn (pc := 684) d_L_law_684 rfl ?_
  refine rd_aldn (pc := 685) d_L_law_685 rfl ?_
  refine rd_ild (pc := 686) d_L_law_686 rfl ?_
  refine rd_iconst (pc := 688) d_L_law_688 ?_
  refine rd_iadd (pc := 689) d_L_law_689 ?_
  refine rd_sld (pc := 690) d_L_law_690 rfl (by omega) (by omega) ?_
  refine rd_aldn (pc := 691) d_L_law_691 rfl ?_
  refine rd_ild (pc := 692) d_L_law_692 rfl ?_
  refine rd_iconst (pc := 694) d_L_law_694 ?_
  refine rd_iadd (pc := 695) d_L_law_695 ?_
  refine rd_sld (pc := 696) d_L_law_696 rfl (by omega) (by omega) ?_
  refine rd_aldn (pc := 697) d_L_law_697 rfl ?_
  refine rd_callSi (pc := 698) (n' := n0 + 1) [_, _, _, _] d_L_law_698 ml_L_119 (Nat.le_of_ble_eq_true rfl) (Nat.le_of_ble_eq_true rfl) hn0 rfl rfl rfl (Nat.le_of_ble_eq_true rfl) (Nat.le_of_ble_eq_true rfl) ?_
  refine ev_L_ceded hBc (hx _) (hx _) (fun z => ⟨_, rfl, ?_⟩) (fun z M1 Z v a1 a2 a3 a4 => ⟨_, rfl, ?_⟩)
  · skip
    refine rd_ist5 (pc := 701) d_L_law_701 rfl ?_
    refine rd_aldn (pc := 703) d_L_law_703 rfl ?_
    refine rd_aldn (pc := 704) d_L_law_704 rfl ?_
    refine rd_ild (pc := 705) d_L_law_705 rfl ?_
    refine rd_iconst (pc := 707) d_L_law_707 ?_
    refine rd_iadd (pc := 708) d_L_law_708 ?_
    refine rd_sld (pc := 709) d_L_law_709 rfl (by omega) (by omega) ?_
    refine rd_aldn (pc := 710) d_L_law_710 rfl ?_
    refine rd_ild (pc := 711) d_L_law_711 rfl ?_
    refine rd_iconst (pc := 713) d_L_law_713 ?_
    refine rd_iadd (pc := 714) d_L_law_714 ?_
    refine rd_sld (pc := 715) d_L_law_715 rfl (by omega) (by omega) ?_
    refine rd_callVi (pc := 716) (n' := n0 + 1) [_, _] d_L_law_716 ml_L_121 rfl (Nat.le_of_ble_eq_true rfl) (Nat.le_of_ble_eq_true rfl) hn0 rfl rfl rfl (Nat.le_of_ble_eq_true rfl) (Nat.le_of_ble_eq_true rfl) ?_
    refine ev_M_ceded h.r h.T (hx _) (hx _) (fun w => ⟨_, rfl, ?_⟩) (fun w M2 Z' v' b1 b2 b3 b4 b5 => ⟨_, rfl, ?_⟩)
    · skip
      refine rd_ist6 (pc := 719) d_L_law_719 rfl ?_
      refine rd_aldn (pc := 721) d_L_law_721 rfl ?_
      refine rd_callVi (pc := 722) (n' := n0 + 1) [] d_L_law_722 ml_L_85 rfl (Nat.le_of_ble_eq_true rfl) (Nat.le_of_ble_eq_true rfl) hn0 rfl rfl rfl (Nat.le_of_ble_eq_true rfl) (Nat.le_of_ble_eq_true rfl) ?_
      refine ev_M_thrown ?_
      refine ⟨_, rfl, ?_⟩
      try simp (decide := true) only [rd_up_app, rd_up_hit, rd_up_32]
      refine rd_ild (pc := 725) d_L_law_725 rfl ?_
      refine rd_icmp_eq (pc := 727) (tgt := 732) d_L_law_727 rfl ⟨by omega, by omega⟩ ⟨by omega, by omega⟩ (fun h727 => ?_) (fun h727 => ?_)
      · skip
        refine rd_ild (pc := 732) d_L_law_732 rfl ?_
        refine rd_if_ne (pc := 734) (tgt := 749) d_L_law_734 rfl ⟨by omega, by omega⟩ (fun h734 => ?_) (fun h734 => ?_)
        · skip
          refine rd_goto (pc := 749) (tgt := 1220) d_L_law_749 rfl ?_
          refine rd_weak (L' := [some (.ref 999), some (.ref 0), some (.ref 32), some (.ref 58), some (rd_i i), none, none, none]) (by simp [rd_le]) ?_
          exact hX _ _ _ _ h.th
        · exact absurd h734 (by decide)
      · skip
        exfalso; omega
    · skip
      exfalso
      simp (decide := true) only [rd_up_app, rd_up_32, E5, E6, E7, E8, E9, E10, E11, E12, E13, E14, E16, E17, E18, E19, E20, E21, E22, hn2, hn3] at *
      omega
  · skip
    refine rd_ist5 (pc := 701) d_L_law_701 rfl ?_
    refine rd_aldn (pc := 703) d_L_law_703 rfl ?_
    refine rd_aldn (pc := 704) d_L_law_704 rfl ?_
    refine rd_ild (pc := 705) d_L_law_705 rfl ?_
    refine rd_iconst (pc := 707) d_L_law_707 ?_
    refine rd_iadd (pc := 708) d_L_law_708 ?_
    refine rd_sld (pc := 709) d_L_law_709 rfl (by omega) (by omega) ?_
    refine rd_aldn (pc := 710) d_L_law_710 rfl ?_
    refine rd_ild (pc := 711) d_L_law_711 rfl ?_
    refine rd_iconst (pc := 713) d_L_law_713 ?_
    refine rd_iadd (pc := 714) d_L_law_714 ?_
    refine rd_sld (pc := 715) d_L_law_715 rfl (by omega) (by omega) ?_
    have hkp : ∀ q, 32 ≤ q → q ≤ 48 → rd_up M1 58 0 v q = M q := fun q qa qb => by rw [rd_up_ne (by omega)]; exact a1 q (by omega) (by omega)
    have c41 := hkp 41 (by decide) (by decide)
    have c33 := hkp 33 (by decide) (by decide)
    refine rd_callVi (pc := 716) (n' := n0 + 1) [_, _] d_L_law_716 ml_L_121 rfl (Nat.le_of_ble_eq_true rfl) (Nat.le_of_ble_eq_true rfl) hn0 rfl rfl rfl (Nat.le_of_ble_eq_true rfl) (Nat.le_of_ble_eq_true rfl) ?_
    refine ev_M_ceded (h.r.keep hkp) (h.T.keep hkp) (hx _) (hx _) (fun w => ⟨_, rfl, ?_⟩) (fun w M2 Z' v' b1 b2 b3 b4 b5 => ⟨_, rfl, ?_⟩)
    · skip
      exfalso
      try rw [c41] at w
      simp (decide := true) only [E5, E6, E7, E8, E9, E10, E11, E12, E13, E14, E16, E17, E18, E19, E20, E21, E22, hn2, hn3] at z
      omega
    · skip
      rw [r_d_keep hkp] at b3 b4
      rw [← h.2.2.2.1] at b3 b4
      have e58 : M2 58 0 = v := by rw [b1.1 58 (by decide) (by decide), rd_up_hit]
      have hn4 := hI.n hn2
      have hag := sp_run_ag (nt := nt) b3 a2 hn4
      refine rd_ist6 (pc := 719) d_L_law_719 rfl ?_
      refine rd_aldn (pc := 721) d_L_law_721 rfl ?_
      refine rd_callVi (pc := 722) (n' := n0 + 1) [] d_L_law_722 ml_L_85 rfl (Nat.le_of_ble_eq_true rfl) (Nat.le_of_ble_eq_true rfl) hn0 rfl rfl rfl (Nat.le_of_ble_eq_true rfl) (Nat.le_of_ble_eq_true rfl) ?_
      refine ev_M_thrown ?_
      refine ⟨_, rfl, ?_⟩
      try simp (decide := true) only [rd_up_app, rd_up_hit, rd_up_32, b2, e58]
      refine rd_ild (pc := 725) d_L_law_725 rfl ?_
      refine rd_icmp_eq (pc := 727) (tgt := 732) d_L_law_727 rfl ⟨by omega, by omega⟩ ⟨by omega, by omega⟩ (fun h727 => ?_) (fun h727 => ?_)
      · skip
        refine rd_ild (pc := 732) d_L_law_732 rfl ?_
        refine rd_if_ne (pc := 734) (tgt := 749) d_L_law_734 rfl ⟨by omega, by omega⟩ (fun h734 => ?_) (fun h734 => ?_)
        · exact absurd h734 (by decide)
        · skip
          refine rd_aldn (pc := 737) d_L_law_737 rfl ?_
          refine rd_iconst (pc := 738) d_L_law_738 ?_
          refine rd_lald (pc := 739) d_L_law_739 rfl (by omega) (by omega) ?_
          try simp (decide := true) only [rd_up_app, rd_up_hit, rd_up_32, b2, e58]
          refine rd_ild (pc := 740) d_L_law_740 rfl ?_
          refine rd_i2l (pc := 742) d_L_law_742 ⟨by omega, by omega⟩ ?_
          refine rd_lcmpE (pc := 743) (tgt := 749) d_L_law_743 d_L_law_744 rfl (by have h3 := hI.2.1; rw [a3, b4]; exact (hag.2.1 (xs (i + 2)) (xs (i + 1)) (by omega) (by omega) (by omega) (by omega) rfl).symm) ?_
          refine rd_goto (pc := 749) (tgt := 1220) d_L_law_749 rfl ?_
          refine rd_weak (L' := [some (.ref 999), some (.ref 0), some (.ref 32), some (.ref 58), some (rd_i i), none, none, none]) (by simp [rd_le]) ?_
          exact hX _ _ _ _ (h.ask a1 b1)
      · skip
        exfalso; omega
set_option maxHeartbeats 4000000 in
set_option maxRecDepth 100000 in
theorem lw_left {Ls n0 n nt : Nat} {xs : Int → Int} {o : Int → Int} {i : Int} {M : rd_M} {Q : rd_R → rd_M → Prop} (hx : ∀ j, rd_I (xs j)) (h : k_R M n nt o) (hn0 : n0 + 1 ≤ 1110) (i0 : 0 ≤ i) (i1 : i + 6 ≤ Ls) (hX : ∀ (M' : rd_M) (n' nt' : Nat) (o' : Int → Int), k_R M' n' nt' o' → rd_G (x_L_law Ls xs) 1220 [some (.ref 999), some (.ref 0), some (.ref 32), some (.ref 58), some (rd_i i), none, none, none] [] M' (n0 + 1) Q) : rd_G (x_L_law Ls xs) 752 [some (.ref 999), some (.ref 0), some (.ref 32), some (.ref 58), some (rd_i i), none, none, none] [] M n0 Q := by
  have hI := h.1.1
  have hn2 := h.1.2.2.1
  have hn3 := h.1.2.2.2.1
  have hH := h.1.2.2.2.2
  have hBc := h.1
  have E5 := h.2.2.2.2.1
  have E6 := h.2.2.2.2.2.1
  have E7 := h.e7
  have E8 := h.e8
  have E9 := h.e9
  have E10 := h.e10
  have E11 := h.e11
  have E12 := h.e12
  have E13 := h.e13
  have E14 := h.e14
  have E16 := h.e16
  have E17 := h.e17
  have E18 := h.e18
  have E19 := h.e19
  have E20 := h.e20
  have E21 := h.e21
  have E22 := h.e22
  refine rd_aldn (pc := 752) d_L_law_752 rfl ?_
  refine rd_aldn (pc := 753) d_L_law_753 rfl ?_
  refine rd_ild (pc := 754) d_L_law_754 rfl ?_
  refine rd_iconst (pc := 756) d_L_law_756 ?_
  refine rd_iadd (pc := 757) d_L_law_757 ?_
  refine rd_sld (pc := 758) d_L_law_758 rfl (by omega) (by omega) ?_
  refine rd_aldn (pc := 759) d_L_law_759 rfl ?_
  refine rd_callSi (pc := 760) (n' := n0 + 1) [_, _, _] d_L_law_760 ml_L_122 (Nat.le_of_ble_eq_true rfl) (Nat.le_of_ble_eq_true rfl) hn0 rfl rfl rfl (Nat.le_of_ble_eq_true rfl) (Nat.le_of_ble_eq_true rfl) ?_
  refine ev_L_left hBc (hx _) (fun z => ⟨_, rfl, ?_⟩) (fun z M1 Z v a1 a2 a3 => ⟨_, rfl, ?_⟩)
  · skip
    refine rd_ist5 (pc := 763) d_L_law_763 rfl ?_
    refine rd_aldn (pc := 765) d_L_law_765 rfl ?_
    refine rd_aldn (pc := 766) d_L_law_766 rfl ?_
    refine rd_ild (pc := 767) d_L_law_767 rfl ?_
    refine rd_iconst (pc := 769) d_L_law_769 ?_
    refine rd_iadd (pc := 770) d_L_law_770 ?_
    refine rd_sld (pc := 771) d_L_law_771 rfl (by omega) (by omega) ?_
    refine rd_callVl (pc := 772) (n' := n0 + 1) [_] d_L_law_772 ml_L_124 rfl (Nat.le_of_ble_eq_true rfl) (Nat.le_of_ble_eq_true rfl) hn0 rfl rfl rfl (Nat.le_of_ble_eq_true rfl) (Nat.le_of_ble_eq_true rfl) ?_
    refine ev_M_left h.r h.T (hx _) (fun w => ⟨_, rfl, ?_⟩) (fun w M2 Z' v' b1 b2 b3 b4 => ⟨_, rfl, ?_⟩)
    · skip
      refine rd_lst6 (pc := 775) d_L_law_775 rfl ?_
      refine rd_aldn (pc := 777) d_L_law_777 rfl ?_
      refine rd_callVi (pc := 778) (n' := n0 + 1) [] d_L_law_778 ml_L_85 rfl (Nat.le_of_ble_eq_true rfl) (Nat.le_of_ble_eq_true rfl) hn0 rfl rfl rfl (Nat.le_of_ble_eq_true rfl) (Nat.le_of_ble_eq_true rfl) ?_
      refine ev_M_thrown ?_
      refine ⟨_, rfl, ?_⟩
      try simp (decide := true) only [rd_up_app, rd_up_hit, rd_up_32]
      refine rd_ild (pc := 781) d_L_law_781 rfl ?_
      refine rd_icmp_eq (pc := 783) (tgt := 788) d_L_law_783 rfl ⟨by omega, by omega⟩ ⟨by omega, by omega⟩ (fun h783 => ?_) (fun h783 => ?_)
      · skip
        refine rd_ild (pc := 788) d_L_law_788 rfl ?_
        refine rd_if_ne (pc := 790) (tgt := 804) d_L_law_790 rfl ⟨by omega, by omega⟩ (fun h790 => ?_) (fun h790 => ?_)
        · skip
          refine rd_goto (pc := 804) (tgt := 1220) d_L_law_804 rfl ?_
          refine rd_weak (L' := [some (.ref 999), some (.ref 0), some (.ref 32), some (.ref 58), some (rd_i i), none, none, none]) (by simp [rd_le]) ?_
          exact hX _ _ _ _ h.th
        · exact absurd h790 (by decide)
      · skip
        exfalso; omega
    · skip
      exfalso
      simp (decide := true) only [rd_up_app, rd_up_32, E5, E6, E7, E8, E9, E10, E11, E12, E13, E14, E16, E17, E18, E19, E20, E21, E22, hn2, hn3] at *
      omega
  · skip
    refine rd_ist5 (pc := 763) d_L_law_763 rfl ?_
    refine rd_aldn (pc := 765) d_L_law_765 rfl ?_
    refine rd_aldn (pc := 766) d_L_law_766 rfl ?_
    refine rd_ild (pc := 767) d_L_law_767 rfl ?_
    refine rd_iconst (pc := 769) d_L_law_769 ?_
    refine rd_iadd (pc := 770) d_L_law_770 ?_
    refine rd_sld (pc := 771) d_L_law_771 rfl (by omega) (by omega) ?_
    have hkp : ∀ q, 32 ≤ q → q ≤ 48 → rd_up M1 58 0 v q = M q := fun q qa qb => by rw [rd_up_ne (by omega)]; exact a1 q (by omega) (by omega)
    have c41 := hkp 41 (by decide) (by decide)
    have c33 := hkp 33 (by decide) (by decide)
    refine rd_callVl (pc := 772) (n' := n0 + 1) [_] d_L_law_772 ml_L_124 rfl (Nat.le_of_ble_eq_true rfl) (Nat.le_of_ble_eq_true rfl) hn0 rfl rfl rfl (Nat.le_of_ble_eq_true rfl) (Nat.le_of_ble_eq_true rfl) ?_
    refine ev_M_left (h.r.keep hkp) (h.T.keep hkp) (hx _) (fun w => ⟨_, rfl, ?_⟩) (fun w M2 Z' v' b1 b2 b3 b4 => ⟨_, rfl, ?_⟩)
    · skip
      exfalso
      try rw [c41] at w
      simp (decide := true) only [E5, E6, E7, E8, E9, E10, E11, E12, E13, E14, E16, E17, E18, E19, E20, E21, E22, hn2, hn3] at z
      omega
    · skip
      rw [r_d_keep hkp] at b3 b4
      rw [← h.2.2.2.1] at b3 b4
      have e58 : M2 58 0 = v := by rw [b1.1 58 (by decide) (by decide), rd_up_hit]
      have hn4 := hI.n hn2
      have hag := sp_run_ag (nt := nt) b3 a2 hn4
      refine rd_lst6 (pc := 775) d_L_law_775 rfl ?_
      refine rd_aldn (pc := 777) d_L_law_777 rfl ?_
      refine rd_callVi (pc := 778) (n' := n0 + 1) [] d_L_law_778 ml_L_85 rfl (Nat.le_of_ble_eq_true rfl) (Nat.le_of_ble_eq_true rfl) hn0 rfl rfl rfl (Nat.le_of_ble_eq_true rfl) (Nat.le_of_ble_eq_true rfl) ?_
      refine ev_M_thrown ?_
      refine ⟨_, rfl, ?_⟩
      try simp (decide := true) only [rd_up_app, rd_up_hit, rd_up_32, b2, e58]
      refine rd_ild (pc := 781) d_L_law_781 rfl ?_
      refine rd_icmp_eq (pc := 783) (tgt := 788) d_L_law_783 rfl ⟨by omega, by omega⟩ ⟨by omega, by omega⟩ (fun h783 => ?_) (fun h783 => ?_)
      · skip
        refine rd_ild (pc := 788) d_L_law_788 rfl ?_
        refine rd_if_ne (pc := 790) (tgt := 804) d_L_law_790 rfl ⟨by omega, by omega⟩ (fun h790 => ?_) (fun h790 => ?_)
        · exact absurd h790 (by decide)
        · skip
          refine rd_aldn (pc := 793) d_L_law_793 rfl ?_
          refine rd_iconst (pc := 794) d_L_law_794 ?_
          refine rd_lald (pc := 795) d_L_law_795 rfl (by omega) (by omega) ?_
          try simp (decide := true) only [rd_up_app, rd_up_hit, rd_up_32, b2, e58]
          refine rd_lld (pc := 796) d_L_law_796 rfl ?_
          refine rd_lcmpE (pc := 798) (tgt := 804) d_L_law_798 d_L_law_799 rfl (by have h3 := hI.2.1; obtain ⟨g1, g2, g3⟩ := hag.2.2.1 (xs (i + 1)) (by omega) (by omega) rfl; rw [a3, b4, g1, hkp 43 (by decide) (by decide), hkp 44 (by decide) (by decide), E19, E20]) ?_
          refine rd_goto (pc := 804) (tgt := 1220) d_L_law_804 rfl ?_
          refine rd_weak (L' := [some (.ref 999), some (.ref 0), some (.ref 32), some (.ref 58), some (rd_i i), none, none, none]) (by simp [rd_le]) ?_
          exact hX _ _ _ _ (h.ask a1 b1)
      · skip
        exfalso; omega
set_option maxHeartbeats 4000000 in
set_option maxRecDepth 100000 in
theorem lw_window {Ls n0 n nt : Nat} {xs : Int → Int} {o : Int → Int} {i : Int} {M : rd_M} {Q : rd_R → rd_M → Prop} (hx : ∀ j, rd_I (xs j)) (h : k_R M n nt o) (hn0 : n0 + 1 ≤ 1110) (i0 : 0 ≤ i) (i1 : i + 6 ≤ Ls) (hX : ∀ (M' : rd_M) (n' nt' : Nat) (o' : Int → Int), k_R M' n' nt' o' → rd_G (x_L_law Ls xs) 1220 [some (.ref 999), some (.ref 0), some (.ref 32), some (.ref 58), some (rd_i i), none, none, none] [] M' (n0 + 1) Q) : rd_G (x_L_law Ls xs) 807 [some (.ref 999), some (.ref 0), some (.ref 32), some (.ref 58), some (rd_i i), none, none, none] [] M n0 Q := by
  have hI := h.1.1
  have hn2 := h.1.2.2.1
  have hn3 := h.1.2.2.2.1
  have hH := h.1.2.2.2.2
  have hBc := h.1
  have E5 := h.2.2.2.2.1
  have E6 := h.2.2.2.2.2.1
  have E7 := h.e7
  have E8 := h.e8
  have E9 := h.e9
  have E10 := h.e10
  have E11 := h.e11
  have E12 := h.e12
  have E13 := h.e13
  have E14 := h.e14
  have E16 := h.e16
  have E17 := h.e17
  have E18 := h.e18
  have E19 := h.e19
  have E20 := h.e20
  have E21 := h.e21
  have E22 := h.e22
  refine rd_aldn (pc := 807) d_L_law_807 rfl ?_
  refine rd_aldn (pc := 808) d_L_law_808 rfl ?_
  refine rd_ild (pc := 809) d_L_law_809 rfl ?_
  refine rd_iconst (pc := 811) d_L_law_811 ?_
  refine rd_iadd (pc := 812) d_L_law_812 ?_
  refine rd_sld (pc := 813) d_L_law_813 rfl (by omega) (by omega) ?_
  refine rd_aldn (pc := 814) d_L_law_814 rfl ?_
  refine rd_ild (pc := 815) d_L_law_815 rfl ?_
  refine rd_iconst (pc := 817) d_L_law_817 ?_
  refine rd_iadd (pc := 818) d_L_law_818 ?_
  refine rd_sld (pc := 819) d_L_law_819 rfl (by omega) (by omega) ?_
  refine rd_aldn (pc := 820) d_L_law_820 rfl ?_
  refine rd_callSi (pc := 821) (n' := n0 + 1) [_, _, _, _] d_L_law_821 ml_L_125 (Nat.le_of_ble_eq_true rfl) (Nat.le_of_ble_eq_true rfl) hn0 rfl rfl rfl (Nat.le_of_ble_eq_true rfl) (Nat.le_of_ble_eq_true rfl) ?_
  refine ev_L_window hBc (hx _) (hx _) (fun z => ⟨_, rfl, ?_⟩) (fun z M1 Z v a1 a2 a3 a4 => ⟨_, rfl, ?_⟩)
  · skip
    refine rd_ist5 (pc := 824) d_L_law_824 rfl ?_
    refine rd_aldn (pc := 826) d_L_law_826 rfl ?_
    refine rd_aldn (pc := 827) d_L_law_827 rfl ?_
    refine rd_ild (pc := 828) d_L_law_828 rfl ?_
    refine rd_iconst (pc := 830) d_L_law_830 ?_
    refine rd_iadd (pc := 831) d_L_law_831 ?_
    refine rd_sld (pc := 832) d_L_law_832 rfl (by omega) (by omega) ?_
    refine rd_aldn (pc := 833) d_L_law_833 rfl ?_
    refine rd_ild (pc := 834) d_L_law_834 rfl ?_
    refine rd_iconst (pc := 836) d_L_law_836 ?_
    refine rd_iadd (pc := 837) d_L_law_837 ?_
    refine rd_sld (pc := 838) d_L_law_838 rfl (by omega) (by omega) ?_
    refine rd_callVi (pc := 839) (n' := n0 + 1) [_, _] d_L_law_839 ml_L_127 rfl (Nat.le_of_ble_eq_true rfl) (Nat.le_of_ble_eq_true rfl) hn0 rfl rfl rfl (Nat.le_of_ble_eq_true rfl) (Nat.le_of_ble_eq_true rfl) ?_
    refine ev_M_window h.r h.T (hx _) (hx _) (fun w => ⟨_, rfl, ?_⟩) (fun w M2 Z' v' b1 b2 b3 b4 b5 => ⟨_, rfl, ?_⟩)
    · skip
      refine rd_ist6 (pc := 842) d_L_law_842 rfl ?_
      refine rd_aldn (pc := 844) d_L_law_844 rfl ?_
      refine rd_callVi (pc := 845) (n' := n0 + 1) [] d_L_law_845 ml_L_85 rfl (Nat.le_of_ble_eq_true rfl) (Nat.le_of_ble_eq_true rfl) hn0 rfl rfl rfl (Nat.le_of_ble_eq_true rfl) (Nat.le_of_ble_eq_true rfl) ?_
      refine ev_M_thrown ?_
      refine ⟨_, rfl, ?_⟩
      try simp (decide := true) only [rd_up_app, rd_up_hit, rd_up_32]
      refine rd_ild (pc := 848) d_L_law_848 rfl ?_
      refine rd_icmp_eq (pc := 850) (tgt := 855) d_L_law_850 rfl ⟨by omega, by omega⟩ ⟨by omega, by omega⟩ (fun h850 => ?_) (fun h850 => ?_)
      · skip
        refine rd_ild (pc := 855) d_L_law_855 rfl ?_
        refine rd_if_ne (pc := 857) (tgt := 872) d_L_law_857 rfl ⟨by omega, by omega⟩ (fun h857 => ?_) (fun h857 => ?_)
        · skip
          refine rd_goto (pc := 872) (tgt := 1220) d_L_law_872 rfl ?_
          refine rd_weak (L' := [some (.ref 999), some (.ref 0), some (.ref 32), some (.ref 58), some (rd_i i), none, none, none]) (by simp [rd_le]) ?_
          exact hX _ _ _ _ h.th
        · exact absurd h857 (by decide)
      · skip
        exfalso; omega
    · skip
      exfalso
      simp (decide := true) only [rd_up_app, rd_up_32, E5, E6, E7, E8, E9, E10, E11, E12, E13, E14, E16, E17, E18, E19, E20, E21, E22, hn2, hn3] at *
      omega
  · skip
    refine rd_ist5 (pc := 824) d_L_law_824 rfl ?_
    refine rd_aldn (pc := 826) d_L_law_826 rfl ?_
    refine rd_aldn (pc := 827) d_L_law_827 rfl ?_
    refine rd_ild (pc := 828) d_L_law_828 rfl ?_
    refine rd_iconst (pc := 830) d_L_law_830 ?_
    refine rd_iadd (pc := 831) d_L_law_831 ?_
    refine rd_sld (pc := 832) d_L_law_832 rfl (by omega) (by omega) ?_
    refine rd_aldn (pc := 833) d_L_law_833 rfl ?_
    refine rd_ild (pc := 834) d_L_law_834 rfl ?_
    refine rd_iconst (pc := 836) d_L_law_836 ?_
    refine rd_iadd (pc := 837) d_L_law_837 ?_
    refine rd_sld (pc := 838) d_L_law_838 rfl (by omega) (by omega) ?_
    have hkp : ∀ q, 32 ≤ q → q ≤ 48 → rd_up M1 58 0 v q = M q := fun q qa qb => by rw [rd_up_ne (by omega)]; exact a1 q (by omega) (by omega)
    have c41 := hkp 41 (by decide) (by decide)
    have c33 := hkp 33 (by decide) (by decide)
    refine rd_callVi (pc := 839) (n' := n0 + 1) [_, _] d_L_law_839 ml_L_127 rfl (Nat.le_of_ble_eq_true rfl) (Nat.le_of_ble_eq_true rfl) hn0 rfl rfl rfl (Nat.le_of_ble_eq_true rfl) (Nat.le_of_ble_eq_true rfl) ?_
    refine ev_M_window (h.r.keep hkp) (h.T.keep hkp) (hx _) (hx _) (fun w => ⟨_, rfl, ?_⟩) (fun w M2 Z' v' b1 b2 b3 b4 b5 => ⟨_, rfl, ?_⟩)
    · skip
      exfalso
      try rw [c41] at w
      simp (decide := true) only [E5, E6, E7, E8, E9, E10, E11, E12, E13, E14, E16, E17, E18, E19, E20, E21, E22, hn2, hn3] at z
      omega
    · skip
      rw [r_d_keep hkp] at b3 b4
      rw [← h.2.2.2.1] at b3 b4
      have e58 : M2 58 0 = v := by rw [b1.1 58 (by decide) (by decide), rd_up_hit]
      have hn4 := hI.n hn2
      have hag := sp_run_ag (nt := nt) b3 a2 hn4
      refine rd_ist6 (pc := 842) d_L_law_842 rfl ?_
      refine rd_aldn (pc := 844) d_L_law_844 rfl ?_
      refine rd_callVi (pc := 845) (n' := n0 + 1) [] d_L_law_845 ml_L_85 rfl (Nat.le_of_ble_eq_true rfl) (Nat.le_of_ble_eq_true rfl) hn0 rfl rfl rfl (Nat.le_of_ble_eq_true rfl) (Nat.le_of_ble_eq_true rfl) ?_
      refine ev_M_thrown ?_
      refine ⟨_, rfl, ?_⟩
      try simp (decide := true) only [rd_up_app, rd_up_hit, rd_up_32, b2, e58]
      refine rd_ild (pc := 848) d_L_law_848 rfl ?_
      refine rd_icmp_eq (pc := 850) (tgt := 855) d_L_law_850 rfl ⟨by omega, by omega⟩ ⟨by omega, by omega⟩ (fun h850 => ?_) (fun h850 => ?_)
      · skip
        refine rd_ild (pc := 855) d_L_law_855 rfl ?_
        refine rd_if_ne (pc := 857) (tgt := 872) d_L_law_857 rfl ⟨by omega, by omega⟩ (fun h857 => ?_) (fun h857 => ?_)
        · exact absurd h857 (by decide)
        · skip
          refine rd_aldn (pc := 860) d_L_law_860 rfl ?_
          refine rd_iconst (pc := 861) d_L_law_861 ?_
          refine rd_lald (pc := 862) d_L_law_862 rfl (by omega) (by omega) ?_
          try simp (decide := true) only [rd_up_app, rd_up_hit, rd_up_32, b2, e58]
          refine rd_ild (pc := 863) d_L_law_863 rfl ?_
          refine rd_i2l (pc := 865) d_L_law_865 ⟨by omega, by omega⟩ ?_
          refine rd_lcmpE (pc := 866) (tgt := 872) d_L_law_866 d_L_law_867 rfl (by have h3 := hI.2.1; obtain ⟨g1, g2, g3⟩ := hag.2.2.1 (xs (i + 1)) (by omega) (by omega) rfl; rw [a3, b4]; exact (g3 (xs (i + 2)) (by omega) (by omega)).symm) ?_
          refine rd_goto (pc := 872) (tgt := 1220) d_L_law_872 rfl ?_
          refine rd_weak (L' := [some (.ref 999), some (.ref 0), some (.ref 32), some (.ref 58), some (rd_i i), none, none, none]) (by simp [rd_le]) ?_
          exact hX _ _ _ _ (h.ask a1 b1)
      · skip
        exfalso; omega
set_option maxHeartbeats 4000000 in
set_option maxRecDepth 100000 in
theorem lw_total {Ls n0 n nt : Nat} {xs : Int → Int} {o : Int → Int} {i : Int} {M : rd_M} {Q : rd_R → rd_M → Prop} (hx : ∀ j, rd_I (xs j)) (h : k_R M n nt o) (hn0 : n0 + 1 ≤ 1110) (i0 : 0 ≤ i) (i1 : i + 6 ≤ Ls) (hX : ∀ (M' : rd_M) (n' nt' : Nat) (o' : Int → Int), k_R M' n' nt' o' → rd_G (x_L_law Ls xs) 1220 [some (.ref 999), some (.ref 0), some (.ref 32), some (.ref 58), some (rd_i i), none, none, none] [] M' (n0 + 1) Q) : rd_G (x_L_law Ls xs) 875 [some (.ref 999), some (.ref 0), some (.ref 32), some (.ref 58), some (rd_i i), none, none, none] [] M n0 Q := by
  have hI := h.1.1
  have hn2 := h.1.2.2.1
  have hn3 := h.1.2.2.2.1
  have hH := h.1.2.2.2.2
  have hBc := h.1
  have E5 := h.2.2.2.2.1
  have E6 := h.2.2.2.2.2.1
  have E7 := h.e7
  have E8 := h.e8
  have E9 := h.e9
  have E10 := h.e10
  have E11 := h.e11
  have E12 := h.e12
  have E13 := h.e13
  have E14 := h.e14
  have E16 := h.e16
  have E17 := h.e17
  have E18 := h.e18
  have E19 := h.e19
  have E20 := h.e20
  have E21 := h.e21
  have E22 := h.e22
  refine rd_aldn (pc := 875) d_L_law_875 rfl ?_
  refine rd_aldn (pc := 876) d_L_law_876 rfl ?_
  refine rd_ild (pc := 877) d_L_law_877 rfl ?_
  refine rd_iconst (pc := 879) d_L_law_879 ?_
  refine rd_iadd (pc := 880) d_L_law_880 ?_
  refine rd_sld (pc := 881) d_L_law_881 rfl (by omega) (by omega) ?_
  refine rd_aldn (pc := 882) d_L_law_882 rfl ?_
  refine rd_ild (pc := 883) d_L_law_883 rfl ?_
  refine rd_iconst (pc := 885) d_L_law_885 ?_
  refine rd_iadd (pc := 886) d_L_law_886 ?_
  refine rd_sld (pc := 887) d_L_law_887 rfl (by omega) (by omega) ?_
  refine rd_aldn (pc := 888) d_L_law_888 rfl ?_
  refine rd_callSi (pc := 889) (n' := n0 + 1) [_, _, _, _] d_L_law_889 ml_L_128 (Nat.le_of_ble_eq_true rfl) (Nat.le_of_ble_eq_true rfl) hn0 rfl rfl rfl (Nat.le_of_ble_eq_true rfl) (Nat.le_of_ble_eq_true rfl) ?_
  refine ev_L_total hBc (hx _) (hx _) (fun z => ⟨_, rfl, ?_⟩) (fun z M1 Z v a1 a2 a3 => ⟨_, rfl, ?_⟩)
  · skip
    refine rd_ist5 (pc := 892) d_L_law_892 rfl ?_
    refine rd_aldn (pc := 894) d_L_law_894 rfl ?_
    refine rd_aldn (pc := 895) d_L_law_895 rfl ?_
    refine rd_ild (pc := 896) d_L_law_896 rfl ?_
    refine rd_iconst (pc := 898) d_L_law_898 ?_
    refine rd_iadd (pc := 899) d_L_law_899 ?_
    refine rd_sld (pc := 900) d_L_law_900 rfl (by omega) (by omega) ?_
    refine rd_aldn (pc := 901) d_L_law_901 rfl ?_
    refine rd_ild (pc := 902) d_L_law_902 rfl ?_
    refine rd_iconst (pc := 904) d_L_law_904 ?_
    refine rd_iadd (pc := 905) d_L_law_905 ?_
    refine rd_sld (pc := 906) d_L_law_906 rfl (by omega) (by omega) ?_
    refine rd_callVl (pc := 907) (n' := n0 + 1) [_, _] d_L_law_907 ml_L_130 rfl (Nat.le_of_ble_eq_true rfl) (Nat.le_of_ble_eq_true rfl) hn0 rfl rfl rfl (Nat.le_of_ble_eq_true rfl) (Nat.le_of_ble_eq_true rfl) ?_
    refine ev_M_total h.r h.T (hx _) (hx _) (fun w => ⟨_, rfl, ?_⟩) (fun w M2 Z' v' b1 b2 b3 b4 => ⟨_, rfl, ?_⟩)
    · skip
      refine rd_lst6 (pc := 910) d_L_law_910 rfl ?_
      refine rd_aldn (pc := 912) d_L_law_912 rfl ?_
      refine rd_callVi (pc := 913) (n' := n0 + 1) [] d_L_law_913 ml_L_85 rfl (Nat.le_of_ble_eq_true rfl) (Nat.le_of_ble_eq_true rfl) hn0 rfl rfl rfl (Nat.le_of_ble_eq_true rfl) (Nat.le_of_ble_eq_true rfl) ?_
      refine ev_M_thrown ?_
      refine ⟨_, rfl, ?_⟩
      try simp (decide := true) only [rd_up_app, rd_up_hit, rd_up_32]
      refine rd_ild (pc := 916) d_L_law_916 rfl ?_
      refine rd_icmp_eq (pc := 918) (tgt := 923) d_L_law_918 rfl ⟨by omega, by omega⟩ ⟨by omega, by omega⟩ (fun h918 => ?_) (fun h918 => ?_)
      · skip
        refine rd_ild (pc := 923) d_L_law_923 rfl ?_
        refine rd_if_ne (pc := 925) (tgt := 939) d_L_law_925 rfl ⟨by omega, by omega⟩ (fun h925 => ?_) (fun h925 => ?_)
        · skip
          refine rd_goto (pc := 939) (tgt := 1220) d_L_law_939 rfl ?_
          refine rd_weak (L' := [some (.ref 999), some (.ref 0), some (.ref 32), some (.ref 58), some (rd_i i), none, none, none]) (by simp [rd_le]) ?_
          exact hX _ _ _ _ h.th
        · exact absurd h925 (by decide)
      · skip
        exfalso; omega
    · skip
      exfalso
      simp (decide := true) only [rd_up_app, rd_up_32, E5, E6, E7, E8, E9, E10, E11, E12, E13, E14, E16, E17, E18, E19, E20, E21, E22, hn2, hn3] at *
      omega
  · skip
    refine rd_ist5 (pc := 892) d_L_law_892 rfl ?_
    refine rd_aldn (pc := 894) d_L_law_894 rfl ?_
    refine rd_aldn (pc := 895) d_L_law_895 rfl ?_
    refine rd_ild (pc := 896) d_L_law_896 rfl ?_
    refine rd_iconst (pc := 898) d_L_law_898 ?_
    refine rd_iadd (pc := 899) d_L_law_899 ?_
    refine rd_sld (pc := 900) d_L_law_900 rfl (by omega) (by omega) ?_
    refine rd_aldn (pc := 901) d_L_law_901 rfl ?_
    refine rd_ild (pc := 902) d_L_law_902 rfl ?_
    refine rd_iconst (pc := 904) d_L_law_904 ?_
    refine rd_iadd (pc := 905) d_L_law_905 ?_
    refine rd_sld (pc := 906) d_L_law_906 rfl (by omega) (by omega) ?_
    have hkp : ∀ q, 32 ≤ q → q ≤ 48 → rd_up M1 58 0 v q = M q := fun q qa qb => by rw [rd_up_ne (by omega)]; exact a1 q (by omega) (by omega)
    have c41 := hkp 41 (by decide) (by decide)
    have c33 := hkp 33 (by decide) (by decide)
    refine rd_callVl (pc := 907) (n' := n0 + 1) [_, _] d_L_law_907 ml_L_130 rfl (Nat.le_of_ble_eq_true rfl) (Nat.le_of_ble_eq_true rfl) hn0 rfl rfl rfl (Nat.le_of_ble_eq_true rfl) (Nat.le_of_ble_eq_true rfl) ?_
    refine ev_M_total (h.r.keep hkp) (h.T.keep hkp) (hx _) (hx _) (fun w => ⟨_, rfl, ?_⟩) (fun w M2 Z' v' b1 b2 b3 b4 => ⟨_, rfl, ?_⟩)
    · skip
      exfalso
      try rw [c41] at w
      simp (decide := true) only [E5, E6, E7, E8, E9, E10, E11, E12, E13, E14, E16, E17, E18, E19, E20, E21, E22, hn2, hn3] at z
      omega
    · skip
      rw [r_d_keep hkp] at b3 b4
      rw [← h.2.2.2.1] at b3 b4
      have e58 : M2 58 0 = v := by rw [b1.1 58 (by decide) (by decide), rd_up_hit]
      have hn4 := hI.n hn2
      have hag := sp_run_ag (nt := nt) b3 a2 hn4
      refine rd_lst6 (pc := 910) d_L_law_910 rfl ?_
      refine rd_aldn (pc := 912) d_L_law_912 rfl ?_
      refine rd_callVi (pc := 913) (n' := n0 + 1) [] d_L_law_913 ml_L_85 rfl (Nat.le_of_ble_eq_true rfl) (Nat.le_of_ble_eq_true rfl) hn0 rfl rfl rfl (Nat.le_of_ble_eq_true rfl) (Nat.le_of_ble_eq_true rfl) ?_
      refine ev_M_thrown ?_
      refine ⟨_, rfl, ?_⟩
      try simp (decide := true) only [rd_up_app, rd_up_hit, rd_up_32, b2, e58]
      refine rd_ild (pc := 916) d_L_law_916 rfl ?_
      refine rd_icmp_eq (pc := 918) (tgt := 923) d_L_law_918 rfl ⟨by omega, by omega⟩ ⟨by omega, by omega⟩ (fun h918 => ?_) (fun h918 => ?_)
      · skip
        refine rd_ild (pc := 923) d_L_law_923 rfl ?_
        refine rd_if_ne (pc := 925) (tgt := 939) d_L_law_925 rfl ⟨by omega, by omega⟩ (fun h925 => ?_) (fun h925 => ?_)
        · exact absurd h925 (by decide)
        · skip
          refine rd_aldn (pc := 928) d_L_law_928 rfl ?_
          refine rd_iconst (pc := 929) d_L_law_929 ?_
          refine rd_lald (pc := 930) d_L_law_930 rfl (by omega) (by omega) ?_
          try simp (decide := true) only [rd_up_app, rd_up_hit, rd_up_32, b2, e58]
          refine rd_lld (pc := 931) d_L_law_931 rfl ?_
          refine rd_lcmpE (pc := 933) (tgt := 939) d_L_law_933 d_L_law_934 rfl (by have h3 := hI.2.1; obtain ⟨g1, g2, g3⟩ := hag.2.2.1 (xs (i + 1)) (by omega) (by omega) rfl; rw [a3, b4, g1, g2]) ?_
          refine rd_goto (pc := 939) (tgt := 1220) d_L_law_939 rfl ?_
          refine rd_weak (L' := [some (.ref 999), some (.ref 0), some (.ref 32), some (.ref 58), some (rd_i i), none, none, none]) (by simp [rd_le]) ?_
          exact hX _ _ _ _ (h.ask a1 b1)
      · skip
        exfalso; omega
set_option maxHeartbeats 4000000 in
set_option maxRecDepth 100000 in
theorem lw_due {Ls n0 n nt : Nat} {xs : Int → Int} {o : Int → Int} {i : Int} {M : rd_M} {Q : rd_R → rd_M → Prop} (hx : ∀ j, rd_I (xs j)) (h : k_R M n nt o) (hn0 : n0 + 1 ≤ 1110) (i0 : 0 ≤ i) (i1 : i + 6 ≤ Ls) (hX : ∀ (M' : rd_M) (n' nt' : Nat) (o' : Int → Int), k_R M' n' nt' o' → rd_G (x_L_law Ls xs) 1220 [some (.ref 999), some (.ref 0), some (.ref 32), some (.ref 58), some (rd_i i), none, none, none] [] M' (n0 + 1) Q) : rd_G (x_L_law Ls xs) 942 [some (.ref 999), some (.ref 0), some (.ref 32), some (.ref 58), some (rd_i i), none, none, none] [] M n0 Q := by
  have hI := h.1.1
  have hn2 := h.1.2.2.1
  have hn3 := h.1.2.2.2.1
  have hH := h.1.2.2.2.2
  have hBc := h.1
  have E5 := h.2.2.2.2.1
  have E6 := h.2.2.2.2.2.1
  have E7 := h.e7
  have E8 := h.e8
  have E9 := h.e9
  have E10 := h.e10
  have E11 := h.e11
  have E12 := h.e12
  have E13 := h.e13
  have E14 := h.e14
  have E16 := h.e16
  have E17 := h.e17
  have E18 := h.e18
  have E19 := h.e19
  have E20 := h.e20
  have E21 := h.e21
  have E22 := h.e22
  refine rd_aldn (pc := 942) d_L_law_942 rfl ?_
  refine rd_aldn (pc := 943) d_L_law_943 rfl ?_
  refine rd_ild (pc := 944) d_L_law_944 rfl ?_
  refine rd_iconst (pc := 946) d_L_law_946 ?_
  refine rd_iadd (pc := 947) d_L_law_947 ?_
  refine rd_sld (pc := 948) d_L_law_948 rfl (by omega) (by omega) ?_
  refine rd_aldn (pc := 949) d_L_law_949 rfl ?_
  refine rd_ild (pc := 950) d_L_law_950 rfl ?_
  refine rd_iconst (pc := 952) d_L_law_952 ?_
  refine rd_iadd (pc := 953) d_L_law_953 ?_
  refine rd_sld (pc := 954) d_L_law_954 rfl (by omega) (by omega) ?_
  refine rd_aldn (pc := 955) d_L_law_955 rfl ?_
  refine rd_ild (pc := 956) d_L_law_956 rfl ?_
  refine rd_iconst (pc := 958) d_L_law_958 ?_
  refine rd_iadd (pc := 959) d_L_law_959 ?_
  refine rd_sld (pc := 960) d_L_law_960 rfl (by omega) (by omega) ?_
  refine rd_aldn (pc := 961) d_L_law_961 rfl ?_
  refine rd_callSi (pc := 962) (n' := n0 + 1) [_, _, _, _, _] d_L_law_962 ml_L_131 (Nat.le_of_ble_eq_true rfl) (Nat.le_of_ble_eq_true rfl) hn0 rfl rfl rfl (Nat.le_of_ble_eq_true rfl) (Nat.le_of_ble_eq_true rfl) ?_
  refine ev_L_due hBc (hx _) (hx _) (hx _) (fun z => ⟨_, rfl, ?_⟩) (fun z M1 Z v a1 a2 a3 => ⟨_, rfl, ?_⟩)
  · skip
    refine rd_ist5 (pc := 965) d_L_law_965 rfl ?_
    refine rd_aldn (pc := 967) d_L_law_967 rfl ?_
    refine rd_aldn (pc := 968) d_L_law_968 rfl ?_
    refine rd_ild (pc := 969) d_L_law_969 rfl ?_
    refine rd_iconst (pc := 971) d_L_law_971 ?_
    refine rd_iadd (pc := 972) d_L_law_972 ?_
    refine rd_sld (pc := 973) d_L_law_973 rfl (by omega) (by omega) ?_
    refine rd_aldn (pc := 974) d_L_law_974 rfl ?_
    refine rd_ild (pc := 975) d_L_law_975 rfl ?_
    refine rd_iconst (pc := 977) d_L_law_977 ?_
    refine rd_iadd (pc := 978) d_L_law_978 ?_
    refine rd_sld (pc := 979) d_L_law_979 rfl (by omega) (by omega) ?_
    refine rd_aldn (pc := 980) d_L_law_980 rfl ?_
    refine rd_ild (pc := 981) d_L_law_981 rfl ?_
    refine rd_iconst (pc := 983) d_L_law_983 ?_
    refine rd_iadd (pc := 984) d_L_law_984 ?_
    refine rd_sld (pc := 985) d_L_law_985 rfl (by omega) (by omega) ?_
    refine rd_callVl (pc := 986) (n' := n0 + 1) [_, _, _] d_L_law_986 ml_L_133 rfl (Nat.le_of_ble_eq_true rfl) (Nat.le_of_ble_eq_true rfl) hn0 rfl rfl rfl (Nat.le_of_ble_eq_true rfl) (Nat.le_of_ble_eq_true rfl) ?_
    refine ev_M_due h.r h.T h.b (hx _) (hx _) (hx _) (fun w => ⟨_, rfl, ?_⟩) (fun w M2 Z' v' b1 b2 b3 b4 => ⟨_, rfl, ?_⟩)
    · skip
      refine rd_lst6 (pc := 989) d_L_law_989 rfl ?_
      refine rd_aldn (pc := 991) d_L_law_991 rfl ?_
      refine rd_callVi (pc := 992) (n' := n0 + 1) [] d_L_law_992 ml_L_85 rfl (Nat.le_of_ble_eq_true rfl) (Nat.le_of_ble_eq_true rfl) hn0 rfl rfl rfl (Nat.le_of_ble_eq_true rfl) (Nat.le_of_ble_eq_true rfl) ?_
      refine ev_M_thrown ?_
      refine ⟨_, rfl, ?_⟩
      try simp (decide := true) only [rd_up_app, rd_up_hit, rd_up_32]
      refine rd_ild (pc := 995) d_L_law_995 rfl ?_
      refine rd_icmp_eq (pc := 997) (tgt := 1002) d_L_law_997 rfl ⟨by omega, by omega⟩ ⟨by omega, by omega⟩ (fun h997 => ?_) (fun h997 => ?_)
      · skip
        refine rd_ild (pc := 1002) d_L_law_1002 rfl ?_
        refine rd_if_ne (pc := 1004) (tgt := 1018) d_L_law_1004 rfl ⟨by omega, by omega⟩ (fun h1004 => ?_) (fun h1004 => ?_)
        · skip
          refine rd_goto (pc := 1018) (tgt := 1220) d_L_law_1018 rfl ?_
          refine rd_weak (L' := [some (.ref 999), some (.ref 0), some (.ref 32), some (.ref 58), some (rd_i i), none, none, none]) (by simp [rd_le]) ?_
          exact hX _ _ _ _ h.th
        · exact absurd h1004 (by decide)
      · skip
        exfalso; omega
    · skip
      exfalso
      simp (decide := true) only [rd_up_app, rd_up_32, E5, E6, E7, E8, E9, E10, E11, E12, E13, E14, E16, E17, E18, E19, E20, E21, E22, hn2, hn3] at *
      omega
  · skip
    refine rd_ist5 (pc := 965) d_L_law_965 rfl ?_
    refine rd_aldn (pc := 967) d_L_law_967 rfl ?_
    refine rd_aldn (pc := 968) d_L_law_968 rfl ?_
    refine rd_ild (pc := 969) d_L_law_969 rfl ?_
    refine rd_iconst (pc := 971) d_L_law_971 ?_
    refine rd_iadd (pc := 972) d_L_law_972 ?_
    refine rd_sld (pc := 973) d_L_law_973 rfl (by omega) (by omega) ?_
    refine rd_aldn (pc := 974) d_L_law_974 rfl ?_
    refine rd_ild (pc := 975) d_L_law_975 rfl ?_
    refine rd_iconst (pc := 977) d_L_law_977 ?_
    refine rd_iadd (pc := 978) d_L_law_978 ?_
    refine rd_sld (pc := 979) d_L_law_979 rfl (by omega) (by omega) ?_
    refine rd_aldn (pc := 980) d_L_law_980 rfl ?_
    refine rd_ild (pc := 981) d_L_law_981 rfl ?_
    refine rd_iconst (pc := 983) d_L_law_983 ?_
    refine rd_iadd (pc := 984) d_L_law_984 ?_
    refine rd_sld (pc := 985) d_L_law_985 rfl (by omega) (by omega) ?_
    have hkp : ∀ q, 32 ≤ q → q ≤ 48 → rd_up M1 58 0 v q = M q := fun q qa qb => by rw [rd_up_ne (by omega)]; exact a1 q (by omega) (by omega)
    have c41 := hkp 41 (by decide) (by decide)
    have c33 := hkp 33 (by decide) (by decide)
    refine rd_callVl (pc := 986) (n' := n0 + 1) [_, _, _] d_L_law_986 ml_L_133 rfl (Nat.le_of_ble_eq_true rfl) (Nat.le_of_ble_eq_true rfl) hn0 rfl rfl rfl (Nat.le_of_ble_eq_true rfl) (Nat.le_of_ble_eq_true rfl) ?_
    refine ev_M_due (h.r.keep hkp) (h.T.keep hkp) (by rw [hkp 43 (by decide) (by decide)]; exact h.b) (hx _) (hx _) (hx _) (fun w => ⟨_, rfl, ?_⟩) (fun w M2 Z' v' b1 b2 b3 b4 => ⟨_, rfl, ?_⟩)
    · skip
      exfalso
      try rw [c41] at w
      simp (decide := true) only [E5, E6, E7, E8, E9, E10, E11, E12, E13, E14, E16, E17, E18, E19, E20, E21, E22, hn2, hn3] at z
      omega
    · skip
      rw [r_d_keep hkp] at b3 b4
      rw [← h.2.2.2.1] at b3 b4
      have e58 : M2 58 0 = v := by rw [b1.1 58 (by decide) (by decide), rd_up_hit]
      have hn4 := hI.n hn2
      have hag := sp_run_ag (nt := nt) b3 a2 hn4
      refine rd_lst6 (pc := 989) d_L_law_989 rfl ?_
      refine rd_aldn (pc := 991) d_L_law_991 rfl ?_
      refine rd_callVi (pc := 992) (n' := n0 + 1) [] d_L_law_992 ml_L_85 rfl (Nat.le_of_ble_eq_true rfl) (Nat.le_of_ble_eq_true rfl) hn0 rfl rfl rfl (Nat.le_of_ble_eq_true rfl) (Nat.le_of_ble_eq_true rfl) ?_
      refine ev_M_thrown ?_
      refine ⟨_, rfl, ?_⟩
      try simp (decide := true) only [rd_up_app, rd_up_hit, rd_up_32, b2, e58]
      refine rd_ild (pc := 995) d_L_law_995 rfl ?_
      refine rd_icmp_eq (pc := 997) (tgt := 1002) d_L_law_997 rfl ⟨by omega, by omega⟩ ⟨by omega, by omega⟩ (fun h997 => ?_) (fun h997 => ?_)
      · skip
        refine rd_ild (pc := 1002) d_L_law_1002 rfl ?_
        refine rd_if_ne (pc := 1004) (tgt := 1018) d_L_law_1004 rfl ⟨by omega, by omega⟩ (fun h1004 => ?_) (fun h1004 => ?_)
        · exact absurd h1004 (by decide)
        · skip
          refine rd_aldn (pc := 1007) d_L_law_1007 rfl ?_
          refine rd_iconst (pc := 1008) d_L_law_1008 ?_
          refine rd_lald (pc := 1009) d_L_law_1009 rfl (by omega) (by omega) ?_
          try simp (decide := true) only [rd_up_app, rd_up_hit, rd_up_32, b2, e58]
          refine rd_lld (pc := 1010) d_L_law_1010 rfl ?_
          refine rd_lcmpE (pc := 1012) (tgt := 1018) d_L_law_1012 d_L_law_1013 rfl (by have h3 := hI.2.1; obtain ⟨g1, g2, g3⟩ := hag.2.2.1 (xs (i + 1)) (by omega) (by omega) rfl; rw [a3, b4, g1, hkp 46 (by decide) (by decide), hkp 41 (by decide) (by decide), hkp 43 (by decide) (by decide), hkp 44 (by decide) (by decide), E22, E16, E19, E20]) ?_
          refine rd_goto (pc := 1018) (tgt := 1220) d_L_law_1018 rfl ?_
          refine rd_weak (L' := [some (.ref 999), some (.ref 0), some (.ref 32), some (.ref 58), some (rd_i i), none, none, none]) (by simp [rd_le]) ?_
          exact hX _ _ _ _ (h.ask a1 b1)
      · skip
        exfalso; omega

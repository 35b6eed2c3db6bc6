/-! the law: questions, both sides -/
set_option maxHeartbeats 4000000 in
set_option maxRecDepth 100000 in
theorem lw_kept {Ls n0 n nt : Nat} {xs : Int → Int} {o : Int → Int} {i : Int} {M : rd_M} {Q : rd_R → rd_M → Prop} (hx : ∀ j, rd_I (xs j)) (h : k_R M n nt o) (hn0 : n0 + 1 ≤ 1110) (i0 : 0 ≤ i) (i1 : i + 6 ≤ Ls) (hX : ∀ (M' : rd_M) (n' nt' : Nat) (o' : Int → Int), k_R M' n' nt' o' → rd_G (x_L_law Ls xs) 1220 [some (.ref 999), some (.ref 0), some (.ref 32), some (.ref 58), some (rd_i i), none, none, none] [] M' (n0 + 1) Q) : rd_G (x_L_law Ls xs) 628 [some (.ref 999), some (.ref 0), some (.ref 32), some (.ref 58), some (rd_i i), none, none, none] [] M n0 Q := by
  have hI := h.1.1
  have hn2 := h.1.2.2.1
  have hn3 := h.1.2.2.2.1
  have hH := h.1.2.2.2.2
  have hBc := h.1
  have E5 := h.2.2.2.2.1
  have E6 := h.2.2.2.2.2.1
  have E7 := h.e7
  have E8 := h.e8
  have E9 := h.e9
  have E10 := h.e10
  have E11 := h.e11
  have E12 := h.e12
  have E13 := h.e13
  have E14 := h.e14
  have E16 := h.e16
  have E17 := h.e17
  have E18 := h.e18
  have E19 := h.e19
  have E20 := h.e20
  have E21 := h.e21
  have E22 := h.e22
  refine rd_aldn (pc := 628) d_L_law_628 rfl ?_
  refine rd_aldn (pc := 629) d_L_law_629 rfl ?_
  refine rd_ild (pc := 630) d_L_law_630 rfl ?_
  refine rd_iconst (pc := 632) d_L_law_632 ?_
  refine rd_iadd (pc := 633) d_L_law_633 ?_
  refine rd_sld (pc := 634) d_L_law_634 rfl (by omega) (by omega) ?_
  refine rd_aldn (pc := 635) d_L_law_635 rfl ?_
  refine rd_callSi (pc := 636) (n' := n0 + 1) [_, _, _] d_L_law_636 ml_L_115 (Nat.le_of_ble_eq_true rfl) (Nat.le_of_ble_eq_true rfl) hn0 rfl rfl rfl (Nat.le_of_ble_eq_true rfl) (Nat.le_of_ble_eq_true rfl) ?_
  refine ev_L_kept hBc (hx _) (fun z => ⟨_, rfl, ?_⟩) (fun z M1 Z v a1 a2 a3 a4 => ⟨_, rfl, ?_⟩)
  · skip
    refine rd_ist5 (pc := 639) d_L_law_639 rfl ?_
    refine rd_aldn (pc := 641) d_L_law_641 rfl ?_
    refine rd_aldn (pc := 642) d_L_law_642 rfl ?_
    refine rd_ild (pc := 643) d_L_law_643 rfl ?_
    refine rd_iconst (pc := 645) d_L_law_645 ?_
    refine rd_iadd (pc := 646) d_L_law_646 ?_
    refine rd_sld (pc := 647) d_L_law_647 rfl (by omega) (by omega) ?_
    refine rd_callVi (pc := 648) (n' := n0 + 1) [_] d_L_law_648 ml_L_118 rfl (Nat.le_of_ble_eq_true rfl) (Nat.le_of_ble_eq_true rfl) hn0 rfl rfl rfl (Nat.le_of_ble_eq_true rfl) (Nat.le_of_ble_eq_true rfl) ?_
    refine ev_M_kept h.r h.T (hx _) (fun w => ⟨_, rfl, ?_⟩) (fun w M2 Z' v' b1 b2 b3 b4 b5 => ⟨_, rfl, ?_⟩)
    · skip
      refine rd_ist6 (pc := 651) d_L_law_651 rfl ?_
      refine rd_aldn (pc := 653) d_L_law_653 rfl ?_
      refine rd_callVi (pc := 654) (n' := n0 + 1) [] d_L_law_654 ml_L_85 rfl (Nat.le_of_ble_eq_true rfl) (Nat.le_of_ble_eq_true rfl) hn0 rfl rfl rfl (Nat.le_of_ble_eq_true rfl) (Nat.le_of_ble_eq_true rfl) ?_
      refine ev_M_thrown ?_
      refine ⟨_, rfl, ?_⟩
      try simp (decide := true) only [rd_up_app, rd_up_hit, rd_up_32]
      refine rd_ild (pc := 657) d_L_law_657 rfl ?_
      refine rd_icmp_eq (pc := 659) (tgt := 664) d_L_law_659 rfl ⟨by omega, by omega⟩ ⟨by omega, by omega⟩ (fun h659 => ?_) (fun h659 => ?_)
      · skip
        refine rd_ild (pc := 664) d_L_law_664 rfl ?_
        refine rd_if_ne (pc := 666) (tgt := 681) d_L_law_666 rfl ⟨by omega, by omega⟩ (fun h666 => ?_) (fun h666 => ?_)
        · skip
          refine rd_goto (pc := 681) (tgt := 1220) d_L_law_681 rfl ?_
          refine rd_weak (L' := [some (.ref 999), some (.ref 0), some (.ref 32), some (.ref 58), some (rd_i i), none, none, none]) (by simp [rd_le]) ?_
          exact hX _ _ _ _ h.th
        · exact absurd h666 (by decide)
      · skip
        exfalso; omega
    · skip
      exfalso
      simp (decide := true) only [rd_up_app, rd_up_32, E5, E6, E7, E8, E9, E10, E11, E12, E13, E14, E16, E17, E18, E19, E20, E21, E22, hn2, hn3] at *
      omega
  · skip
    refine rd_ist5 (pc := 639) d_L_law_639 rfl ?_
    refine rd_aldn (pc := 641) d_L_law_641 rfl ?_
    refine rd_aldn (pc := 642) d_L_law_642 rfl ?_
    refine rd_ild (pc := 643) d_L_law_643 rfl ?_
    refine rd_iconst (pc := 645) d_L_law_645 ?_
    refine rd_iadd (pc := 646) d_L_law_646 ?_
    refine rd_sld (pc := 647) d_L_law_647 rfl (by omega) (by omega) ?_
    have hkp : ∀ q, 32 ≤ q → q ≤ 48 → rd_up M1 58 0 v q = M q := fun q qa qb => by rw [rd_up_ne (by omega)]; exact a1 q (by omega) (by omega)
    have c41 := hkp 41 (by decide) (by decide)
    have c33 := hkp 33 (by decide) (by decide)
    refine rd_callVi (pc := 648) (n' := n0 + 1) [_] d_L_law_648 ml_L_118 rfl (Nat.le_of_ble_eq_true rfl) (Nat.le_of_ble_eq_true rfl) hn0 rfl rfl rfl (Nat.le_of_ble_eq_true rfl) (Nat.le_of_ble_eq_true rfl) ?_
    refine ev_M_kept (h.r.keep hkp) (h.T.keep hkp) (hx _) (fun w => ⟨_, rfl, ?_⟩) (fun w M2 Z' v' b1 b2 b3 b4 b5 => ⟨_, rfl, ?_⟩)
    · skip
      exfalso
      try rw [c41] at w
      simp (decide := true) only [E5, E6, E7, E8, E9, E10, E11, E12, E13, E14, E16, E17, E18, E19, E20, E21, E22, hn2, hn3] at z
      omega
    · skip
      rw [r_d_keep hkp] at b3 b4
      rw [← h.2.2.2.1] at b3 b4
      have e58 : M2 58 0 = v := by rw [b1.1 58 (by decide) (by decide), rd_up_hit]
      have hn4 := hI.n hn2
      have hag := sp_run_ag (nt := nt) b3 a2 hn4
      refine rd_ist6 (pc := 651) d_L_law_651 rfl ?_
      refine rd_aldn (pc := 653) d_L_law_653 rfl ?_
      refine rd_callVi (pc := 654) (n' := n0 + 1) [] d_L_law_654 ml_L_85 rfl (Nat.le_of_ble_eq_true rfl) (Nat.le_of_ble_eq_true rfl) hn0 rfl rfl rfl (Nat.le_of_ble_eq_true rfl) (Nat.le_of_ble_eq_true rfl) ?_
      refine ev_M_thrown ?_
      refine ⟨_, rfl, ?_⟩
      try simp (decide := true) only [rd_up_app, rd_up_hit, rd_up_32, b2, e58]
      refine rd_ild (pc := 657) d_L_law_657 rfl ?_
      refine rd_icmp_eq (pc := 659) (tgt := 664) d_L_law_659 rfl ⟨by omega, by omega⟩ ⟨by omega, by omega⟩ (fun h659 => ?_) (fun h659 => ?_)
      · skip
        refine rd_ild (pc := 664) d_L_law_664 rfl ?_
        refine rd_if_ne (pc := 666) (tgt := 681) d_L_law_666 rfl ⟨by omega, by omega⟩ (fun h666 => ?_) (fun h666 => ?_)
        · exact absurd h666 (by decide)
        · skip
          refine rd_aldn (pc := 669) d_L_law_669 rfl ?_
          refine rd_iconst (pc := 670) d_L_law_670 ?_
          refine rd_lald (pc := 671) d_L_law_671 rfl (by omega) (by omega) ?_
          try simp (decide := true) only [rd_up_app, rd_up_hit, rd_up_32, b2, e58]
          refine rd_ild (pc := 672) d_L_law_672 rfl ?_
          refine rd_i2l (pc := 674) d_L_law_674 ⟨by omega, by omega⟩ ?_
          refine rd_lcmpE (pc := 675) (tgt := 681) d_L_law_675 d_L_law_676 rfl (by rw [a3, b4]; exact (hag.1 (xs (i + 1)) (by omega) (by omega) rfl).symm) ?_
          refine rd_goto (pc := 681) (tgt := 1220) d_L_law_681 rfl ?_
          refine rd_weak (L' := [some (.ref 999), some (.ref 0), some (.ref 32), some (.ref 58), some (rd_i i), none, none, none]) (by simp [rd_le]) ?_
          exact hX _ _ _ _ (h.ask a1 b1)
      · skip
        exfalso; omega
set_option maxHeartbeats 4000000 in
set_option maxRecDepth 100000 in
theorem lw_ceded {Ls n0 n nt : Nat} {xs : Int → Int} {o : Int → Int} {i : Int} {M : rd_M} {Q : rd_R → rd_M → Prop} (hx : ∀ j, rd_I (xs j)) (h : k_R M n nt o) (hn0 : n0 + 1 ≤ 1110) (i0 : 0 ≤ i) (i1 : i + 6 ≤ Ls) (hX : ∀ (M' : rd_M) (n' nt' : Nat) (o' : Int → Int), k_R M' n' nt' o' → rd_G (x_L_law Ls xs) 1220 [some (.ref 999), some (.ref 0), some (.ref 32), some (.ref 58), some (rd_i i), none, none, none] [] M' (n0 + 1) Q) : rd_G (x_L_law Ls xs) 684 [some (.ref 999), some (.ref 0), some (.ref 32), some (.ref 58), some (rd_i i), none, none, none] [] M n0 Q := by
  have hI := h.1.1
  have hn2 := h.1.2.2.1
  have hn3 := h.1.2.2.2.1
  have hH := h.1.2.2.2.2
  have hBc := h.1
  have E5 := h.2.2.2.2.1
  have E6 := h.2.2.2.2.2.1
  have E7 := h.e7
  have E8 := h.e8
  have E9 := h.e9
  have E10 := h.e10
  have E11 := h.e11
  have E12 := h.e12
  have E13 := h.e13
  have E14 := h.e14
  have E16 := h.e16
  have E17 := h.e17
  have E18 := h.e18
  have E19 := h.e19
  have E20 := h.e20
  have E21 := h.e21
  have E22 := h.e22
  refine rd_aldn (pc := 684) d_L_law_684 rfl ?_
  refine rd_aldn (pc := 685) d_L_law_685 rfl ?_
  refine rd_ild (pc := 686) d_L_law_686 rfl ?_
  refine rd_iconst (pc := 688) d_L_law_688 ?_
  refine rd_iadd (pc := 689) d_L_law_689 ?_
  refine rd_sld (pc := 690) d_L_law_690 rfl (by omega) (by omega) ?_
  refine rd_aldn (pc := 691) d_L_law_691 rfl ?_
  refine rd_ild (pc := 692) d_L_law_692 rfl ?_
  refine rd_iconst (pc := 694) d_L_law_694 ?_
  refine rd_iadd (pc := 695) d_L_law_695 ?_
  refine rd_sld (pc := 696) d_L_law_696 rfl (by omega) (by omega) ?_
  refine rd_aldn (pc := 697) d_L_law_697 rfl ?_
  refine rd_callSi (pc := 698) (n' := n0 + 1) [_, _, _, _] d_L_law_698 ml_L_119 (Nat.le_of_ble_eq_true rfl) (Nat.le_of_ble_eq_true rfl) hn0 rfl rfl rfl (Nat.le_of_ble_eq_true rfl) (Nat.le_of_ble_eq_true rfl) ?_
  refine ev_L_ceded hBc (hx _) (hx _) (fun z => ⟨_, rfl, ?_⟩) (fun z M1 Z v a1 a2 a3 a4 => ⟨_, rfl, ?_⟩)
  · skip
    refine rd_ist5 (pc := 701) d_L_law_701 rfl ?_
    refine rd_aldn (pc := 703) d_L_law_703 rfl ?_
    refine rd_aldn (pc := 704) d_L_law_704 rfl ?_
    refine rd_ild (pc := 705) d_L_law_705 rfl ?_
    refine rd_iconst (pc := 707) d_L_law_707 ?_
    refine rd_iadd (pc := 708) d_L_law_708 ?_
    refine rd_sld (pc := 709) d_L_law_709 rfl (by omega) (by omega) ?_
    refine rd_aldn (pc := 710) d_L_law_710 rfl ?_
    refine rd_ild (pc := 711) d_L_law_711 rfl ?_
    refine rd_iconst (pc := 713) d_L_law_713 ?_
    refine rd_iadd (pc := 714) d_L_law_714 ?_
    refine rd_sld (pc := 715) d_L_law_715 rfl (by omega) (by omega) ?_
    refine rd_callVi (pc := 716) (n' := n0 + 1) [_, _] d_L_law_716 ml_L_121 rfl (Nat.le_of_ble_eq_true rfl) (Nat.le_of_ble_eq_true rfl) hn0 rfl rfl rfl (Nat.le_of_ble_eq_true rfl) (Nat.le_of_ble_eq_true rfl) ?_
    refine ev_M_ceded h.r h.T (hx _) (hx _) (fun w => ⟨_, rfl, ?_⟩) (fun w M2 Z' v' b1 b2 b3 b4 b5 => ⟨_, rfl, ?_⟩)
    · skip
      refine rd_ist6 (pc := 719) d_L_law_719 rfl ?_
      refine rd_aldn (pc := 721) d_L_law_721 rfl ?_
      refine rd_callVi (pc := 722) (n' := n0 + 1) [] d_L_law_722 ml_L_85 rfl (Nat.le_of_ble_eq_true rfl) (Nat.le_of_ble_eq_true rfl) hn0 rfl rfl rfl (Nat.le_of_ble_eq_true rfl) (Nat.le_of_ble_eq_true rfl) ?_
      refine ev_M_thrown ?_
      refine ⟨_, rfl, ?_⟩
      try simp (decide := true) only [rd_up_app, rd_up_hit, rd_up_32]
      refine rd_ild (pc := 725) d_L_law_725 rfl ?_
      refine rd_icmp_eq (pc := 727) (tgt := 732) d_L_law_727 rfl ⟨by omega, by omega⟩ ⟨by omega, by omega⟩ (fun h727 => ?_) (fun h727 => ?_)
      · skip
        refine rd_ild (pc := 732) d_L_law_732 rfl ?_
        refine rd_if_ne (pc := 734) (tgt := 749) d_L_law_734 rfl ⟨by omega, by omega⟩ (fun h734 => ?_) (fun h734 => ?_)
        · skip
          refine rd_goto (pc := 749) (tgt := 1220) d_L_law_749 rfl ?_
          refine rd_weak (L' := [some (.ref 999), some (.ref 0), some (.ref 32), some (.ref 58), some (rd_i i), none, none, none]) (by simp [rd_le]) ?_
          exact hX _ _ _ _ h.th
        · exact absurd h734 (by decide)
      · skip
        exfalso; omega
    · skip
      exfalso
      simp (decide := true) only [rd_up_app, rd_up_32, E5, E6, E7, E8, E9, E10, E11, E12, E13, E14, E16, E17, E18, E19, E20, E21, E22, hn2, hn3] at *
      omega
  · skip
    refine rd_ist5 (pc := 701) d_L_law_701 rfl ?_
    refine rd_aldn (pc := 703) d_L_law_703 rfl ?_
    refine rd_aldn (pc := 704) d_L_law_704 rfl ?_
    refine rd_ild (pc := 705) d_L_law_705 rfl ?_
    refine rd_iconst (pc := 707) d_L_law_707 ?_
    refine rd_iadd (pc := 708) d_L_law_708 ?_
    refine rd_sld (pc := 709) d_L_law_709 rfl (by omega) (by omega) ?_
    refine rd_aldn (pc := 710) d_L_law_710 rfl ?_
    refine rd_ild (pc := 711) d_L_law_711 rfl ?_
    refine rd_iconst (pc := 713) d_L_law_713 ?_
    refine rd_iadd (pc := 714) d_L_law_714 ?_
    refine rd_sld (pc := 715) d_L_law_715 rfl (by omega) (by omega) ?_
    have hkp : ∀ q, 32 ≤ q → q ≤ 48 → rd_up M1 58 0 v q = M q := fun q qa qb => by rw [rd_up_ne (by omega)]; exact a1 q (by omega) (by omega)
    have c41 := hkp 41 (by decide) (by decide)
    have c33 := hkp 33 (by decide) (by decide)
    refine rd_callVi (pc := 716) (n' := n0 + 1) [_, _] d_L_law_716 ml_L_121 rfl (Nat.le_of_ble_eq_true rfl) (Nat.le_of_ble_eq_true rfl) hn0 rfl rfl rfl (Nat.le_of_ble_eq_true rfl) (Nat.le_of_ble_eq_true rfl) ?_
    refine ev_M_ceded (h.r.keep hkp) (h.T.keep hkp) (hx _) (hx _) (fun w => ⟨_, rfl, ?_⟩) (fun w M2 Z' v' b1 b2 b3 b4 b5 => ⟨_, rfl, ?_⟩)
    · skip
      exfalso
      try rw [c41] at w
      simp (decide := true) only [E5, E6, E7, E8, E9, E10, E11, E12, E13, E14, E16, E17, E18, E19, E20, E21, E22, hn2, hn3] at z
      omega
    · skip
      rw [r_d_keep hkp] at b3 b4
      rw [← h.2.2.2.1] at b3 b4
      have e58 : M2 58 0 = v := by rw [b1.1 58 (by decide) (by decide), rd_up_hit]
      have hn4 := hI.n hn2
      have hag := sp_run_ag (nt := nt) b3 a2 hn4
      refine rd_ist6 (pc := 719) d_L_law_719 rfl ?_
      refine rd_aldn (pc := 721) d_L_law_721 rfl ?_
      refine rd_callVi (pc := 722) (n' := n0 + 1) [] d_L_law_722 ml_L_85 rfl (Nat.le_of_ble_eq_true rfl) (Nat.le_of_ble_eq_true rfl) hn0 rfl rfl rfl (Nat.le_of_ble_eq_true rfl) (Nat.le_of_ble_eq_true rfl) ?_
      refine ev_M_thrown ?_
      refine ⟨_, rfl, ?_⟩
      try simp (decide := true) only [rd_up_app, rd_up_hit, rd_up_32, b2, e58]
      refine rd_ild (pc := 725) d_L_law_725 rfl ?_
      refine rd_icmp_eq (pc := 727) (tgt := 732) d_L_law_727 rfl ⟨by omega, by omega⟩ ⟨by omega, by omega⟩ (fun h727 => ?_) (fun h727 => ?_)
      · skip
        refine rd_ild (pc := 732) d_L_law_732 rfl ?_
        refine rd_if_ne (pc := 734) (tgt := 749) d_L_law_734 rfl ⟨by omega, by omega⟩ (fun h734 => ?_) (fun h734 => ?_)
        · exact absurd h734 (by decide)
        · skip
          refine rd_aldn (pc := 737) d_L_law_737 rfl ?_
          refine rd_iconst (pc := 738) d_L_law_738 ?_
          refine rd_lald (pc := 739) d_L_law_739 rfl (by omega) (by omega) ?_
          try simp (decide := true) only [rd_up_app, rd_up_hit, rd_up_32, b2, e58]
          refine rd_ild (pc := 740) d_L_law_740 rfl ?_
          refine rd_i2l (pc := 742) d_L_law_742 ⟨by omega, by omega⟩ ?_
          refine rd_lcmpE (pc := 743) (tgt := 749) d_L_law_743 d_L_law_744 rfl (by have h3 := hI.2.1; rw [a3, b4]; exact (hag.2.1 (xs (i + 2)) (xs (i + 1)) (by omega) (by omega) (by omega) (by omega) rfl).symm) ?_
          refine rd_goto (pc := 749) (tgt := 1220) d_L_law_749 rfl ?_
          refine rd_weak (L' := [some (.ref 999), some (.ref 0), some (.ref 32), some (.ref 58), some (rd_i i), none, none, none]) (by simp [rd_le]) ?_
          exact hX _ _ _ _ (h.ask a1 b1)
      · skip
        exfalso; omega

section
-- ===== PART A: goes FIRST, ahead of the names: the tables' words, and 'selects' of the private methods out of them =====
/-- a private method of a class that the tables say can be made, by its rows of tables_1 -/
def lw_okq (q : MethodName × Nat) : Prop := (q.1.cls ≠ "java/lang/invoke/MethodHandle" ∧ q.1.cls ≠ "java/lang/invoke/VarHandle") ∧ Cond.instantiable q.1.cls q.2 ∈ tables_1 ∧ Cond.privateMethod q.1 ∈ tables_1 ∧ Cond.instanceMethod q.1 ∈ tables_1
theorem lw_p0 : lw_okq (⟨"java/lang/Throwable", "fillInStackTrace", "(I)Ljava/lang/Throwable;"⟩, 6) := ⟨⟨by decide +kernel, by decide +kernel⟩, List.mem_of_getElem? (i := 251) (by decide +kernel), List.mem_of_getElem? (i := 249) (by decide +kernel), List.mem_of_getElem? (i := 250) (by decide +kernel)⟩
theorem lw_p1 : lw_okq (⟨"ReinsuranceDesk$Claims", "placeByHour", "(I)V"⟩, 7) := ⟨⟨by decide +kernel, by decide +kernel⟩, List.mem_of_getElem? (i := 46) (by decide +kernel), List.mem_of_getElem? (i := 364) (by decide +kernel), List.mem_of_getElem? (i := 365) (by decide +kernel)⟩
theorem lw_p2 : lw_okq (⟨"ReinsuranceDesk", "yearOfClaim", "(I)I"⟩, 6) := ⟨⟨by decide +kernel, by decide +kernel⟩, List.mem_of_getElem? (i := 15) (by decide +kernel), List.mem_of_getElem? (i := 380) (by decide +kernel), List.mem_of_getElem? (i := 381) (by decide +kernel)⟩
theorem lw_p3 : lw_okq (⟨"ReinsuranceDesk$Cession", "begin", "(I)V"⟩, 13) := ⟨⟨by decide +kernel, by decide +kernel⟩, List.mem_of_getElem? (i := 128) (by decide +kernel), List.mem_of_getElem? (i := 412) (by decide +kernel), List.mem_of_getElem? (i := 413) (by decide +kernel)⟩
theorem lw_p4 : lw_okq (⟨"ReinsuranceDesk$Cession", "cedeYear", "(I)V"⟩, 13) := ⟨⟨by decide +kernel, by decide +kernel⟩, List.mem_of_getElem? (i := 128) (by decide +kernel), List.mem_of_getElem? (i := 422) (by decide +kernel), List.mem_of_getElem? (i := 423) (by decide +kernel)⟩
theorem lw_p5 : lw_okq (⟨"ReinsuranceDesk$Cession", "cedeTo", "(I)V"⟩, 13) := ⟨⟨by decide +kernel, by decide +kernel⟩, List.mem_of_getElem? (i := 128) (by decide +kernel), List.mem_of_getElem? (i := 426) (by decide +kernel), List.mem_of_getElem? (i := 427) (by decide +kernel)⟩
theorem lw_p6 : lw_okq (⟨"ReinsuranceDesk$Cession", "cedePremiums", "(I)V"⟩, 13) := ⟨⟨by decide +kernel, by decide +kernel⟩, List.mem_of_getElem? (i := 128) (by decide +kernel), List.mem_of_getElem? (i := 430) (by decide +kernel), List.mem_of_getElem? (i := 431) (by decide +kernel)⟩
theorem lw_p7 : lw_okq (⟨"ReinsuranceDesk$Cession", "cedePartOfEachClaim", "(I)V"⟩, 13) := ⟨⟨by decide +kernel, by decide +kernel⟩, List.mem_of_getElem? (i := 128) (by decide +kernel), List.mem_of_getElem? (i := 446) (by decide +kernel), List.mem_of_getElem? (i := 447) (by decide +kernel)⟩
theorem lw_p8 : lw_okq (⟨"ReinsuranceDesk$Cession", "take", "(IIJ)V"⟩, 13) := ⟨⟨by decide +kernel, by decide +kernel⟩, List.mem_of_getElem? (i := 128) (by decide +kernel), List.mem_of_getElem? (i := 450) (by decide +kernel), List.mem_of_getElem? (i := 451) (by decide +kernel)⟩
theorem lw_p9 : lw_okq (⟨"ReinsuranceDesk$Cession", "cedeExcessOfEachClaim", "(I)V"⟩, 13) := ⟨⟨by decide +kernel, by decide +kernel⟩, List.mem_of_getElem? (i := 128) (by decide +kernel), List.mem_of_getElem? (i := 454) (by decide +kernel), List.mem_of_getElem? (i := 455) (by decide +kernel)⟩
theorem lw_p10 : lw_okq (⟨"ReinsuranceDesk$Cession", "cedeExcessOfEachEvent", "(I)V"⟩, 13) := ⟨⟨by decide +kernel, by decide +kernel⟩, List.mem_of_getElem? (i := 128) (by decide +kernel), List.mem_of_getElem? (i := 470) (by decide +kernel), List.mem_of_getElem? (i := 471) (by decide +kernel)⟩
theorem lw_p11 : lw_okq (⟨"ReinsuranceDesk$Cession", "gatherEvent", "(I)V"⟩, 13) := ⟨⟨by decide +kernel, by decide +kernel⟩, List.mem_of_getElem? (i := 128) (by decide +kernel), List.mem_of_getElem? (i := 474) (by decide +kernel), List.mem_of_getElem? (i := 475) (by decide +kernel)⟩
theorem lw_p12 : lw_okq (⟨"ReinsuranceDesk$Cession", "startOfWindow", "()I"⟩, 13) := ⟨⟨by decide +kernel, by decide +kernel⟩, List.mem_of_getElem? (i := 128) (by decide +kernel), List.mem_of_getElem? (i := 478) (by decide +kernel), List.mem_of_getElem? (i := 479) (by decide +kernel)⟩
theorem lw_p13 : lw_okq (⟨"ReinsuranceDesk$Cession", "keptFrom", "(I)J"⟩, 13) := ⟨⟨by decide +kernel, by decide +kernel⟩, List.mem_of_getElem? (i := 128) (by decide +kernel), List.mem_of_getElem? (i := 483) (by decide +kernel), List.mem_of_getElem? (i := 484) (by decide +kernel)⟩
theorem lw_p14 : lw_okq (⟨"ReinsuranceDesk$Cession", "dropOutside", "(I)V"⟩, 13) := ⟨⟨by decide +kernel, by decide +kernel⟩, List.mem_of_getElem? (i := 128) (by decide +kernel), List.mem_of_getElem? (i := 487) (by decide +kernel), List.mem_of_getElem? (i := 488) (by decide +kernel)⟩
theorem lw_p15 : lw_okq (⟨"ReinsuranceDesk$Cession", "takeByParts", "(IJJ)V"⟩, 13) := ⟨⟨by decide +kernel, by decide +kernel⟩, List.mem_of_getElem? (i := 128) (by decide +kernel), List.mem_of_getElem? (i := 491) (by decide +kernel), List.mem_of_getElem? (i := 492) (by decide +kernel)⟩
def lw_privs_1 : List (MethodName × Nat) := [(⟨"java/lang/Throwable", "fillInStackTrace", "(I)Ljava/lang/Throwable;"⟩, 6), (⟨"ReinsuranceDesk$Claims", "placeByHour", "(I)V"⟩, 7), (⟨"ReinsuranceDesk", "yearOfClaim", "(I)I"⟩, 6), (⟨"ReinsuranceDesk$Cession", "begin", "(I)V"⟩, 13), (⟨"ReinsuranceDesk$Cession", "cedeYear", "(I)V"⟩, 13), (⟨"ReinsuranceDesk$Cession", "cedeTo", "(I)V"⟩, 13), (⟨"ReinsuranceDesk$Cession", "cedePremiums", "(I)V"⟩, 13), (⟨"ReinsuranceDesk$Cession", "cedePartOfEachClaim", "(I)V"⟩, 13), (⟨"ReinsuranceDesk$Cession", "take", "(IIJ)V"⟩, 13), (⟨"ReinsuranceDesk$Cession", "cedeExcessOfEachClaim", "(I)V"⟩, 13), (⟨"ReinsuranceDesk$Cession", "cedeExcessOfEachEvent", "(I)V"⟩, 13), (⟨"ReinsuranceDesk$Cession", "gatherEvent", "(I)V"⟩, 13), (⟨"ReinsuranceDesk$Cession", "startOfWindow", "()I"⟩, 13), (⟨"ReinsuranceDesk$Cession", "keptFrom", "(I)J"⟩, 13), (⟨"ReinsuranceDesk$Cession", "dropOutside", "(I)V"⟩, 13), (⟨"ReinsuranceDesk$Cession", "takeByParts", "(IJJ)V"⟩, 13)]
theorem lw_r1 : ∀ q ∈ lw_privs_1, lw_okq q := List.forall_mem_cons.mpr ⟨lw_p0, List.forall_mem_cons.mpr ⟨lw_p1, List.forall_mem_cons.mpr ⟨lw_p2, List.forall_mem_cons.mpr ⟨lw_p3, List.forall_mem_cons.mpr ⟨lw_p4, List.forall_mem_cons.mpr ⟨lw_p5, List.forall_mem_cons.mpr ⟨lw_p6, List.forall_mem_cons.mpr ⟨lw_p7, List.forall_mem_cons.mpr ⟨lw_p8, List.forall_mem_cons.mpr ⟨lw_p9, List.forall_mem_cons.mpr ⟨lw_p10, List.forall_mem_cons.mpr ⟨lw_p11, List.forall_mem_cons.mpr ⟨lw_p12, List.forall_mem_cons.mpr ⟨lw_p13, List.forall_mem_cons.mpr ⟨lw_p14, List.forall_mem_cons.mpr ⟨lw_p15, fun _ h => absurd h List.not_mem_nil⟩⟩⟩⟩⟩⟩⟩⟩⟩⟩⟩⟩⟩⟩⟩⟩
theorem lw_p16 : lw_okq (⟨"ReinsuranceDesk$Cession", "greatestRemainder", "()I"⟩, 13) := ⟨⟨by decide +kernel, by decide +kernel⟩, List.mem_of_getElem? (i := 128) (by decide +kernel), List.mem_of_getElem? (i := 495) (by decide +kernel), List.mem_of_getElem? (i := 496) (by decide +kernel)⟩
theorem lw_p17 : lw_okq (⟨"ReinsuranceDesk$Cession", "cedeStopLoss", "(I)V"⟩, 13) := ⟨⟨by decide +kernel, by decide +kernel⟩, List.mem_of_getElem? (i := 128) (by decide +kernel), List.mem_of_getElem? (i := 499) (by decide +kernel), List.mem_of_getElem? (i := 500) (by decide +kernel)⟩
theorem lw_p18 : lw_okq (⟨"ReinsuranceDeskModel", "throwing", "(ZZ)Z"⟩, 30) := ⟨⟨by decide +kernel, by decide +kernel⟩, List.mem_of_getElem? (i := 609) (by decide +kernel), List.mem_of_getElem? (i := 720) (by decide +kernel), List.mem_of_getElem? (i := 721) (by decide +kernel)⟩
theorem lw_p19 : lw_okq (⟨"ReinsuranceDeskModel", "isRisk", "(I)Z"⟩, 30) := ⟨⟨by decide +kernel, by decide +kernel⟩, List.mem_of_getElem? (i := 609) (by decide +kernel), List.mem_of_getElem? (i := 728) (by decide +kernel), List.mem_of_getElem? (i := 729) (by decide +kernel)⟩
theorem lw_p20 : lw_okq (⟨"ReinsuranceDeskModel", "isTreaty", "(I)Z"⟩, 30) := ⟨⟨by decide +kernel, by decide +kernel⟩, List.mem_of_getElem? (i := 609) (by decide +kernel), List.mem_of_getElem? (i := 747) (by decide +kernel), List.mem_of_getElem? (i := 748) (by decide +kernel)⟩
theorem lw_p21 : lw_okq (⟨"ReinsuranceDeskModel", "treatyYear", "(I)I"⟩, 30) := ⟨⟨by decide +kernel, by decide +kernel⟩, List.mem_of_getElem? (i := 609) (by decide +kernel), List.mem_of_getElem? (i := 751) (by decide +kernel), List.mem_of_getElem? (i := 752) (by decide +kernel)⟩
theorem lw_p22 : lw_okq (⟨"ReinsuranceDeskModel", "isClaim", "(I)Z"⟩, 30) := ⟨⟨by decide +kernel, by decide +kernel⟩, List.mem_of_getElem? (i := 609) (by decide +kernel), List.mem_of_getElem? (i := 765) (by decide +kernel), List.mem_of_getElem? (i := 766) (by decide +kernel)⟩
theorem lw_p23 : lw_okq (⟨"ReinsuranceDeskModel", "claimYear", "(I)I"⟩, 30) := ⟨⟨by decide +kernel, by decide +kernel⟩, List.mem_of_getElem? (i := 609) (by decide +kernel), List.mem_of_getElem? (i := 769) (by decide +kernel), List.mem_of_getElem? (i := 770) (by decide +kernel)⟩
theorem lw_p24 : lw_okq (⟨"ReinsuranceDeskModel", "reckon", "()V"⟩, 30) := ⟨⟨by decide +kernel, by decide +kernel⟩, List.mem_of_getElem? (i := 609) (by decide +kernel), List.mem_of_getElem? (i := 789) (by decide +kernel), List.mem_of_getElem? (i := 790) (by decide +kernel)⟩
theorem lw_p25 : lw_okq (⟨"ReinsuranceDeskModel", "kindOf", "(I)I"⟩, 30) := ⟨⟨by decide +kernel, by decide +kernel⟩, List.mem_of_getElem? (i := 609) (by decide +kernel), List.mem_of_getElem? (i := 793) (by decide +kernel), List.mem_of_getElem? (i := 794) (by decide +kernel)⟩
theorem lw_p26 : lw_okq (⟨"ReinsuranceDeskModel", "apply", "(I)V"⟩, 30) := ⟨⟨by decide +kernel, by decide +kernel⟩, List.mem_of_getElem? (i := 609) (by decide +kernel), List.mem_of_getElem? (i := 797) (by decide +kernel), List.mem_of_getElem? (i := 798) (by decide +kernel)⟩
theorem lw_p27 : lw_okq (⟨"ReinsuranceDeskModel", "counts", "(II)Z"⟩, 30) := ⟨⟨by decide +kernel, by decide +kernel⟩, List.mem_of_getElem? (i := 609) (by decide +kernel), List.mem_of_getElem? (i := 801) (by decide +kernel), List.mem_of_getElem? (i := 802) (by decide +kernel)⟩
theorem lw_p28 : lw_okq (⟨"ReinsuranceDeskModel", "partOf", "(II)J"⟩, 30) := ⟨⟨by decide +kernel, by decide +kernel⟩, List.mem_of_getElem? (i := 609) (by decide +kernel), List.mem_of_getElem? (i := 805) (by decide +kernel), List.mem_of_getElem? (i := 806) (by decide +kernel)⟩
theorem lw_p29 : lw_okq (⟨"ReinsuranceDeskModel", "take", "(IIJ)V"⟩, 30) := ⟨⟨by decide +kernel, by decide +kernel⟩, List.mem_of_getElem? (i := 609) (by decide +kernel), List.mem_of_getElem? (i := 809) (by decide +kernel), List.mem_of_getElem? (i := 810) (by decide +kernel)⟩
theorem lw_p30 : lw_okq (⟨"ReinsuranceDeskModel", "excessOfRisks", "(I)V"⟩, 30) := ⟨⟨by decide +kernel, by decide +kernel⟩, List.mem_of_getElem? (i := 609) (by decide +kernel), List.mem_of_getElem? (i := 813) (by decide +kernel), List.mem_of_getElem? (i := 814) (by decide +kernel)⟩
theorem lw_p31 : lw_okq (⟨"ReinsuranceDeskModel", "allowed", "(IJ)J"⟩, 30) := ⟨⟨by decide +kernel, by decide +kernel⟩, List.mem_of_getElem? (i := 609) (by decide +kernel), List.mem_of_getElem? (i := 820) (by decide +kernel), List.mem_of_getElem? (i := 821) (by decide +kernel)⟩
def lw_privs_2 : List (MethodName × Nat) := [(⟨"ReinsuranceDesk$Cession", "greatestRemainder", "()I"⟩, 13), (⟨"ReinsuranceDesk$Cession", "cedeStopLoss", "(I)V"⟩, 13), (⟨"ReinsuranceDeskModel", "throwing", "(ZZ)Z"⟩, 30), (⟨"ReinsuranceDeskModel", "isRisk", "(I)Z"⟩, 30), (⟨"ReinsuranceDeskModel", "isTreaty", "(I)Z"⟩, 30), (⟨"ReinsuranceDeskModel", "treatyYear", "(I)I"⟩, 30), (⟨"ReinsuranceDeskModel", "isClaim", "(I)Z"⟩, 30), (⟨"ReinsuranceDeskModel", "claimYear", "(I)I"⟩, 30), (⟨"ReinsuranceDeskModel", "reckon", "()V"⟩, 30), (⟨"ReinsuranceDeskModel", "kindOf", "(I)I"⟩, 30), (⟨"ReinsuranceDeskModel", "apply", "(I)V"⟩, 30), (⟨"ReinsuranceDeskModel", "counts", "(II)Z"⟩, 30), (⟨"ReinsuranceDeskModel", "partOf", "(II)J"⟩, 30), (⟨"ReinsuranceDeskModel", "take", "(IIJ)V"⟩, 30), (⟨"ReinsuranceDeskModel", "excessOfRisks", "(I)V"⟩, 30), (⟨"ReinsuranceDeskModel", "allowed", "(IJ)J"⟩, 30)]
theorem lw_r2 : ∀ q ∈ lw_privs_2, lw_okq q := List.forall_mem_cons.mpr ⟨lw_p16, List.forall_mem_cons.mpr ⟨lw_p17, List.forall_mem_cons.mpr ⟨lw_p18, List.forall_mem_cons.mpr ⟨lw_p19, List.forall_mem_cons.mpr ⟨lw_p20, List.forall_mem_cons.mpr ⟨lw_p21, List.forall_mem_cons.mpr ⟨lw_p22, List.forall_mem_cons.mpr ⟨lw_p23, List.forall_mem_cons.mpr ⟨lw_p24, List.forall_mem_cons.mpr ⟨lw_p25, List.forall_mem_cons.mpr ⟨lw_p26, List.forall_mem_cons.mpr ⟨lw_p27, List.forall_mem_cons.mpr ⟨lw_p28, List.forall_mem_cons.mpr ⟨lw_p29, List.forall_mem_cons.mpr ⟨lw_p30, List.forall_mem_cons.mpr ⟨lw_p31, fun _ h => absurd h List.not_mem_nil⟩⟩⟩⟩⟩⟩⟩⟩⟩⟩⟩⟩⟩⟩⟩⟩
theorem lw_p32 : lw_okq (⟨"ReinsuranceDeskModel", "excessOfEvents", "(I)V"⟩, 30) := ⟨⟨by decide +kernel, by decide +kernel⟩, List.mem_of_getElem? (i := 609) (by decide +kernel), List.mem_of_getElem? (i := 824) (by decide +kernel), List.mem_of_getElem? (i := 825) (by decide +kernel)⟩
theorem lw_p33 : lw_okq (⟨"ReinsuranceDeskModel", "inWindow", "(III)J"⟩, 30) := ⟨⟨by decide +kernel, by decide +kernel⟩, List.mem_of_getElem? (i := 609) (by decide +kernel), List.mem_of_getElem? (i := 828) (by decide +kernel), List.mem_of_getElem? (i := 829) (by decide +kernel)⟩
theorem lw_p34 : lw_okq (⟨"ReinsuranceDeskModel", "spread", "(IJJ)V"⟩, 30) := ⟨⟨by decide +kernel, by decide +kernel⟩, List.mem_of_getElem? (i := 609) (by decide +kernel), List.mem_of_getElem? (i := 832) (by decide +kernel), List.mem_of_getElem? (i := 833) (by decide +kernel)⟩
theorem lw_p35 : lw_okq (⟨"ReinsuranceDeskModel", "ratio", "(I)J"⟩, 30) := ⟨⟨by decide +kernel, by decide +kernel⟩, List.mem_of_getElem? (i := 609) (by decide +kernel), List.mem_of_getElem? (i := 853) (by decide +kernel), List.mem_of_getElem? (i := 854) (by decide +kernel)⟩
theorem lw_p36 : lw_okq (⟨"ReinsuranceDeskModel", "commission", "(I)J"⟩, 30) := ⟨⟨by decide +kernel, by decide +kernel⟩, List.mem_of_getElem? (i := 609) (by decide +kernel), List.mem_of_getElem? (i := 858) (by decide +kernel), List.mem_of_getElem? (i := 859) (by decide +kernel)⟩
theorem lw_p37 : lw_okq (⟨"ReinsuranceDeskModel", "shareOf", "(IIJ)J"⟩, 30) := ⟨⟨by decide +kernel, by decide +kernel⟩, List.mem_of_getElem? (i := 609) (by decide +kernel), List.mem_of_getElem? (i := 868) (by decide +kernel), List.mem_of_getElem? (i := 869) (by decide +kernel)⟩
theorem lw_p38 : lw_okq (⟨"ReinsuranceDeskModel", "reinstatement", "(II)J"⟩, 30) := ⟨⟨by decide +kernel, by decide +kernel⟩, List.mem_of_getElem? (i := 609) (by decide +kernel), List.mem_of_getElem? (i := 872) (by decide +kernel), List.mem_of_getElem? (i := 873) (by decide +kernel)⟩
def lw_privs_3 : List (MethodName × Nat) := [(⟨"ReinsuranceDeskModel", "excessOfEvents", "(I)V"⟩, 30), (⟨"ReinsuranceDeskModel", "inWindow", "(III)J"⟩, 30), (⟨"ReinsuranceDeskModel", "spread", "(IJJ)V"⟩, 30), (⟨"ReinsuranceDeskModel", "ratio", "(I)J"⟩, 30), (⟨"ReinsuranceDeskModel", "commission", "(I)J"⟩, 30), (⟨"ReinsuranceDeskModel", "shareOf", "(IIJ)J"⟩, 30), (⟨"ReinsuranceDeskModel", "reinstatement", "(II)J"⟩, 30)]
theorem lw_r3 : ∀ q ∈ lw_privs_3, lw_okq q := List.forall_mem_cons.mpr ⟨lw_p32, List.forall_mem_cons.mpr ⟨lw_p33, List.forall_mem_cons.mpr ⟨lw_p34, List.forall_mem_cons.mpr ⟨lw_p35, List.forall_mem_cons.mpr ⟨lw_p36, List.forall_mem_cons.mpr ⟨lw_p37, List.forall_mem_cons.mpr ⟨lw_p38, fun _ h => absurd h List.not_mem_nil⟩⟩⟩⟩⟩⟩⟩
def lw_privs : List (MethodName × Nat) := lw_privs_1 ++ (lw_privs_2 ++ (lw_privs_3))
def lw_tbl : List Cond := k2_sels lw_privs ++ tables_1
theorem lw_privs_ok : ∀ q ∈ lw_privs, lw_okq q := by
  show ∀ q ∈ lw_privs_1 ++ (lw_privs_2 ++ (lw_privs_3)), lw_okq q
  exact List.forall_mem_append.mpr ⟨lw_r1, List.forall_mem_append.mpr ⟨lw_r2, lw_r3⟩⟩
end
section
/-! names: classes and their fields, the world's shape, methods -/
def rd_T0 : u_T := fun k => match k with
  | 0 => ("ReinsuranceDesk$Cession", "risks", "LReinsuranceDesk$Risks;", true)
  | 1 => ("ReinsuranceDesk$Cession", "claims", "LReinsuranceDesk$Claims;", true)
  | 2 => ("ReinsuranceDesk$Cession", "treaties", "LReinsuranceDesk$Treaties;", true)
  | 3 => ("ReinsuranceDesk$Cession", "counts", "[Z", true)
  | 4 => ("ReinsuranceDesk$Cession", "keptOf", "[I", true)
  | 5 => ("ReinsuranceDesk$Cession", "cededOf", "[I", true)
  | 6 => ("ReinsuranceDesk$Cession", "taken", "[J", true)
  | 7 => ("ReinsuranceDesk$Cession", "windowOf", "[I", true)
  | 8 => ("ReinsuranceDesk$Cession", "premiumLeft", "[J", true)
  | 9 => ("ReinsuranceDesk$Cession", "premiumTo", "[J", true)
  | 10 => ("ReinsuranceDesk$Cession", "group", "[I", true)
  | 11 => ("ReinsuranceDesk$Cession", "groupSize", "I", false)
  | _ => ("ReinsuranceDesk$Cession", "remainder", "[J", true)
def rd_t0 : Nat → FieldType := fun k => match k with
  | 0 => .object "ReinsuranceDesk$Risks"
  | 1 => .object "ReinsuranceDesk$Claims"
  | 2 => .object "ReinsuranceDesk$Treaties"
  | 3 => .array .boolean
  | 4 => .array .int
  | 5 => .array .int
  | 6 => .array .long
  | 7 => .array .int
  | 8 => .array .long
  | 9 => .array .long
  | 10 => .array .int
  | 11 => .int
  | _ => .array .long
theorem rd_nn0 : ∀ a, a < 13 → ∀ b, b < 13 → a ≠ b → (rd_T0 a).2.1 ≠ (rd_T0 b).2.1 := by decide +kernel
theorem rd_tt0 : ∀ k, k < 13 → parseFieldDescriptor (rd_T0 k).2.2.1 = some (rd_t0 k) := by decide +kernel
def rd_T1 : u_T := fun k => match k with
  | 0 => ("ReinsuranceDesk$Claims", "count", "I", false)
  | 1 => ("ReinsuranceDesk$Claims", "riskOf", "[I", true)
  | 2 => ("ReinsuranceDesk$Claims", "event", "[I", true)
  | 3 => ("ReinsuranceDesk$Claims", "hour", "[I", true)
  | 4 => ("ReinsuranceDesk$Claims", "amount", "[I", true)
  | 5 => ("ReinsuranceDesk$Claims", "struck", "[Z", true)
  | _ => ("ReinsuranceDesk$Claims", "byHour", "[I", true)
def rd_t1 : Nat → FieldType := fun k => match k with
  | 0 => .int
  | 1 => .array .int
  | 2 => .array .int
  | 3 => .array .int
  | 4 => .array .int
  | 5 => .array .boolean
  | _ => .array .int
theorem rd_nn1 : ∀ a, a < 7 → ∀ b, b < 7 → a ≠ b → (rd_T1 a).2.1 ≠ (rd_T1 b).2.1 := by decide +kernel
theorem rd_tt1 : ∀ k, k < 7 → parseFieldDescriptor (rd_T1 k).2.2.1 = some (rd_t1 k) := by decide +kernel
def rd_T2 : u_T := fun k => match k with
  | 0 => ("ReinsuranceDesk$Risks", "sum", "[I", true)
  | 1 => ("ReinsuranceDesk$Risks", "premiumOf", "[I", true)
  | _ => ("ReinsuranceDesk$Risks", "yearOf", "[I", true)
def rd_t2 : Nat → FieldType := fun k => match k with
  | 0 => .array .int
  | 1 => .array .int
  | _ => .array .int
theorem rd_nn2 : ∀ a, a < 3 → ∀ b, b < 3 → a ≠ b → (rd_T2 a).2.1 ≠ (rd_T2 b).2.1 := by decide +kernel
theorem rd_tt2 : ∀ k, k < 3 → parseFieldDescriptor (rd_T2 k).2.2.1 = some (rd_t2 k) := by decide +kernel
def rd_T3 : u_T := fun k => match k with
  | 0 => ("ReinsuranceDesk$Treaties", "count", "I", false)
  | 1 => ("ReinsuranceDesk$Treaties", "kind", "[I", true)
  | 2 => ("ReinsuranceDesk$Treaties", "yearOf", "[I", true)
  | 3 => ("ReinsuranceDesk$Treaties", "a", "[J", true)
  | 4 => ("ReinsuranceDesk$Treaties", "b", "[J", true)
  | 5 => ("ReinsuranceDesk$Treaties", "c", "[J", true)
  | 6 => ("ReinsuranceDesk$Treaties", "d", "[J", true)
  | _ => ("ReinsuranceDesk$Treaties", "part", "[I", true)
def rd_t3 : Nat → FieldType := fun k => match k with
  | 0 => .int
  | 1 => .array .int
  | 2 => .array .int
  | 3 => .array .long
  | 4 => .array .long
  | 5 => .array .long
  | 6 => .array .long
  | _ => .array .int
theorem rd_nn3 : ∀ a, a < 8 → ∀ b, b < 8 → a ≠ b → (rd_T3 a).2.1 ≠ (rd_T3 b).2.1 := by decide +kernel
theorem rd_tt3 : ∀ k, k < 8 → parseFieldDescriptor (rd_T3 k).2.2.1 = some (rd_t3 k) := by decide +kernel
def rd_T4 : u_T := fun k => match k with
  | 0 => ("ReinsuranceDesk", "risks", "LReinsuranceDesk$Risks;", true)
  | 1 => ("ReinsuranceDesk", "claims", "LReinsuranceDesk$Claims;", true)
  | 2 => ("ReinsuranceDesk", "treaties", "LReinsuranceDesk$Treaties;", true)
  | 3 => ("ReinsuranceDesk", "cession", "LReinsuranceDesk$Cession;", true)
  | 4 => ("ReinsuranceDesk", "closed", "[Z", true)
  | _ => ("ReinsuranceDesk", "billed", "[J", true)
def rd_t4 : Nat → FieldType := fun k => match k with
  | 0 => .object "ReinsuranceDesk$Risks"
  | 1 => .object "ReinsuranceDesk$Claims"
  | 2 => .object "ReinsuranceDesk$Treaties"
  | 3 => .object "ReinsuranceDesk$Cession"
  | 4 => .array .boolean
  | _ => .array .long
theorem rd_nn4 : ∀ a, a < 6 → ∀ b, b < 6 → a ≠ b → (rd_T4 a).2.1 ≠ (rd_T4 b).2.1 := by decide +kernel
theorem rd_tt4 : ∀ k, k < 6 → parseFieldDescriptor (rd_T4 k).2.2.1 = some (rd_t4 k) := by decide +kernel
def rd_T5 : u_T := fun k => match k with
  | 0 => ("ReinsuranceDeskModel", "thrown", "I", false)
  | 1 => ("ReinsuranceDeskModel", "sum", "[I", true)
  | 2 => ("ReinsuranceDeskModel", "premium", "[I", true)
  | 3 => ("ReinsuranceDeskModel", "yearOf", "[I", true)
  | 4 => ("ReinsuranceDeskModel", "risk", "[I", true)
  | 5 => ("ReinsuranceDeskModel", "event", "[I", true)
  | 6 => ("ReinsuranceDeskModel", "hour", "[I", true)
  | 7 => ("ReinsuranceDeskModel", "estimate", "[I", true)
  | 8 => ("ReinsuranceDeskModel", "struck", "[Z", true)
  | 9 => ("ReinsuranceDeskModel", "claims", "I", false)
  | 10 => ("ReinsuranceDeskModel", "shape", "[I", true)
  | 11 => ("ReinsuranceDeskModel", "a", "[I", true)
  | 12 => ("ReinsuranceDeskModel", "b", "[I", true)
  | 13 => ("ReinsuranceDeskModel", "c", "[I", true)
  | 14 => ("ReinsuranceDeskModel", "d", "[I", true)
  | 15 => ("ReinsuranceDeskModel", "treaties", "I", false)
  | 16 => ("ReinsuranceDeskModel", "shares", "[I", true)
  | 17 => ("ReinsuranceDeskModel", "billed", "[J", true)
  | 18 => ("ReinsuranceDeskModel", "closed", "[Z", true)
  | 19 => ("ReinsuranceDeskModel", "kept", "[J", true)
  | 20 => ("ReinsuranceDeskModel", "taken", "[J", true)
  | 21 => ("ReinsuranceDeskModel", "total", "[J", true)
  | 22 => ("ReinsuranceDeskModel", "earned", "[J", true)
  | 23 => ("ReinsuranceDeskModel", "window", "[I", true)
  | 24 => ("ReinsuranceDeskModel", "left", "[J", true)
  | 25 => ("ReinsuranceDeskModel", "inside", "[Z", true)
  | 26 => ("ReinsuranceDeskModel", "rest", "[J", true)
  | 27 => ("ReinsuranceDeskModel", "more", "[I", true)
  | 28 => ("ReinsuranceDeskModel", "passed", "J", false)
  | _ => ("ReinsuranceDeskModel", "used", "J", false)
def rd_t5 : Nat → FieldType := fun k => match k with
  | 0 => .int
  | 1 => .array .int
  | 2 => .array .int
  | 3 => .array .int
  | 4 => .array .int
  | 5 => .array .int
  | 6 => .array .int
  | 7 => .array .int
  | 8 => .array .boolean
  | 9 => .int
  | 10 => .array .int
  | 11 => .array .int
  | 12 => .array .int
  | 13 => .array .int
  | 14 => .array .int
  | 15 => .int
  | 16 => .array .int
  | 17 => .array .long
  | 18 => .array .boolean
  | 19 => .array .long
  | 20 => .array .long
  | 21 => .array .long
  | 22 => .array .long
  | 23 => .array .int
  | 24 => .array .long
  | 25 => .array .boolean
  | 26 => .array .long
  | 27 => .array .int
  | 28 => .long
  | _ => .long
theorem rd_nn5 : ∀ a, a < 30 → ∀ b, b < 30 → a ≠ b → (rd_T5 a).2.1 ≠ (rd_T5 b).2.1 := by decide +kernel
theorem rd_tt5 : ∀ k, k < 30 → parseFieldDescriptor (rd_T5 k).2.2.1 = some (rd_t5 k) := by decide +kernel
abbrev rd_CL : List vw_C := [("ReinsuranceDesk$Cession", rd_T0, 13), ("ReinsuranceDesk$Claims", rd_T1, 7), ("ReinsuranceDesk$Risks", rd_T2, 3), ("ReinsuranceDesk$Treaties", rd_T3, 8), ("ReinsuranceDesk", rd_T4, 6), ("ReinsuranceDeskModel", rd_T5, 30)]
/-- the world: arrays (kind of element, length), objects (class, fields: a place, or a number) -/
def rd_SH : List ((Nat × Nat) ⊕ (Nat × List (Nat ⊕ Nat))) := [
  .inr (4, [.inl 1, .inl 2, .inl 3, .inl 4, .inl 5, .inl 6]),
  .inr (2, [.inl 7, .inl 8, .inl 9]),
  .inr (1, [.inr 0, .inl 10, .inl 11, .inl 12, .inl 13, .inl 14, .inl 15]),
  .inr (3, [.inr 0, .inl 16, .inl 17, .inl 18, .inl 19, .inl 20, .inl 21, .inl 22]),
  .inr (0, [.inl 1, .inl 2, .inl 3, .inl 23, .inl 24, .inl 25, .inl 26, .inl 27, .inl 28, .inl 29, .inl 30, .inr 0, .inl 31]),
  .inl (2, 4),
  .inl (1, 6),
  .inl (0, 12),
  .inl (0, 12),
  .inl (0, 12),
  .inl (0, 40),
  .inl (0, 40),
  .inl (0, 40),
  .inl (0, 40),
  .inl (2, 40),
  .inl (0, 40),
  .inl (0, 10),
  .inl (0, 10),
  .inl (1, 10),
  .inl (1, 10),
  .inl (1, 10),
  .inl (1, 10),
  .inl (0, 60),
  .inl (2, 40),
  .inl (0, 40),
  .inl (0, 400),
  .inl (1, 10),
  .inl (0, 100),
  .inl (1, 12),
  .inl (1, 10),
  .inl (0, 40),
  .inl (1, 40),
  .inr (5, [.inr 0, .inl 33, .inl 34, .inl 35, .inl 36, .inl 37, .inl 38, .inl 39, .inl 40, .inr 0, .inl 41, .inl 42, .inl 43, .inl 44, .inl 45, .inr 0, .inl 46, .inl 47, .inl 48, .inl 49, .inl 50, .inl 51, .inl 52, .inl 53, .inl 54, .inl 55, .inl 56, .inl 57, .inr 1, .inr 1]),
  .inl (0, 12),
  .inl (0, 12),
  .inl (0, 12),
  .inl (0, 40),
  .inl (0, 40),
  .inl (0, 40),
  .inl (0, 40),
  .inl (2, 40),
  .inl (0, 10),
  .inl (0, 10),
  .inl (0, 10),
  .inl (0, 10),
  .inl (0, 10),
  .inl (0, 60),
  .inl (1, 6),
  .inl (2, 4),
  .inl (1, 40),
  .inl (1, 400),
  .inl (1, 10),
  .inl (1, 10),
  .inl (0, 100),
  .inl (1, 12),
  .inl (2, 40),
  .inl (1, 40),
  .inl (0, 40),
  .inl (1, 1)]
/-- words that stay when the tables warm -/
def rd_gd (w : Cond) : Bool := goodWord w || (match w with | .castable _ _ => true | .declares _ => true | _ => false)
theorem rd_w_at {args a9 : Array Value} {s U : State} {w : Cond} (hW : s.WarmedH U.vm) (hok : w.warmOk s) (hon : w.onTables = true) (h : w.before args s = true) : w.before a9 U = true := by
  have h1 := Cond.before_warmed (args := args) hW w hok h
  rw [Cond.onTables_vm (A' := a9) (U' := U) U.vm w hon] at h1
  rwa [State.setVm_self] at h1
theorem rd_gd_at {args a9 : Array Value} {s U : State} {w : Cond} (hW : s.WarmedH U.vm) (hg : rd_gd w = true) (h : w.before args s = true) : w.before a9 U = true := by
  unfold rd_gd at hg
  rw [Bool.or_eq_true] at hg
  rcases hg with hg | hg
  · exact word_at hW (good_of_word hg) h
  · cases w with
    | castable a b => exact rd_w_at hW trivial rfl h
    | declares y => exact rd_w_at hW trivial rfl h
    | _ => simp at hg
def rd_ws : List Cond := lw_tbl.filter rd_gd
def rd_KC : Nat := 1
def rd_KS : Nat := 6
def rd_xn (k : Nat) : String := match k with
  | 0 => "java/lang/IllegalArgumentException"
  | _ => "java/lang/IllegalStateException"
theorem rd_m {w : Cond} (i : Nat) (h : tables_1[i]? = some w) (g : rd_gd w = true := by rfl) : w ∈ rd_ws := List.mem_filter.mpr ⟨List.mem_append_right _ (List.mem_of_getElem? h), g⟩
theorem rd_ms {w : Cond} (h : w ∈ k2_sels lw_privs) (g : rd_gd w = true := by rfl) : w ∈ rd_ws := List.mem_filter.mpr ⟨List.mem_append_left _ h, g⟩
set_option maxRecDepth 100000 in
theorem rd_good : ∀ w ∈ rd_ws, rd_gd w = true := fun w h => (List.mem_filter.mp h).2
set_option maxRecDepth 100000 in
theorem rd_u0 : ∀ w ∈ u_ws "ReinsuranceDesk$Cession" rd_T0 13, w ∈ rd_ws := fun w h => of_decide_eq_true (List.all_eq_true.mp (by decide +kernel : (u_ws "ReinsuranceDesk$Cession" rd_T0 13).all (fun w => decide (w ∈ rd_ws)) = true) w h)
set_option maxRecDepth 100000 in
theorem rd_u1 : ∀ w ∈ u_ws "ReinsuranceDesk$Claims" rd_T1 7, w ∈ rd_ws := fun w h => of_decide_eq_true (List.all_eq_true.mp (by decide +kernel : (u_ws "ReinsuranceDesk$Claims" rd_T1 7).all (fun w => decide (w ∈ rd_ws)) = true) w h)
set_option maxRecDepth 100000 in
theorem rd_u2 : ∀ w ∈ u_ws "ReinsuranceDesk$Risks" rd_T2 3, w ∈ rd_ws := fun w h => of_decide_eq_true (List.all_eq_true.mp (by decide +kernel : (u_ws "ReinsuranceDesk$Risks" rd_T2 3).all (fun w => decide (w ∈ rd_ws)) = true) w h)
set_option maxRecDepth 100000 in
theorem rd_u3 : ∀ w ∈ u_ws "ReinsuranceDesk$Treaties" rd_T3 8, w ∈ rd_ws := fun w h => of_decide_eq_true (List.all_eq_true.mp (by decide +kernel : (u_ws "ReinsuranceDesk$Treaties" rd_T3 8).all (fun w => decide (w ∈ rd_ws)) = true) w h)
set_option maxRecDepth 100000 in
theorem rd_u4 : ∀ w ∈ u_ws "ReinsuranceDesk" rd_T4 6, w ∈ rd_ws := fun w h => of_decide_eq_true (List.all_eq_true.mp (by decide +kernel : (u_ws "ReinsuranceDesk" rd_T4 6).all (fun w => decide (w ∈ rd_ws)) = true) w h)
set_option maxRecDepth 100000 in
theorem rd_u5 : ∀ w ∈ u_ws "ReinsuranceDeskModel" rd_T5 30, w ∈ rd_ws := fun w h => of_decide_eq_true (List.all_eq_true.mp (by decide +kernel : (u_ws "ReinsuranceDeskModel" rd_T5 30).all (fun w => decide (w ∈ rd_ws)) = true) w h)
end
section
/-! numbers: a machine word as an integer -/
abbrev rd_I (x : Int) : Prop := -2147483648 ≤ x ∧ x ≤ 2147483647
abbrev rd_J (x : Int) : Prop := -9223372036854775808 ≤ x ∧ x ≤ 9223372036854775807
theorem rd_i32 {x : Int} (h : rd_I x) : (Int32.ofInt x).toInt = x := Int32.toInt_ofInt_of_le (by have := h.1; omega) (by have := h.2; omega)
theorem rd_i64 {x : Int} (h : rd_J x) : (Int64.ofInt x).toInt = x := Int64.toInt_ofInt_of_le (by have := h.1; omega) (by have := h.2; omega)
theorem rd_lt32 {x y : Int} (hx : rd_I x) (hy : rd_I y) : Int32.ofInt x < Int32.ofInt y ↔ x < y := by rw [Int32.lt_iff_toInt_lt, rd_i32 hx, rd_i32 hy]
theorem rd_le32 {x y : Int} (hx : rd_I x) (hy : rd_I y) : Int32.ofInt x ≤ Int32.ofInt y ↔ x ≤ y := by rw [Int32.le_iff_toInt_le, rd_i32 hx, rd_i32 hy]
theorem rd_eq32 {x y : Int} (hx : rd_I x) (hy : rd_I y) : Int32.ofInt x = Int32.ofInt y ↔ x = y := by rw [← Int32.toInt_inj, rd_i32 hx, rd_i32 hy]
theorem rd_lt64 {x y : Int} (hx : rd_J x) (hy : rd_J y) : Int64.ofInt x < Int64.ofInt y ↔ x < y := by rw [Int64.lt_iff_toInt_lt, rd_i64 hx, rd_i64 hy]
theorem rd_eq64 {x y : Int} (hx : rd_J x) (hy : rd_J y) : Int64.ofInt x = Int64.ofInt y ↔ x = y := by rw [← Int64.toInt_inj, rd_i64 hx, rd_i64 hy]
theorem rd_I0 : rd_I 0 := by constructor <;> decide
theorem rd_zero32 : (0 : Int32) = Int32.ofInt 0 := lit0.symm
theorem rd_ne0_32 {y : Int} (hy : rd_I y) (h : y ≠ 0) : ¬ Int32.ofInt y = 0 := by rw [rd_zero32, rd_eq32 hy rd_I0]; exact h
theorem rd_ne0_64 {y : Int} (hy : rd_J y) (h : y ≠ 0) : ¬ Int64.ofInt y = 0 := by
  rw [← Int64.toInt_inj, rd_i64 hy]; simpa using h
theorem rd_div32 {x y : Int} (hx : rd_I x) (hy : rd_I y) : Int32.ofInt x / Int32.ofInt y = Int32.ofInt (x.tdiv y) := (Int32.ofInt_tdiv hx.1 hx.2 hy.1 hy.2).symm
theorem rd_mod32 {x y : Int} (hx : rd_I x) (hy : rd_I y) : Int32.ofInt x % Int32.ofInt y = Int32.ofInt (x.tmod y) := (Int32.ofInt_tmod hx.1 hx.2 hy.1 hy.2).symm
theorem rd_div64 {x y : Int} (hx : rd_J x) (hy : rd_J y) : Int64.ofInt x / Int64.ofInt y = Int64.ofInt (x.tdiv y) := (Int64.ofInt_tdiv hx.1 hx.2 hy.1 hy.2).symm
theorem rd_mod64 {x y : Int} (hx : rd_J x) (hy : rd_J y) : Int64.ofInt x % Int64.ofInt y = Int64.ofInt (x.tmod y) := (Int64.ofInt_tmod hx.1 hx.2 hy.1 hy.2).symm
theorem rd_ci2l {x : Int} (hx : rd_I x) : (Int32.ofInt x).toInt64 = Int64.ofInt x := Int32.toInt64_ofInt hx.1 hx.2
theorem rd_cl2i {x : Int} : (Int64.ofInt x).toInt32 = Int32.ofInt x := Int64.toInt32_ofInt
theorem rd_clamp {i : Int} (h0 : 0 ≤ i) (h1 : i ≤ 2147483647) : (Int32.ofInt i).toNatClampNeg = i.toNat := Int32.toNatClampNeg_ofInt_of_le (by omega) (by omega)
theorem rd_in {i : Int} {n : Nat} (h0 : 0 ≤ i) (h1 : i < n) (hn : n ≤ 2147483647) : vp_in (Int32.ofInt i) n := by
  have hi : rd_I i := ⟨by omega, by omega⟩
  intro h
  rcases h with h | h
  · rw [rd_zero32, rd_lt32 hi rd_I0] at h; omega
  · rw [rd_clamp h0 (by omega)] at h; omega
/-! the memory: a place's contents at an index; a method; the shape of the world -/
abbrev rd_M : Type := Nat → Int → Int
abbrev rd_i (x : Int) : Value := .int (Int32.ofInt x)
abbrev rd_l (x : Int) : Value := .long (Int64.ofInt x)
/-- name, code, locals, answer's type, handlers, depth of its calls, words that they take, exceptions that it may make, the script if it reads one -/
abbrev rd_X : Type := MethodName × ByteArray × Nat × Option FieldType × List (Nat × Nat × Nat × Nat) × Nat × Nat × Nat × Option (Nat × (Int → Int))
abbrev rd_nm (x : rd_X) : MethodName := x.1
abbrev rd_cd (x : rd_X) : ByteArray := x.2.1
abbrev rd_ml (x : rd_X) : Nat := x.2.2.1
abbrev rd_rt (x : rd_X) : Option FieldType := x.2.2.2.1
abbrev rd_hs (x : rd_X) : List (Nat × Nat × Nat × Nat) := x.2.2.2.2.1
abbrev rd_dp (x : rd_X) : Nat := x.2.2.2.2.2.1
abbrev rd_lb (x : rd_X) : Nat := x.2.2.2.2.2.2.1
abbrev rd_cp (x : rd_X) : Nat := x.2.2.2.2.2.2.2.1
abbrev rd_sc (x : rd_X) : Option (Nat × (Int → Int)) := x.2.2.2.2.2.2.2.2
/-- an answer, or which exception -/
abbrev rd_R : Type := Option Value ⊕ Nat
def rd_pv (σ : Nat → Nat) : Value → Value
  | .ref q => .ref (σ q)
  | v => v
def rd_fv (σ : Nat → Nat) (m : Int → Int) (k : Nat) : Nat ⊕ Nat → Value
  | .inl q => .ref (σ q)
  | .inr 0 => rd_i (m k)
  | .inr _ => rd_l (m k)
def rd_cell (σ : Nat → Nat) (cA : Nat → ClassId) (m : Int → Int) : (Nat × Nat) ⊕ (Nat × List (Nat ⊕ Nat)) → va_E
  | .inl (0, n) => .inl (cA 0, n, .inl (fun j => Int32.ofInt (m j)))
  | .inl (1, n) => .inl (cA 1, n, .inr (.inl (fun j => Int64.ofInt (m j))))
  | .inl (_, n) => .inl (cA 2, n, .inl (fun j => Int32.ofInt (m j)))
  | .inr (k, fs) => .inr (k, fs.mapIdx (fun j f => rd_fv σ m j f))
def rd_wd (σ : Nat → Nat) (cA : Nat → ClassId) (M : rd_M) : va_W := rd_SH.mapIdx (fun i c => (σ i, rd_cell σ cA (M i) c))
abbrev rd_ty (cA : Nat → ClassId) : List (ClassId × FieldType) := [(cA 0, .int), (cA 1, .long), (cA 2, .boolean)]
def rd_up (M : rd_M) (p : Nat) (i v : Int) : rd_M := fun q j => if q = p ∧ j = i then v else M q j
theorem rd_up_ne {M : rd_M} {p q : Nat} {i v : Int} (h : q ≠ p) : rd_up M p i v q = M q := by
  funext j; simp [rd_up, h]
theorem rd_up_same {M : rd_M} {p : Nat} {i v j : Int} : rd_up M p i v p j = if j = i then v else M p j := by simp [rd_up]
theorem rd_wd_at {σ : Nat → Nat} {cA : Nat → ClassId} {M : rd_M} {p : Nat} {c : (Nat × Nat) ⊕ (Nat × List (Nat ⊕ Nat))} (h : rd_SH[p]? = some c) : (rd_wd σ cA M)[p]? = some (σ p, rd_cell σ cA (M p) c) := by
  simp [rd_wd, List.getElem?_mapIdx, h]
theorem rd_wd_set {σ : Nat → Nat} {cA : Nat → ClassId} {M : rd_M} {p : Nat} {c : (Nat × Nat) ⊕ (Nat × List (Nat ⊕ Nat))} {i v : Int} {e : va_E} (h : rd_SH[p]? = some c) (he : rd_cell σ cA (rd_up M p i v p) c = e) : (rd_wd σ cA M).set p (σ p, e) = rd_wd σ cA (rd_up M p i v) := by
  apply List.ext_getElem?
  intro k
  by_cases hk : k = p
  · subst hk
    have hl : k < (rd_wd σ cA M).length := (List.getElem?_eq_some_iff.mp (rd_wd_at (M := M) h)).1
    rw [List.getElem?_set_self hl, rd_wd_at h, he]
  · rw [List.getElem?_set_ne (Ne.symm hk)]
    simp only [rd_wd, List.getElem?_mapIdx, rd_up_ne hk]
def rd_inj (σ : Nat → Nat) : Prop := ∀ i j, i < rd_SH.length → j < rd_SH.length → σ i = σ j → i = j
theorem rd_wd_len {σ : Nat → Nat} {cA : Nat → ClassId} {M : rd_M} : (rd_wd σ cA M).length = rd_SH.length := by simp [rd_wd]
theorem rd_wd_ad {σ : Nat → Nat} {cA : Nat → ClassId} {M : rd_M} {k : Nat} {q : Nat × va_E} (h : (rd_wd σ cA M)[k]? = some q) : k < rd_SH.length ∧ q.1 = σ k := by
  have hl := (List.getElem?_eq_some_iff.mp h).1
  rw [rd_wd_len] at hl
  refine ⟨hl, ?_⟩
  simp only [rd_wd, List.getElem?_mapIdx] at h
  cases hc : rd_SH[k]? with
  | none => rw [hc] at h; cases h
  | some c => rw [hc] at h; cases h; rfl
theorem rd_D {σ : Nat → Nat} {cA : Nat → ClassId} {M : rd_M} {A : Nat → Prop} (hj : rd_inj σ) (hA : ∀ i, i < rd_SH.length → A (σ i)) : va_D A (rd_wd σ cA M) := by
  refine ⟨fun i j p q hi hj' he => ?_, fun k q hk => ?_⟩
  · obtain ⟨a1, a2⟩ := rd_wd_ad hi
    obtain ⟨b1, b2⟩ := rd_wd_ad hj'
    exact hj i j a1 b1 (by rw [← a2, ← b2]; exact he)
  · obtain ⟨a1, a2⟩ := rd_wd_ad hk
    rw [a2]; exact hA k a1
/-- the locals: what is known of them -/
def rd_L (σ : Nat → Nat) (ls : Array Slot) (nL : Nat) (L : List (Option Value)) : Prop := ls.size = nL ∧ lv_wf ls ∧ L.length ≤ nL ∧ ∀ (i : Nat) (v : Value), L[i]? = some (some v) → ls[i]? = some (.val (rd_pv σ v))
def rd_al (σ : Nat → Nat) : Nat → List (Option Value) → List (Nat × Value)
  | _, [] => []
  | i, none :: r => rd_al σ (i + 1) r
  | i, some v :: r => (i, rd_pv σ v) :: rd_al σ (i + 1) r
theorem rd_al_mem {σ : Nat → Nat} : ∀ (L : List (Option Value)) (i j : Nat) (w : Value), L[j]? = some (some w) → (i + j, rd_pv σ w) ∈ rd_al σ i L
  | [], i, j, w, h => by simp at h
  | o :: r, i, 0, w, h => by
    have h : o = some w := by simpa using h
    subst h
    exact List.mem_cons_self
  | o :: r, i, j + 1, w, h => by
    have h : r[j]? = some (some w) := by simpa using h
    have h1 := rd_al_mem (σ := σ) r (i + 1) j w h
    rw [show i + 1 + j = i + (j + 1) by omega] at h1
    cases o with
    | none => exact h1
    | some v => exact List.mem_cons_of_mem _ h1
theorem rd_al_of {σ : Nat → Nat} : ∀ (L : List (Option Value)) (i : Nat) (q : Nat × Value), q ∈ rd_al σ i L → ∃ (j : Nat) (w : Value), L[j]? = some (some w) ∧ q = (i + j, rd_pv σ w)
  | [], i, q, h => by simp [rd_al] at h
  | none :: r, i, q, h => by
    obtain ⟨j, w, h1, h2⟩ := rd_al_of r (i + 1) q h
    exact ⟨j + 1, w, by simpa using h1, by rw [h2]; congr 1; omega⟩
  | some v :: r, i, q, h => by
    rcases List.mem_cons.mp h with rfl | h
    · exact ⟨0, v, by simp, rfl⟩
    · obtain ⟨j, w, h1, h2⟩ := rd_al_of r (i + 1) q h
      exact ⟨j + 1, w, by simpa using h1, by rw [h2]; congr 1; omega⟩
theorem rd_L.al {σ : Nat → Nat} {ls : Array Slot} {nL : Nat} {L : List (Option Value)} (h : rd_L σ ls nL L) : lv_has ls nL (rd_al σ 0 L) :=
  ⟨h.1, h.2.1, fun q hq => by
    obtain ⟨j, w, h1, rfl⟩ := rd_al_of L 0 q hq
    show ls[0 + j]? = _
    rw [Nat.zero_add]
    exact h.2.2.2 j w h1⟩
/-- whether a value takes two locals -/
def rd_two : Option Value → Bool
  | some (.long _) => true
  | some (.double _) => true
  | _ => false
def rd_okp (pre : List (Option Value)) : Bool := match pre.getLast? with
  | some o => !rd_two o
  | none => true
theorem rd_cat {σ : Nat → Nat} {v : Value} : (rd_pv σ v).category = v.category := by cases v <;> rfl
theorem rd_okp_last {pre : List (Option Value)} {j : Nat} {w : Value} (hp : rd_okp pre = true) (hj : pre[j]? = some (some w)) (h1 : j + 1 = pre.length) (h2 : w.category = 2) : False := by
  have h3 : pre.getLast? = some (some w) := by rw [List.getLast?_eq_getElem?, show pre.length - 1 = j by omega]; exact hj
  unfold rd_okp at hp
  rw [h3] at hp
  cases w <;> simp [Value.category] at h2 <;> simp [rd_two] at hp
theorem rd_L.st1 {σ : Nat → Nat} {ls ls' : Array Slot} {nL : Nat} {pre r : List (Option Value)} {old : Option Value} {v : Value} (h : rd_L σ ls nL (pre ++ old :: r)) (hp : rd_okp pre = true)
    (h' : lv_has ls' nL ((pre.length, rd_pv σ v) :: (rd_al σ 0 (pre ++ old :: r)).filter (fun q => !(q.1 == pre.length) && !(q.1 + 1 == pre.length && q.2.category == 2)))) : rd_L σ ls' nL (pre ++ some v :: r) := by
  refine ⟨h'.1, h'.2.1, by simpa using h.2.2.1, fun j w hj => h'.2.2 (j, rd_pv σ w) ?_⟩
  rcases Nat.lt_trichotomy j pre.length with hlt | heq | hgt
  · rw [List.getElem?_append_left hlt] at hj
    have hL : (pre ++ old :: r)[j]? = some (some w) := by rw [List.getElem?_append_left hlt]; exact hj
    have hm := rd_al_mem (σ := σ) _ 0 j w hL
    rw [Nat.zero_add] at hm
    refine List.mem_cons_of_mem _ (List.mem_filter.mpr ⟨hm, ?_⟩)
    have hne : ¬ j = pre.length := by omega
    by_cases hz : j + 1 = pre.length
    · have hc : ¬ w.category = 2 := fun q => rd_okp_last hp hj hz q
      simp [hne, rd_cat, hc]
    · simp [hne, hz]
  · subst heq
    rw [List.getElem?_append_right (Nat.le_refl _), Nat.sub_self] at hj
    cases hj
    exact List.mem_cons_self
  · rw [List.getElem?_append_right (by omega)] at hj
    obtain ⟨d, hd⟩ : ∃ d, j - pre.length = d + 1 := ⟨j - pre.length - 1, by omega⟩
    rw [hd, List.getElem?_cons_succ] at hj
    have hL : (pre ++ old :: r)[j]? = some (some w) := by rw [List.getElem?_append_right (by omega), hd, List.getElem?_cons_succ]; exact hj
    have hm := rd_al_mem (σ := σ) _ 0 j w hL
    rw [Nat.zero_add] at hm
    refine List.mem_cons_of_mem _ (List.mem_filter.mpr ⟨hm, ?_⟩)
    have hne : ¬ j = pre.length := by omega
    have hz : ¬ j + 1 = pre.length := by omega
    simp [hne, hz]
theorem rd_L.st2 {σ : Nat → Nat} {ls ls' : Array Slot} {nL : Nat} {pre r : List (Option Value)} {old old2 : Option Value} {v : Value} (h : rd_L σ ls nL (pre ++ old :: old2 :: r)) (hp : rd_okp pre = true)
    (h' : lv_has ls' nL ((pre.length, rd_pv σ v) :: (rd_al σ 0 (pre ++ old :: old2 :: r)).filter (fun q => !(q.1 == pre.length) && (!(q.1 == pre.length + 1) && !(q.1 + 1 == pre.length && q.2.category == 2))))) : rd_L σ ls' nL (pre ++ some v :: none :: r) := by
  refine ⟨h'.1, h'.2.1, by simpa using h.2.2.1, fun j w hj => h'.2.2 (j, rd_pv σ w) ?_⟩
  rcases Nat.lt_trichotomy j pre.length with hlt | heq | hgt
  · rw [List.getElem?_append_left hlt] at hj
    have hL : (pre ++ old :: old2 :: r)[j]? = some (some w) := by rw [List.getElem?_append_left hlt]; exact hj
    have hm := rd_al_mem (σ := σ) _ 0 j w hL
    rw [Nat.zero_add] at hm
    refine List.mem_cons_of_mem _ (List.mem_filter.mpr ⟨hm, ?_⟩)
    have hne : ¬ j = pre.length := by omega
    have hne2 : ¬ j = pre.length + 1 := by omega
    by_cases hz : j + 1 = pre.length
    · have hc : ¬ w.category = 2 := fun q => rd_okp_last hp hj hz q
      simp [hne, hne2, rd_cat, hc]
    · simp [hne, hne2, hz]
  · subst heq
    rw [List.getElem?_append_right (Nat.le_refl _), Nat.sub_self] at hj
    cases hj
    exact List.mem_cons_self
  · rw [List.getElem?_append_right (by omega)] at hj
    obtain ⟨d, hd⟩ : ∃ d, j - pre.length = d + 1 := ⟨j - pre.length - 1, by omega⟩
    rw [hd, List.getElem?_cons_succ] at hj
    cases d with
    | zero => simp at hj
    | succ d =>
      rw [List.getElem?_cons_succ] at hj
      have hL : (pre ++ old :: old2 :: r)[j]? = some (some w) := by rw [List.getElem?_append_right (by omega), hd, List.getElem?_cons_succ, List.getElem?_cons_succ]; exact hj
      have hm := rd_al_mem (σ := σ) _ 0 j w hL
      rw [Nat.zero_add] at hm
      refine List.mem_cons_of_mem _ (List.mem_filter.mpr ⟨hm, ?_⟩)
      have hne : ¬ j = pre.length := by omega
      have hne2 : ¬ j = pre.length + 1 := by omega
      have hz : ¬ j + 1 = pre.length := by omega
      simp [hne, hne2, hz]
/-- fewer known -/
def rd_le : List (Option Value) → List (Option Value) → Prop
  | [], _ => True
  | none :: r, _ :: r' => rd_le r r'
  | some v :: r, some w :: r' => v = w ∧ rd_le r r'
  | _, _ => False
theorem rd_le_at : ∀ (L L' : List (Option Value)), rd_le L L' → L.length ≤ L'.length ∧ ∀ (i : Nat) (v : Value), L[i]? = some (some v) → L'[i]? = some (some v)
  | [], L', _ => ⟨Nat.zero_le _, fun i v h => by simp at h⟩
  | none :: r, [], h => h.elim
  | some v :: r, [], h => h.elim
  | some v :: r, none :: r', h => h.elim
  | none :: r, o :: r', h => by
    obtain ⟨h1, h2⟩ := rd_le_at r r' h
    refine ⟨by simpa using h1, fun i v hi => ?_⟩
    cases i with
    | zero => simp at hi
    | succ i => simpa using h2 i v (by simpa using hi)
  | some v :: r, some w :: r', h => by
    obtain ⟨h1, h2⟩ := rd_le_at r r' h.2
    refine ⟨by simpa using h1, fun i u hi => ?_⟩
    cases i with
    | zero =>
      have hz : v = u := by simpa using hi
      rw [← hz, h.1]; simp
    | succ i => simpa using h2 i u (by simpa using hi)
theorem rd_L.le {σ : Nat → Nat} {ls : Array Slot} {nL : Nat} {L L' : List (Option Value)} (h : rd_L σ ls nL L') (hl : rd_le L L') : rd_L σ ls nL L :=
  ⟨h.1, h.2.1, Nat.le_trans (rd_le_at L L' hl).1 h.2.2.1, fun i v hi => h.2.2.2 i v ((rd_le_at L L' hl).2 i v hi)⟩
end
section
/-! making the world: words, new arrays of a known kind, names of the constructors -/
def bw : List Cond := rd_ws.filter goodWord
theorem bw_m {w : Cond} (h : w ∈ rd_ws) (g : goodWord w = true := by rfl) : w ∈ bw := List.mem_filter.mpr ⟨h, g⟩
theorem bw_in : ∀ w ∈ bw, w ∈ rd_ws := fun w h => (List.mem_filter.mp h).1
theorem bw_gd : ∀ w ∈ bw, goodWord w = true := fun w h => (List.mem_filter.mp h).2
set_option maxRecDepth 100000 in
theorem bw_u0 : ∀ w ∈ u_ws "ReinsuranceDesk$Cession" rd_T0 13, w ∈ bw := fun w h => bw_m (rd_u0 w h) (List.all_eq_true.mp (by decide +kernel : (u_ws "ReinsuranceDesk$Cession" rd_T0 13).all goodWord = true) w h)
set_option maxRecDepth 100000 in
theorem bw_u1 : ∀ w ∈ u_ws "ReinsuranceDesk$Claims" rd_T1 7, w ∈ bw := fun w h => bw_m (rd_u1 w h) (List.all_eq_true.mp (by decide +kernel : (u_ws "ReinsuranceDesk$Claims" rd_T1 7).all goodWord = true) w h)
set_option maxRecDepth 100000 in
theorem bw_u2 : ∀ w ∈ u_ws "ReinsuranceDesk$Risks" rd_T2 3, w ∈ bw := fun w h => bw_m (rd_u2 w h) (List.all_eq_true.mp (by decide +kernel : (u_ws "ReinsuranceDesk$Risks" rd_T2 3).all goodWord = true) w h)
set_option maxRecDepth 100000 in
theorem bw_u3 : ∀ w ∈ u_ws "ReinsuranceDesk$Treaties" rd_T3 8, w ∈ bw := fun w h => bw_m (rd_u3 w h) (List.all_eq_true.mp (by decide +kernel : (u_ws "ReinsuranceDesk$Treaties" rd_T3 8).all goodWord = true) w h)
set_option maxRecDepth 100000 in
theorem bw_u4 : ∀ w ∈ u_ws "ReinsuranceDesk" rd_T4 6, w ∈ bw := fun w h => bw_m (rd_u4 w h) (List.all_eq_true.mp (by decide +kernel : (u_ws "ReinsuranceDesk" rd_T4 6).all goodWord = true) w h)
set_option maxRecDepth 100000 in
theorem bw_u5 : ∀ w ∈ u_ws "ReinsuranceDeskModel" rd_T5 30, w ∈ bw := fun w h => bw_m (rd_u5 w h) (List.all_eq_true.mp (by decide +kernel : (u_ws "ReinsuranceDeskModel" rd_T5 30).all goodWord = true) w h)
theorem bw_B {B : List Cond} (hB : B = bw) {w : Cond} (h : w ∈ bw) : w ∈ B := by rw [hB]; exact h
theorem bw_good {B : List Cond} (hB : B = bw) {y : MethodName} {b : ByteArray} {n : Nat} {ret : Option FieldType} {big : List Cond} (hc : Cond.code y b n ret ∈ bw) (hbig : ∀ w ∈ B, w ∈ big) : GoodIn big (Cond.code y b n ret :: B) := fun w hw => by
  rcases List.mem_cons.mp hw with rfl | h
  · exact ⟨hbig _ (bw_B hB hc), good_of_word (bw_gd _ hc)⟩
  · exact ⟨hbig _ h, good_of_word (bw_gd _ (by rw [← hB]; exact h))⟩
abbrev bI (cA : Nat → ClassId) (n : Nat) : va_E := .inl (cA 0, n, .inl (fun _ => Int32.ofInt 0))
abbrev bJ (cA : Nat → ClassId) (n : Nat) : va_E := .inl (cA 1, n, .inr (.inl (fun _ => Int64.ofInt 0)))
abbrev bZ (cA : Nat → ClassId) (n : Nat) : va_E := .inl (cA 2, n, .inl (fun _ => Int32.ofInt 0))
theorem b32 : Int32.ofInt 0 = 0 := by decide
theorem b64 : Int64.ofInt 0 = 0 := by decide
theorem bI_ha (n : Nat) (c : ClassId) : vp_cell c (n, .inl (fun _ => Int32.ofInt 0)) = arrV c n (fun _ => defaultValue .int) := by rw [b32]; rfl
theorem bZ_ha (n : Nat) (c : ClassId) : vp_cell c (n, .inl (fun _ => Int32.ofInt 0)) = arrV c n (fun _ => defaultValue .boolean) := by rw [b32]; rfl
theorem bJ_ha (n : Nat) (c : ClassId) : vp_cell c (n, .inr (.inl (fun _ => Int64.ofInt 0))) = arrV c n (fun _ => defaultValue .long) := by rw [b64]; rfl
theorem b0i : defaultValue .int = rd_i 0 := by unfold rd_i; rw [b32]; rfl
theorem b0l : defaultValue .long = rd_l 0 := by unfold rd_l; rw [b64]; rfl
section BdRows
variable {p : Program} {l : Launch} {e : Env} {R : Room} {s : State} {m : MethodId} {args : Array Value} {below : List Frame} {meth : Method} {c : Code} {H H0 : Heap} {locs : List Loc} {cells slots pc : Nat} {Q : State → Prop} {ls : Array Slot} {rest : List Value} {cc : ByteArray} {D : va_G} {cA : Nat → ClassId} {ws : va_W} {A : Nat → Prop}
/-- a new array: its class is the kind's -/
theorem bd_newa (hexec : p.tables.exec = Jvm.exec) (hb : c.code = cc) {atype : ArrayType} (harr : (Cond.arrayClass (newarray.typeOf atype)).before args s = true) {ty : FieldType} (hty : newarray.typeOf atype = ty) (k : Nat) (hk : (rd_ty cA)[k]? = some (cA k, ty)) (hRA : ∀ c9, va_RA s c9 ty → s.vm.findClass ("[" ++ ty.toString) = some c9) (hK : va_K D rd_CL (rd_ty cA) s) (hP : va_P D rd_CL ws H) (hD : va_D A ws) (hS : va_S A H0 H locs) (hA : ∀ q, H0.size ≤ q → A q)
    {n : Int32} {N' : Nat} {a0 : vp_A} (ha : ∀ cA : ClassId, vp_cell cA a0 = arrV cA N' (fun _ => defaultValue ty)) (hn : ¬ n < 0) (hN : n.toNatClampNeg = N') (hbytes : N' * componentBytes ty ≤ 536870912) (hcells : cells + 1 ≤ R.cells) (hslots : slots + N' ≤ R.slots) (hdg : decode cc pc = .ok (.newarray atype, 2))
    (kk : ∀ (q : Nat) (H1 : Heap), va_P D rd_CL (ws ++ [(q, .inl (cA k, a0))]) H1 → va_D A (ws ++ [(q, .inl (cA k, a0))]) → va_S A H0 H1 locs →
      W p l e R s m args below meth c H1 locs (cells + 1) (slots + N') Q (F0 m (pc + 2) ls (.ref q :: rest))) : W p l e R s m args below meth c H locs cells slots Q (F0 m pc ls (.int n :: rest)) := by
  refine va_newa hexec hb harr hty hK hP hD hS hA ha hn hN hbytes hcells hslots hdg (fun q c9 H1 hK1 hP1 hD1 hS1 => ?_)
  have h1 := hRA _ (hK.2 k _ hk).2
  have h2 := hRA _ (hK1.2 3 (c9, ty) rfl).2
  have e9 : c9 = cA k := Option.some.inj (h2.symm.trans h1)
  subst e9
  exact kk q H1 hP1 hD1 hS1
end BdRows
abbrev c_R_init : ByteArray := prog_4_method_1_code
def y_R_init : MethodName := ⟨"ReinsuranceDesk$Risks", "<init>", "()V"⟩
theorem wc_R_init : Cond.code y_R_init c_R_init 1 none ∈ bw := bw_m (rd_m 26 (by decide +kernel))
theorem d_R_init_0 : decode c_R_init 0 = .ok (.aload_n 0, 1) := by decide +kernel
theorem d_R_init_1 : decode c_R_init 1 = .ok (.invokespecial 3, 3) := by decide +kernel
theorem d_R_init_4 : decode c_R_init 4 = .ok (.aload_n 0, 1) := by decide +kernel
theorem d_R_init_5 : decode c_R_init 5 = .ok (.bipush 12, 2) := by decide +kernel
theorem d_R_init_7 : decode c_R_init 7 = .ok (.newarray .int, 2) := by decide +kernel
theorem d_R_init_9 : decode c_R_init 9 = .ok (.putfield 9, 3) := by decide +kernel
theorem d_R_init_12 : decode c_R_init 12 = .ok (.aload_n 0, 1) := by decide +kernel
theorem d_R_init_13 : decode c_R_init 13 = .ok (.bipush 12, 2) := by decide +kernel
theorem d_R_init_15 : decode c_R_init 15 = .ok (.newarray .int, 2) := by decide +kernel
theorem d_R_init_17 : decode c_R_init 17 = .ok (.putfield 15, 3) := by decide +kernel
theorem d_R_init_20 : decode c_R_init 20 = .ok (.aload_n 0, 1) := by decide +kernel
theorem d_R_init_21 : decode c_R_init 21 = .ok (.bipush 12, 2) := by decide +kernel
theorem d_R_init_23 : decode c_R_init 23 = .ok (.newarray .int, 2) := by decide +kernel
theorem d_R_init_25 : decode c_R_init 25 = .ok (.putfield 18, 3) := by decide +kernel
theorem d_R_init_28 : decode c_R_init 28 = .ok (.return_, 1) := by decide +kernel
abbrev c_C_init : ByteArray := prog_3_method_1_code
def y_C_init : MethodName := ⟨"ReinsuranceDesk$Claims", "<init>", "()V"⟩
theorem wc_C_init : Cond.code y_C_init c_C_init 1 none ∈ bw := bw_m (rd_m 49 (by decide +kernel))
theorem d_C_init_0 : decode c_C_init 0 = .ok (.aload_n 0, 1) := by decide +kernel
theorem d_C_init_1 : decode c_C_init 1 = .ok (.invokespecial 3, 3) := by decide +kernel
theorem d_C_init_4 : decode c_C_init 4 = .ok (.aload_n 0, 1) := by decide +kernel
theorem d_C_init_5 : decode c_C_init 5 = .ok (.bipush 40, 2) := by decide +kernel
theorem d_C_init_7 : decode c_C_init 7 = .ok (.newarray .int, 2) := by decide +kernel
theorem d_C_init_9 : decode c_C_init 9 = .ok (.putfield 9, 3) := by decide +kernel
theorem d_C_init_12 : decode c_C_init 12 = .ok (.aload_n 0, 1) := by decide +kernel
theorem d_C_init_13 : decode c_C_init 13 = .ok (.bipush 40, 2) := by decide +kernel
theorem d_C_init_15 : decode c_C_init 15 = .ok (.newarray .int, 2) := by decide +kernel
theorem d_C_init_17 : decode c_C_init 17 = .ok (.putfield 15, 3) := by decide +kernel
theorem d_C_init_20 : decode c_C_init 20 = .ok (.aload_n 0, 1) := by decide +kernel
theorem d_C_init_21 : decode c_C_init 21 = .ok (.bipush 40, 2) := by decide +kernel
theorem d_C_init_23 : decode c_C_init 23 = .ok (.newarray .int, 2) := by decide +kernel
theorem d_C_init_25 : decode c_C_init 25 = .ok (.putfield 18, 3) := by decide +kernel
theorem d_C_init_28 : decode c_C_init 28 = .ok (.aload_n 0, 1) := by decide +kernel
theorem d_C_init_29 : decode c_C_init 29 = .ok (.bipush 40, 2) := by decide +kernel
theorem d_C_init_31 : decode c_C_init 31 = .ok (.newarray .int, 2) := by decide +kernel
theorem d_C_init_33 : decode c_C_init 33 = .ok (.putfield 21, 3) := by decide +kernel
theorem d_C_init_36 : decode c_C_init 36 = .ok (.aload_n 0, 1) := by decide +kernel
theorem d_C_init_37 : decode c_C_init 37 = .ok (.bipush 40, 2) := by decide +kernel
theorem d_C_init_39 : decode c_C_init 39 = .ok (.newarray .boolean, 2) := by decide +kernel
theorem d_C_init_41 : decode c_C_init 41 = .ok (.putfield 24, 3) := by decide +kernel
theorem d_C_init_44 : decode c_C_init 44 = .ok (.aload_n 0, 1) := by decide +kernel
theorem d_C_init_45 : decode c_C_init 45 = .ok (.bipush 40, 2) := by decide +kernel
theorem d_C_init_47 : decode c_C_init 47 = .ok (.newarray .int, 2) := by decide +kernel
theorem d_C_init_49 : decode c_C_init 49 = .ok (.putfield 28, 3) := by decide +kernel
theorem d_C_init_52 : decode c_C_init 52 = .ok (.return_, 1) := by decide +kernel
abbrev c_T_init : ByteArray := prog_5_method_1_code
def y_T_init : MethodName := ⟨"ReinsuranceDesk$Treaties", "<init>", "()V"⟩
theorem wc_T_init : Cond.code y_T_init c_T_init 1 none ∈ bw := bw_m (rd_m 90 (by decide +kernel))
theorem d_T_init_0 : decode c_T_init 0 = .ok (.aload_n 0, 1) := by decide +kernel
theorem d_T_init_1 : decode c_T_init 1 = .ok (.invokespecial 3, 3) := by decide +kernel
theorem d_T_init_4 : decode c_T_init 4 = .ok (.aload_n 0, 1) := by decide +kernel
theorem d_T_init_5 : decode c_T_init 5 = .ok (.bipush 10, 2) := by decide +kernel
theorem d_T_init_7 : decode c_T_init 7 = .ok (.newarray .int, 2) := by decide +kernel
theorem d_T_init_9 : decode c_T_init 9 = .ok (.putfield 9, 3) := by decide +kernel
theorem d_T_init_12 : decode c_T_init 12 = .ok (.aload_n 0, 1) := by decide +kernel
theorem d_T_init_13 : decode c_T_init 13 = .ok (.bipush 10, 2) := by decide +kernel
theorem d_T_init_15 : decode c_T_init 15 = .ok (.newarray .int, 2) := by decide +kernel
theorem d_T_init_17 : decode c_T_init 17 = .ok (.putfield 15, 3) := by decide +kernel
theorem d_T_init_20 : decode c_T_init 20 = .ok (.aload_n 0, 1) := by decide +kernel
theorem d_T_init_21 : decode c_T_init 21 = .ok (.bipush 10, 2) := by decide +kernel
theorem d_T_init_23 : decode c_T_init 23 = .ok (.newarray .long, 2) := by decide +kernel
theorem d_T_init_25 : decode c_T_init 25 = .ok (.putfield 18, 3) := by decide +kernel
theorem d_T_init_28 : decode c_T_init 28 = .ok (.aload_n 0, 1) := by decide +kernel
theorem d_T_init_29 : decode c_T_init 29 = .ok (.bipush 10, 2) := by decide +kernel
theorem d_T_init_31 : decode c_T_init 31 = .ok (.newarray .long, 2) := by decide +kernel
theorem d_T_init_33 : decode c_T_init 33 = .ok (.putfield 22, 3) := by decide +kernel
theorem d_T_init_36 : decode c_T_init 36 = .ok (.aload_n 0, 1) := by decide +kernel
theorem d_T_init_37 : decode c_T_init 37 = .ok (.bipush 10, 2) := by decide +kernel
theorem d_T_init_39 : decode c_T_init 39 = .ok (.newarray .long, 2) := by decide +kernel
theorem d_T_init_41 : decode c_T_init 41 = .ok (.putfield 25, 3) := by decide +kernel
theorem d_T_init_44 : decode c_T_init 44 = .ok (.aload_n 0, 1) := by decide +kernel
theorem d_T_init_45 : decode c_T_init 45 = .ok (.bipush 10, 2) := by decide +kernel
theorem d_T_init_47 : decode c_T_init 47 = .ok (.newarray .long, 2) := by decide +kernel
theorem d_T_init_49 : decode c_T_init 49 = .ok (.putfield 28, 3) := by decide +kernel
theorem d_T_init_52 : decode c_T_init 52 = .ok (.aload_n 0, 1) := by decide +kernel
theorem d_T_init_53 : decode c_T_init 53 = .ok (.bipush 60, 2) := by decide +kernel
theorem d_T_init_55 : decode c_T_init 55 = .ok (.newarray .int, 2) := by decide +kernel
theorem d_T_init_57 : decode c_T_init 57 = .ok (.putfield 31, 3) := by decide +kernel
theorem d_T_init_60 : decode c_T_init 60 = .ok (.return_, 1) := by decide +kernel
abbrev c_S_init : ByteArray := prog_2_method_1_code
def y_S_init : MethodName := ⟨"ReinsuranceDesk$Cession", "<init>", "(LReinsuranceDesk$Risks;LReinsuranceDesk$Claims;LReinsuranceDesk$Treaties;)V"⟩
theorem wc_S_init : Cond.code y_S_init c_S_init 4 none ∈ bw := bw_m (rd_m 131 (by decide +kernel))
theorem d_S_init_0 : decode c_S_init 0 = .ok (.aload_n 0, 1) := by decide +kernel
theorem d_S_init_1 : decode c_S_init 1 = .ok (.invokespecial 3, 3) := by decide +kernel
theorem d_S_init_4 : decode c_S_init 4 = .ok (.aload_n 0, 1) := by decide +kernel
theorem d_S_init_5 : decode c_S_init 5 = .ok (.aload_n 1, 1) := by decide +kernel
theorem d_S_init_6 : decode c_S_init 6 = .ok (.putfield 9, 3) := by decide +kernel
theorem d_S_init_9 : decode c_S_init 9 = .ok (.aload_n 0, 1) := by decide +kernel
theorem d_S_init_10 : decode c_S_init 10 = .ok (.aload_n 2, 1) := by decide +kernel
theorem d_S_init_11 : decode c_S_init 11 = .ok (.putfield 15, 3) := by decide +kernel
theorem d_S_init_14 : decode c_S_init 14 = .ok (.aload_n 0, 1) := by decide +kernel
theorem d_S_init_15 : decode c_S_init 15 = .ok (.aload_n 3, 1) := by decide +kernel
theorem d_S_init_16 : decode c_S_init 16 = .ok (.putfield 19, 3) := by decide +kernel
theorem d_S_init_19 : decode c_S_init 19 = .ok (.aload_n 0, 1) := by decide +kernel
theorem d_S_init_20 : decode c_S_init 20 = .ok (.bipush 40, 2) := by decide +kernel
theorem d_S_init_22 : decode c_S_init 22 = .ok (.newarray .boolean, 2) := by decide +kernel
theorem d_S_init_24 : decode c_S_init 24 = .ok (.putfield 23, 3) := by decide +kernel
theorem d_S_init_27 : decode c_S_init 27 = .ok (.aload_n 0, 1) := by decide +kernel
theorem d_S_init_28 : decode c_S_init 28 = .ok (.bipush 40, 2) := by decide +kernel
theorem d_S_init_30 : decode c_S_init 30 = .ok (.newarray .int, 2) := by decide +kernel
theorem d_S_init_32 : decode c_S_init 32 = .ok (.putfield 27, 3) := by decide +kernel
theorem d_S_init_35 : decode c_S_init 35 = .ok (.aload_n 0, 1) := by decide +kernel
theorem d_S_init_36 : decode c_S_init 36 = .ok (.sipush 400, 3) := by decide +kernel
theorem d_S_init_39 : decode c_S_init 39 = .ok (.newarray .int, 2) := by decide +kernel
theorem d_S_init_41 : decode c_S_init 41 = .ok (.putfield 31, 3) := by decide +kernel
theorem d_S_init_44 : decode c_S_init 44 = .ok (.aload_n 0, 1) := by decide +kernel
theorem d_S_init_45 : decode c_S_init 45 = .ok (.bipush 10, 2) := by decide +kernel
theorem d_S_init_47 : decode c_S_init 47 = .ok (.newarray .long, 2) := by decide +kernel
theorem d_S_init_49 : decode c_S_init 49 = .ok (.putfield 34, 3) := by decide +kernel
theorem d_S_init_52 : decode c_S_init 52 = .ok (.aload_n 0, 1) := by decide +kernel
theorem d_S_init_53 : decode c_S_init 53 = .ok (.bipush 100, 2) := by decide +kernel
theorem d_S_init_55 : decode c_S_init 55 = .ok (.newarray .int, 2) := by decide +kernel
theorem d_S_init_57 : decode c_S_init 57 = .ok (.putfield 38, 3) := by decide +kernel
theorem d_S_init_60 : decode c_S_init 60 = .ok (.aload_n 0, 1) := by decide +kernel
theorem d_S_init_61 : decode c_S_init 61 = .ok (.bipush 12, 2) := by decide +kernel
theorem d_S_init_63 : decode c_S_init 63 = .ok (.newarray .long, 2) := by decide +kernel
theorem d_S_init_65 : decode c_S_init 65 = .ok (.putfield 41, 3) := by decide +kernel
theorem d_S_init_68 : decode c_S_init 68 = .ok (.aload_n 0, 1) := by decide +kernel
theorem d_S_init_69 : decode c_S_init 69 = .ok (.bipush 10, 2) := by decide +kernel
theorem d_S_init_71 : decode c_S_init 71 = .ok (.newarray .long, 2) := by decide +kernel
theorem d_S_init_73 : decode c_S_init 73 = .ok (.putfield 44, 3) := by decide +kernel
theorem d_S_init_76 : decode c_S_init 76 = .ok (.aload_n 0, 1) := by decide +kernel
theorem d_S_init_77 : decode c_S_init 77 = .ok (.bipush 40, 2) := by decide +kernel
theorem d_S_init_79 : decode c_S_init 79 = .ok (.newarray .int, 2) := by decide +kernel
theorem d_S_init_81 : decode c_S_init 81 = .ok (.putfield 47, 3) := by decide +kernel
theorem d_S_init_84 : decode c_S_init 84 = .ok (.aload_n 0, 1) := by decide +kernel
theorem d_S_init_85 : decode c_S_init 85 = .ok (.bipush 40, 2) := by decide +kernel
theorem d_S_init_87 : decode c_S_init 87 = .ok (.newarray .long, 2) := by decide +kernel
theorem d_S_init_89 : decode c_S_init 89 = .ok (.putfield 50, 3) := by decide +kernel
theorem d_S_init_92 : decode c_S_init 92 = .ok (.return_, 1) := by decide +kernel
abbrev c_D_init : ByteArray := prog_1_method_1_code
def y_D_init : MethodName := ⟨"ReinsuranceDesk", "<init>", "()V"⟩
theorem wc_D_init : Cond.code y_D_init c_D_init 1 none ∈ bw := bw_m (rd_m 18 (by decide +kernel))
theorem d_D_init_0 : decode c_D_init 0 = .ok (.aload_n 0, 1) := by decide +kernel
theorem d_D_init_1 : decode c_D_init 1 = .ok (.invokespecial 1, 3) := by decide +kernel
theorem d_D_init_4 : decode c_D_init 4 = .ok (.aload_n 0, 1) := by decide +kernel
theorem d_D_init_5 : decode c_D_init 5 = .ok (.new 7, 3) := by decide +kernel
theorem d_D_init_8 : decode c_D_init 8 = .ok (.dup, 1) := by decide +kernel
theorem d_D_init_9 : decode c_D_init 9 = .ok (.invokespecial 9, 3) := by decide +kernel
theorem d_D_init_12 : decode c_D_init 12 = .ok (.putfield 10, 3) := by decide +kernel
theorem d_D_init_15 : decode c_D_init 15 = .ok (.aload_n 0, 1) := by decide +kernel
theorem d_D_init_16 : decode c_D_init 16 = .ok (.new 16, 3) := by decide +kernel
theorem d_D_init_19 : decode c_D_init 19 = .ok (.dup, 1) := by decide +kernel
theorem d_D_init_20 : decode c_D_init 20 = .ok (.invokespecial 18, 3) := by decide +kernel
theorem d_D_init_23 : decode c_D_init 23 = .ok (.putfield 19, 3) := by decide +kernel
theorem d_D_init_26 : decode c_D_init 26 = .ok (.aload_n 0, 1) := by decide +kernel
theorem d_D_init_27 : decode c_D_init 27 = .ok (.new 23, 3) := by decide +kernel
theorem d_D_init_30 : decode c_D_init 30 = .ok (.dup, 1) := by decide +kernel
theorem d_D_init_31 : decode c_D_init 31 = .ok (.invokespecial 25, 3) := by decide +kernel
theorem d_D_init_34 : decode c_D_init 34 = .ok (.putfield 26, 3) := by decide +kernel
theorem d_D_init_37 : decode c_D_init 37 = .ok (.aload_n 0, 1) := by decide +kernel
theorem d_D_init_38 : decode c_D_init 38 = .ok (.new 30, 3) := by decide +kernel
theorem d_D_init_41 : decode c_D_init 41 = .ok (.dup, 1) := by decide +kernel
theorem d_D_init_42 : decode c_D_init 42 = .ok (.aload_n 0, 1) := by decide +kernel
theorem d_D_init_43 : decode c_D_init 43 = .ok (.getfield 10, 3) := by decide +kernel
theorem d_D_init_46 : decode c_D_init 46 = .ok (.aload_n 0, 1) := by decide +kernel
theorem d_D_init_47 : decode c_D_init 47 = .ok (.getfield 19, 3) := by decide +kernel
theorem d_D_init_50 : decode c_D_init 50 = .ok (.aload_n 0, 1) := by decide +kernel
theorem d_D_init_51 : decode c_D_init 51 = .ok (.getfield 26, 3) := by decide +kernel
theorem d_D_init_54 : decode c_D_init 54 = .ok (.invokespecial 32, 3) := by decide +kernel
theorem d_D_init_57 : decode c_D_init 57 = .ok (.putfield 35, 3) := by decide +kernel
theorem d_D_init_60 : decode c_D_init 60 = .ok (.aload_n 0, 1) := by decide +kernel
theorem d_D_init_61 : decode c_D_init 61 = .ok (.iconst 4, 1) := by decide +kernel
theorem d_D_init_62 : decode c_D_init 62 = .ok (.newarray .boolean, 2) := by decide +kernel
theorem d_D_init_64 : decode c_D_init 64 = .ok (.putfield 39, 3) := by decide +kernel
theorem d_D_init_67 : decode c_D_init 67 = .ok (.aload_n 0, 1) := by decide +kernel
theorem d_D_init_68 : decode c_D_init 68 = .ok (.bipush 6, 2) := by decide +kernel
theorem d_D_init_70 : decode c_D_init 70 = .ok (.newarray .long, 2) := by decide +kernel
theorem d_D_init_72 : decode c_D_init 72 = .ok (.putfield 43, 3) := by decide +kernel
theorem d_D_init_75 : decode c_D_init 75 = .ok (.return_, 1) := by decide +kernel
abbrev c_M_init : ByteArray := prog_7_method_1_code
def y_M_init : MethodName := ⟨"ReinsuranceDeskModel", "<init>", "()V"⟩
theorem wc_M_init : Cond.code y_M_init c_M_init 1 none ∈ bw := bw_m (rd_m 612 (by decide +kernel))
theorem d_M_init_0 : decode c_M_init 0 = .ok (.aload_n 0, 1) := by decide +kernel
theorem d_M_init_1 : decode c_M_init 1 = .ok (.invokespecial 1, 3) := by decide +kernel
theorem d_M_init_4 : decode c_M_init 4 = .ok (.aload_n 0, 1) := by decide +kernel
theorem d_M_init_5 : decode c_M_init 5 = .ok (.bipush 12, 2) := by decide +kernel
theorem d_M_init_7 : decode c_M_init 7 = .ok (.newarray .int, 2) := by decide +kernel
theorem d_M_init_9 : decode c_M_init 9 = .ok (.putfield 7, 3) := by decide +kernel
theorem d_M_init_12 : decode c_M_init 12 = .ok (.aload_n 0, 1) := by decide +kernel
theorem d_M_init_13 : decode c_M_init 13 = .ok (.bipush 12, 2) := by decide +kernel
theorem d_M_init_15 : decode c_M_init 15 = .ok (.newarray .int, 2) := by decide +kernel
theorem d_M_init_17 : decode c_M_init 17 = .ok (.putfield 13, 3) := by decide +kernel
theorem d_M_init_20 : decode c_M_init 20 = .ok (.aload_n 0, 1) := by decide +kernel
theorem d_M_init_21 : decode c_M_init 21 = .ok (.bipush 12, 2) := by decide +kernel
theorem d_M_init_23 : decode c_M_init 23 = .ok (.newarray .int, 2) := by decide +kernel
theorem d_M_init_25 : decode c_M_init 25 = .ok (.putfield 16, 3) := by decide +kernel
theorem d_M_init_28 : decode c_M_init 28 = .ok (.aload_n 0, 1) := by decide +kernel
theorem d_M_init_29 : decode c_M_init 29 = .ok (.bipush 40, 2) := by decide +kernel
theorem d_M_init_31 : decode c_M_init 31 = .ok (.newarray .int, 2) := by decide +kernel
theorem d_M_init_33 : decode c_M_init 33 = .ok (.putfield 19, 3) := by decide +kernel
theorem d_M_init_36 : decode c_M_init 36 = .ok (.aload_n 0, 1) := by decide +kernel
theorem d_M_init_37 : decode c_M_init 37 = .ok (.bipush 40, 2) := by decide +kernel
theorem d_M_init_39 : decode c_M_init 39 = .ok (.newarray .int, 2) := by decide +kernel
theorem d_M_init_41 : decode c_M_init 41 = .ok (.putfield 22, 3) := by decide +kernel
theorem d_M_init_44 : decode c_M_init 44 = .ok (.aload_n 0, 1) := by decide +kernel
theorem d_M_init_45 : decode c_M_init 45 = .ok (.bipush 40, 2) := by decide +kernel
theorem d_M_init_47 : decode c_M_init 47 = .ok (.newarray .int, 2) := by decide +kernel
theorem d_M_init_49 : decode c_M_init 49 = .ok (.putfield 25, 3) := by decide +kernel
theorem d_M_init_52 : decode c_M_init 52 = .ok (.aload_n 0, 1) := by decide +kernel
theorem d_M_init_53 : decode c_M_init 53 = .ok (.bipush 40, 2) := by decide +kernel
theorem d_M_init_55 : decode c_M_init 55 = .ok (.newarray .int, 2) := by decide +kernel
theorem d_M_init_57 : decode c_M_init 57 = .ok (.putfield 28, 3) := by decide +kernel
theorem d_M_init_60 : decode c_M_init 60 = .ok (.aload_n 0, 1) := by decide +kernel
theorem d_M_init_61 : decode c_M_init 61 = .ok (.bipush 40, 2) := by decide +kernel
theorem d_M_init_63 : decode c_M_init 63 = .ok (.newarray .boolean, 2) := by decide +kernel
theorem d_M_init_65 : decode c_M_init 65 = .ok (.putfield 31, 3) := by decide +kernel
theorem d_M_init_68 : decode c_M_init 68 = .ok (.aload_n 0, 1) := by decide +kernel
theorem d_M_init_69 : decode c_M_init 69 = .ok (.bipush 10, 2) := by decide +kernel
theorem d_M_init_71 : decode c_M_init 71 = .ok (.newarray .int, 2) := by decide +kernel
theorem d_M_init_73 : decode c_M_init 73 = .ok (.putfield 35, 3) := by decide +kernel
theorem d_M_init_76 : decode c_M_init 76 = .ok (.aload_n 0, 1) := by decide +kernel
theorem d_M_init_77 : decode c_M_init 77 = .ok (.bipush 10, 2) := by decide +kernel
theorem d_M_init_79 : decode c_M_init 79 = .ok (.newarray .int, 2) := by decide +kernel
theorem d_M_init_81 : decode c_M_init 81 = .ok (.putfield 38, 3) := by decide +kernel
theorem d_M_init_84 : decode c_M_init 84 = .ok (.aload_n 0, 1) := by decide +kernel
theorem d_M_init_85 : decode c_M_init 85 = .ok (.bipush 10, 2) := by decide +kernel
theorem d_M_init_87 : decode c_M_init 87 = .ok (.newarray .int, 2) := by decide +kernel
theorem d_M_init_89 : decode c_M_init 89 = .ok (.putfield 41, 3) := by decide +kernel
theorem d_M_init_92 : decode c_M_init 92 = .ok (.aload_n 0, 1) := by decide +kernel
theorem d_M_init_93 : decode c_M_init 93 = .ok (.bipush 10, 2) := by decide +kernel
theorem d_M_init_95 : decode c_M_init 95 = .ok (.newarray .int, 2) := by decide +kernel
theorem d_M_init_97 : decode c_M_init 97 = .ok (.putfield 44, 3) := by decide +kernel
theorem d_M_init_100 : decode c_M_init 100 = .ok (.aload_n 0, 1) := by decide +kernel
theorem d_M_init_101 : decode c_M_init 101 = .ok (.bipush 10, 2) := by decide +kernel
theorem d_M_init_103 : decode c_M_init 103 = .ok (.newarray .int, 2) := by decide +kernel
theorem d_M_init_105 : decode c_M_init 105 = .ok (.putfield 47, 3) := by decide +kernel
theorem d_M_init_108 : decode c_M_init 108 = .ok (.aload_n 0, 1) := by decide +kernel
theorem d_M_init_109 : decode c_M_init 109 = .ok (.bipush 60, 2) := by decide +kernel
theorem d_M_init_111 : decode c_M_init 111 = .ok (.newarray .int, 2) := by decide +kernel
theorem d_M_init_113 : decode c_M_init 113 = .ok (.putfield 50, 3) := by decide +kernel
theorem d_M_init_116 : decode c_M_init 116 = .ok (.aload_n 0, 1) := by decide +kernel
theorem d_M_init_117 : decode c_M_init 117 = .ok (.bipush 6, 2) := by decide +kernel
theorem d_M_init_119 : decode c_M_init 119 = .ok (.newarray .long, 2) := by decide +kernel
theorem d_M_init_121 : decode c_M_init 121 = .ok (.putfield 53, 3) := by decide +kernel
theorem d_M_init_124 : decode c_M_init 124 = .ok (.aload_n 0, 1) := by decide +kernel
theorem d_M_init_125 : decode c_M_init 125 = .ok (.iconst 4, 1) := by decide +kernel
theorem d_M_init_126 : decode c_M_init 126 = .ok (.newarray .boolean, 2) := by decide +kernel
theorem d_M_init_128 : decode c_M_init 128 = .ok (.putfield 57, 3) := by decide +kernel
theorem d_M_init_131 : decode c_M_init 131 = .ok (.aload_n 0, 1) := by decide +kernel
theorem d_M_init_132 : decode c_M_init 132 = .ok (.bipush 40, 2) := by decide +kernel
theorem d_M_init_134 : decode c_M_init 134 = .ok (.newarray .long, 2) := by decide +kernel
theorem d_M_init_136 : decode c_M_init 136 = .ok (.putfield 60, 3) := by decide +kernel
theorem d_M_init_139 : decode c_M_init 139 = .ok (.aload_n 0, 1) := by decide +kernel
theorem d_M_init_140 : decode c_M_init 140 = .ok (.sipush 400, 3) := by decide +kernel
theorem d_M_init_143 : decode c_M_init 143 = .ok (.newarray .long, 2) := by decide +kernel
theorem d_M_init_145 : decode c_M_init 145 = .ok (.putfield 63, 3) := by decide +kernel
theorem d_M_init_148 : decode c_M_init 148 = .ok (.aload_n 0, 1) := by decide +kernel
theorem d_M_init_149 : decode c_M_init 149 = .ok (.bipush 10, 2) := by decide +kernel
theorem d_M_init_151 : decode c_M_init 151 = .ok (.newarray .long, 2) := by decide +kernel
theorem d_M_init_153 : decode c_M_init 153 = .ok (.putfield 66, 3) := by decide +kernel
theorem d_M_init_156 : decode c_M_init 156 = .ok (.aload_n 0, 1) := by decide +kernel
theorem d_M_init_157 : decode c_M_init 157 = .ok (.bipush 10, 2) := by decide +kernel
theorem d_M_init_159 : decode c_M_init 159 = .ok (.newarray .long, 2) := by decide +kernel
theorem d_M_init_161 : decode c_M_init 161 = .ok (.putfield 69, 3) := by decide +kernel
theorem d_M_init_164 : decode c_M_init 164 = .ok (.aload_n 0, 1) := by decide +kernel
theorem d_M_init_165 : decode c_M_init 165 = .ok (.bipush 100, 2) := by decide +kernel
theorem d_M_init_167 : decode c_M_init 167 = .ok (.newarray .int, 2) := by decide +kernel
theorem d_M_init_169 : decode c_M_init 169 = .ok (.putfield 72, 3) := by decide +kernel
theorem d_M_init_172 : decode c_M_init 172 = .ok (.aload_n 0, 1) := by decide +kernel
theorem d_M_init_173 : decode c_M_init 173 = .ok (.bipush 12, 2) := by decide +kernel
theorem d_M_init_175 : decode c_M_init 175 = .ok (.newarray .long, 2) := by decide +kernel
theorem d_M_init_177 : decode c_M_init 177 = .ok (.putfield 75, 3) := by decide +kernel
theorem d_M_init_180 : decode c_M_init 180 = .ok (.aload_n 0, 1) := by decide +kernel
theorem d_M_init_181 : decode c_M_init 181 = .ok (.bipush 40, 2) := by decide +kernel
theorem d_M_init_183 : decode c_M_init 183 = .ok (.newarray .boolean, 2) := by decide +kernel
theorem d_M_init_185 : decode c_M_init 185 = .ok (.putfield 78, 3) := by decide +kernel
theorem d_M_init_188 : decode c_M_init 188 = .ok (.aload_n 0, 1) := by decide +kernel
theorem d_M_init_189 : decode c_M_init 189 = .ok (.bipush 40, 2) := by decide +kernel
theorem d_M_init_191 : decode c_M_init 191 = .ok (.newarray .long, 2) := by decide +kernel
theorem d_M_init_193 : decode c_M_init 193 = .ok (.putfield 81, 3) := by decide +kernel
theorem d_M_init_196 : decode c_M_init 196 = .ok (.aload_n 0, 1) := by decide +kernel
theorem d_M_init_197 : decode c_M_init 197 = .ok (.bipush 40, 2) := by decide +kernel
theorem d_M_init_199 : decode c_M_init 199 = .ok (.newarray .int, 2) := by decide +kernel
theorem d_M_init_201 : decode c_M_init 201 = .ok (.putfield 84, 3) := by decide +kernel
theorem d_M_init_204 : decode c_M_init 204 = .ok (.return_, 1) := by decide +kernel
theorem bw_obj : Cond.code objectInit ⟨#[0xb1]⟩ 1 none ∈ bw := bw_m (rd_m 21 (by decide +kernel))
end
section
/-- what the constructor of ReinsuranceDesk$Risks leaves -/
def at_R (D : va_G) (cA : Nat → ClassId) (A : Nat → Prop) (h0 : Nat) (_ : Unit) (t : State) : Prop := ∃ (q7 q15 q23 : Nat), va_P D rd_CL [(h0, .inr (2, [.ref q7, .ref q15, .ref q23])), (q7, bI cA 12), (q15, bI cA 12), (q23, bI cA 12)] t.heap ∧ va_K D rd_CL (rd_ty cA) t ∧ va_D A [(h0, .inr (2, [.ref q7, .ref q15, .ref q23])), (q7, bI cA 12), (q15, bI cA 12), (q23, bI cA 12)]
set_option maxHeartbeats 4000000 in
set_option maxRecDepth 100000 in
theorem e_R_init {B : List Cond} (hB : B = bw) (l : Launch) (D : va_G) (cA : Nat → ClassId) (h0 : Nat) (sz : Nat) : Met l y_R_init (.code y_R_init c_R_init 1 none :: B) ({ frames := 1, cells := 3, slots := 36, locals := 12 }) (va_Pc [.ref h0] (fun U => U.heap.size = sz ∧ va_P D rd_CL [(h0, .inr (2, [.null, .null, .null]))] U.heap ∧ va_K D rd_CL (rd_ty cA) U ∧ va_D (fun _ => True) [(h0, .inr (2, [.null, .null, .null]))])) (va_Qv (fun _ : Unit => True) (at_R D cA (va_A [(h0, .inr (2, [.null, .null, .null]))] sz) h0) (va_A [(h0, .inr (2, [.null, .null, .null]))] sz)) 3 36 (va_A [(h0, .inr (2, [.null, .null, .null]))] sz) := by
  refine Met.ofW (cc := c_R_init) (maxL := 1) (ret := none) (by decide) rfl ?_
  intro p e s m args below meth c s₁ BB hml hv
  obtain ⟨rfl, hsz, hP, hK, hD0⟩ := hv
  have hx := BB.exec
  have hb := BB.bytes
  have hr := BB.returns
  have hts := atoms_spec (ws := .code y_R_init c_R_init 1 none :: B) BB.pre
  have hown : s.vm.findClass "ReinsuranceDesk$Risks" = some m.cls := findClass_of_methodNamed BB.named
  have hlocks := BB.notSynchronized
  have hin : meth.name = "<init>" := (name_of_methodNamed BB.named BB.method).1
  subst hsz
  have hD := hD0.self (sz := s.heap.size)
  generalize hAe : va_A [(h0, .inr (2, [.null, .null, .null]))] s.heap.size = A at hD ⊢
  have hA : ∀ q : Nat, s.heap.size ≤ q → A q := fun q h => by rw [← hAe]; exact Or.inr h
  have hS : va_S A s.heap s.heap [] := va_S.rf
  have hP : va_P D rd_CL [(h0, .inr (2, [.null, .null, .null]))] s.heap := hP
  have hl := lv_entry ([.ref h0]) (n := 1) (Nat.le_of_ble_eq_true rfl)
  rw [lg_entry_eq]
  generalize (lg_sl ([.ref h0]) ++ List.replicate (1 - (lg_sl ([.ref h0])).length) Slot.unset).toArray = ls at hl ⊢
  have hl : lv_has ls 1 [(0, .ref h0)] := hl
  refine lv_aload_n (pc := 0) hx hb d_R_init_0 rfl (lv_at hl 0 rfl) ?_
  refine W.objInit hx hb hown (hts (.methodLink "ReinsuranceDesk$Risks" 3 objectInit) (List.mem_cons_of_mem _ (bw_B hB (bw_m (rd_m 27 (by decide +kernel)))))) (hts (.instanceMethod objectInit) (List.mem_cons_of_mem _ (bw_B hB (bw_m (rd_m 20 (by decide +kernel)))))) (hts _ (List.mem_cons_of_mem _ (bw_B hB bw_obj))) rfl (by rw [hml]; exact hl.1) rfl d_R_init_1 (Nat.le_of_ble_eq_true rfl) (Nat.le_of_ble_eq_true rfl) ?_
  refine W.eq (g2 := F0 m 4 ls []) rfl ?_
  refine lv_aload_n (pc := 4) hx hb d_R_init_4 rfl (lv_at hl 0 rfl) ?_
  refine lv_bipush (pc := 5) (v := Int32.ofInt 12) hx hb d_R_init_5 rfl ?_
  refine bd_newa (pc := 7) (atype := .int) (N' := 12) (a0 := (12, .inl (fun _ => Int32.ofInt 0))) hx hb (hts (.arrayClass .int) (List.mem_cons_of_mem _ (bw_B hB (bw_m (rd_m 44 (by decide +kernel)))))) (ty := .int) rfl 0 rfl (fun _ h => h) hK hP hD hS hA (bI_ha 12) (by decide) (by decide) (by decide) (Nat.le_of_ble_eq_true rfl) (Nat.le_of_ble_eq_true rfl) d_R_init_7 (fun q7 H hP hD hS => ?_)
  have hP : va_P D rd_CL [(h0, .inr (2, [.null, .null, .null])), (q7, bI cA 12)] H := hP
  have hD : va_D A [(h0, .inr (2, [.null, .null, .null])), (q7, bI cA 12)] := hD
  refine W.widen (k := 1) (n := 12) (Nat.le_of_ble_eq_true rfl) (Nat.le_of_ble_eq_true rfl) ?_
  refine va_putF (pc := 9) (D := D) (ci := 2) (v := .ref q7) (ty := .array .int) (C := "ReinsuranceDesk$Risks") (T := rd_T2) (N := 3) hx hb hts (fun w h => List.mem_cons_of_mem _ (bw_B hB (bw_u2 w h))) rd_t2 rd_tt2 rd_nn2 hown hK hP hD hS 0 rfl rfl 0 (by decide) (hts (.fieldLink "ReinsuranceDesk$Risks" 9 "ReinsuranceDesk$Risks" "sum" "[I") (List.mem_cons_of_mem _ (bw_B hB (bw_m (rd_m 28 (by decide +kernel)))))) (fun _ h9 => h9) rfl hin rfl (by decide +kernel) rfl rfl (Nat.le_of_ble_eq_true rfl) d_R_init_9 (fun H locs hP hD hS => ?_)
  have hP : va_P D rd_CL [(h0, .inr (2, [.ref q7, .null, .null])), (q7, bI cA 12)] H := hP
  have hD : va_D A [(h0, .inr (2, [.ref q7, .null, .null])), (q7, bI cA 12)] := hD
  refine lv_aload_n (pc := 12) hx hb d_R_init_12 rfl (lv_at hl 0 rfl) ?_
  refine lv_bipush (pc := 13) (v := Int32.ofInt 12) hx hb d_R_init_13 rfl ?_
  refine bd_newa (pc := 15) (atype := .int) (N' := 12) (a0 := (12, .inl (fun _ => Int32.ofInt 0))) hx hb (hts (.arrayClass .int) (List.mem_cons_of_mem _ (bw_B hB (bw_m (rd_m 44 (by decide +kernel)))))) (ty := .int) rfl 0 rfl (fun _ h => h) hK hP hD hS hA (bI_ha 12) (by decide) (by decide) (by decide) (Nat.le_of_ble_eq_true rfl) (Nat.le_of_ble_eq_true rfl) d_R_init_15 (fun q15 H hP hD hS => ?_)
  have hP : va_P D rd_CL [(h0, .inr (2, [.ref q7, .null, .null])), (q7, bI cA 12), (q15, bI cA 12)] H := hP
  have hD : va_D A [(h0, .inr (2, [.ref q7, .null, .null])), (q7, bI cA 12), (q15, bI cA 12)] := hD
  refine W.widen (k := 2) (n := 24) (Nat.le_of_ble_eq_true rfl) (Nat.le_of_ble_eq_true rfl) ?_
  refine va_putF (pc := 17) (D := D) (ci := 2) (v := .ref q15) (ty := .array .int) (C := "ReinsuranceDesk$Risks") (T := rd_T2) (N := 3) hx hb hts (fun w h => List.mem_cons_of_mem _ (bw_B hB (bw_u2 w h))) rd_t2 rd_tt2 rd_nn2 hown hK hP hD hS 0 rfl rfl 1 (by decide) (hts (.fieldLink "ReinsuranceDesk$Risks" 15 "ReinsuranceDesk$Risks" "premiumOf" "[I") (List.mem_cons_of_mem _ (bw_B hB (bw_m (rd_m 31 (by decide +kernel)))))) (fun _ h9 => h9) rfl hin rfl (by decide +kernel) rfl rfl (Nat.le_of_ble_eq_true rfl) d_R_init_17 (fun H locs hP hD hS => ?_)
  have hP : va_P D rd_CL [(h0, .inr (2, [.ref q7, .ref q15, .null])), (q7, bI cA 12), (q15, bI cA 12)] H := hP
  have hD : va_D A [(h0, .inr (2, [.ref q7, .ref q15, .null])), (q7, bI cA 12), (q15, bI cA 12)] := hD
  refine lv_aload_n (pc := 20) hx hb d_R_init_20 rfl (lv_at hl 0 rfl) ?_
  refine lv_bipush (pc := 21) (v := Int32.ofInt 12) hx hb d_R_init_21 rfl ?_
  refine bd_newa (pc := 23) (atype := .int) (N' := 12) (a0 := (12, .inl (fun _ => Int32.ofInt 0))) hx hb (hts (.arrayClass .int) (List.mem_cons_of_mem _ (bw_B hB (bw_m (rd_m 44 (by decide +kernel)))))) (ty := .int) rfl 0 rfl (fun _ h => h) hK hP hD hS hA (bI_ha 12) (by decide) (by decide) (by decide) (Nat.le_of_ble_eq_true rfl) (Nat.le_of_ble_eq_true rfl) d_R_init_23 (fun q23 H hP hD hS => ?_)
  have hP : va_P D rd_CL [(h0, .inr (2, [.ref q7, .ref q15, .null])), (q7, bI cA 12), (q15, bI cA 12), (q23, bI cA 12)] H := hP
  have hD : va_D A [(h0, .inr (2, [.ref q7, .ref q15, .null])), (q7, bI cA 12), (q15, bI cA 12), (q23, bI cA 12)] := hD
  refine W.widen (k := 3) (n := 36) (Nat.le_of_ble_eq_true rfl) (Nat.le_of_ble_eq_true rfl) ?_
  refine va_putF (pc := 25) (D := D) (ci := 2) (v := .ref q23) (ty := .array .int) (C := "ReinsuranceDesk$Risks") (T := rd_T2) (N := 3) hx hb hts (fun w h => List.mem_cons_of_mem _ (bw_B hB (bw_u2 w h))) rd_t2 rd_tt2 rd_nn2 hown hK hP hD hS 0 rfl rfl 2 (by decide) (hts (.fieldLink "ReinsuranceDesk$Risks" 18 "ReinsuranceDesk$Risks" "yearOf" "[I") (List.mem_cons_of_mem _ (bw_B hB (bw_m (rd_m 34 (by decide +kernel)))))) (fun _ h9 => h9) rfl hin rfl (by decide +kernel) rfl rfl (Nat.le_of_ble_eq_true rfl) d_R_init_25 (fun H locs hP hD hS => ?_)
  have hP : va_P D rd_CL [(h0, .inr (2, [.ref q7, .ref q15, .ref q23])), (q7, bI cA 12), (q15, bI cA 12), (q23, bI cA 12)] H := hP
  have hD : va_D A [(h0, .inr (2, [.ref q7, .ref q15, .ref q23])), (q7, bI cA 12), (q15, bI cA 12), (q23, bI cA 12)] := hD
  exact W.vret (pc := 28) hx hb hr (fun t ht hW => ⟨⟨(), rfl, trivial, q7, q15, q23, by rw [ht]; exact hP, va_K.moved hW.alike hK, hD⟩, hS.F ht⟩) hS.2.2 d_R_init_28
/-- what the constructor of ReinsuranceDesk$Claims leaves -/
def at_C (D : va_G) (cA : Nat → ClassId) (A : Nat → Prop) (h0 : Nat) (_ : Unit) (t : State) : Prop := ∃ (q7 q15 q23 q31 q39 q47 : Nat), va_P D rd_CL [(h0, .inr (1, [rd_i 0, .ref q7, .ref q15, .ref q23, .ref q31, .ref q39, .ref q47])), (q7, bI cA 40), (q15, bI cA 40), (q23, bI cA 40), (q31, bI cA 40), (q39, bZ cA 40), (q47, bI cA 40)] t.heap ∧ va_K D rd_CL (rd_ty cA) t ∧ va_D A [(h0, .inr (1, [rd_i 0, .ref q7, .ref q15, .ref q23, .ref q31, .ref q39, .ref q47])), (q7, bI cA 40), (q15, bI cA 40), (q23, bI cA 40), (q31, bI cA 40), (q39, bZ cA 40), (q47, bI cA 40)]
set_option maxHeartbeats 4000000 in
set_option maxRecDepth 100000 in
theorem e_C_init {B : List Cond} (hB : B = bw) (l : Launch) (D : va_G) (cA : Nat → ClassId) (h0 : Nat) (sz : Nat) : Met l y_C_init (.code y_C_init c_C_init 1 none :: B) ({ frames := 1, cells := 6, slots := 240, locals := 12 }) (va_Pc [.ref h0] (fun U => U.heap.size = sz ∧ va_P D rd_CL [(h0, .inr (1, [rd_i 0, .null, .null, .null, .null, .null, .null]))] U.heap ∧ va_K D rd_CL (rd_ty cA) U ∧ va_D (fun _ => True) [(h0, .inr (1, [rd_i 0, .null, .null, .null, .null, .null, .null]))])) (va_Qv (fun _ : Unit => True) (at_C D cA (va_A [(h0, .inr (1, [rd_i 0, .null, .null, .null, .null, .null, .null]))] sz) h0) (va_A [(h0, .inr (1, [rd_i 0, .null, .null, .null, .null, .null, .null]))] sz)) 6 240 (va_A [(h0, .inr (1, [rd_i 0, .null, .null, .null, .null, .null, .null]))] sz) := by
  refine Met.ofW (cc := c_C_init) (maxL := 1) (ret := none) (by decide) rfl ?_
  intro p e s m args below meth c s₁ BB hml hv
  obtain ⟨rfl, hsz, hP, hK, hD0⟩ := hv
  have hx := BB.exec
  have hb := BB.bytes
  have hr := BB.returns
  have hts := atoms_spec (ws := .code y_C_init c_C_init 1 none :: B) BB.pre
  have hown : s.vm.findClass "ReinsuranceDesk$Claims" = some m.cls := findClass_of_methodNamed BB.named
  have hlocks := BB.notSynchronized
  have hin : meth.name = "<init>" := (name_of_methodNamed BB.named BB.method).1
  subst hsz
  have hD := hD0.self (sz := s.heap.size)
  generalize hAe : va_A [(h0, .inr (1, [rd_i 0, .null, .null, .null, .null, .null, .null]))] s.heap.size = A at hD ⊢
  have hA : ∀ q : Nat, s.heap.size ≤ q → A q := fun q h => by rw [← hAe]; exact Or.inr h
  have hS : va_S A s.heap s.heap [] := va_S.rf
  have hP : va_P D rd_CL [(h0, .inr (1, [rd_i 0, .null, .null, .null, .null, .null, .null]))] s.heap := hP
  have hl := lv_entry ([.ref h0]) (n := 1) (Nat.le_of_ble_eq_true rfl)
  rw [lg_entry_eq]
  generalize (lg_sl ([.ref h0]) ++ List.replicate (1 - (lg_sl ([.ref h0])).length) Slot.unset).toArray = ls at hl ⊢
  have hl : lv_has ls 1 [(0, .ref h0)] := hl
  refine lv_aload_n (pc := 0) hx hb d_C_init_0 rfl (lv_at hl 0 rfl) ?_
  refine W.objInit hx hb hown (hts (.methodLink "ReinsuranceDesk$Claims" 3 objectInit) (List.mem_cons_of_mem _ (bw_B hB (bw_m (rd_m 50 (by decide +kernel)))))) (hts (.instanceMethod objectInit) (List.mem_cons_of_mem _ (bw_B hB (bw_m (rd_m 20 (by decide +kernel)))))) (hts _ (List.mem_cons_of_mem _ (bw_B hB bw_obj))) rfl (by rw [hml]; exact hl.1) rfl d_C_init_1 (Nat.le_of_ble_eq_true rfl) (Nat.le_of_ble_eq_true rfl) ?_
  refine W.eq (g2 := F0 m 4 ls []) rfl ?_
  refine lv_aload_n (pc := 4) hx hb d_C_init_4 rfl (lv_at hl 0 rfl) ?_
  refine lv_bipush (pc := 5) (v := Int32.ofInt 40) hx hb d_C_init_5 rfl ?_
  refine bd_newa (pc := 7) (atype := .int) (N' := 40) (a0 := (40, .inl (fun _ => Int32.ofInt 0))) hx hb (hts (.arrayClass .int) (List.mem_cons_of_mem _ (bw_B hB (bw_m (rd_m 44 (by decide +kernel)))))) (ty := .int) rfl 0 rfl (fun _ h => h) hK hP hD hS hA (bI_ha 40) (by decide) (by decide) (by decide) (Nat.le_of_ble_eq_true rfl) (Nat.le_of_ble_eq_true rfl) d_C_init_7 (fun q7 H hP hD hS => ?_)
  have hP : va_P D rd_CL [(h0, .inr (1, [rd_i 0, .null, .null, .null, .null, .null, .null])), (q7, bI cA 40)] H := hP
  have hD : va_D A [(h0, .inr (1, [rd_i 0, .null, .null, .null, .null, .null, .null])), (q7, bI cA 40)] := hD
  refine W.widen (k := 1) (n := 40) (Nat.le_of_ble_eq_true rfl) (Nat.le_of_ble_eq_true rfl) ?_
  refine va_putF (pc := 9) (D := D) (ci := 1) (v := .ref q7) (ty := .array .int) (C := "ReinsuranceDesk$Claims") (T := rd_T1) (N := 7) hx hb hts (fun w h => List.mem_cons_of_mem _ (bw_B hB (bw_u1 w h))) rd_t1 rd_tt1 rd_nn1 hown hK hP hD hS 0 rfl rfl 1 (by decide) (hts (.fieldLink "ReinsuranceDesk$Claims" 9 "ReinsuranceDesk$Claims" "riskOf" "[I") (List.mem_cons_of_mem _ (bw_B hB (bw_m (rd_m 54 (by decide +kernel)))))) (fun _ h9 => h9) rfl hin rfl (by decide +kernel) rfl rfl (Nat.le_of_ble_eq_true rfl) d_C_init_9 (fun H locs hP hD hS => ?_)
  have hP : va_P D rd_CL [(h0, .inr (1, [rd_i 0, .ref q7, .null, .null, .null, .null, .null])), (q7, bI cA 40)] H := hP
  have hD : va_D A [(h0, .inr (1, [rd_i 0, .ref q7, .null, .null, .null, .null, .null])), (q7, bI cA 40)] := hD
  refine lv_aload_n (pc := 12) hx hb d_C_init_12 rfl (lv_at hl 0 rfl) ?_
  refine lv_bipush (pc := 13) (v := Int32.ofInt 40) hx hb d_C_init_13 rfl ?_
  refine bd_newa (pc := 15) (atype := .int) (N' := 40) (a0 := (40, .inl (fun _ => Int32.ofInt 0))) hx hb (hts (.arrayClass .int) (List.mem_cons_of_mem _ (bw_B hB (bw_m (rd_m 44 (by decide +kernel)))))) (ty := .int) rfl 0 rfl (fun _ h => h) hK hP hD hS hA (bI_ha 40) (by decide) (by decide) (by decide) (Nat.le_of_ble_eq_true rfl) (Nat.le_of_ble_eq_true rfl) d_C_init_15 (fun q15 H hP hD hS => ?_)
  have hP : va_P D rd_CL [(h0, .inr (1, [rd_i 0, .ref q7, .null, .null, .null, .null, .null])), (q7, bI cA 40), (q15, bI cA 40)] H := hP
  have hD : va_D A [(h0, .inr (1, [rd_i 0, .ref q7, .null, .null, .null, .null, .null])), (q7, bI cA 40), (q15, bI cA 40)] := hD
  refine W.widen (k := 2) (n := 80) (Nat.le_of_ble_eq_true rfl) (Nat.le_of_ble_eq_true rfl) ?_
  refine va_putF (pc := 17) (D := D) (ci := 1) (v := .ref q15) (ty := .array .int) (C := "ReinsuranceDesk$Claims") (T := rd_T1) (N := 7) hx hb hts (fun w h => List.mem_cons_of_mem _ (bw_B hB (bw_u1 w h))) rd_t1 rd_tt1 rd_nn1 hown hK hP hD hS 0 rfl rfl 2 (by decide) (hts (.fieldLink "ReinsuranceDesk$Claims" 15 "ReinsuranceDesk$Claims" "event" "[I") (List.mem_cons_of_mem _ (bw_B hB (bw_m (rd_m 57 (by decide +kernel)))))) (fun _ h9 => h9) rfl hin rfl (by decide +kernel) rfl rfl (Nat.le_of_ble_eq_true rfl) d_C_init_17 (fun H locs hP hD hS => ?_)
  have hP : va_P D rd_CL [(h0, .inr (1, [rd_i 0, .ref q7, .ref q15, .null, .null, .null, .null])), (q7, bI cA 40), (q15, bI cA 40)] H := hP
  have hD : va_D A [(h0, .inr (1, [rd_i 0, .ref q7, .ref q15, .null, .null, .null, .null])), (q7, bI cA 40), (q15, bI cA 40)] := hD
  refine lv_aload_n (pc := 20) hx hb d_C_init_20 rfl (lv_at hl 0 rfl) ?_
  refine lv_bipush (pc := 21) (v := Int32.ofInt 40) hx hb d_C_init_21 rfl ?_
  refine bd_newa (pc := 23) (atype := .int) (N' := 40) (a0 := (40, .inl (fun _ => Int32.ofInt 0))) hx hb (hts (.arrayClass .int) (List.mem_cons_of_mem _ (bw_B hB (bw_m (rd_m 44 (by decide +kernel)))))) (ty := .int) rfl 0 rfl (fun _ h => h) hK hP hD hS hA (bI_ha 40) (by decide) (by decide) (by decide) (Nat.le_of_ble_eq_true rfl) (Nat.le_of_ble_eq_true rfl) d_C_init_23 (fun q23 H hP hD hS => ?_)
  have hP : va_P D rd_CL [(h0, .inr (1, [rd_i 0, .ref q7, .ref q15, .null, .null, .null, .null])), (q7, bI cA 40), (q15, bI cA 40), (q23, bI cA 40)] H := hP
  have hD : va_D A [(h0, .inr (1, [rd_i 0, .ref q7, .ref q15, .null, .null, .null, .null])), (q7, bI cA 40), (q15, bI cA 40), (q23, bI cA 40)] := hD
  refine W.widen (k := 3) (n := 120) (Nat.le_of_ble_eq_true rfl) (Nat.le_of_ble_eq_true rfl) ?_
  refine va_putF (pc := 25) (D := D) (ci := 1) (v := .ref q23) (ty := .array .int) (C := "ReinsuranceDesk$Claims") (T := rd_T1) (N := 7) hx hb hts (fun w h => List.mem_cons_of_mem _ (bw_B hB (bw_u1 w h))) rd_t1 rd_tt1 rd_nn1 hown hK hP hD hS 0 rfl rfl 3 (by decide) (hts (.fieldLink "ReinsuranceDesk$Claims" 18 "ReinsuranceDesk$Claims" "hour" "[I") (List.mem_cons_of_mem _ (bw_B hB (bw_m (rd_m 60 (by decide +kernel)))))) (fun _ h9 => h9) rfl hin rfl (by decide +kernel) rfl rfl (Nat.le_of_ble_eq_true rfl) d_C_init_25 (fun H locs hP hD hS => ?_)
  have hP : va_P D rd_CL [(h0, .inr (1, [rd_i 0, .ref q7, .ref q15, .ref q23, .null, .null, .null])), (q7, bI cA 40), (q15, bI cA 40), (q23, bI cA 40)] H := hP
  have hD : va_D A [(h0, .inr (1, [rd_i 0, .ref q7, .ref q15, .ref q23, .null, .null, .null])), (q7, bI cA 40), (q15, bI cA 40), (q23, bI cA 40)] := hD
  refine lv_aload_n (pc := 28) hx hb d_C_init_28 rfl (lv_at hl 0 rfl) ?_
  refine lv_bipush (pc := 29) (v := Int32.ofInt 40) hx hb d_C_init_29 rfl ?_
  refine bd_newa (pc := 31) (atype := .int) (N' := 40) (a0 := (40, .inl (fun _ => Int32.ofInt 0))) hx hb (hts (.arrayClass .int) (List.mem_cons_of_mem _ (bw_B hB (bw_m (rd_m 44 (by decide +kernel)))))) (ty := .int) rfl 0 rfl (fun _ h => h) hK hP hD hS hA (bI_ha 40) (by decide) (by decide) (by decide) (Nat.le_of_ble_eq_true rfl) (Nat.le_of_ble_eq_true rfl) d_C_init_31 (fun q31 H hP hD hS => ?_)
  have hP : va_P D rd_CL [(h0, .inr (1, [rd_i 0, .ref q7, .ref q15, .ref q23, .null, .null, .null])), (q7, bI cA 40), (q15, bI cA 40), (q23, bI cA 40), (q31, bI cA 40)] H := hP
  have hD : va_D A [(h0, .inr (1, [rd_i 0, .ref q7, .ref q15, .ref q23, .null, .null, .null])), (q7, bI cA 40), (q15, bI cA 40), (q23, bI cA 40), (q31, bI cA 40)] := hD
  refine W.widen (k := 4) (n := 160) (Nat.le_of_ble_eq_true rfl) (Nat.le_of_ble_eq_true rfl) ?_
  refine va_putF (pc := 33) (D := D) (ci := 1) (v := .ref q31) (ty := .array .int) (C := "ReinsuranceDesk$Claims") (T := rd_T1) (N := 7) hx hb hts (fun w h => List.mem_cons_of_mem _ (bw_B hB (bw_u1 w h))) rd_t1 rd_tt1 rd_nn1 hown hK hP hD hS 0 rfl rfl 4 (by decide) (hts (.fieldLink "ReinsuranceDesk$Claims" 21 "ReinsuranceDesk$Claims" "amount" "[I") (List.mem_cons_of_mem _ (bw_B hB (bw_m (rd_m 62 (by decide +kernel)))))) (fun _ h9 => h9) rfl hin rfl (by decide +kernel) rfl rfl (Nat.le_of_ble_eq_true rfl) d_C_init_33 (fun H locs hP hD hS => ?_)
  have hP : va_P D rd_CL [(h0, .inr (1, [rd_i 0, .ref q7, .ref q15, .ref q23, .ref q31, .null, .null])), (q7, bI cA 40), (q15, bI cA 40), (q23, bI cA 40), (q31, bI cA 40)] H := hP
  have hD : va_D A [(h0, .inr (1, [rd_i 0, .ref q7, .ref q15, .ref q23, .ref q31, .null, .null])), (q7, bI cA 40), (q15, bI cA 40), (q23, bI cA 40), (q31, bI cA 40)] := hD
  refine lv_aload_n (pc := 36) hx hb d_C_init_36 rfl (lv_at hl 0 rfl) ?_
  refine lv_bipush (pc := 37) (v := Int32.ofInt 40) hx hb d_C_init_37 rfl ?_
  refine bd_newa (pc := 39) (atype := .boolean) (N' := 40) (a0 := (40, .inl (fun _ => Int32.ofInt 0))) hx hb (hts (.arrayClass .boolean) (List.mem_cons_of_mem _ (bw_B hB (bw_m (rd_m 85 (by decide +kernel)))))) (ty := .boolean) rfl 2 rfl (fun _ h => h) hK hP hD hS hA (bZ_ha 40) (by decide) (by decide) (by decide) (Nat.le_of_ble_eq_true rfl) (Nat.le_of_ble_eq_true rfl) d_C_init_39 (fun q39 H hP hD hS => ?_)
  have hP : va_P D rd_CL [(h0, .inr (1, [rd_i 0, .ref q7, .ref q15, .ref q23, .ref q31, .null, .null])), (q7, bI cA 40), (q15, bI cA 40), (q23, bI cA 40), (q31, bI cA 40), (q39, bZ cA 40)] H := hP
  have hD : va_D A [(h0, .inr (1, [rd_i 0, .ref q7, .ref q15, .ref q23, .ref q31, .null, .null])), (q7, bI cA 40), (q15, bI cA 40), (q23, bI cA 40), (q31, bI cA 40), (q39, bZ cA 40)] := hD
  refine W.widen (k := 5) (n := 200) (Nat.le_of_ble_eq_true rfl) (Nat.le_of_ble_eq_true rfl) ?_
  refine va_putF (pc := 41) (D := D) (ci := 1) (v := .ref q39) (ty := .array .boolean) (C := "ReinsuranceDesk$Claims") (T := rd_T1) (N := 7) hx hb hts (fun w h => List.mem_cons_of_mem _ (bw_B hB (bw_u1 w h))) rd_t1 rd_tt1 rd_nn1 hown hK hP hD hS 0 rfl rfl 5 (by decide) (hts (.fieldLink "ReinsuranceDesk$Claims" 24 "ReinsuranceDesk$Claims" "struck" "[Z") (List.mem_cons_of_mem _ (bw_B hB (bw_m (rd_m 65 (by decide +kernel)))))) (fun _ h9 => h9) rfl hin rfl (by decide +kernel) rfl rfl (Nat.le_of_ble_eq_true rfl) d_C_init_41 (fun H locs hP hD hS => ?_)
  have hP : va_P D rd_CL [(h0, .inr (1, [rd_i 0, .ref q7, .ref q15, .ref q23, .ref q31, .ref q39, .null])), (q7, bI cA 40), (q15, bI cA 40), (q23, bI cA 40), (q31, bI cA 40), (q39, bZ cA 40)] H := hP
  have hD : va_D A [(h0, .inr (1, [rd_i 0, .ref q7, .ref q15, .ref q23, .ref q31, .ref q39, .null])), (q7, bI cA 40), (q15, bI cA 40), (q23, bI cA 40), (q31, bI cA 40), (q39, bZ cA 40)] := hD
  refine lv_aload_n (pc := 44) hx hb d_C_init_44 rfl (lv_at hl 0 rfl) ?_
  refine lv_bipush (pc := 45) (v := Int32.ofInt 40) hx hb d_C_init_45 rfl ?_
  refine bd_newa (pc := 47) (atype := .int) (N' := 40) (a0 := (40, .inl (fun _ => Int32.ofInt 0))) hx hb (hts (.arrayClass .int) (List.mem_cons_of_mem _ (bw_B hB (bw_m (rd_m 44 (by decide +kernel)))))) (ty := .int) rfl 0 rfl (fun _ h => h) hK hP hD hS hA (bI_ha 40) (by decide) (by decide) (by decide) (Nat.le_of_ble_eq_true rfl) (Nat.le_of_ble_eq_true rfl) d_C_init_47 (fun q47 H hP hD hS => ?_)
  have hP : va_P D rd_CL [(h0, .inr (1, [rd_i 0, .ref q7, .ref q15, .ref q23, .ref q31, .ref q39, .null])), (q7, bI cA 40), (q15, bI cA 40), (q23, bI cA 40), (q31, bI cA 40), (q39, bZ cA 40), (q47, bI cA 40)] H := hP
  have hD : va_D A [(h0, .inr (1, [rd_i 0, .ref q7, .ref q15, .ref q23, .ref q31, .ref q39, .null])), (q7, bI cA 40), (q15, bI cA 40), (q23, bI cA 40), (q31, bI cA 40), (q39, bZ cA 40), (q47, bI cA 40)] := hD
  refine W.widen (k := 6) (n := 240) (Nat.le_of_ble_eq_true rfl) (Nat.le_of_ble_eq_true rfl) ?_
  refine va_putF (pc := 49) (D := D) (ci := 1) (v := .ref q47) (ty := .array .int) (C := "ReinsuranceDesk$Claims") (T := rd_T1) (N := 7) hx hb hts (fun w h => List.mem_cons_of_mem _ (bw_B hB (bw_u1 w h))) rd_t1 rd_tt1 rd_nn1 hown hK hP hD hS 0 rfl rfl 6 (by decide) (hts (.fieldLink "ReinsuranceDesk$Claims" 28 "ReinsuranceDesk$Claims" "byHour" "[I") (List.mem_cons_of_mem _ (bw_B hB (bw_m (rd_m 68 (by decide +kernel)))))) (fun _ h9 => h9) rfl hin rfl (by decide +kernel) rfl rfl (Nat.le_of_ble_eq_true rfl) d_C_init_49 (fun H locs hP hD hS => ?_)
  have hP : va_P D rd_CL [(h0, .inr (1, [rd_i 0, .ref q7, .ref q15, .ref q23, .ref q31, .ref q39, .ref q47])), (q7, bI cA 40), (q15, bI cA 40), (q23, bI cA 40), (q31, bI cA 40), (q39, bZ cA 40), (q47, bI cA 40)] H := hP
  have hD : va_D A [(h0, .inr (1, [rd_i 0, .ref q7, .ref q15, .ref q23, .ref q31, .ref q39, .ref q47])), (q7, bI cA 40), (q15, bI cA 40), (q23, bI cA 40), (q31, bI cA 40), (q39, bZ cA 40), (q47, bI cA 40)] := hD
  exact W.vret (pc := 52) hx hb hr (fun t ht hW => ⟨⟨(), rfl, trivial, q7, q15, q23, q31, q39, q47, by rw [ht]; exact hP, va_K.moved hW.alike hK, hD⟩, hS.F ht⟩) hS.2.2 d_C_init_52
/-- what the constructor of ReinsuranceDesk$Treaties leaves -/
def at_T (D : va_G) (cA : Nat → ClassId) (A : Nat → Prop) (h0 : Nat) (_ : Unit) (t : State) : Prop := ∃ (q7 q15 q23 q31 q39 q47 q55 : Nat), va_P D rd_CL [(h0, .inr (3, [rd_i 0, .ref q7, .ref q15, .ref q23, .ref q31, .ref q39, .ref q47, .ref q55])), (q7, bI cA 10), (q15, bI cA 10), (q23, bJ cA 10), (q31, bJ cA 10), (q39, bJ cA 10), (q47, bJ cA 10), (q55, bI cA 60)] t.heap ∧ va_K D rd_CL (rd_ty cA) t ∧ va_D A [(h0, .inr (3, [rd_i 0, .ref q7, .ref q15, .ref q23, .ref q31, .ref q39, .ref q47, .ref q55])), (q7, bI cA 10), (q15, bI cA 10), (q23, bJ cA 10), (q31, bJ cA 10), (q39, bJ cA 10), (q47, bJ cA 10), (q55, bI cA 60)]
set_option maxHeartbeats 4000000 in
set_option maxRecDepth 100000 in
theorem e_T_init {B : List Cond} (hB : B = bw) (l : Launch) (D : va_G) (cA : Nat → ClassId) (h0 : Nat) (sz : Nat) : Met l y_T_init (.code y_T_init c_T_init 1 none :: B) ({ frames := 1, cells := 7, slots := 120, locals := 12 }) (va_Pc [.ref h0] (fun U => U.heap.size = sz ∧ va_P D rd_CL [(h0, .inr (3, [rd_i 0, .null, .null, .null, .null, .null, .null, .null]))] U.heap ∧ va_K D rd_CL (rd_ty cA) U ∧ va_D (fun _ => True) [(h0, .inr (3, [rd_i 0, .null, .null, .null, .null, .null, .null, .null]))])) (va_Qv (fun _ : Unit => True) (at_T D cA (va_A [(h0, .inr (3, [rd_i 0, .null, .null, .null, .null, .null, .null, .null]))] sz) h0) (va_A [(h0, .inr (3, [rd_i 0, .null, .null, .null, .null, .null, .null, .null]))] sz)) 7 120 (va_A [(h0, .inr (3, [rd_i 0, .null, .null, .null, .null, .null, .null, .null]))] sz) := by
  refine Met.ofW (cc := c_T_init) (maxL := 1) (ret := none) (by decide) rfl ?_
  intro p e s m args below meth c s₁ BB hml hv
  obtain ⟨rfl, hsz, hP, hK, hD0⟩ := hv
  have hx := BB.exec
  have hb := BB.bytes
  have hr := BB.returns
  have hts := atoms_spec (ws := .code y_T_init c_T_init 1 none :: B) BB.pre
  have hown : s.vm.findClass "ReinsuranceDesk$Treaties" = some m.cls := findClass_of_methodNamed BB.named
  have hlocks := BB.notSynchronized
  have hin : meth.name = "<init>" := (name_of_methodNamed BB.named BB.method).1
  subst hsz
  have hD := hD0.self (sz := s.heap.size)
  generalize hAe : va_A [(h0, .inr (3, [rd_i 0, .null, .null, .null, .null, .null, .null, .null]))] s.heap.size = A at hD ⊢
  have hA : ∀ q : Nat, s.heap.size ≤ q → A q := fun q h => by rw [← hAe]; exact Or.inr h
  have hS : va_S A s.heap s.heap [] := va_S.rf
  have hP : va_P D rd_CL [(h0, .inr (3, [rd_i 0, .null, .null, .null, .null, .null, .null, .null]))] s.heap := hP
  have hl := lv_entry ([.ref h0]) (n := 1) (Nat.le_of_ble_eq_true rfl)
  rw [lg_entry_eq]
  generalize (lg_sl ([.ref h0]) ++ List.replicate (1 - (lg_sl ([.ref h0])).length) Slot.unset).toArray = ls at hl ⊢
  have hl : lv_has ls 1 [(0, .ref h0)] := hl
  refine lv_aload_n (pc := 0) hx hb d_T_init_0 rfl (lv_at hl 0 rfl) ?_
  refine W.objInit hx hb hown (hts (.methodLink "ReinsuranceDesk$Treaties" 3 objectInit) (List.mem_cons_of_mem _ (bw_B hB (bw_m (rd_m 91 (by decide +kernel)))))) (hts (.instanceMethod objectInit) (List.mem_cons_of_mem _ (bw_B hB (bw_m (rd_m 20 (by decide +kernel)))))) (hts _ (List.mem_cons_of_mem _ (bw_B hB bw_obj))) rfl (by rw [hml]; exact hl.1) rfl d_T_init_1 (Nat.le_of_ble_eq_true rfl) (Nat.le_of_ble_eq_true rfl) ?_
  refine W.eq (g2 := F0 m 4 ls []) rfl ?_
  refine lv_aload_n (pc := 4) hx hb d_T_init_4 rfl (lv_at hl 0 rfl) ?_
  refine lv_bipush (pc := 5) (v := Int32.ofInt 10) hx hb d_T_init_5 rfl ?_
  refine bd_newa (pc := 7) (atype := .int) (N' := 10) (a0 := (10, .inl (fun _ => Int32.ofInt 0))) hx hb (hts (.arrayClass .int) (List.mem_cons_of_mem _ (bw_B hB (bw_m (rd_m 44 (by decide +kernel)))))) (ty := .int) rfl 0 rfl (fun _ h => h) hK hP hD hS hA (bI_ha 10) (by decide) (by decide) (by decide) (Nat.le_of_ble_eq_true rfl) (Nat.le_of_ble_eq_true rfl) d_T_init_7 (fun q7 H hP hD hS => ?_)
  have hP : va_P D rd_CL [(h0, .inr (3, [rd_i 0, .null, .null, .null, .null, .null, .null, .null])), (q7, bI cA 10)] H := hP
  have hD : va_D A [(h0, .inr (3, [rd_i 0, .null, .null, .null, .null, .null, .null, .null])), (q7, bI cA 10)] := hD
  refine W.widen (k := 1) (n := 10) (Nat.le_of_ble_eq_true rfl) (Nat.le_of_ble_eq_true rfl) ?_
  refine va_putF (pc := 9) (D := D) (ci := 3) (v := .ref q7) (ty := .array .int) (C := "ReinsuranceDesk$Treaties") (T := rd_T3) (N := 8) hx hb hts (fun w h => List.mem_cons_of_mem _ (bw_B hB (bw_u3 w h))) rd_t3 rd_tt3 rd_nn3 hown hK hP hD hS 0 rfl rfl 1 (by decide) (hts (.fieldLink "ReinsuranceDesk$Treaties" 9 "ReinsuranceDesk$Treaties" "kind" "[I") (List.mem_cons_of_mem _ (bw_B hB (bw_m (rd_m 95 (by decide +kernel)))))) (fun _ h9 => h9) rfl hin rfl (by decide +kernel) rfl rfl (Nat.le_of_ble_eq_true rfl) d_T_init_9 (fun H locs hP hD hS => ?_)
  have hP : va_P D rd_CL [(h0, .inr (3, [rd_i 0, .ref q7, .null, .null, .null, .null, .null, .null])), (q7, bI cA 10)] H := hP
  have hD : va_D A [(h0, .inr (3, [rd_i 0, .ref q7, .null, .null, .null, .null, .null, .null])), (q7, bI cA 10)] := hD
  refine lv_aload_n (pc := 12) hx hb d_T_init_12 rfl (lv_at hl 0 rfl) ?_
  refine lv_bipush (pc := 13) (v := Int32.ofInt 10) hx hb d_T_init_13 rfl ?_
  refine bd_newa (pc := 15) (atype := .int) (N' := 10) (a0 := (10, .inl (fun _ => Int32.ofInt 0))) hx hb (hts (.arrayClass .int) (List.mem_cons_of_mem _ (bw_B hB (bw_m (rd_m 44 (by decide +kernel)))))) (ty := .int) rfl 0 rfl (fun _ h => h) hK hP hD hS hA (bI_ha 10) (by decide) (by decide) (by decide) (Nat.le_of_ble_eq_true rfl) (Nat.le_of_ble_eq_true rfl) d_T_init_15 (fun q15 H hP hD hS => ?_)
  have hP : va_P D rd_CL [(h0, .inr (3, [rd_i 0, .ref q7, .null, .null, .null, .null, .null, .null])), (q7, bI cA 10), (q15, bI cA 10)] H := hP
  have hD : va_D A [(h0, .inr (3, [rd_i 0, .ref q7, .null, .null, .null, .null, .null, .null])), (q7, bI cA 10), (q15, bI cA 10)] := hD
  refine W.widen (k := 2) (n := 20) (Nat.le_of_ble_eq_true rfl) (Nat.le_of_ble_eq_true rfl) ?_
  refine va_putF (pc := 17) (D := D) (ci := 3) (v := .ref q15) (ty := .array .int) (C := "ReinsuranceDesk$Treaties") (T := rd_T3) (N := 8) hx hb hts (fun w h => List.mem_cons_of_mem _ (bw_B hB (bw_u3 w h))) rd_t3 rd_tt3 rd_nn3 hown hK hP hD hS 0 rfl rfl 2 (by decide) (hts (.fieldLink "ReinsuranceDesk$Treaties" 15 "ReinsuranceDesk$Treaties" "yearOf" "[I") (List.mem_cons_of_mem _ (bw_B hB (bw_m (rd_m 98 (by decide +kernel)))))) (fun _ h9 => h9) rfl hin rfl (by decide +kernel) rfl rfl (Nat.le_of_ble_eq_true rfl) d_T_init_17 (fun H locs hP hD hS => ?_)
  have hP : va_P D rd_CL [(h0, .inr (3, [rd_i 0, .ref q7, .ref q15, .null, .null, .null, .null, .null])), (q7, bI cA 10), (q15, bI cA 10)] H := hP
  have hD : va_D A [(h0, .inr (3, [rd_i 0, .ref q7, .ref q15, .null, .null, .null, .null, .null])), (q7, bI cA 10), (q15, bI cA 10)] := hD
  refine lv_aload_n (pc := 20) hx hb d_T_init_20 rfl (lv_at hl 0 rfl) ?_
  refine lv_bipush (pc := 21) (v := Int32.ofInt 10) hx hb d_T_init_21 rfl ?_
  refine bd_newa (pc := 23) (atype := .long) (N' := 10) (a0 := (10, .inr (.inl (fun _ => Int64.ofInt 0)))) hx hb (hts (.arrayClass .long) (List.mem_cons_of_mem _ (bw_B hB (bw_m (rd_m 126 (by decide +kernel)))))) (ty := .long) rfl 1 rfl (fun _ h => h) hK hP hD hS hA (bJ_ha 10) (by decide) (by decide) (by decide) (Nat.le_of_ble_eq_true rfl) (Nat.le_of_ble_eq_true rfl) d_T_init_23 (fun q23 H hP hD hS => ?_)
  have hP : va_P D rd_CL [(h0, .inr (3, [rd_i 0, .ref q7, .ref q15, .null, .null, .null, .null, .null])), (q7, bI cA 10), (q15, bI cA 10), (q23, bJ cA 10)] H := hP
  have hD : va_D A [(h0, .inr (3, [rd_i 0, .ref q7, .ref q15, .null, .null, .null, .null, .null])), (q7, bI cA 10), (q15, bI cA 10), (q23, bJ cA 10)] := hD
  refine W.widen (k := 3) (n := 30) (Nat.le_of_ble_eq_true rfl) (Nat.le_of_ble_eq_true rfl) ?_
  refine va_putF (pc := 25) (D := D) (ci := 3) (v := .ref q23) (ty := .array .long) (C := "ReinsuranceDesk$Treaties") (T := rd_T3) (N := 8) hx hb hts (fun w h => List.mem_cons_of_mem _ (bw_B hB (bw_u3 w h))) rd_t3 rd_tt3 rd_nn3 hown hK hP hD hS 0 rfl rfl 3 (by decide) (hts (.fieldLink "ReinsuranceDesk$Treaties" 18 "ReinsuranceDesk$Treaties" "a" "[J") (List.mem_cons_of_mem _ (bw_B hB (bw_m (rd_m 101 (by decide +kernel)))))) (fun _ h9 => h9) rfl hin rfl (by decide +kernel) rfl rfl (Nat.le_of_ble_eq_true rfl) d_T_init_25 (fun H locs hP hD hS => ?_)
  have hP : va_P D rd_CL [(h0, .inr (3, [rd_i 0, .ref q7, .ref q15, .ref q23, .null, .null, .null, .null])), (q7, bI cA 10), (q15, bI cA 10), (q23, bJ cA 10)] H := hP
  have hD : va_D A [(h0, .inr (3, [rd_i 0, .ref q7, .ref q15, .ref q23, .null, .null, .null, .null])), (q7, bI cA 10), (q15, bI cA 10), (q23, bJ cA 10)] := hD
  refine lv_aload_n (pc := 28) hx hb d_T_init_28 rfl (lv_at hl 0 rfl) ?_
  refine lv_bipush (pc := 29) (v := Int32.ofInt 10) hx hb d_T_init_29 rfl ?_
  refine bd_newa (pc := 31) (atype := .long) (N' := 10) (a0 := (10, .inr (.inl (fun _ => Int64.ofInt 0)))) hx hb (hts (.arrayClass .long) (List.mem_cons_of_mem _ (bw_B hB (bw_m (rd_m 126 (by decide +kernel)))))) (ty := .long) rfl 1 rfl (fun _ h => h) hK hP hD hS hA (bJ_ha 10) (by decide) (by decide) (by decide) (Nat.le_of_ble_eq_true rfl) (Nat.le_of_ble_eq_true rfl) d_T_init_31 (fun q31 H hP hD hS => ?_)
  have hP : va_P D rd_CL [(h0, .inr (3, [rd_i 0, .ref q7, .ref q15, .ref q23, .null, .null, .null, .null])), (q7, bI cA 10), (q15, bI cA 10), (q23, bJ cA 10), (q31, bJ cA 10)] H := hP
  have hD : va_D A [(h0, .inr (3, [rd_i 0, .ref q7, .ref q15, .ref q23, .null, .null, .null, .null])), (q7, bI cA 10), (q15, bI cA 10), (q23, bJ cA 10), (q31, bJ cA 10)] := hD
  refine W.widen (k := 4) (n := 40) (Nat.le_of_ble_eq_true rfl) (Nat.le_of_ble_eq_true rfl) ?_
  refine va_putF (pc := 33) (D := D) (ci := 3) (v := .ref q31) (ty := .array .long) (C := "ReinsuranceDesk$Treaties") (T := rd_T3) (N := 8) hx hb hts (fun w h => List.mem_cons_of_mem _ (bw_B hB (bw_u3 w h))) rd_t3 rd_tt3 rd_nn3 hown hK hP hD hS 0 rfl rfl 4 (by decide) (hts (.fieldLink "ReinsuranceDesk$Treaties" 22 "ReinsuranceDesk$Treaties" "b" "[J") (List.mem_cons_of_mem _ (bw_B hB (bw_m (rd_m 102 (by decide +kernel)))))) (fun _ h9 => h9) rfl hin rfl (by decide +kernel) rfl rfl (Nat.le_of_ble_eq_true rfl) d_T_init_33 (fun H locs hP hD hS => ?_)
  have hP : va_P D rd_CL [(h0, .inr (3, [rd_i 0, .ref q7, .ref q15, .ref q23, .ref q31, .null, .null, .null])), (q7, bI cA 10), (q15, bI cA 10), (q23, bJ cA 10), (q31, bJ cA 10)] H := hP
  have hD : va_D A [(h0, .inr (3, [rd_i 0, .ref q7, .ref q15, .ref q23, .ref q31, .null, .null, .null])), (q7, bI cA 10), (q15, bI cA 10), (q23, bJ cA 10), (q31, bJ cA 10)] := hD
  refine lv_aload_n (pc := 36) hx hb d_T_init_36 rfl (lv_at hl 0 rfl) ?_
  refine lv_bipush (pc := 37) (v := Int32.ofInt 10) hx hb d_T_init_37 rfl ?_
  refine bd_newa (pc := 39) (atype := .long) (N' := 10) (a0 := (10, .inr (.inl (fun _ => Int64.ofInt 0)))) hx hb (hts (.arrayClass .long) (List.mem_cons_of_mem _ (bw_B hB (bw_m (rd_m 126 (by decide +kernel)))))) (ty := .long) rfl 1 rfl (fun _ h => h) hK hP hD hS hA (bJ_ha 10) (by decide) (by decide) (by decide) (Nat.le_of_ble_eq_true rfl) (Nat.le_of_ble_eq_true rfl) d_T_init_39 (fun q39 H hP hD hS => ?_)
  have hP : va_P D rd_CL [(h0, .inr (3, [rd_i 0, .ref q7, .ref q15, .ref q23, .ref q31, .null, .null, .null])), (q7, bI cA 10), (q15, bI cA 10), (q23, bJ cA 10), (q31, bJ cA 10), (q39, bJ cA 10)] H := hP
  have hD : va_D A [(h0, .inr (3, [rd_i 0, .ref q7, .ref q15, .ref q23, .ref q31, .null, .null, .null])), (q7, bI cA 10), (q15, bI cA 10), (q23, bJ cA 10), (q31, bJ cA 10), (q39, bJ cA 10)] := hD
  refine W.widen (k := 5) (n := 50) (Nat.le_of_ble_eq_true rfl) (Nat.le_of_ble_eq_true rfl) ?_
  refine va_putF (pc := 41) (D := D) (ci := 3) (v := .ref q39) (ty := .array .long) (C := "ReinsuranceDesk$Treaties") (T := rd_T3) (N := 8) hx hb hts (fun w h => List.mem_cons_of_mem _ (bw_B hB (bw_u3 w h))) rd_t3 rd_tt3 rd_nn3 hown hK hP hD hS 0 rfl rfl 5 (by decide) (hts (.fieldLink "ReinsuranceDesk$Treaties" 25 "ReinsuranceDesk$Treaties" "c" "[J") (List.mem_cons_of_mem _ (bw_B hB (bw_m (rd_m 104 (by decide +kernel)))))) (fun _ h9 => h9) rfl hin rfl (by decide +kernel) rfl rfl (Nat.le_of_ble_eq_true rfl) d_T_init_41 (fun H locs hP hD hS => ?_)
  have hP : va_P D rd_CL [(h0, .inr (3, [rd_i 0, .ref q7, .ref q15, .ref q23, .ref q31, .ref q39, .null, .null])), (q7, bI cA 10), (q15, bI cA 10), (q23, bJ cA 10), (q31, bJ cA 10), (q39, bJ cA 10)] H := hP
  have hD : va_D A [(h0, .inr (3, [rd_i 0, .ref q7, .ref q15, .ref q23, .ref q31, .ref q39, .null, .null])), (q7, bI cA 10), (q15, bI cA 10), (q23, bJ cA 10), (q31, bJ cA 10), (q39, bJ cA 10)] := hD
  refine lv_aload_n (pc := 44) hx hb d_T_init_44 rfl (lv_at hl 0 rfl) ?_
  refine lv_bipush (pc := 45) (v := Int32.ofInt 10) hx hb d_T_init_45 rfl ?_
  refine bd_newa (pc := 47) (atype := .long) (N' := 10) (a0 := (10, .inr (.inl (fun _ => Int64.ofInt 0)))) hx hb (hts (.arrayClass .long) (List.mem_cons_of_mem _ (bw_B hB (bw_m (rd_m 126 (by decide +kernel)))))) (ty := .long) rfl 1 rfl (fun _ h => h) hK hP hD hS hA (bJ_ha 10) (by decide) (by decide) (by decide) (Nat.le_of_ble_eq_true rfl) (Nat.le_of_ble_eq_true rfl) d_T_init_47 (fun q47 H hP hD hS => ?_)
  have hP : va_P D rd_CL [(h0, .inr (3, [rd_i 0, .ref q7, .ref q15, .ref q23, .ref q31, .ref q39, .null, .null])), (q7, bI cA 10), (q15, bI cA 10), (q23, bJ cA 10), (q31, bJ cA 10), (q39, bJ cA 10), (q47, bJ cA 10)] H := hP
  have hD : va_D A [(h0, .inr (3, [rd_i 0, .ref q7, .ref q15, .ref q23, .ref q31, .ref q39, .null, .null])), (q7, bI cA 10), (q15, bI cA 10), (q23, bJ cA 10), (q31, bJ cA 10), (q39, bJ cA 10), (q47, bJ cA 10)] := hD
  refine W.widen (k := 6) (n := 60) (Nat.le_of_ble_eq_true rfl) (Nat.le_of_ble_eq_true rfl) ?_
  refine va_putF (pc := 49) (D := D) (ci := 3) (v := .ref q47) (ty := .array .long) (C := "ReinsuranceDesk$Treaties") (T := rd_T3) (N := 8) hx hb hts (fun w h => List.mem_cons_of_mem _ (bw_B hB (bw_u3 w h))) rd_t3 rd_tt3 rd_nn3 hown hK hP hD hS 0 rfl rfl 6 (by decide) (hts (.fieldLink "ReinsuranceDesk$Treaties" 28 "ReinsuranceDesk$Treaties" "d" "[J") (List.mem_cons_of_mem _ (bw_B hB (bw_m (rd_m 106 (by decide +kernel)))))) (fun _ h9 => h9) rfl hin rfl (by decide +kernel) rfl rfl (Nat.le_of_ble_eq_true rfl) d_T_init_49 (fun H locs hP hD hS => ?_)
  have hP : va_P D rd_CL [(h0, .inr (3, [rd_i 0, .ref q7, .ref q15, .ref q23, .ref q31, .ref q39, .ref q47, .null])), (q7, bI cA 10), (q15, bI cA 10), (q23, bJ cA 10), (q31, bJ cA 10), (q39, bJ cA 10), (q47, bJ cA 10)] H := hP
  have hD : va_D A [(h0, .inr (3, [rd_i 0, .ref q7, .ref q15, .ref q23, .ref q31, .ref q39, .ref q47, .null])), (q7, bI cA 10), (q15, bI cA 10), (q23, bJ cA 10), (q31, bJ cA 10), (q39, bJ cA 10), (q47, bJ cA 10)] := hD
  refine lv_aload_n (pc := 52) hx hb d_T_init_52 rfl (lv_at hl 0 rfl) ?_
  refine lv_bipush (pc := 53) (v := Int32.ofInt 60) hx hb d_T_init_53 rfl ?_
  refine bd_newa (pc := 55) (atype := .int) (N' := 60) (a0 := (60, .inl (fun _ => Int32.ofInt 0))) hx hb (hts (.arrayClass .int) (List.mem_cons_of_mem _ (bw_B hB (bw_m (rd_m 44 (by decide +kernel)))))) (ty := .int) rfl 0 rfl (fun _ h => h) hK hP hD hS hA (bI_ha 60) (by decide) (by decide) (by decide) (Nat.le_of_ble_eq_true rfl) (Nat.le_of_ble_eq_true rfl) d_T_init_55 (fun q55 H hP hD hS => ?_)
  have hP : va_P D rd_CL [(h0, .inr (3, [rd_i 0, .ref q7, .ref q15, .ref q23, .ref q31, .ref q39, .ref q47, .null])), (q7, bI cA 10), (q15, bI cA 10), (q23, bJ cA 10), (q31, bJ cA 10), (q39, bJ cA 10), (q47, bJ cA 10), (q55, bI cA 60)] H := hP
  have hD : va_D A [(h0, .inr (3, [rd_i 0, .ref q7, .ref q15, .ref q23, .ref q31, .ref q39, .ref q47, .null])), (q7, bI cA 10), (q15, bI cA 10), (q23, bJ cA 10), (q31, bJ cA 10), (q39, bJ cA 10), (q47, bJ cA 10), (q55, bI cA 60)] := hD
  refine W.widen (k := 7) (n := 120) (Nat.le_of_ble_eq_true rfl) (Nat.le_of_ble_eq_true rfl) ?_
  refine va_putF (pc := 57) (D := D) (ci := 3) (v := .ref q55) (ty := .array .int) (C := "ReinsuranceDesk$Treaties") (T := rd_T3) (N := 8) hx hb hts (fun w h => List.mem_cons_of_mem _ (bw_B hB (bw_u3 w h))) rd_t3 rd_tt3 rd_nn3 hown hK hP hD hS 0 rfl rfl 7 (by decide) (hts (.fieldLink "ReinsuranceDesk$Treaties" 31 "ReinsuranceDesk$Treaties" "part" "[I") (List.mem_cons_of_mem _ (bw_B hB (bw_m (rd_m 107 (by decide +kernel)))))) (fun _ h9 => h9) rfl hin rfl (by decide +kernel) rfl rfl (Nat.le_of_ble_eq_true rfl) d_T_init_57 (fun H locs hP hD hS => ?_)
  have hP : va_P D rd_CL [(h0, .inr (3, [rd_i 0, .ref q7, .ref q15, .ref q23, .ref q31, .ref q39, .ref q47, .ref q55])), (q7, bI cA 10), (q15, bI cA 10), (q23, bJ cA 10), (q31, bJ cA 10), (q39, bJ cA 10), (q47, bJ cA 10), (q55, bI cA 60)] H := hP
  have hD : va_D A [(h0, .inr (3, [rd_i 0, .ref q7, .ref q15, .ref q23, .ref q31, .ref q39, .ref q47, .ref q55])), (q7, bI cA 10), (q15, bI cA 10), (q23, bJ cA 10), (q31, bJ cA 10), (q39, bJ cA 10), (q47, bJ cA 10), (q55, bI cA 60)] := hD
  exact W.vret (pc := 60) hx hb hr (fun t ht hW => ⟨⟨(), rfl, trivial, q7, q15, q23, q31, q39, q47, q55, by rw [ht]; exact hP, va_K.moved hW.alike hK, hD⟩, hS.F ht⟩) hS.2.2 d_T_init_60
/-- what the constructor of ReinsuranceDesk$Cession leaves -/
def at_S (D : va_G) (cA : Nat → ClassId) (A : Nat → Prop) (h0 : Nat) (r0 : Nat) (c0 : Nat) (t0 : Nat) (_ : Unit) (t : State) : Prop := ∃ (q22 q30 q39 q47 q55 q63 q71 q79 q87 : Nat), va_P D rd_CL [(h0, .inr (0, [.ref r0, .ref c0, .ref t0, .ref q22, .ref q30, .ref q39, .ref q47, .ref q55, .ref q63, .ref q71, .ref q79, rd_i 0, .ref q87])), (q22, bZ cA 40), (q30, bI cA 40), (q39, bI cA 400), (q47, bJ cA 10), (q55, bI cA 100), (q63, bJ cA 12), (q71, bJ cA 10), (q79, bI cA 40), (q87, bJ cA 40)] t.heap ∧ va_K D rd_CL (rd_ty cA) t ∧ va_D A [(h0, .inr (0, [.ref r0, .ref c0, .ref t0, .ref q22, .ref q30, .ref q39, .ref q47, .ref q55, .ref q63, .ref q71, .ref q79, rd_i 0, .ref q87])), (q22, bZ cA 40), (q30, bI cA 40), (q39, bI cA 400), (q47, bJ cA 10), (q55, bI cA 100), (q63, bJ cA 12), (q71, bJ cA 10), (q79, bI cA 40), (q87, bJ cA 40)]
set_option maxHeartbeats 4000000 in
set_option maxRecDepth 100000 in
theorem e_S_init {B : List Cond} (hB : B = bw) (l : Launch) (D : va_G) (cA : Nat → ClassId) (h0 : Nat) (r0 : Nat) (c0 : Nat) (t0 : Nat) (sz : Nat) : Met l y_S_init (.code y_S_init c_S_init 4 none :: B) ({ frames := 1, cells := 9, slots := 692, locals := 12 }) (va_Pc [.ref h0, .ref r0, .ref c0, .ref t0] (fun U => U.heap.size = sz ∧ va_P D rd_CL [(h0, .inr (0, [.null, .null, .null, .null, .null, .null, .null, .null, .null, .null, .null, rd_i 0, .null]))] U.heap ∧ va_K D rd_CL (rd_ty cA) U ∧ va_D (fun _ => True) [(h0, .inr (0, [.null, .null, .null, .null, .null, .null, .null, .null, .null, .null, .null, rd_i 0, .null]))])) (va_Qv (fun _ : Unit => True) (at_S D cA (va_A [(h0, .inr (0, [.null, .null, .null, .null, .null, .null, .null, .null, .null, .null, .null, rd_i 0, .null]))] sz) h0 r0 c0 t0) (va_A [(h0, .inr (0, [.null, .null, .null, .null, .null, .null, .null, .null, .null, .null, .null, rd_i 0, .null]))] sz)) 9 692 (va_A [(h0, .inr (0, [.null, .null, .null, .null, .null, .null, .null, .null, .null, .null, .null, rd_i 0, .null]))] sz) := by
  refine Met.ofW (cc := c_S_init) (maxL := 4) (ret := none) (by decide) rfl ?_
  intro p e s m args below meth c s₁ BB hml hv
  obtain ⟨rfl, hsz, hP, hK, hD0⟩ := hv
  have hx := BB.exec
  have hb := BB.bytes
  have hr := BB.returns
  have hts := atoms_spec (ws := .code y_S_init c_S_init 4 none :: B) BB.pre
  have hown : s.vm.findClass "ReinsuranceDesk$Cession" = some m.cls := findClass_of_methodNamed BB.named
  have hlocks := BB.notSynchronized
  have hin : meth.name = "<init>" := (name_of_methodNamed BB.named BB.method).1
  subst hsz
  have hD := hD0.self (sz := s.heap.size)
  generalize hAe : va_A [(h0, .inr (0, [.null, .null, .null, .null, .null, .null, .null, .null, .null, .null, .null, rd_i 0, .null]))] s.heap.size = A at hD ⊢
  have hA : ∀ q : Nat, s.heap.size ≤ q → A q := fun q h => by rw [← hAe]; exact Or.inr h
  have hS : va_S A s.heap s.heap [] := va_S.rf
  have hP : va_P D rd_CL [(h0, .inr (0, [.null, .null, .null, .null, .null, .null, .null, .null, .null, .null, .null, rd_i 0, .null]))] s.heap := hP
  have hl := lv_entry ([.ref h0, .ref r0, .ref c0, .ref t0]) (n := 4) (Nat.le_of_ble_eq_true rfl)
  rw [lg_entry_eq]
  generalize (lg_sl ([.ref h0, .ref r0, .ref c0, .ref t0]) ++ List.replicate (4 - (lg_sl ([.ref h0, .ref r0, .ref c0, .ref t0])).length) Slot.unset).toArray = ls at hl ⊢
  have hl : lv_has ls 4 [(0, .ref h0), (1, .ref r0), (2, .ref c0), (3, .ref t0)] := hl
  refine lv_aload_n (pc := 0) hx hb d_S_init_0 rfl (lv_at hl 0 rfl) ?_
  refine W.objInit hx hb hown (hts (.methodLink "ReinsuranceDesk$Cession" 3 objectInit) (List.mem_cons_of_mem _ (bw_B hB (bw_m (rd_m 132 (by decide +kernel)))))) (hts (.instanceMethod objectInit) (List.mem_cons_of_mem _ (bw_B hB (bw_m (rd_m 20 (by decide +kernel)))))) (hts _ (List.mem_cons_of_mem _ (bw_B hB bw_obj))) rfl (by rw [hml]; exact hl.1) rfl d_S_init_1 (Nat.le_of_ble_eq_true rfl) (Nat.le_of_ble_eq_true rfl) ?_
  refine W.eq (g2 := F0 m 4 ls []) rfl ?_
  refine lv_aload_n (pc := 4) hx hb d_S_init_4 rfl (lv_at hl 0 rfl) ?_
  refine lv_aload_n (pc := 5) hx hb d_S_init_5 rfl (lv_at hl 1 rfl) ?_
  refine va_putF (pc := 6) (D := D) (ci := 0) (v := .ref r0) (ty := .object "ReinsuranceDesk$Risks") (C := "ReinsuranceDesk$Cession") (T := rd_T0) (N := 13) hx hb hts (fun w h => List.mem_cons_of_mem _ (bw_B hB (bw_u0 w h))) rd_t0 rd_tt0 rd_nn0 hown hK hP hD hS 0 rfl rfl 0 (by decide) (hts (.fieldLink "ReinsuranceDesk$Cession" 9 "ReinsuranceDesk$Cession" "risks" "LReinsuranceDesk$Risks;") (List.mem_cons_of_mem _ (bw_B hB (bw_m (rd_m 133 (by decide +kernel)))))) (fun _ h9 => h9) rfl hin rfl (by decide +kernel) rfl rfl (Nat.le_of_ble_eq_true rfl) d_S_init_6 (fun H locs hP hD hS => ?_)
  have hP : va_P D rd_CL [(h0, .inr (0, [.ref r0, .null, .null, .null, .null, .null, .null, .null, .null, .null, .null, rd_i 0, .null]))] H := hP
  have hD : va_D A [(h0, .inr (0, [.ref r0, .null, .null, .null, .null, .null, .null, .null, .null, .null, .null, rd_i 0, .null]))] := hD
  refine lv_aload_n (pc := 9) hx hb d_S_init_9 rfl (lv_at hl 0 rfl) ?_
  refine lv_aload_n (pc := 10) hx hb d_S_init_10 rfl (lv_at hl 2 rfl) ?_
  refine va_putF (pc := 11) (D := D) (ci := 0) (v := .ref c0) (ty := .object "ReinsuranceDesk$Claims") (C := "ReinsuranceDesk$Cession") (T := rd_T0) (N := 13) hx hb hts (fun w h => List.mem_cons_of_mem _ (bw_B hB (bw_u0 w h))) rd_t0 rd_tt0 rd_nn0 hown hK hP hD hS 0 rfl rfl 1 (by decide) (hts (.fieldLink "ReinsuranceDesk$Cession" 15 "ReinsuranceDesk$Cession" "claims" "LReinsuranceDesk$Claims;") (List.mem_cons_of_mem _ (bw_B hB (bw_m (rd_m 134 (by decide +kernel)))))) (fun _ h9 => h9) rfl hin rfl (by decide +kernel) rfl rfl (Nat.le_of_ble_eq_true rfl) d_S_init_11 (fun H locs hP hD hS => ?_)
  have hP : va_P D rd_CL [(h0, .inr (0, [.ref r0, .ref c0, .null, .null, .null, .null, .null, .null, .null, .null, .null, rd_i 0, .null]))] H := hP
  have hD : va_D A [(h0, .inr (0, [.ref r0, .ref c0, .null, .null, .null, .null, .null, .null, .null, .null, .null, rd_i 0, .null]))] := hD
  refine lv_aload_n (pc := 14) hx hb d_S_init_14 rfl (lv_at hl 0 rfl) ?_
  refine lv_aload_n (pc := 15) hx hb d_S_init_15 rfl (lv_at hl 3 rfl) ?_
  refine va_putF (pc := 16) (D := D) (ci := 0) (v := .ref t0) (ty := .object "ReinsuranceDesk$Treaties") (C := "ReinsuranceDesk$Cession") (T := rd_T0) (N := 13) hx hb hts (fun w h => List.mem_cons_of_mem _ (bw_B hB (bw_u0 w h))) rd_t0 rd_tt0 rd_nn0 hown hK hP hD hS 0 rfl rfl 2 (by decide) (hts (.fieldLink "ReinsuranceDesk$Cession" 19 "ReinsuranceDesk$Cession" "treaties" "LReinsuranceDesk$Treaties;") (List.mem_cons_of_mem _ (bw_B hB (bw_m (rd_m 135 (by decide +kernel)))))) (fun _ h9 => h9) rfl hin rfl (by decide +kernel) rfl rfl (Nat.le_of_ble_eq_true rfl) d_S_init_16 (fun H locs hP hD hS => ?_)
  have hP : va_P D rd_CL [(h0, .inr (0, [.ref r0, .ref c0, .ref t0, .null, .null, .null, .null, .null, .null, .null, .null, rd_i 0, .null]))] H := hP
  have hD : va_D A [(h0, .inr (0, [.ref r0, .ref c0, .ref t0, .null, .null, .null, .null, .null, .null, .null, .null, rd_i 0, .null]))] := hD
  refine lv_aload_n (pc := 19) hx hb d_S_init_19 rfl (lv_at hl 0 rfl) ?_
  refine lv_bipush (pc := 20) (v := Int32.ofInt 40) hx hb d_S_init_20 rfl ?_
  refine bd_newa (pc := 22) (atype := .boolean) (N' := 40) (a0 := (40, .inl (fun _ => Int32.ofInt 0))) hx hb (hts (.arrayClass .boolean) (List.mem_cons_of_mem _ (bw_B hB (bw_m (rd_m 85 (by decide +kernel)))))) (ty := .boolean) rfl 2 rfl (fun _ h => h) hK hP hD hS hA (bZ_ha 40) (by decide) (by decide) (by decide) (Nat.le_of_ble_eq_true rfl) (Nat.le_of_ble_eq_true rfl) d_S_init_22 (fun q22 H hP hD hS => ?_)
  have hP : va_P D rd_CL [(h0, .inr (0, [.ref r0, .ref c0, .ref t0, .null, .null, .null, .null, .null, .null, .null, .null, rd_i 0, .null])), (q22, bZ cA 40)] H := hP
  have hD : va_D A [(h0, .inr (0, [.ref r0, .ref c0, .ref t0, .null, .null, .null, .null, .null, .null, .null, .null, rd_i 0, .null])), (q22, bZ cA 40)] := hD
  refine W.widen (k := 1) (n := 40) (Nat.le_of_ble_eq_true rfl) (Nat.le_of_ble_eq_true rfl) ?_
  refine va_putF (pc := 24) (D := D) (ci := 0) (v := .ref q22) (ty := .array .boolean) (C := "ReinsuranceDesk$Cession") (T := rd_T0) (N := 13) hx hb hts (fun w h => List.mem_cons_of_mem _ (bw_B hB (bw_u0 w h))) rd_t0 rd_tt0 rd_nn0 hown hK hP hD hS 0 rfl rfl 3 (by decide) (hts (.fieldLink "ReinsuranceDesk$Cession" 23 "ReinsuranceDesk$Cession" "counts" "[Z") (List.mem_cons_of_mem _ (bw_B hB (bw_m (rd_m 136 (by decide +kernel)))))) (fun _ h9 => h9) rfl hin rfl (by decide +kernel) rfl rfl (Nat.le_of_ble_eq_true rfl) d_S_init_24 (fun H locs hP hD hS => ?_)
  have hP : va_P D rd_CL [(h0, .inr (0, [.ref r0, .ref c0, .ref t0, .ref q22, .null, .null, .null, .null, .null, .null, .null, rd_i 0, .null])), (q22, bZ cA 40)] H := hP
  have hD : va_D A [(h0, .inr (0, [.ref r0, .ref c0, .ref t0, .ref q22, .null, .null, .null, .null, .null, .null, .null, rd_i 0, .null])), (q22, bZ cA 40)] := hD
  refine lv_aload_n (pc := 27) hx hb d_S_init_27 rfl (lv_at hl 0 rfl) ?_
  refine lv_bipush (pc := 28) (v := Int32.ofInt 40) hx hb d_S_init_28 rfl ?_
  refine bd_newa (pc := 30) (atype := .int) (N' := 40) (a0 := (40, .inl (fun _ => Int32.ofInt 0))) hx hb (hts (.arrayClass .int) (List.mem_cons_of_mem _ (bw_B hB (bw_m (rd_m 44 (by decide +kernel)))))) (ty := .int) rfl 0 rfl (fun _ h => h) hK hP hD hS hA (bI_ha 40) (by decide) (by decide) (by decide) (Nat.le_of_ble_eq_true rfl) (Nat.le_of_ble_eq_true rfl) d_S_init_30 (fun q30 H hP hD hS => ?_)
  have hP : va_P D rd_CL [(h0, .inr (0, [.ref r0, .ref c0, .ref t0, .ref q22, .null, .null, .null, .null, .null, .null, .null, rd_i 0, .null])), (q22, bZ cA 40), (q30, bI cA 40)] H := hP
  have hD : va_D A [(h0, .inr (0, [.ref r0, .ref c0, .ref t0, .ref q22, .null, .null, .null, .null, .null, .null, .null, rd_i 0, .null])), (q22, bZ cA 40), (q30, bI cA 40)] := hD
  refine W.widen (k := 2) (n := 80) (Nat.le_of_ble_eq_true rfl) (Nat.le_of_ble_eq_true rfl) ?_
  refine va_putF (pc := 32) (D := D) (ci := 0) (v := .ref q30) (ty := .array .int) (C := "ReinsuranceDesk$Cession") (T := rd_T0) (N := 13) hx hb hts (fun w h => List.mem_cons_of_mem _ (bw_B hB (bw_u0 w h))) rd_t0 rd_tt0 rd_nn0 hown hK hP hD hS 0 rfl rfl 4 (by decide) (hts (.fieldLink "ReinsuranceDesk$Cession" 27 "ReinsuranceDesk$Cession" "keptOf" "[I") (List.mem_cons_of_mem _ (bw_B hB (bw_m (rd_m 137 (by decide +kernel)))))) (fun _ h9 => h9) rfl hin rfl (by decide +kernel) rfl rfl (Nat.le_of_ble_eq_true rfl) d_S_init_32 (fun H locs hP hD hS => ?_)
  have hP : va_P D rd_CL [(h0, .inr (0, [.ref r0, .ref c0, .ref t0, .ref q22, .ref q30, .null, .null, .null, .null, .null, .null, rd_i 0, .null])), (q22, bZ cA 40), (q30, bI cA 40)] H := hP
  have hD : va_D A [(h0, .inr (0, [.ref r0, .ref c0, .ref t0, .ref q22, .ref q30, .null, .null, .null, .null, .null, .null, rd_i 0, .null])), (q22, bZ cA 40), (q30, bI cA 40)] := hD
  refine lv_aload_n (pc := 35) hx hb d_S_init_35 rfl (lv_at hl 0 rfl) ?_
  refine lv_sipush (pc := 36) (v := Int32.ofInt 400) hx hb d_S_init_36 rfl ?_
  refine bd_newa (pc := 39) (atype := .int) (N' := 400) (a0 := (400, .inl (fun _ => Int32.ofInt 0))) hx hb (hts (.arrayClass .int) (List.mem_cons_of_mem _ (bw_B hB (bw_m (rd_m 44 (by decide +kernel)))))) (ty := .int) rfl 0 rfl (fun _ h => h) hK hP hD hS hA (bI_ha 400) (by decide) (by decide) (by decide) (Nat.le_of_ble_eq_true rfl) (Nat.le_of_ble_eq_true rfl) d_S_init_39 (fun q39 H hP hD hS => ?_)
  have hP : va_P D rd_CL [(h0, .inr (0, [.ref r0, .ref c0, .ref t0, .ref q22, .ref q30, .null, .null, .null, .null, .null, .null, rd_i 0, .null])), (q22, bZ cA 40), (q30, bI cA 40), (q39, bI cA 400)] H := hP
  have hD : va_D A [(h0, .inr (0, [.ref r0, .ref c0, .ref t0, .ref q22, .ref q30, .null, .null, .null, .null, .null, .null, rd_i 0, .null])), (q22, bZ cA 40), (q30, bI cA 40), (q39, bI cA 400)] := hD
  refine W.widen (k := 3) (n := 480) (Nat.le_of_ble_eq_true rfl) (Nat.le_of_ble_eq_true rfl) ?_
  refine va_putF (pc := 41) (D := D) (ci := 0) (v := .ref q39) (ty := .array .int) (C := "ReinsuranceDesk$Cession") (T := rd_T0) (N := 13) hx hb hts (fun w h => List.mem_cons_of_mem _ (bw_B hB (bw_u0 w h))) rd_t0 rd_tt0 rd_nn0 hown hK hP hD hS 0 rfl rfl 5 (by decide) (hts (.fieldLink "ReinsuranceDesk$Cession" 31 "ReinsuranceDesk$Cession" "cededOf" "[I") (List.mem_cons_of_mem _ (bw_B hB (bw_m (rd_m 139 (by decide +kernel)))))) (fun _ h9 => h9) rfl hin rfl (by decide +kernel) rfl rfl (Nat.le_of_ble_eq_true rfl) d_S_init_41 (fun H locs hP hD hS => ?_)
  have hP : va_P D rd_CL [(h0, .inr (0, [.ref r0, .ref c0, .ref t0, .ref q22, .ref q30, .ref q39, .null, .null, .null, .null, .null, rd_i 0, .null])), (q22, bZ cA 40), (q30, bI cA 40), (q39, bI cA 400)] H := hP
  have hD : va_D A [(h0, .inr (0, [.ref r0, .ref c0, .ref t0, .ref q22, .ref q30, .ref q39, .null, .null, .null, .null, .null, rd_i 0, .null])), (q22, bZ cA 40), (q30, bI cA 40), (q39, bI cA 400)] := hD
  refine lv_aload_n (pc := 44) hx hb d_S_init_44 rfl (lv_at hl 0 rfl) ?_
  refine lv_bipush (pc := 45) (v := Int32.ofInt 10) hx hb d_S_init_45 rfl ?_
  refine bd_newa (pc := 47) (atype := .long) (N' := 10) (a0 := (10, .inr (.inl (fun _ => Int64.ofInt 0)))) hx hb (hts (.arrayClass .long) (List.mem_cons_of_mem _ (bw_B hB (bw_m (rd_m 126 (by decide +kernel)))))) (ty := .long) rfl 1 rfl (fun _ h => h) hK hP hD hS hA (bJ_ha 10) (by decide) (by decide) (by decide) (Nat.le_of_ble_eq_true rfl) (Nat.le_of_ble_eq_true rfl) d_S_init_47 (fun q47 H hP hD hS => ?_)
  have hP : va_P D rd_CL [(h0, .inr (0, [.ref r0, .ref c0, .ref t0, .ref q22, .ref q30, .ref q39, .null, .null, .null, .null, .null, rd_i 0, .null])), (q22, bZ cA 40), (q30, bI cA 40), (q39, bI cA 400), (q47, bJ cA 10)] H := hP
  have hD : va_D A [(h0, .inr (0, [.ref r0, .ref c0, .ref t0, .ref q22, .ref q30, .ref q39, .null, .null, .null, .null, .null, rd_i 0, .null])), (q22, bZ cA 40), (q30, bI cA 40), (q39, bI cA 400), (q47, bJ cA 10)] := hD
  refine W.widen (k := 4) (n := 490) (Nat.le_of_ble_eq_true rfl) (Nat.le_of_ble_eq_true rfl) ?_
  refine va_putF (pc := 49) (D := D) (ci := 0) (v := .ref q47) (ty := .array .long) (C := "ReinsuranceDesk$Cession") (T := rd_T0) (N := 13) hx hb hts (fun w h => List.mem_cons_of_mem _ (bw_B hB (bw_u0 w h))) rd_t0 rd_tt0 rd_nn0 hown hK hP hD hS 0 rfl rfl 6 (by decide) (hts (.fieldLink "ReinsuranceDesk$Cession" 34 "ReinsuranceDesk$Cession" "taken" "[J") (List.mem_cons_of_mem _ (bw_B hB (bw_m (rd_m 141 (by decide +kernel)))))) (fun _ h9 => h9) rfl hin rfl (by decide +kernel) rfl rfl (Nat.le_of_ble_eq_true rfl) d_S_init_49 (fun H locs hP hD hS => ?_)
  have hP : va_P D rd_CL [(h0, .inr (0, [.ref r0, .ref c0, .ref t0, .ref q22, .ref q30, .ref q39, .ref q47, .null, .null, .null, .null, rd_i 0, .null])), (q22, bZ cA 40), (q30, bI cA 40), (q39, bI cA 400), (q47, bJ cA 10)] H := hP
  have hD : va_D A [(h0, .inr (0, [.ref r0, .ref c0, .ref t0, .ref q22, .ref q30, .ref q39, .ref q47, .null, .null, .null, .null, rd_i 0, .null])), (q22, bZ cA 40), (q30, bI cA 40), (q39, bI cA 400), (q47, bJ cA 10)] := hD
  refine lv_aload_n (pc := 52) hx hb d_S_init_52 rfl (lv_at hl 0 rfl) ?_
  refine lv_bipush (pc := 53) (v := Int32.ofInt 100) hx hb d_S_init_53 rfl ?_
  refine bd_newa (pc := 55) (atype := .int) (N' := 100) (a0 := (100, .inl (fun _ => Int32.ofInt 0))) hx hb (hts (.arrayClass .int) (List.mem_cons_of_mem _ (bw_B hB (bw_m (rd_m 44 (by decide +kernel)))))) (ty := .int) rfl 0 rfl (fun _ h => h) hK hP hD hS hA (bI_ha 100) (by decide) (by decide) (by decide) (Nat.le_of_ble_eq_true rfl) (Nat.le_of_ble_eq_true rfl) d_S_init_55 (fun q55 H hP hD hS => ?_)
  have hP : va_P D rd_CL [(h0, .inr (0, [.ref r0, .ref c0, .ref t0, .ref q22, .ref q30, .ref q39, .ref q47, .null, .null, .null, .null, rd_i 0, .null])), (q22, bZ cA 40), (q30, bI cA 40), (q39, bI cA 400), (q47, bJ cA 10), (q55, bI cA 100)] H := hP
  have hD : va_D A [(h0, .inr (0, [.ref r0, .ref c0, .ref t0, .ref q22, .ref q30, .ref q39, .ref q47, .null, .null, .null, .null, rd_i 0, .null])), (q22, bZ cA 40), (q30, bI cA 40), (q39, bI cA 400), (q47, bJ cA 10), (q55, bI cA 100)] := hD
  refine W.widen (k := 5) (n := 590) (Nat.le_of_ble_eq_true rfl) (Nat.le_of_ble_eq_true rfl) ?_
  refine va_putF (pc := 57) (D := D) (ci := 0) (v := .ref q55) (ty := .array .int) (C := "ReinsuranceDesk$Cession") (T := rd_T0) (N := 13) hx hb hts (fun w h => List.mem_cons_of_mem _ (bw_B hB (bw_u0 w h))) rd_t0 rd_tt0 rd_nn0 hown hK hP hD hS 0 rfl rfl 7 (by decide) (hts (.fieldLink "ReinsuranceDesk$Cession" 38 "ReinsuranceDesk$Cession" "windowOf" "[I") (List.mem_cons_of_mem _ (bw_B hB (bw_m (rd_m 143 (by decide +kernel)))))) (fun _ h9 => h9) rfl hin rfl (by decide +kernel) rfl rfl (Nat.le_of_ble_eq_true rfl) d_S_init_57 (fun H locs hP hD hS => ?_)
  have hP : va_P D rd_CL [(h0, .inr (0, [.ref r0, .ref c0, .ref t0, .ref q22, .ref q30, .ref q39, .ref q47, .ref q55, .null, .null, .null, rd_i 0, .null])), (q22, bZ cA 40), (q30, bI cA 40), (q39, bI cA 400), (q47, bJ cA 10), (q55, bI cA 100)] H := hP
  have hD : va_D A [(h0, .inr (0, [.ref r0, .ref c0, .ref t0, .ref q22, .ref q30, .ref q39, .ref q47, .ref q55, .null, .null, .null, rd_i 0, .null])), (q22, bZ cA 40), (q30, bI cA 40), (q39, bI cA 400), (q47, bJ cA 10), (q55, bI cA 100)] := hD
  refine lv_aload_n (pc := 60) hx hb d_S_init_60 rfl (lv_at hl 0 rfl) ?_
  refine lv_bipush (pc := 61) (v := Int32.ofInt 12) hx hb d_S_init_61 rfl ?_
  refine bd_newa (pc := 63) (atype := .long) (N' := 12) (a0 := (12, .inr (.inl (fun _ => Int64.ofInt 0)))) hx hb (hts (.arrayClass .long) (List.mem_cons_of_mem _ (bw_B hB (bw_m (rd_m 126 (by decide +kernel)))))) (ty := .long) rfl 1 rfl (fun _ h => h) hK hP hD hS hA (bJ_ha 12) (by decide) (by decide) (by decide) (Nat.le_of_ble_eq_true rfl) (Nat.le_of_ble_eq_true rfl) d_S_init_63 (fun q63 H hP hD hS => ?_)
  have hP : va_P D rd_CL [(h0, .inr (0, [.ref r0, .ref c0, .ref t0, .ref q22, .ref q30, .ref q39, .ref q47, .ref q55, .null, .null, .null, rd_i 0, .null])), (q22, bZ cA 40), (q30, bI cA 40), (q39, bI cA 400), (q47, bJ cA 10), (q55, bI cA 100), (q63, bJ cA 12)] H := hP
  have hD : va_D A [(h0, .inr (0, [.ref r0, .ref c0, .ref t0, .ref q22, .ref q30, .ref q39, .ref q47, .ref q55, .null, .null, .null, rd_i 0, .null])), (q22, bZ cA 40), (q30, bI cA 40), (q39, bI cA 400), (q47, bJ cA 10), (q55, bI cA 100), (q63, bJ cA 12)] := hD
  refine W.widen (k := 6) (n := 602) (Nat.le_of_ble_eq_true rfl) (Nat.le_of_ble_eq_true rfl) ?_
  refine va_putF (pc := 65) (D := D) (ci := 0) (v := .ref q63) (ty := .array .long) (C := "ReinsuranceDesk$Cession") (T := rd_T0) (N := 13) hx hb hts (fun w h => List.mem_cons_of_mem _ (bw_B hB (bw_u0 w h))) rd_t0 rd_tt0 rd_nn0 hown hK hP hD hS 0 rfl rfl 8 (by decide) (hts (.fieldLink "ReinsuranceDesk$Cession" 41 "ReinsuranceDesk$Cession" "premiumLeft" "[J") (List.mem_cons_of_mem _ (bw_B hB (bw_m (rd_m 145 (by decide +kernel)))))) (fun _ h9 => h9) rfl hin rfl (by decide +kernel) rfl rfl (Nat.le_of_ble_eq_true rfl) d_S_init_65 (fun H locs hP hD hS => ?_)
  have hP : va_P D rd_CL [(h0, .inr (0, [.ref r0, .ref c0, .ref t0, .ref q22, .ref q30, .ref q39, .ref q47, .ref q55, .ref q63, .null, .null, rd_i 0, .null])), (q22, bZ cA 40), (q30, bI cA 40), (q39, bI cA 400), (q47, bJ cA 10), (q55, bI cA 100), (q63, bJ cA 12)] H := hP
  have hD : va_D A [(h0, .inr (0, [.ref r0, .ref c0, .ref t0, .ref q22, .ref q30, .ref q39, .ref q47, .ref q55, .ref q63, .null, .null, rd_i 0, .null])), (q22, bZ cA 40), (q30, bI cA 40), (q39, bI cA 400), (q47, bJ cA 10), (q55, bI cA 100), (q63, bJ cA 12)] := hD
  refine lv_aload_n (pc := 68) hx hb d_S_init_68 rfl (lv_at hl 0 rfl) ?_
  refine lv_bipush (pc := 69) (v := Int32.ofInt 10) hx hb d_S_init_69 rfl ?_
  refine bd_newa (pc := 71) (atype := .long) (N' := 10) (a0 := (10, .inr (.inl (fun _ => Int64.ofInt 0)))) hx hb (hts (.arrayClass .long) (List.mem_cons_of_mem _ (bw_B hB (bw_m (rd_m 126 (by decide +kernel)))))) (ty := .long) rfl 1 rfl (fun _ h => h) hK hP hD hS hA (bJ_ha 10) (by decide) (by decide) (by decide) (Nat.le_of_ble_eq_true rfl) (Nat.le_of_ble_eq_true rfl) d_S_init_71 (fun q71 H hP hD hS => ?_)
  have hP : va_P D rd_CL [(h0, .inr (0, [.ref r0, .ref c0, .ref t0, .ref q22, .ref q30, .ref q39, .ref q47, .ref q55, .ref q63, .null, .null, rd_i 0, .null])), (q22, bZ cA 40), (q30, bI cA 40), (q39, bI cA 400), (q47, bJ cA 10), (q55, bI cA 100), (q63, bJ cA 12), (q71, bJ cA 10)] H := hP
  have hD : va_D A [(h0, .inr (0, [.ref r0, .ref c0, .ref t0, .ref q22, .ref q30, .ref q39, .ref q47, .ref q55, .ref q63, .null, .null, rd_i 0, .null])), (q22, bZ cA 40), (q30, bI cA 40), (q39, bI cA 400), (q47, bJ cA 10), (q55, bI cA 100), (q63, bJ cA 12), (q71, bJ cA 10)] := hD
  refine W.widen (k := 7) (n := 612) (Nat.le_of_ble_eq_true rfl) (Nat.le_of_ble_eq_true rfl) ?_
  refine va_putF (pc := 73) (D := D) (ci := 0) (v := .ref q71) (ty := .array .long) (C := "ReinsuranceDesk$Cession") (T := rd_T0) (N := 13) hx hb hts (fun w h => List.mem_cons_of_mem _ (bw_B hB (bw_u0 w h))) rd_t0 rd_tt0 rd_nn0 hown hK hP hD hS 0 rfl rfl 9 (by decide) (hts (.fieldLink "ReinsuranceDesk$Cession" 44 "ReinsuranceDesk$Cession" "premiumTo" "[J") (List.mem_cons_of_mem _ (bw_B hB (bw_m (rd_m 146 (by decide +kernel)))))) (fun _ h9 => h9) rfl hin rfl (by decide +kernel) rfl rfl (Nat.le_of_ble_eq_true rfl) d_S_init_73 (fun H locs hP hD hS => ?_)
  have hP : va_P D rd_CL [(h0, .inr (0, [.ref r0, .ref c0, .ref t0, .ref q22, .ref q30, .ref q39, .ref q47, .ref q55, .ref q63, .ref q71, .null, rd_i 0, .null])), (q22, bZ cA 40), (q30, bI cA 40), (q39, bI cA 400), (q47, bJ cA 10), (q55, bI cA 100), (q63, bJ cA 12), (q71, bJ cA 10)] H := hP
  have hD : va_D A [(h0, .inr (0, [.ref r0, .ref c0, .ref t0, .ref q22, .ref q30, .ref q39, .ref q47, .ref q55, .ref q63, .ref q71, .null, rd_i 0, .null])), (q22, bZ cA 40), (q30, bI cA 40), (q39, bI cA 400), (q47, bJ cA 10), (q55, bI cA 100), (q63, bJ cA 12), (q71, bJ cA 10)] := hD
  refine lv_aload_n (pc := 76) hx hb d_S_init_76 rfl (lv_at hl 0 rfl) ?_
  refine lv_bipush (pc := 77) (v := Int32.ofInt 40) hx hb d_S_init_77 rfl ?_
  refine bd_newa (pc := 79) (atype := .int) (N' := 40) (a0 := (40, .inl (fun _ => Int32.ofInt 0))) hx hb (hts (.arrayClass .int) (List.mem_cons_of_mem _ (bw_B hB (bw_m (rd_m 44 (by decide +kernel)))))) (ty := .int) rfl 0 rfl (fun _ h => h) hK hP hD hS hA (bI_ha 40) (by decide) (by decide) (by decide) (Nat.le_of_ble_eq_true rfl) (Nat.le_of_ble_eq_true rfl) d_S_init_79 (fun q79 H hP hD hS => ?_)
  have hP : va_P D rd_CL [(h0, .inr (0, [.ref r0, .ref c0, .ref t0, .ref q22, .ref q30, .ref q39, .ref q47, .ref q55, .ref q63, .ref q71, .null, rd_i 0, .null])), (q22, bZ cA 40), (q30, bI cA 40), (q39, bI cA 400), (q47, bJ cA 10), (q55, bI cA 100), (q63, bJ cA 12), (q71, bJ cA 10), (q79, bI cA 40)] H := hP
  have hD : va_D A [(h0, .inr (0, [.ref r0, .ref c0, .ref t0, .ref q22, .ref q30, .ref q39, .ref q47, .ref q55, .ref q63, .ref q71, .null, rd_i 0, .null])), (q22, bZ cA 40), (q30, bI cA 40), (q39, bI cA 400), (q47, bJ cA 10), (q55, bI cA 100), (q63, bJ cA 12), (q71, bJ cA 10), (q79, bI cA 40)] := hD
  refine W.widen (k := 8) (n := 652) (Nat.le_of_ble_eq_true rfl) (Nat.le_of_ble_eq_true rfl) ?_
  refine va_putF (pc := 81) (D := D) (ci := 0) (v := .ref q79) (ty := .array .int) (C := "ReinsuranceDesk$Cession") (T := rd_T0) (N := 13) hx hb hts (fun w h => List.mem_cons_of_mem _ (bw_B hB (bw_u0 w h))) rd_t0 rd_tt0 rd_nn0 hown hK hP hD hS 0 rfl rfl 10 (by decide) (hts (.fieldLink "ReinsuranceDesk$Cession" 47 "ReinsuranceDesk$Cession" "group" "[I") (List.mem_cons_of_mem _ (bw_B hB (bw_m (rd_m 148 (by decide +kernel)))))) (fun _ h9 => h9) rfl hin rfl (by decide +kernel) rfl rfl (Nat.le_of_ble_eq_true rfl) d_S_init_81 (fun H locs hP hD hS => ?_)
  have hP : va_P D rd_CL [(h0, .inr (0, [.ref r0, .ref c0, .ref t0, .ref q22, .ref q30, .ref q39, .ref q47, .ref q55, .ref q63, .ref q71, .ref q79, rd_i 0, .null])), (q22, bZ cA 40), (q30, bI cA 40), (q39, bI cA 400), (q47, bJ cA 10), (q55, bI cA 100), (q63, bJ cA 12), (q71, bJ cA 10), (q79, bI cA 40)] H := hP
  have hD : va_D A [(h0, .inr (0, [.ref r0, .ref c0, .ref t0, .ref q22, .ref q30, .ref q39, .ref q47, .ref q55, .ref q63, .ref q71, .ref q79, rd_i 0, .null])), (q22, bZ cA 40), (q30, bI cA 40), (q39, bI cA 400), (q47, bJ cA 10), (q55, bI cA 100), (q63, bJ cA 12), (q71, bJ cA 10), (q79, bI cA 40)] := hD
  refine lv_aload_n (pc := 84) hx hb d_S_init_84 rfl (lv_at hl 0 rfl) ?_
  refine lv_bipush (pc := 85) (v := Int32.ofInt 40) hx hb d_S_init_85 rfl ?_
  refine bd_newa (pc := 87) (atype := .long) (N' := 40) (a0 := (40, .inr (.inl (fun _ => Int64.ofInt 0)))) hx hb (hts (.arrayClass .long) (List.mem_cons_of_mem _ (bw_B hB (bw_m (rd_m 126 (by decide +kernel)))))) (ty := .long) rfl 1 rfl (fun _ h => h) hK hP hD hS hA (bJ_ha 40) (by decide) (by decide) (by decide) (Nat.le_of_ble_eq_true rfl) (Nat.le_of_ble_eq_true rfl) d_S_init_87 (fun q87 H hP hD hS => ?_)
  have hP : va_P D rd_CL [(h0, .inr (0, [.ref r0, .ref c0, .ref t0, .ref q22, .ref q30, .ref q39, .ref q47, .ref q55, .ref q63, .ref q71, .ref q79, rd_i 0, .null])), (q22, bZ cA 40), (q30, bI cA 40), (q39, bI cA 400), (q47, bJ cA 10), (q55, bI cA 100), (q63, bJ cA 12), (q71, bJ cA 10), (q79, bI cA 40), (q87, bJ cA 40)] H := hP
  have hD : va_D A [(h0, .inr (0, [.ref r0, .ref c0, .ref t0, .ref q22, .ref q30, .ref q39, .ref q47, .ref q55, .ref q63, .ref q71, .ref q79, rd_i 0, .null])), (q22, bZ cA 40), (q30, bI cA 40), (q39, bI cA 400), (q47, bJ cA 10), (q55, bI cA 100), (q63, bJ cA 12), (q71, bJ cA 10), (q79, bI cA 40), (q87, bJ cA 40)] := hD
  refine W.widen (k := 9) (n := 692) (Nat.le_of_ble_eq_true rfl) (Nat.le_of_ble_eq_true rfl) ?_
  refine va_putF (pc := 89) (D := D) (ci := 0) (v := .ref q87) (ty := .array .long) (C := "ReinsuranceDesk$Cession") (T := rd_T0) (N := 13) hx hb hts (fun w h => List.mem_cons_of_mem _ (bw_B hB (bw_u0 w h))) rd_t0 rd_tt0 rd_nn0 hown hK hP hD hS 0 rfl rfl 12 (by decide) (hts (.fieldLink "ReinsuranceDesk$Cession" 50 "ReinsuranceDesk$Cession" "remainder" "[J") (List.mem_cons_of_mem _ (bw_B hB (bw_m (rd_m 150 (by decide +kernel)))))) (fun _ h9 => h9) rfl hin rfl (by decide +kernel) rfl rfl (Nat.le_of_ble_eq_true rfl) d_S_init_89 (fun H locs hP hD hS => ?_)
  have hP : va_P D rd_CL [(h0, .inr (0, [.ref r0, .ref c0, .ref t0, .ref q22, .ref q30, .ref q39, .ref q47, .ref q55, .ref q63, .ref q71, .ref q79, rd_i 0, .ref q87])), (q22, bZ cA 40), (q30, bI cA 40), (q39, bI cA 400), (q47, bJ cA 10), (q55, bI cA 100), (q63, bJ cA 12), (q71, bJ cA 10), (q79, bI cA 40), (q87, bJ cA 40)] H := hP
  have hD : va_D A [(h0, .inr (0, [.ref r0, .ref c0, .ref t0, .ref q22, .ref q30, .ref q39, .ref q47, .ref q55, .ref q63, .ref q71, .ref q79, rd_i 0, .ref q87])), (q22, bZ cA 40), (q30, bI cA 40), (q39, bI cA 400), (q47, bJ cA 10), (q55, bI cA 100), (q63, bJ cA 12), (q71, bJ cA 10), (q79, bI cA 40), (q87, bJ cA 40)] := hD
  exact W.vret (pc := 92) hx hb hr (fun t ht hW => ⟨⟨(), rfl, trivial, q22, q30, q39, q47, q55, q63, q71, q79, q87, by rw [ht]; exact hP, va_K.moved hW.alike hK, hD⟩, hS.F ht⟩) hS.2.2 d_S_init_92
/-- what the constructor of ReinsuranceDesk leaves -/
def at_D (D : va_G) (cA : Nat → ClassId) (A : Nat → Prop) (h0 : Nat) (_ : Unit) (t : State) : Prop := ∃ (q5 q7_9 q15_9 q23_9 q16 q7_20 q15_20 q23_20 q31_20 q39_20 q47_20 q27 q7_31 q15_31 q23_31 q31_31 q39_31 q47_31 q55_31 q38 q22_54 q30_54 q39_54 q47_54 q55_54 q63_54 q71_54 q79_54 q87_54 q62 q70 : Nat), va_P D rd_CL [(h0, .inr (4, [.ref q5, .ref q16, .ref q27, .ref q38, .ref q62, .ref q70])), (q5, .inr (2, [.ref q7_9, .ref q15_9, .ref q23_9])), (q7_9, bI cA 12), (q15_9, bI cA 12), (q23_9, bI cA 12), (q16, .inr (1, [rd_i 0, .ref q7_20, .ref q15_20, .ref q23_20, .ref q31_20, .ref q39_20, .ref q47_20])), (q7_20, bI cA 40), (q15_20, bI cA 40), (q23_20, bI cA 40), (q31_20, bI cA 40), (q39_20, bZ cA 40), (q47_20, bI cA 40), (q27, .inr (3, [rd_i 0, .ref q7_31, .ref q15_31, .ref q23_31, .ref q31_31, .ref q39_31, .ref q47_31, .ref q55_31])), (q7_31, bI cA 10), (q15_31, bI cA 10), (q23_31, bJ cA 10), (q31_31, bJ cA 10), (q39_31, bJ cA 10), (q47_31, bJ cA 10), (q55_31, bI cA 60), (q38, .inr (0, [.ref q5, .ref q16, .ref q27, .ref q22_54, .ref q30_54, .ref q39_54, .ref q47_54, .ref q55_54, .ref q63_54, .ref q71_54, .ref q79_54, rd_i 0, .ref q87_54])), (q22_54, bZ cA 40), (q30_54, bI cA 40), (q39_54, bI cA 400), (q47_54, bJ cA 10), (q55_54, bI cA 100), (q63_54, bJ cA 12), (q71_54, bJ cA 10), (q79_54, bI cA 40), (q87_54, bJ cA 40), (q62, bZ cA 4), (q70, bJ cA 6)] t.heap ∧ va_K D rd_CL (rd_ty cA) t ∧ va_D A [(h0, .inr (4, [.ref q5, .ref q16, .ref q27, .ref q38, .ref q62, .ref q70])), (q5, .inr (2, [.ref q7_9, .ref q15_9, .ref q23_9])), (q7_9, bI cA 12), (q15_9, bI cA 12), (q23_9, bI cA 12), (q16, .inr (1, [rd_i 0, .ref q7_20, .ref q15_20, .ref q23_20, .ref q31_20, .ref q39_20, .ref q47_20])), (q7_20, bI cA 40), (q15_20, bI cA 40), (q23_20, bI cA 40), (q31_20, bI cA 40), (q39_20, bZ cA 40), (q47_20, bI cA 40), (q27, .inr (3, [rd_i 0, .ref q7_31, .ref q15_31, .ref q23_31, .ref q31_31, .ref q39_31, .ref q47_31, .ref q55_31])), (q7_31, bI cA 10), (q15_31, bI cA 10), (q23_31, bJ cA 10), (q31_31, bJ cA 10), (q39_31, bJ cA 10), (q47_31, bJ cA 10), (q55_31, bI cA 60), (q38, .inr (0, [.ref q5, .ref q16, .ref q27, .ref q22_54, .ref q30_54, .ref q39_54, .ref q47_54, .ref q55_54, .ref q63_54, .ref q71_54, .ref q79_54, rd_i 0, .ref q87_54])), (q22_54, bZ cA 40), (q30_54, bI cA 40), (q39_54, bI cA 400), (q47_54, bJ cA 10), (q55_54, bI cA 100), (q63_54, bJ cA 12), (q71_54, bJ cA 10), (q79_54, bI cA 40), (q87_54, bJ cA 40), (q62, bZ cA 4), (q70, bJ cA 6)]
set_option maxHeartbeats 4000000 in
set_option maxRecDepth 100000 in
theorem e_D_init {B : List Cond} (hB : B = bw) (l : Launch) (D : va_G) (cA : Nat → ClassId) (h0 : Nat) (sz : Nat) : Met l y_D_init (.code y_D_init c_D_init 1 none :: B) ({ frames := 2, cells := 31, slots := 1129, locals := 35 }) (va_Pc [.ref h0] (fun U => U.heap.size = sz ∧ va_P D rd_CL [(h0, .inr (4, [.null, .null, .null, .null, .null, .null]))] U.heap ∧ va_K D rd_CL (rd_ty cA) U ∧ va_D (fun _ => True) [(h0, .inr (4, [.null, .null, .null, .null, .null, .null]))])) (va_Qv (fun _ : Unit => True) (at_D D cA (va_A [(h0, .inr (4, [.null, .null, .null, .null, .null, .null]))] sz) h0) (va_A [(h0, .inr (4, [.null, .null, .null, .null, .null, .null]))] sz)) 31 1129 (va_A [(h0, .inr (4, [.null, .null, .null, .null, .null, .null]))] sz) := by
  refine Met.ofW (cc := c_D_init) (maxL := 1) (ret := none) (by decide) rfl ?_
  intro p e s m args below meth c s₁ BB hml hv
  obtain ⟨rfl, hsz, hP, hK, hD0⟩ := hv
  have hx := BB.exec
  have hb := BB.bytes
  have hr := BB.returns
  have hts := atoms_spec (ws := .code y_D_init c_D_init 1 none :: B) BB.pre
  have hown : s.vm.findClass "ReinsuranceDesk" = some m.cls := findClass_of_methodNamed BB.named
  have hlocks := BB.notSynchronized
  have hin : meth.name = "<init>" := (name_of_methodNamed BB.named BB.method).1
  subst hsz
  have hD := hD0.self (sz := s.heap.size)
  generalize hAe : va_A [(h0, .inr (4, [.null, .null, .null, .null, .null, .null]))] s.heap.size = A at hD ⊢
  have hA : ∀ q : Nat, s.heap.size ≤ q → A q := fun q h => by rw [← hAe]; exact Or.inr h
  have hS : va_S A s.heap s.heap [] := va_S.rf
  have hP : va_P D rd_CL [(h0, .inr (4, [.null, .null, .null, .null, .null, .null]))] s.heap := hP
  have hl := lv_entry ([.ref h0]) (n := 1) (Nat.le_of_ble_eq_true rfl)
  rw [lg_entry_eq]
  generalize (lg_sl ([.ref h0]) ++ List.replicate (1 - (lg_sl ([.ref h0])).length) Slot.unset).toArray = ls at hl ⊢
  have hl : lv_has ls 1 [(0, .ref h0)] := hl
  refine lv_aload_n (pc := 0) hx hb d_D_init_0 rfl (lv_at hl 0 rfl) ?_
  refine W.objInit hx hb hown (hts (.methodLink "ReinsuranceDesk" 1 objectInit) (List.mem_cons_of_mem _ (bw_B hB (bw_m (rd_m 19 (by decide +kernel)))))) (hts (.instanceMethod objectInit) (List.mem_cons_of_mem _ (bw_B hB (bw_m (rd_m 20 (by decide +kernel)))))) (hts _ (List.mem_cons_of_mem _ (bw_B hB bw_obj))) rfl (by rw [hml]; exact hl.1) rfl d_D_init_1 (Nat.le_of_ble_eq_true rfl) (Nat.le_of_ble_eq_true rfl) ?_
  refine W.eq (g2 := F0 m 4 ls []) rfl ?_
  refine lv_aload_n (pc := 4) hx hb d_D_init_4 rfl (lv_at hl 0 rfl) ?_
  refine va_new (pc := 5) (ci := 2) (fs := [.null, .null, .null]) (C := "ReinsuranceDesk$Risks") (T := rd_T2) (N := 3) hx hb hts (fun w h => List.mem_cons_of_mem _ (bw_B hB (bw_u2 w h))) rd_t2 rd_tt2 hown (hts (.classLink "ReinsuranceDesk" 7 "ReinsuranceDesk$Risks") (List.mem_cons_of_mem _ (bw_B hB (bw_m (rd_m 22 (by decide +kernel)))))) (hts (.instantiable "ReinsuranceDesk$Risks" 3) (List.mem_cons_of_mem _ (bw_B hB (bw_m (rd_m 23 (by decide +kernel)))))) (hts (.initialized "ReinsuranceDesk$Risks") (List.mem_cons_of_mem _ (bw_B hB (bw_m (rd_m 2 (by decide +kernel)))))) hK hP hD hS hA rfl (fun j hj => by rcases (show j = 0 ∨ j = 1 ∨ j = 2 by omega) with rfl | rfl | rfl <;> first | exact b0i | exact b0l | rfl) (Nat.le_of_ble_eq_true rfl) (Nat.le_of_ble_eq_true rfl) d_D_init_5 (fun q5 H hP hD hS => ?_)
  have hP : va_P D rd_CL [(h0, .inr (4, [.null, .null, .null, .null, .null, .null])), (q5, .inr (2, [.null, .null, .null]))] H := hP
  have hD : va_D A [(h0, .inr (4, [.null, .null, .null, .null, .null, .null])), (q5, .inr (2, [.null, .null, .null]))] := hD
  refine W.widen (k := 1) (n := 3) (Nat.le_of_ble_eq_true rfl) (Nat.le_of_ble_eq_true rfl) ?_
  refine lv_dup (pc := 8) hx hb d_D_init_8 rfl ?_
  have hPc := hP.sub (ws' := [(q5, .inr (2, [.null, .null, .null]))]) [1] rfl
  have hDc := hD.sub (ws' := [(q5, .inr (2, [.null, .null, .null]))]) [1] (by decide) rfl
  have hFc := va_free (wc := [(q5, .inr (2, [.null, .null, .null]))]) hD hS hA [1] rfl
  refine va_callv (va_runI (As := []) (rest := [.ref q5, .ref h0]) ⟨hx, hb, hml, hown, hts⟩ (e_R_init hB l D cA q5 H.size) (cwI 0 hts (bw_good hB wc_R_init (fun _ h => List.mem_cons_of_mem _ h)) rfl rfl rfl (hts (.initialized "ReinsuranceDesk$Risks") (List.mem_cons_of_mem _ (bw_B hB (bw_m (rd_m 2 (by decide +kernel)))))) (hts (.methodLink "ReinsuranceDesk" 9 y_R_init) (List.mem_cons_of_mem _ (bw_B hB (bw_m (rd_m 24 (by decide +kernel)))))) (hts (.instanceMethod y_R_init) (List.mem_cons_of_mem _ (bw_B hB (bw_m (rd_m 25 (by decide +kernel)))))) rfl (by decide +kernel) ⟨(Nat.le_of_ble_eq_true rfl), (Nat.le_of_ble_eq_true rfl)⟩) ⟨fun a U g mk q => by obtain ⟨q0, q1, qP, qK, qD⟩ := q; exact ⟨q0, q1, qP, va_K.moved (u := U) (U := U.calling g mk a) (Vm.Alike.refl U.vm) qK, qD⟩, fun U hU hW => ⟨rfl, by rw [hU], by rw [hU]; exact hPc, va_K.moved hW.alike hK, hDc.weaken (fun _ _ _ _ => trivial)⟩⟩ rfl rfl hl.1 rfl (lv_room (Nat.le_of_ble_eq_true rfl)) d_D_init_9 ⟨(Nat.le_of_ble_eq_true rfl), (Nat.le_of_ble_eq_true rfl)⟩) hS (fun q _ h => hFc q h) hFc (fun u t H1 locs ht hvm h5 hB hz1 hk1 hS => ?_)
  obtain ⟨q7_9, q15_9, q23_9, hP1, hK1, hD1⟩ := hB
  rw [ht] at hP1
  obtain ⟨hP, hD⟩ := va_join (wr := [(h0, .inr (4, [.null, .null, .null, .null, .null, .null]))]) (w1 := [(q5, .inr (2, [.ref q7_9, .ref q15_9, .ref q23_9])), (q7_9, bI cA 12), (q15_9, bI cA 12), (q23_9, bI cA 12)]) hP hD [1] [0] rfl rfl (by decide) (by decide) hk1 hFc hP1 hD1
  generalize H1 = H at hP hS ⊢
  have hP : va_P D rd_CL [(h0, .inr (4, [.null, .null, .null, .null, .null, .null])), (q5, .inr (2, [.ref q7_9, .ref q15_9, .ref q23_9])), (q7_9, bI cA 12), (q15_9, bI cA 12), (q23_9, bI cA 12)] H := hP
  have hD : va_D A [(h0, .inr (4, [.null, .null, .null, .null, .null, .null])), (q5, .inr (2, [.ref q7_9, .ref q15_9, .ref q23_9])), (q7_9, bI cA 12), (q15_9, bI cA 12), (q23_9, bI cA 12)] := hD
  refine W.widen (k := 4) (n := 39) (Nat.le_of_ble_eq_true rfl) (Nat.le_of_ble_eq_true rfl) ?_
  refine va_putF (pc := 12) (D := D) (ci := 4) (v := .ref q5) (ty := .object "ReinsuranceDesk$Risks") (C := "ReinsuranceDesk") (T := rd_T4) (N := 6) hx hb hts (fun w h => List.mem_cons_of_mem _ (bw_B hB (bw_u4 w h))) rd_t4 rd_tt4 rd_nn4 hown hK hP hD hS 0 rfl rfl 0 (by decide) (hts (.fieldLink "ReinsuranceDesk" 10 "ReinsuranceDesk" "risks" "LReinsuranceDesk$Risks;") (List.mem_cons_of_mem _ (bw_B hB (bw_m (rd_m 178 (by decide +kernel)))))) (fun _ h9 => h9) rfl hin rfl (by decide +kernel) rfl rfl (Nat.le_of_ble_eq_true rfl) d_D_init_12 (fun H locs hP hD hS => ?_)
  have hP : va_P D rd_CL [(h0, .inr (4, [.ref q5, .null, .null, .null, .null, .null])), (q5, .inr (2, [.ref q7_9, .ref q15_9, .ref q23_9])), (q7_9, bI cA 12), (q15_9, bI cA 12), (q23_9, bI cA 12)] H := hP
  have hD : va_D A [(h0, .inr (4, [.ref q5, .null, .null, .null, .null, .null])), (q5, .inr (2, [.ref q7_9, .ref q15_9, .ref q23_9])), (q7_9, bI cA 12), (q15_9, bI cA 12), (q23_9, bI cA 12)] := hD
  refine lv_aload_n (pc := 15) hx hb d_D_init_15 rfl (lv_at hl 0 rfl) ?_
  refine va_new (pc := 16) (ci := 1) (fs := [rd_i 0, .null, .null, .null, .null, .null, .null]) (C := "ReinsuranceDesk$Claims") (T := rd_T1) (N := 7) hx hb hts (fun w h => List.mem_cons_of_mem _ (bw_B hB (bw_u1 w h))) rd_t1 rd_tt1 hown (hts (.classLink "ReinsuranceDesk" 16 "ReinsuranceDesk$Claims") (List.mem_cons_of_mem _ (bw_B hB (bw_m (rd_m 45 (by decide +kernel)))))) (hts (.instantiable "ReinsuranceDesk$Claims" 7) (List.mem_cons_of_mem _ (bw_B hB (bw_m (rd_m 46 (by decide +kernel)))))) (hts (.initialized "ReinsuranceDesk$Claims") (List.mem_cons_of_mem _ (bw_B hB (bw_m (rd_m 3 (by decide +kernel)))))) hK hP hD hS hA rfl (fun j hj => by rcases (show j = 0 ∨ j = 1 ∨ j = 2 ∨ j = 3 ∨ j = 4 ∨ j = 5 ∨ j = 6 by omega) with rfl | rfl | rfl | rfl | rfl | rfl | rfl <;> first | exact b0i | exact b0l | rfl) (Nat.le_of_ble_eq_true rfl) (Nat.le_of_ble_eq_true rfl) d_D_init_16 (fun q16 H hP hD hS => ?_)
  have hP : va_P D rd_CL [(h0, .inr (4, [.ref q5, .null, .null, .null, .null, .null])), (q5, .inr (2, [.ref q7_9, .ref q15_9, .ref q23_9])), (q7_9, bI cA 12), (q15_9, bI cA 12), (q23_9, bI cA 12), (q16, .inr (1, [rd_i 0, .null, .null, .null, .null, .null, .null]))] H := hP
  have hD : va_D A [(h0, .inr (4, [.ref q5, .null, .null, .null, .null, .null])), (q5, .inr (2, [.ref q7_9, .ref q15_9, .ref q23_9])), (q7_9, bI cA 12), (q15_9, bI cA 12), (q23_9, bI cA 12), (q16, .inr (1, [rd_i 0, .null, .null, .null, .null, .null, .null]))] := hD
  refine W.widen (k := 5) (n := 46) (Nat.le_of_ble_eq_true rfl) (Nat.le_of_ble_eq_true rfl) ?_
  refine lv_dup (pc := 19) hx hb d_D_init_19 rfl ?_
  have hPc := hP.sub (ws' := [(q16, .inr (1, [rd_i 0, .null, .null, .null, .null, .null, .null]))]) [5] rfl
  have hDc := hD.sub (ws' := [(q16, .inr (1, [rd_i 0, .null, .null, .null, .null, .null, .null]))]) [5] (by decide) rfl
  have hFc := va_free (wc := [(q16, .inr (1, [rd_i 0, .null, .null, .null, .null, .null, .null]))]) hD hS hA [5] rfl
  refine va_callv (va_runI (As := []) (rest := [.ref q16, .ref h0]) ⟨hx, hb, hml, hown, hts⟩ (e_C_init hB l D cA q16 H.size) (cwI 0 hts (bw_good hB wc_C_init (fun _ h => List.mem_cons_of_mem _ h)) rfl rfl rfl (hts (.initialized "ReinsuranceDesk$Claims") (List.mem_cons_of_mem _ (bw_B hB (bw_m (rd_m 3 (by decide +kernel)))))) (hts (.methodLink "ReinsuranceDesk" 18 y_C_init) (List.mem_cons_of_mem _ (bw_B hB (bw_m (rd_m 47 (by decide +kernel)))))) (hts (.instanceMethod y_C_init) (List.mem_cons_of_mem _ (bw_B hB (bw_m (rd_m 48 (by decide +kernel)))))) rfl (by decide +kernel) ⟨(Nat.le_of_ble_eq_true rfl), (Nat.le_of_ble_eq_true rfl)⟩) ⟨fun a U g mk q => by obtain ⟨q0, q1, qP, qK, qD⟩ := q; exact ⟨q0, q1, qP, va_K.moved (u := U) (U := U.calling g mk a) (Vm.Alike.refl U.vm) qK, qD⟩, fun U hU hW => ⟨rfl, by rw [hU], by rw [hU]; exact hPc, va_K.moved hW.alike hK, hDc.weaken (fun _ _ _ _ => trivial)⟩⟩ rfl rfl hl.1 rfl (lv_room (Nat.le_of_ble_eq_true rfl)) d_D_init_20 ⟨(Nat.le_of_ble_eq_true rfl), (Nat.le_of_ble_eq_true rfl)⟩) hS (fun q _ h => hFc q h) hFc (fun u t H1 locs ht hvm h5 hB hz1 hk1 hS => ?_)
  obtain ⟨q7_20, q15_20, q23_20, q31_20, q39_20, q47_20, hP1, hK1, hD1⟩ := hB
  rw [ht] at hP1
  obtain ⟨hP, hD⟩ := va_join (wr := [(h0, .inr (4, [.ref q5, .null, .null, .null, .null, .null])), (q5, .inr (2, [.ref q7_9, .ref q15_9, .ref q23_9])), (q7_9, bI cA 12), (q15_9, bI cA 12), (q23_9, bI cA 12)]) (w1 := [(q16, .inr (1, [rd_i 0, .ref q7_20, .ref q15_20, .ref q23_20, .ref q31_20, .ref q39_20, .ref q47_20])), (q7_20, bI cA 40), (q15_20, bI cA 40), (q23_20, bI cA 40), (q31_20, bI cA 40), (q39_20, bZ cA 40), (q47_20, bI cA 40)]) hP hD [5] [0, 1, 2, 3, 4] rfl rfl (by decide) (by decide) hk1 hFc hP1 hD1
  generalize H1 = H at hP hS ⊢
  have hP : va_P D rd_CL [(h0, .inr (4, [.ref q5, .null, .null, .null, .null, .null])), (q5, .inr (2, [.ref q7_9, .ref q15_9, .ref q23_9])), (q7_9, bI cA 12), (q15_9, bI cA 12), (q23_9, bI cA 12), (q16, .inr (1, [rd_i 0, .ref q7_20, .ref q15_20, .ref q23_20, .ref q31_20, .ref q39_20, .ref q47_20])), (q7_20, bI cA 40), (q15_20, bI cA 40), (q23_20, bI cA 40), (q31_20, bI cA 40), (q39_20, bZ cA 40), (q47_20, bI cA 40)] H := hP
  have hD : va_D A [(h0, .inr (4, [.ref q5, .null, .null, .null, .null, .null])), (q5, .inr (2, [.ref q7_9, .ref q15_9, .ref q23_9])), (q7_9, bI cA 12), (q15_9, bI cA 12), (q23_9, bI cA 12), (q16, .inr (1, [rd_i 0, .ref q7_20, .ref q15_20, .ref q23_20, .ref q31_20, .ref q39_20, .ref q47_20])), (q7_20, bI cA 40), (q15_20, bI cA 40), (q23_20, bI cA 40), (q31_20, bI cA 40), (q39_20, bZ cA 40), (q47_20, bI cA 40)] := hD
  refine W.widen (k := 11) (n := 286) (Nat.le_of_ble_eq_true rfl) (Nat.le_of_ble_eq_true rfl) ?_
  refine va_putF (pc := 23) (D := D) (ci := 4) (v := .ref q16) (ty := .object "ReinsuranceDesk$Claims") (C := "ReinsuranceDesk") (T := rd_T4) (N := 6) hx hb hts (fun w h => List.mem_cons_of_mem _ (bw_B hB (bw_u4 w h))) rd_t4 rd_tt4 rd_nn4 hown hK hP hD hS 0 rfl rfl 1 (by decide) (hts (.fieldLink "ReinsuranceDesk" 19 "ReinsuranceDesk" "claims" "LReinsuranceDesk$Claims;") (List.mem_cons_of_mem _ (bw_B hB (bw_m (rd_m 179 (by decide +kernel)))))) (fun _ h9 => h9) rfl hin rfl (by decide +kernel) rfl rfl (Nat.le_of_ble_eq_true rfl) d_D_init_23 (fun H locs hP hD hS => ?_)
  have hP : va_P D rd_CL [(h0, .inr (4, [.ref q5, .ref q16, .null, .null, .null, .null])), (q5, .inr (2, [.ref q7_9, .ref q15_9, .ref q23_9])), (q7_9, bI cA 12), (q15_9, bI cA 12), (q23_9, bI cA 12), (q16, .inr (1, [rd_i 0, .ref q7_20, .ref q15_20, .ref q23_20, .ref q31_20, .ref q39_20, .ref q47_20])), (q7_20, bI cA 40), (q15_20, bI cA 40), (q23_20, bI cA 40), (q31_20, bI cA 40), (q39_20, bZ cA 40), (q47_20, bI cA 40)] H := hP
  have hD : va_D A [(h0, .inr (4, [.ref q5, .ref q16, .null, .null, .null, .null])), (q5, .inr (2, [.ref q7_9, .ref q15_9, .ref q23_9])), (q7_9, bI cA 12), (q15_9, bI cA 12), (q23_9, bI cA 12), (q16, .inr (1, [rd_i 0, .ref q7_20, .ref q15_20, .ref q23_20, .ref q31_20, .ref q39_20, .ref q47_20])), (q7_20, bI cA 40), (q15_20, bI cA 40), (q23_20, bI cA 40), (q31_20, bI cA 40), (q39_20, bZ cA 40), (q47_20, bI cA 40)] := hD
  refine lv_aload_n (pc := 26) hx hb d_D_init_26 rfl (lv_at hl 0 rfl) ?_
  refine va_new (pc := 27) (ci := 3) (fs := [rd_i 0, .null, .null, .null, .null, .null, .null, .null]) (C := "ReinsuranceDesk$Treaties") (T := rd_T3) (N := 8) hx hb hts (fun w h => List.mem_cons_of_mem _ (bw_B hB (bw_u3 w h))) rd_t3 rd_tt3 hown (hts (.classLink "ReinsuranceDesk" 23 "ReinsuranceDesk$Treaties") (List.mem_cons_of_mem _ (bw_B hB (bw_m (rd_m 86 (by decide +kernel)))))) (hts (.instantiable "ReinsuranceDesk$Treaties" 8) (List.mem_cons_of_mem _ (bw_B hB (bw_m (rd_m 87 (by decide +kernel)))))) (hts (.initialized "ReinsuranceDesk$Treaties") (List.mem_cons_of_mem _ (bw_B hB (bw_m (rd_m 4 (by decide +kernel)))))) hK hP hD hS hA rfl (fun j hj => by rcases (show j = 0 ∨ j = 1 ∨ j = 2 ∨ j = 3 ∨ j = 4 ∨ j = 5 ∨ j = 6 ∨ j = 7 by omega) with rfl | rfl | rfl | rfl | rfl | rfl | rfl | rfl <;> first | exact b0i | exact b0l | rfl) (Nat.le_of_ble_eq_true rfl) (Nat.le_of_ble_eq_true rfl) d_D_init_27 (fun q27 H hP hD hS => ?_)
  have hP : va_P D rd_CL [(h0, .inr (4, [.ref q5, .ref q16, .null, .null, .null, .null])), (q5, .inr (2, [.ref q7_9, .ref q15_9, .ref q23_9])), (q7_9, bI cA 12), (q15_9, bI cA 12), (q23_9, bI cA 12), (q16, .inr (1, [rd_i 0, .ref q7_20, .ref q15_20, .ref q23_20, .ref q31_20, .ref q39_20, .ref q47_20])), (q7_20, bI cA 40), (q15_20, bI cA 40), (q23_20, bI cA 40), (q31_20, bI cA 40), (q39_20, bZ cA 40), (q47_20, bI cA 40), (q27, .inr (3, [rd_i 0, .null, .null, .null, .null, .null, .null, .null]))] H := hP
  have hD : va_D A [(h0, .inr (4, [.ref q5, .ref q16, .null, .null, .null, .null])), (q5, .inr (2, [.ref q7_9, .ref q15_9, .ref q23_9])), (q7_9, bI cA 12), (q15_9, bI cA 12), (q23_9, bI cA 12), (q16, .inr (1, [rd_i 0, .ref q7_20, .ref q15_20, .ref q23_20, .ref q31_20, .ref q39_20, .ref q47_20])), (q7_20, bI cA 40), (q15_20, bI cA 40), (q23_20, bI cA 40), (q31_20, bI cA 40), (q39_20, bZ cA 40), (q47_20, bI cA 40), (q27, .inr (3, [rd_i 0, .null, .null, .null, .null, .null, .null, .null]))] := hD
  refine W.widen (k := 12) (n := 294) (Nat.le_of_ble_eq_true rfl) (Nat.le_of_ble_eq_true rfl) ?_
  refine lv_dup (pc := 30) hx hb d_D_init_30 rfl ?_
  have hPc := hP.sub (ws' := [(q27, .inr (3, [rd_i 0, .null, .null, .null, .null, .null, .null, .null]))]) [12] rfl
  have hDc := hD.sub (ws' := [(q27, .inr (3, [rd_i 0, .null, .null, .null, .null, .null, .null, .null]))]) [12] (by decide) rfl
  have hFc := va_free (wc := [(q27, .inr (3, [rd_i 0, .null, .null, .null, .null, .null, .null, .null]))]) hD hS hA [12] rfl
  refine va_callv (va_runI (As := []) (rest := [.ref q27, .ref h0]) ⟨hx, hb, hml, hown, hts⟩ (e_T_init hB l D cA q27 H.size) (cwI 0 hts (bw_good hB wc_T_init (fun _ h => List.mem_cons_of_mem _ h)) rfl rfl rfl (hts (.initialized "ReinsuranceDesk$Treaties") (List.mem_cons_of_mem _ (bw_B hB (bw_m (rd_m 4 (by decide +kernel)))))) (hts (.methodLink "ReinsuranceDesk" 25 y_T_init) (List.mem_cons_of_mem _ (bw_B hB (bw_m (rd_m 88 (by decide +kernel)))))) (hts (.instanceMethod y_T_init) (List.mem_cons_of_mem _ (bw_B hB (bw_m (rd_m 89 (by decide +kernel)))))) rfl (by decide +kernel) ⟨(Nat.le_of_ble_eq_true rfl), (Nat.le_of_ble_eq_true rfl)⟩) ⟨fun a U g mk q => by obtain ⟨q0, q1, qP, qK, qD⟩ := q; exact ⟨q0, q1, qP, va_K.moved (u := U) (U := U.calling g mk a) (Vm.Alike.refl U.vm) qK, qD⟩, fun U hU hW => ⟨rfl, by rw [hU], by rw [hU]; exact hPc, va_K.moved hW.alike hK, hDc.weaken (fun _ _ _ _ => trivial)⟩⟩ rfl rfl hl.1 rfl (lv_room (Nat.le_of_ble_eq_true rfl)) d_D_init_31 ⟨(Nat.le_of_ble_eq_true rfl), (Nat.le_of_ble_eq_true rfl)⟩) hS (fun q _ h => hFc q h) hFc (fun u t H1 locs ht hvm h5 hB hz1 hk1 hS => ?_)
  obtain ⟨q7_31, q15_31, q23_31, q31_31, q39_31, q47_31, q55_31, hP1, hK1, hD1⟩ := hB
  rw [ht] at hP1
  obtain ⟨hP, hD⟩ := va_join (wr := [(h0, .inr (4, [.ref q5, .ref q16, .null, .null, .null, .null])), (q5, .inr (2, [.ref q7_9, .ref q15_9, .ref q23_9])), (q7_9, bI cA 12), (q15_9, bI cA 12), (q23_9, bI cA 12), (q16, .inr (1, [rd_i 0, .ref q7_20, .ref q15_20, .ref q23_20, .ref q31_20, .ref q39_20, .ref q47_20])), (q7_20, bI cA 40), (q15_20, bI cA 40), (q23_20, bI cA 40), (q31_20, bI cA 40), (q39_20, bZ cA 40), (q47_20, bI cA 40)]) (w1 := [(q27, .inr (3, [rd_i 0, .ref q7_31, .ref q15_31, .ref q23_31, .ref q31_31, .ref q39_31, .ref q47_31, .ref q55_31])), (q7_31, bI cA 10), (q15_31, bI cA 10), (q23_31, bJ cA 10), (q31_31, bJ cA 10), (q39_31, bJ cA 10), (q47_31, bJ cA 10), (q55_31, bI cA 60)]) hP hD [12] [0, 1, 2, 3, 4, 5, 6, 7, 8, 9, 10, 11] rfl rfl (by decide) (by decide) hk1 hFc hP1 hD1
  generalize H1 = H at hP hS ⊢
  have hP : va_P D rd_CL [(h0, .inr (4, [.ref q5, .ref q16, .null, .null, .null, .null])), (q5, .inr (2, [.ref q7_9, .ref q15_9, .ref q23_9])), (q7_9, bI cA 12), (q15_9, bI cA 12), (q23_9, bI cA 12), (q16, .inr (1, [rd_i 0, .ref q7_20, .ref q15_20, .ref q23_20, .ref q31_20, .ref q39_20, .ref q47_20])), (q7_20, bI cA 40), (q15_20, bI cA 40), (q23_20, bI cA 40), (q31_20, bI cA 40), (q39_20, bZ cA 40), (q47_20, bI cA 40), (q27, .inr (3, [rd_i 0, .ref q7_31, .ref q15_31, .ref q23_31, .ref q31_31, .ref q39_31, .ref q47_31, .ref q55_31])), (q7_31, bI cA 10), (q15_31, bI cA 10), (q23_31, bJ cA 10), (q31_31, bJ cA 10), (q39_31, bJ cA 10), (q47_31, bJ cA 10), (q55_31, bI cA 60)] H := hP
  have hD : va_D A [(h0, .inr (4, [.ref q5, .ref q16, .null, .null, .null, .null])), (q5, .inr (2, [.ref q7_9, .ref q15_9, .ref q23_9])), (q7_9, bI cA 12), (q15_9, bI cA 12), (q23_9, bI cA 12), (q16, .inr (1, [rd_i 0, .ref q7_20, .ref q15_20, .ref q23_20, .ref q31_20, .ref q39_20, .ref q47_20])), (q7_20, bI cA 40), (q15_20, bI cA 40), (q23_20, bI cA 40), (q31_20, bI cA 40), (q39_20, bZ cA 40), (q47_20, bI cA 40), (q27, .inr (3, [rd_i 0, .ref q7_31, .ref q15_31, .ref q23_31, .ref q31_31, .ref q39_31, .ref q47_31, .ref q55_31])), (q7_31, bI cA 10), (q15_31, bI cA 10), (q23_31, bJ cA 10), (q31_31, bJ cA 10), (q39_31, bJ cA 10), (q47_31, bJ cA 10), (q55_31, bI cA 60)] := hD
  refine W.widen (k := 19) (n := 414) (Nat.le_of_ble_eq_true rfl) (Nat.le_of_ble_eq_true rfl) ?_
  refine va_putF (pc := 34) (D := D) (ci := 4) (v := .ref q27) (ty := .object "ReinsuranceDesk$Treaties") (C := "ReinsuranceDesk") (T := rd_T4) (N := 6) hx hb hts (fun w h => List.mem_cons_of_mem _ (bw_B hB (bw_u4 w h))) rd_t4 rd_tt4 rd_nn4 hown hK hP hD hS 0 rfl rfl 2 (by decide) (hts (.fieldLink "ReinsuranceDesk" 26 "ReinsuranceDesk" "treaties" "LReinsuranceDesk$Treaties;") (List.mem_cons_of_mem _ (bw_B hB (bw_m (rd_m 180 (by decide +kernel)))))) (fun _ h9 => h9) rfl hin rfl (by decide +kernel) rfl rfl (Nat.le_of_ble_eq_true rfl) d_D_init_34 (fun H locs hP hD hS => ?_)
  have hP : va_P D rd_CL [(h0, .inr (4, [.ref q5, .ref q16, .ref q27, .null, .null, .null])), (q5, .inr (2, [.ref q7_9, .ref q15_9, .ref q23_9])), (q7_9, bI cA 12), (q15_9, bI cA 12), (q23_9, bI cA 12), (q16, .inr (1, [rd_i 0, .ref q7_20, .ref q15_20, .ref q23_20, .ref q31_20, .ref q39_20, .ref q47_20])), (q7_20, bI cA 40), (q15_20, bI cA 40), (q23_20, bI cA 40), (q31_20, bI cA 40), (q39_20, bZ cA 40), (q47_20, bI cA 40), (q27, .inr (3, [rd_i 0, .ref q7_31, .ref q15_31, .ref q23_31, .ref q31_31, .ref q39_31, .ref q47_31, .ref q55_31])), (q7_31, bI cA 10), (q15_31, bI cA 10), (q23_31, bJ cA 10), (q31_31, bJ cA 10), (q39_31, bJ cA 10), (q47_31, bJ cA 10), (q55_31, bI cA 60)] H := hP
  have hD : va_D A [(h0, .inr (4, [.ref q5, .ref q16, .ref q27, .null, .null, .null])), (q5, .inr (2, [.ref q7_9, .ref q15_9, .ref q23_9])), (q7_9, bI cA 12), (q15_9, bI cA 12), (q23_9, bI cA 12), (q16, .inr (1, [rd_i 0, .ref q7_20, .ref q15_20, .ref q23_20, .ref q31_20, .ref q39_20, .ref q47_20])), (q7_20, bI cA 40), (q15_20, bI cA 40), (q23_20, bI cA 40), (q31_20, bI cA 40), (q39_20, bZ cA 40), (q47_20, bI cA 40), (q27, .inr (3, [rd_i 0, .ref q7_31, .ref q15_31, .ref q23_31, .ref q31_31, .ref q39_31, .ref q47_31, .ref q55_31])), (q7_31, bI cA 10), (q15_31, bI cA 10), (q23_31, bJ cA 10), (q31_31, bJ cA 10), (q39_31, bJ cA 10), (q47_31, bJ cA 10), (q55_31, bI cA 60)] := hD
  refine lv_aload_n (pc := 37) hx hb d_D_init_37 rfl (lv_at hl 0 rfl) ?_
  refine va_new (pc := 38) (ci := 0) (fs := [.null, .null, .null, .null, .null, .null, .null, .null, .null, .null, .null, rd_i 0, .null]) (C := "ReinsuranceDesk$Cession") (T := rd_T0) (N := 13) hx hb hts (fun w h => List.mem_cons_of_mem _ (bw_B hB (bw_u0 w h))) rd_t0 rd_tt0 hown (hts (.classLink "ReinsuranceDesk" 30 "ReinsuranceDesk$Cession") (List.mem_cons_of_mem _ (bw_B hB (bw_m (rd_m 127 (by decide +kernel)))))) (hts (.instantiable "ReinsuranceDesk$Cession" 13) (List.mem_cons_of_mem _ (bw_B hB (bw_m (rd_m 128 (by decide +kernel)))))) (hts (.initialized "ReinsuranceDesk$Cession") (List.mem_cons_of_mem _ (bw_B hB (bw_m (rd_m 5 (by decide +kernel)))))) hK hP hD hS hA rfl (fun j hj => by rcases (show j = 0 ∨ j = 1 ∨ j = 2 ∨ j = 3 ∨ j = 4 ∨ j = 5 ∨ j = 6 ∨ j = 7 ∨ j = 8 ∨ j = 9 ∨ j = 10 ∨ j = 11 ∨ j = 12 by omega) with rfl | rfl | rfl | rfl | rfl | rfl | rfl | rfl | rfl | rfl | rfl | rfl | rfl <;> first | exact b0i | exact b0l | rfl) (Nat.le_of_ble_eq_true rfl) (Nat.le_of_ble_eq_true rfl) d_D_init_38 (fun q38 H hP hD hS => ?_)
  have hP : va_P D rd_CL [(h0, .inr (4, [.ref q5, .ref q16, .ref q27, .null, .null, .null])), (q5, .inr (2, [.ref q7_9, .ref q15_9, .ref q23_9])), (q7_9, bI cA 12), (q15_9, bI cA 12), (q23_9, bI cA 12), (q16, .inr (1, [rd_i 0, .ref q7_20, .ref q15_20, .ref q23_20, .ref q31_20, .ref q39_20, .ref q47_20])), (q7_20, bI cA 40), (q15_20, bI cA 40), (q23_20, bI cA 40), (q31_20, bI cA 40), (q39_20, bZ cA 40), (q47_20, bI cA 40), (q27, .inr (3, [rd_i 0, .ref q7_31, .ref q15_31, .ref q23_31, .ref q31_31, .ref q39_31, .ref q47_31, .ref q55_31])), (q7_31, bI cA 10), (q15_31, bI cA 10), (q23_31, bJ cA 10), (q31_31, bJ cA 10), (q39_31, bJ cA 10), (q47_31, bJ cA 10), (q55_31, bI cA 60), (q38, .inr (0, [.null, .null, .null, .null, .null, .null, .null, .null, .null, .null, .null, rd_i 0, .null]))] H := hP
  have hD : va_D A [(h0, .inr (4, [.ref q5, .ref q16, .ref q27, .null, .null, .null])), (q5, .inr (2, [.ref q7_9, .ref q15_9, .ref q23_9])), (q7_9, bI cA 12), (q15_9, bI cA 12), (q23_9, bI cA 12), (q16, .inr (1, [rd_i 0, .ref q7_20, .ref q15_20, .ref q23_20, .ref q31_20, .ref q39_20, .ref q47_20])), (q7_20, bI cA 40), (q15_20, bI cA 40), (q23_20, bI cA 40), (q31_20, bI cA 40), (q39_20, bZ cA 40), (q47_20, bI cA 40), (q27, .inr (3, [rd_i 0, .ref q7_31, .ref q15_31, .ref q23_31, .ref q31_31, .ref q39_31, .ref q47_31, .ref q55_31])), (q7_31, bI cA 10), (q15_31, bI cA 10), (q23_31, bJ cA 10), (q31_31, bJ cA 10), (q39_31, bJ cA 10), (q47_31, bJ cA 10), (q55_31, bI cA 60), (q38, .inr (0, [.null, .null, .null, .null, .null, .null, .null, .null, .null, .null, .null, rd_i 0, .null]))] := hD
  refine W.widen (k := 20) (n := 427) (Nat.le_of_ble_eq_true rfl) (Nat.le_of_ble_eq_true rfl) ?_
  refine lv_dup (pc := 41) hx hb d_D_init_41 rfl ?_
  refine lv_aload_n (pc := 42) hx hb d_D_init_42 rfl (lv_at hl 0 rfl) ?_
  refine va_get (pc := 43) (D := D) (ci := 4) (v := .ref q5) (C := "ReinsuranceDesk") (T := rd_T4) (N := 6) hx hb hts (fun w h => List.mem_cons_of_mem _ (bw_B hB (bw_u4 w h))) hown hK hP 0 rfl rfl 0 (by decide) (hts (.fieldLink "ReinsuranceDesk" 10 "ReinsuranceDesk" "risks" "LReinsuranceDesk$Risks;") (List.mem_cons_of_mem _ (bw_B hB (bw_m (rd_m 178 (by decide +kernel)))))) (fun _ h9 => h9) rfl d_D_init_43 ?_
  refine lv_aload_n (pc := 46) hx hb d_D_init_46 rfl (lv_at hl 0 rfl) ?_
  refine va_get (pc := 47) (D := D) (ci := 4) (v := .ref q16) (C := "ReinsuranceDesk") (T := rd_T4) (N := 6) hx hb hts (fun w h => List.mem_cons_of_mem _ (bw_B hB (bw_u4 w h))) hown hK hP 0 rfl rfl 1 (by decide) (hts (.fieldLink "ReinsuranceDesk" 19 "ReinsuranceDesk" "claims" "LReinsuranceDesk$Claims;") (List.mem_cons_of_mem _ (bw_B hB (bw_m (rd_m 179 (by decide +kernel)))))) (fun _ h9 => h9) rfl d_D_init_47 ?_
  refine lv_aload_n (pc := 50) hx hb d_D_init_50 rfl (lv_at hl 0 rfl) ?_
  refine va_get (pc := 51) (D := D) (ci := 4) (v := .ref q27) (C := "ReinsuranceDesk") (T := rd_T4) (N := 6) hx hb hts (fun w h => List.mem_cons_of_mem _ (bw_B hB (bw_u4 w h))) hown hK hP 0 rfl rfl 2 (by decide) (hts (.fieldLink "ReinsuranceDesk" 26 "ReinsuranceDesk" "treaties" "LReinsuranceDesk$Treaties;") (List.mem_cons_of_mem _ (bw_B hB (bw_m (rd_m 180 (by decide +kernel)))))) (fun _ h9 => h9) rfl d_D_init_51 ?_
  have hPc := hP.sub (ws' := [(q38, .inr (0, [.null, .null, .null, .null, .null, .null, .null, .null, .null, .null, .null, rd_i 0, .null]))]) [20] rfl
  have hDc := hD.sub (ws' := [(q38, .inr (0, [.null, .null, .null, .null, .null, .null, .null, .null, .null, .null, .null, rd_i 0, .null]))]) [20] (by decide) rfl
  have hFc := va_free (wc := [(q38, .inr (0, [.null, .null, .null, .null, .null, .null, .null, .null, .null, .null, .null, rd_i 0, .null]))]) hD hS hA [20] rfl
  refine va_callv (va_runI (As := [.ref q5, .ref q16, .ref q27]) (rest := [.ref q38, .ref h0]) ⟨hx, hb, hml, hown, hts⟩ (e_S_init hB l D cA q38 q5 q16 q27 H.size) (cwI 3 hts (bw_good hB wc_S_init (fun _ h => List.mem_cons_of_mem _ h)) rfl rfl rfl (hts (.initialized "ReinsuranceDesk$Cession") (List.mem_cons_of_mem _ (bw_B hB (bw_m (rd_m 5 (by decide +kernel)))))) (hts (.methodLink "ReinsuranceDesk" 32 y_S_init) (List.mem_cons_of_mem _ (bw_B hB (bw_m (rd_m 129 (by decide +kernel)))))) (hts (.instanceMethod y_S_init) (List.mem_cons_of_mem _ (bw_B hB (bw_m (rd_m 130 (by decide +kernel)))))) rfl (by decide +kernel) ⟨(Nat.le_of_ble_eq_true rfl), (Nat.le_of_ble_eq_true rfl)⟩) ⟨fun a U g mk q => by obtain ⟨q0, q1, qP, qK, qD⟩ := q; exact ⟨q0, q1, qP, va_K.moved (u := U) (U := U.calling g mk a) (Vm.Alike.refl U.vm) qK, qD⟩, fun U hU hW => ⟨rfl, by rw [hU], by rw [hU]; exact hPc, va_K.moved hW.alike hK, hDc.weaken (fun _ _ _ _ => trivial)⟩⟩ rfl rfl hl.1 rfl (lv_room (Nat.le_of_ble_eq_true rfl)) d_D_init_54 ⟨(Nat.le_of_ble_eq_true rfl), (Nat.le_of_ble_eq_true rfl)⟩) hS (fun q _ h => hFc q h) hFc (fun u t H1 locs ht hvm h5 hB hz1 hk1 hS => ?_)
  obtain ⟨q22_54, q30_54, q39_54, q47_54, q55_54, q63_54, q71_54, q79_54, q87_54, hP1, hK1, hD1⟩ := hB
  rw [ht] at hP1
  obtain ⟨hP, hD⟩ := va_join (wr := [(h0, .inr (4, [.ref q5, .ref q16, .ref q27, .null, .null, .null])), (q5, .inr (2, [.ref q7_9, .ref q15_9, .ref q23_9])), (q7_9, bI cA 12), (q15_9, bI cA 12), (q23_9, bI cA 12), (q16, .inr (1, [rd_i 0, .ref q7_20, .ref q15_20, .ref q23_20, .ref q31_20, .ref q39_20, .ref q47_20])), (q7_20, bI cA 40), (q15_20, bI cA 40), (q23_20, bI cA 40), (q31_20, bI cA 40), (q39_20, bZ cA 40), (q47_20, bI cA 40), (q27, .inr (3, [rd_i 0, .ref q7_31, .ref q15_31, .ref q23_31, .ref q31_31, .ref q39_31, .ref q47_31, .ref q55_31])), (q7_31, bI cA 10), (q15_31, bI cA 10), (q23_31, bJ cA 10), (q31_31, bJ cA 10), (q39_31, bJ cA 10), (q47_31, bJ cA 10), (q55_31, bI cA 60)]) (w1 := [(q38, .inr (0, [.ref q5, .ref q16, .ref q27, .ref q22_54, .ref q30_54, .ref q39_54, .ref q47_54, .ref q55_54, .ref q63_54, .ref q71_54, .ref q79_54, rd_i 0, .ref q87_54])), (q22_54, bZ cA 40), (q30_54, bI cA 40), (q39_54, bI cA 400), (q47_54, bJ cA 10), (q55_54, bI cA 100), (q63_54, bJ cA 12), (q71_54, bJ cA 10), (q79_54, bI cA 40), (q87_54, bJ cA 40)]) hP hD [20] [0, 1, 2, 3, 4, 5, 6, 7, 8, 9, 10, 11, 12, 13, 14, 15, 16, 17, 18, 19] rfl rfl (by decide) (by decide) hk1 hFc hP1 hD1
  generalize H1 = H at hP hS ⊢
  have hP : va_P D rd_CL [(h0, .inr (4, [.ref q5, .ref q16, .ref q27, .null, .null, .null])), (q5, .inr (2, [.ref q7_9, .ref q15_9, .ref q23_9])), (q7_9, bI cA 12), (q15_9, bI cA 12), (q23_9, bI cA 12), (q16, .inr (1, [rd_i 0, .ref q7_20, .ref q15_20, .ref q23_20, .ref q31_20, .ref q39_20, .ref q47_20])), (q7_20, bI cA 40), (q15_20, bI cA 40), (q23_20, bI cA 40), (q31_20, bI cA 40), (q39_20, bZ cA 40), (q47_20, bI cA 40), (q27, .inr (3, [rd_i 0, .ref q7_31, .ref q15_31, .ref q23_31, .ref q31_31, .ref q39_31, .ref q47_31, .ref q55_31])), (q7_31, bI cA 10), (q15_31, bI cA 10), (q23_31, bJ cA 10), (q31_31, bJ cA 10), (q39_31, bJ cA 10), (q47_31, bJ cA 10), (q55_31, bI cA 60), (q38, .inr (0, [.ref q5, .ref q16, .ref q27, .ref q22_54, .ref q30_54, .ref q39_54, .ref q47_54, .ref q55_54, .ref q63_54, .ref q71_54, .ref q79_54, rd_i 0, .ref q87_54])), (q22_54, bZ cA 40), (q30_54, bI cA 40), (q39_54, bI cA 400), (q47_54, bJ cA 10), (q55_54, bI cA 100), (q63_54, bJ cA 12), (q71_54, bJ cA 10), (q79_54, bI cA 40), (q87_54, bJ cA 40)] H := hP
  have hD : va_D A [(h0, .inr (4, [.ref q5, .ref q16, .ref q27, .null, .null, .null])), (q5, .inr (2, [.ref q7_9, .ref q15_9, .ref q23_9])), (q7_9, bI cA 12), (q15_9, bI cA 12), (q23_9, bI cA 12), (q16, .inr (1, [rd_i 0, .ref q7_20, .ref q15_20, .ref q23_20, .ref q31_20, .ref q39_20, .ref q47_20])), (q7_20, bI cA 40), (q15_20, bI cA 40), (q23_20, bI cA 40), (q31_20, bI cA 40), (q39_20, bZ cA 40), (q47_20, bI cA 40), (q27, .inr (3, [rd_i 0, .ref q7_31, .ref q15_31, .ref q23_31, .ref q31_31, .ref q39_31, .ref q47_31, .ref q55_31])), (q7_31, bI cA 10), (q15_31, bI cA 10), (q23_31, bJ cA 10), (q31_31, bJ cA 10), (q39_31, bJ cA 10), (q47_31, bJ cA 10), (q55_31, bI cA 60), (q38, .inr (0, [.ref q5, .ref q16, .ref q27, .ref q22_54, .ref q30_54, .ref q39_54, .ref q47_54, .ref q55_54, .ref q63_54, .ref q71_54, .ref q79_54, rd_i 0, .ref q87_54])), (q22_54, bZ cA 40), (q30_54, bI cA 40), (q39_54, bI cA 400), (q47_54, bJ cA 10), (q55_54, bI cA 100), (q63_54, bJ cA 12), (q71_54, bJ cA 10), (q79_54, bI cA 40), (q87_54, bJ cA 40)] := hD
  refine W.widen (k := 29) (n := 1119) (Nat.le_of_ble_eq_true rfl) (Nat.le_of_ble_eq_true rfl) ?_
  refine va_putF (pc := 57) (D := D) (ci := 4) (v := .ref q38) (ty := .object "ReinsuranceDesk$Cession") (C := "ReinsuranceDesk") (T := rd_T4) (N := 6) hx hb hts (fun w h => List.mem_cons_of_mem _ (bw_B hB (bw_u4 w h))) rd_t4 rd_tt4 rd_nn4 hown hK hP hD hS 0 rfl rfl 3 (by decide) (hts (.fieldLink "ReinsuranceDesk" 35 "ReinsuranceDesk" "cession" "LReinsuranceDesk$Cession;") (List.mem_cons_of_mem _ (bw_B hB (bw_m (rd_m 181 (by decide +kernel)))))) (fun _ h9 => h9) rfl hin rfl (by decide +kernel) rfl rfl (Nat.le_of_ble_eq_true rfl) d_D_init_57 (fun H locs hP hD hS => ?_)
  have hP : va_P D rd_CL [(h0, .inr (4, [.ref q5, .ref q16, .ref q27, .ref q38, .null, .null])), (q5, .inr (2, [.ref q7_9, .ref q15_9, .ref q23_9])), (q7_9, bI cA 12), (q15_9, bI cA 12), (q23_9, bI cA 12), (q16, .inr (1, [rd_i 0, .ref q7_20, .ref q15_20, .ref q23_20, .ref q31_20, .ref q39_20, .ref q47_20])), (q7_20, bI cA 40), (q15_20, bI cA 40), (q23_20, bI cA 40), (q31_20, bI cA 40), (q39_20, bZ cA 40), (q47_20, bI cA 40), (q27, .inr (3, [rd_i 0, .ref q7_31, .ref q15_31, .ref q23_31, .ref q31_31, .ref q39_31, .ref q47_31, .ref q55_31])), (q7_31, bI cA 10), (q15_31, bI cA 10), (q23_31, bJ cA 10), (q31_31, bJ cA 10), (q39_31, bJ cA 10), (q47_31, bJ cA 10), (q55_31, bI cA 60), (q38, .inr (0, [.ref q5, .ref q16, .ref q27, .ref q22_54, .ref q30_54, .ref q39_54, .ref q47_54, .ref q55_54, .ref q63_54, .ref q71_54, .ref q79_54, rd_i 0, .ref q87_54])), (q22_54, bZ cA 40), (q30_54, bI cA 40), (q39_54, bI cA 400), (q47_54, bJ cA 10), (q55_54, bI cA 100), (q63_54, bJ cA 12), (q71_54, bJ cA 10), (q79_54, bI cA 40), (q87_54, bJ cA 40)] H := hP
  have hD : va_D A [(h0, .inr (4, [.ref q5, .ref q16, .ref q27, .ref q38, .null, .null])), (q5, .inr (2, [.ref q7_9, .ref q15_9, .ref q23_9])), (q7_9, bI cA 12), (q15_9, bI cA 12), (q23_9, bI cA 12), (q16, .inr (1, [rd_i 0, .ref q7_20, .ref q15_20, .ref q23_20, .ref q31_20, .ref q39_20, .ref q47_20])), (q7_20, bI cA 40), (q15_20, bI cA 40), (q23_20, bI cA 40), (q31_20, bI cA 40), (q39_20, bZ cA 40), (q47_20, bI cA 40), (q27, .inr (3, [rd_i 0, .ref q7_31, .ref q15_31, .ref q23_31, .ref q31_31, .ref q39_31, .ref q47_31, .ref q55_31])), (q7_31, bI cA 10), (q15_31, bI cA 10), (q23_31, bJ cA 10), (q31_31, bJ cA 10), (q39_31, bJ cA 10), (q47_31, bJ cA 10), (q55_31, bI cA 60), (q38, .inr (0, [.ref q5, .ref q16, .ref q27, .ref q22_54, .ref q30_54, .ref q39_54, .ref q47_54, .ref q55_54, .ref q63_54, .ref q71_54, .ref q79_54, rd_i 0, .ref q87_54])), (q22_54, bZ cA 40), (q30_54, bI cA 40), (q39_54, bI cA 400), (q47_54, bJ cA 10), (q55_54, bI cA 100), (q63_54, bJ cA 12), (q71_54, bJ cA 10), (q79_54, bI cA 40), (q87_54, bJ cA 40)] := hD
  refine lv_aload_n (pc := 60) hx hb d_D_init_60 rfl (lv_at hl 0 rfl) ?_
  refine lv_iconst (pc := 61) (v := Int32.ofInt 4) hx hb d_D_init_61 rfl ?_
  refine bd_newa (pc := 62) (atype := .boolean) (N' := 4) (a0 := (4, .inl (fun _ => Int32.ofInt 0))) hx hb (hts (.arrayClass .boolean) (List.mem_cons_of_mem _ (bw_B hB (bw_m (rd_m 85 (by decide +kernel)))))) (ty := .boolean) rfl 2 rfl (fun _ h => h) hK hP hD hS hA (bZ_ha 4) (by decide) (by decide) (by decide) (Nat.le_of_ble_eq_true rfl) (Nat.le_of_ble_eq_true rfl) d_D_init_62 (fun q62 H hP hD hS => ?_)
  have hP : va_P D rd_CL [(h0, .inr (4, [.ref q5, .ref q16, .ref q27, .ref q38, .null, .null])), (q5, .inr (2, [.ref q7_9, .ref q15_9, .ref q23_9])), (q7_9, bI cA 12), (q15_9, bI cA 12), (q23_9, bI cA 12), (q16, .inr (1, [rd_i 0, .ref q7_20, .ref q15_20, .ref q23_20, .ref q31_20, .ref q39_20, .ref q47_20])), (q7_20, bI cA 40), (q15_20, bI cA 40), (q23_20, bI cA 40), (q31_20, bI cA 40), (q39_20, bZ cA 40), (q47_20, bI cA 40), (q27, .inr (3, [rd_i 0, .ref q7_31, .ref q15_31, .ref q23_31, .ref q31_31, .ref q39_31, .ref q47_31, .ref q55_31])), (q7_31, bI cA 10), (q15_31, bI cA 10), (q23_31, bJ cA 10), (q31_31, bJ cA 10), (q39_31, bJ cA 10), (q47_31, bJ cA 10), (q55_31, bI cA 60), (q38, .inr (0, [.ref q5, .ref q16, .ref q27, .ref q22_54, .ref q30_54, .ref q39_54, .ref q47_54, .ref q55_54, .ref q63_54, .ref q71_54, .ref q79_54, rd_i 0, .ref q87_54])), (q22_54, bZ cA 40), (q30_54, bI cA 40), (q39_54, bI cA 400), (q47_54, bJ cA 10), (q55_54, bI cA 100), (q63_54, bJ cA 12), (q71_54, bJ cA 10), (q79_54, bI cA 40), (q87_54, bJ cA 40), (q62, bZ cA 4)] H := hP
  have hD : va_D A [(h0, .inr (4, [.ref q5, .ref q16, .ref q27, .ref q38, .null, .null])), (q5, .inr (2, [.ref q7_9, .ref q15_9, .ref q23_9])), (q7_9, bI cA 12), (q15_9, bI cA 12), (q23_9, bI cA 12), (q16, .inr (1, [rd_i 0, .ref q7_20, .ref q15_20, .ref q23_20, .ref q31_20, .ref q39_20, .ref q47_20])), (q7_20, bI cA 40), (q15_20, bI cA 40), (q23_20, bI cA 40), (q31_20, bI cA 40), (q39_20, bZ cA 40), (q47_20, bI cA 40), (q27, .inr (3, [rd_i 0, .ref q7_31, .ref q15_31, .ref q23_31, .ref q31_31, .ref q39_31, .ref q47_31, .ref q55_31])), (q7_31, bI cA 10), (q15_31, bI cA 10), (q23_31, bJ cA 10), (q31_31, bJ cA 10), (q39_31, bJ cA 10), (q47_31, bJ cA 10), (q55_31, bI cA 60), (q38, .inr (0, [.ref q5, .ref q16, .ref q27, .ref q22_54, .ref q30_54, .ref q39_54, .ref q47_54, .ref q55_54, .ref q63_54, .ref q71_54, .ref q79_54, rd_i 0, .ref q87_54])), (q22_54, bZ cA 40), (q30_54, bI cA 40), (q39_54, bI cA 400), (q47_54, bJ cA 10), (q55_54, bI cA 100), (q63_54, bJ cA 12), (q71_54, bJ cA 10), (q79_54, bI cA 40), (q87_54, bJ cA 40), (q62, bZ cA 4)] := hD
  refine W.widen (k := 30) (n := 1123) (Nat.le_of_ble_eq_true rfl) (Nat.le_of_ble_eq_true rfl) ?_
  refine va_putF (pc := 64) (D := D) (ci := 4) (v := .ref q62) (ty := .array .boolean) (C := "ReinsuranceDesk") (T := rd_T4) (N := 6) hx hb hts (fun w h => List.mem_cons_of_mem _ (bw_B hB (bw_u4 w h))) rd_t4 rd_tt4 rd_nn4 hown hK hP hD hS 0 rfl rfl 4 (by decide) (hts (.fieldLink "ReinsuranceDesk" 39 "ReinsuranceDesk" "closed" "[Z") (List.mem_cons_of_mem _ (bw_B hB (bw_m (rd_m 182 (by decide +kernel)))))) (fun _ h9 => h9) rfl hin rfl (by decide +kernel) rfl rfl (Nat.le_of_ble_eq_true rfl) d_D_init_64 (fun H locs hP hD hS => ?_)
  have hP : va_P D rd_CL [(h0, .inr (4, [.ref q5, .ref q16, .ref q27, .ref q38, .ref q62, .null])), (q5, .inr (2, [.ref q7_9, .ref q15_9, .ref q23_9])), (q7_9, bI cA 12), (q15_9, bI cA 12), (q23_9, bI cA 12), (q16, .inr (1, [rd_i 0, .ref q7_20, .ref q15_20, .ref q23_20, .ref q31_20, .ref q39_20, .ref q47_20])), (q7_20, bI cA 40), (q15_20, bI cA 40), (q23_20, bI cA 40), (q31_20, bI cA 40), (q39_20, bZ cA 40), (q47_20, bI cA 40), (q27, .inr (3, [rd_i 0, .ref q7_31, .ref q15_31, .ref q23_31, .ref q31_31, .ref q39_31, .ref q47_31, .ref q55_31])), (q7_31, bI cA 10), (q15_31, bI cA 10), (q23_31, bJ cA 10), (q31_31, bJ cA 10), (q39_31, bJ cA 10), (q47_31, bJ cA 10), (q55_31, bI cA 60), (q38, .inr (0, [.ref q5, .ref q16, .ref q27, .ref q22_54, .ref q30_54, .ref q39_54, .ref q47_54, .ref q55_54, .ref q63_54, .ref q71_54, .ref q79_54, rd_i 0, .ref q87_54])), (q22_54, bZ cA 40), (q30_54, bI cA 40), (q39_54, bI cA 400), (q47_54, bJ cA 10), (q55_54, bI cA 100), (q63_54, bJ cA 12), (q71_54, bJ cA 10), (q79_54, bI cA 40), (q87_54, bJ cA 40), (q62, bZ cA 4)] H := hP
  have hD : va_D A [(h0, .inr (4, [.ref q5, .ref q16, .ref q27, .ref q38, .ref q62, .null])), (q5, .inr (2, [.ref q7_9, .ref q15_9, .ref q23_9])), (q7_9, bI cA 12), (q15_9, bI cA 12), (q23_9, bI cA 12), (q16, .inr (1, [rd_i 0, .ref q7_20, .ref q15_20, .ref q23_20, .ref q31_20, .ref q39_20, .ref q47_20])), (q7_20, bI cA 40), (q15_20, bI cA 40), (q23_20, bI cA 40), (q31_20, bI cA 40), (q39_20, bZ cA 40), (q47_20, bI cA 40), (q27, .inr (3, [rd_i 0, .ref q7_31, .ref q15_31, .ref q23_31, .ref q31_31, .ref q39_31, .ref q47_31, .ref q55_31])), (q7_31, bI cA 10), (q15_31, bI cA 10), (q23_31, bJ cA 10), (q31_31, bJ cA 10), (q39_31, bJ cA 10), (q47_31, bJ cA 10), (q55_31, bI cA 60), (q38, .inr (0, [.ref q5, .ref q16, .ref q27, .ref q22_54, .ref q30_54, .ref q39_54, .ref q47_54, .ref q55_54, .ref q63_54, .ref q71_54, .ref q79_54, rd_i 0, .ref q87_54])), (q22_54, bZ cA 40), (q30_54, bI cA 40), (q39_54, bI cA 400), (q47_54, bJ cA 10), (q55_54, bI cA 100), (q63_54, bJ cA 12), (q71_54, bJ cA 10), (q79_54, bI cA 40), (q87_54, bJ cA 40), (q62, bZ cA 4)] := hD
  refine lv_aload_n (pc := 67) hx hb d_D_init_67 rfl (lv_at hl 0 rfl) ?_
  refine lv_bipush (pc := 68) (v := Int32.ofInt 6) hx hb d_D_init_68 rfl ?_
  refine bd_newa (pc := 70) (atype := .long) (N' := 6) (a0 := (6, .inr (.inl (fun _ => Int64.ofInt 0)))) hx hb (hts (.arrayClass .long) (List.mem_cons_of_mem _ (bw_B hB (bw_m (rd_m 126 (by decide +kernel)))))) (ty := .long) rfl 1 rfl (fun _ h => h) hK hP hD hS hA (bJ_ha 6) (by decide) (by decide) (by decide) (Nat.le_of_ble_eq_true rfl) (Nat.le_of_ble_eq_true rfl) d_D_init_70 (fun q70 H hP hD hS => ?_)
  have hP : va_P D rd_CL [(h0, .inr (4, [.ref q5, .ref q16, .ref q27, .ref q38, .ref q62, .null])), (q5, .inr (2, [.ref q7_9, .ref q15_9, .ref q23_9])), (q7_9, bI cA 12), (q15_9, bI cA 12), (q23_9, bI cA 12), (q16, .inr (1, [rd_i 0, .ref q7_20, .ref q15_20, .ref q23_20, .ref q31_20, .ref q39_20, .ref q47_20])), (q7_20, bI cA 40), (q15_20, bI cA 40), (q23_20, bI cA 40), (q31_20, bI cA 40), (q39_20, bZ cA 40), (q47_20, bI cA 40), (q27, .inr (3, [rd_i 0, .ref q7_31, .ref q15_31, .ref q23_31, .ref q31_31, .ref q39_31, .ref q47_31, .ref q55_31])), (q7_31, bI cA 10), (q15_31, bI cA 10), (q23_31, bJ cA 10), (q31_31, bJ cA 10), (q39_31, bJ cA 10), (q47_31, bJ cA 10), (q55_31, bI cA 60), (q38, .inr (0, [.ref q5, .ref q16, .ref q27, .ref q22_54, .ref q30_54, .ref q39_54, .ref q47_54, .ref q55_54, .ref q63_54, .ref q71_54, .ref q79_54, rd_i 0, .ref q87_54])), (q22_54, bZ cA 40), (q30_54, bI cA 40), (q39_54, bI cA 400), (q47_54, bJ cA 10), (q55_54, bI cA 100), (q63_54, bJ cA 12), (q71_54, bJ cA 10), (q79_54, bI cA 40), (q87_54, bJ cA 40), (q62, bZ cA 4), (q70, bJ cA 6)] H := hP
  have hD : va_D A [(h0, .inr (4, [.ref q5, .ref q16, .ref q27, .ref q38, .ref q62, .null])), (q5, .inr (2, [.ref q7_9, .ref q15_9, .ref q23_9])), (q7_9, bI cA 12), (q15_9, bI cA 12), (q23_9, bI cA 12), (q16, .inr (1, [rd_i 0, .ref q7_20, .ref q15_20, .ref q23_20, .ref q31_20, .ref q39_20, .ref q47_20])), (q7_20, bI cA 40), (q15_20, bI cA 40), (q23_20, bI cA 40), (q31_20, bI cA 40), (q39_20, bZ cA 40), (q47_20, bI cA 40), (q27, .inr (3, [rd_i 0, .ref q7_31, .ref q15_31, .ref q23_31, .ref q31_31, .ref q39_31, .ref q47_31, .ref q55_31])), (q7_31, bI cA 10), (q15_31, bI cA 10), (q23_31, bJ cA 10), (q31_31, bJ cA 10), (q39_31, bJ cA 10), (q47_31, bJ cA 10), (q55_31, bI cA 60), (q38, .inr (0, [.ref q5, .ref q16, .ref q27, .ref q22_54, .ref q30_54, .ref q39_54, .ref q47_54, .ref q55_54, .ref q63_54, .ref q71_54, .ref q79_54, rd_i 0, .ref q87_54])), (q22_54, bZ cA 40), (q30_54, bI cA 40), (q39_54, bI cA 400), (q47_54, bJ cA 10), (q55_54, bI cA 100), (q63_54, bJ cA 12), (q71_54, bJ cA 10), (q79_54, bI cA 40), (q87_54, bJ cA 40), (q62, bZ cA 4), (q70, bJ cA 6)] := hD
  refine W.widen (k := 31) (n := 1129) (Nat.le_of_ble_eq_true rfl) (Nat.le_of_ble_eq_true rfl) ?_
  refine va_putF (pc := 72) (D := D) (ci := 4) (v := .ref q70) (ty := .array .long) (C := "ReinsuranceDesk") (T := rd_T4) (N := 6) hx hb hts (fun w h => List.mem_cons_of_mem _ (bw_B hB (bw_u4 w h))) rd_t4 rd_tt4 rd_nn4 hown hK hP hD hS 0 rfl rfl 5 (by decide) (hts (.fieldLink "ReinsuranceDesk" 43 "ReinsuranceDesk" "billed" "[J") (List.mem_cons_of_mem _ (bw_B hB (bw_m (rd_m 183 (by decide +kernel)))))) (fun _ h9 => h9) rfl hin rfl (by decide +kernel) rfl rfl (Nat.le_of_ble_eq_true rfl) d_D_init_72 (fun H locs hP hD hS => ?_)
  have hP : va_P D rd_CL [(h0, .inr (4, [.ref q5, .ref q16, .ref q27, .ref q38, .ref q62, .ref q70])), (q5, .inr (2, [.ref q7_9, .ref q15_9, .ref q23_9])), (q7_9, bI cA 12), (q15_9, bI cA 12), (q23_9, bI cA 12), (q16, .inr (1, [rd_i 0, .ref q7_20, .ref q15_20, .ref q23_20, .ref q31_20, .ref q39_20, .ref q47_20])), (q7_20, bI cA 40), (q15_20, bI cA 40), (q23_20, bI cA 40), (q31_20, bI cA 40), (q39_20, bZ cA 40), (q47_20, bI cA 40), (q27, .inr (3, [rd_i 0, .ref q7_31, .ref q15_31, .ref q23_31, .ref q31_31, .ref q39_31, .ref q47_31, .ref q55_31])), (q7_31, bI cA 10), (q15_31, bI cA 10), (q23_31, bJ cA 10), (q31_31, bJ cA 10), (q39_31, bJ cA 10), (q47_31, bJ cA 10), (q55_31, bI cA 60), (q38, .inr (0, [.ref q5, .ref q16, .ref q27, .ref q22_54, .ref q30_54, .ref q39_54, .ref q47_54, .ref q55_54, .ref q63_54, .ref q71_54, .ref q79_54, rd_i 0, .ref q87_54])), (q22_54, bZ cA 40), (q30_54, bI cA 40), (q39_54, bI cA 400), (q47_54, bJ cA 10), (q55_54, bI cA 100), (q63_54, bJ cA 12), (q71_54, bJ cA 10), (q79_54, bI cA 40), (q87_54, bJ cA 40), (q62, bZ cA 4), (q70, bJ cA 6)] H := hP
  have hD : va_D A [(h0, .inr (4, [.ref q5, .ref q16, .ref q27, .ref q38, .ref q62, .ref q70])), (q5, .inr (2, [.ref q7_9, .ref q15_9, .ref q23_9])), (q7_9, bI cA 12), (q15_9, bI cA 12), (q23_9, bI cA 12), (q16, .inr (1, [rd_i 0, .ref q7_20, .ref q15_20, .ref q23_20, .ref q31_20, .ref q39_20, .ref q47_20])), (q7_20, bI cA 40), (q15_20, bI cA 40), (q23_20, bI cA 40), (q31_20, bI cA 40), (q39_20, bZ cA 40), (q47_20, bI cA 40), (q27, .inr (3, [rd_i 0, .ref q7_31, .ref q15_31, .ref q23_31, .ref q31_31, .ref q39_31, .ref q47_31, .ref q55_31])), (q7_31, bI cA 10), (q15_31, bI cA 10), (q23_31, bJ cA 10), (q31_31, bJ cA 10), (q39_31, bJ cA 10), (q47_31, bJ cA 10), (q55_31, bI cA 60), (q38, .inr (0, [.ref q5, .ref q16, .ref q27, .ref q22_54, .ref q30_54, .ref q39_54, .ref q47_54, .ref q55_54, .ref q63_54, .ref q71_54, .ref q79_54, rd_i 0, .ref q87_54])), (q22_54, bZ cA 40), (q30_54, bI cA 40), (q39_54, bI cA 400), (q47_54, bJ cA 10), (q55_54, bI cA 100), (q63_54, bJ cA 12), (q71_54, bJ cA 10), (q79_54, bI cA 40), (q87_54, bJ cA 40), (q62, bZ cA 4), (q70, bJ cA 6)] := hD
  exact W.vret (pc := 75) hx hb hr (fun t ht hW => ⟨⟨(), rfl, trivial, q5, q7_9, q15_9, q23_9, q16, q7_20, q15_20, q23_20, q31_20, q39_20, q47_20, q27, q7_31, q15_31, q23_31, q31_31, q39_31, q47_31, q55_31, q38, q22_54, q30_54, q39_54, q47_54, q55_54, q63_54, q71_54, q79_54, q87_54, q62, q70, by rw [ht]; exact hP, va_K.moved hW.alike hK, hD⟩, hS.F ht⟩) hS.2.2 d_D_init_75
/-- what the constructor of ReinsuranceDeskModel leaves -/
def at_M (D : va_G) (cA : Nat → ClassId) (A : Nat → Prop) (h0 : Nat) (_ : Unit) (t : State) : Prop := ∃ (q7 q15 q23 q31 q39 q47 q55 q63 q71 q79 q87 q95 q103 q111 q119 q126 q134 q143 q151 q159 q167 q175 q183 q191 q199 : Nat), va_P D rd_CL [(h0, .inr (5, [rd_i 0, .ref q7, .ref q15, .ref q23, .ref q31, .ref q39, .ref q47, .ref q55, .ref q63, rd_i 0, .ref q71, .ref q79, .ref q87, .ref q95, .ref q103, rd_i 0, .ref q111, .ref q119, .ref q126, .ref q134, .ref q143, .ref q151, .ref q159, .ref q167, .ref q175, .ref q183, .ref q191, .ref q199, rd_l 0, rd_l 0])), (q7, bI cA 12), (q15, bI cA 12), (q23, bI cA 12), (q31, bI cA 40), (q39, bI cA 40), (q47, bI cA 40), (q55, bI cA 40), (q63, bZ cA 40), (q71, bI cA 10), (q79, bI cA 10), (q87, bI cA 10), (q95, bI cA 10), (q103, bI cA 10), (q111, bI cA 60), (q119, bJ cA 6), (q126, bZ cA 4), (q134, bJ cA 40), (q143, bJ cA 400), (q151, bJ cA 10), (q159, bJ cA 10), (q167, bI cA 100), (q175, bJ cA 12), (q183, bZ cA 40), (q191, bJ cA 40), (q199, bI cA 40)] t.heap ∧ va_K D rd_CL (rd_ty cA) t ∧ va_D A [(h0, .inr (5, [rd_i 0, .ref q7, .ref q15, .ref q23, .ref q31, .ref q39, .ref q47, .ref q55, .ref q63, rd_i 0, .ref q71, .ref q79, .ref q87, .ref q95, .ref q103, rd_i 0, .ref q111, .ref q119, .ref q126, .ref q134, .ref q143, .ref q151, .ref q159, .ref q167, .ref q175, .ref q183, .ref q191, .ref q199, rd_l 0, rd_l 0])), (q7, bI cA 12), (q15, bI cA 12), (q23, bI cA 12), (q31, bI cA 40), (q39, bI cA 40), (q47, bI cA 40), (q55, bI cA 40), (q63, bZ cA 40), (q71, bI cA 10), (q79, bI cA 10), (q87, bI cA 10), (q95, bI cA 10), (q103, bI cA 10), (q111, bI cA 60), (q119, bJ cA 6), (q126, bZ cA 4), (q134, bJ cA 40), (q143, bJ cA 400), (q151, bJ cA 10), (q159, bJ cA 10), (q167, bI cA 100), (q175, bJ cA 12), (q183, bZ cA 40), (q191, bJ cA 40), (q199, bI cA 40)]
set_option maxHeartbeats 4000000 in
set_option maxRecDepth 100000 in
theorem e_M_init {B : List Cond} (hB : B = bw) (l : Launch) (D : va_G) (cA : Nat → ClassId) (h0 : Nat) (sz : Nat) : Met l y_M_init (.code y_M_init c_M_init 1 none :: B) ({ frames := 1, cells := 25, slots := 1048, locals := 12 }) (va_Pc [.ref h0] (fun U => U.heap.size = sz ∧ va_P D rd_CL [(h0, .inr (5, [rd_i 0, .null, .null, .null, .null, .null, .null, .null, .null, rd_i 0, .null, .null, .null, .null, .null, rd_i 0, .null, .null, .null, .null, .null, .null, .null, .null, .null, .null, .null, .null, rd_l 0, rd_l 0]))] U.heap ∧ va_K D rd_CL (rd_ty cA) U ∧ va_D (fun _ => True) [(h0, .inr (5, [rd_i 0, .null, .null, .null, .null, .null, .null, .null, .null, rd_i 0, .null, .null, .null, .null, .null, rd_i 0, .null, .null, .null, .null, .null, .null, .null, .null, .null, .null, .null, .null, rd_l 0, rd_l 0]))])) (va_Qv (fun _ : Unit => True) (at_M D cA (va_A [(h0, .inr (5, [rd_i 0, .null, .null, .null, .null, .null, .null, .null, .null, rd_i 0, .null, .null, .null, .null, .null, rd_i 0, .null, .null, .null, .null, .null, .null, .null, .null, .null, .null, .null, .null, rd_l 0, rd_l 0]))] sz) h0) (va_A [(h0, .inr (5, [rd_i 0, .null, .null, .null, .null, .null, .null, .null, .null, rd_i 0, .null, .null, .null, .null, .null, rd_i 0, .null, .null, .null, .null, .null, .null, .null, .null, .null, .null, .null, .null, rd_l 0, rd_l 0]))] sz)) 25 1048 (va_A [(h0, .inr (5, [rd_i 0, .null, .null, .null, .null, .null, .null, .null, .null, rd_i 0, .null, .null, .null, .null, .null, rd_i 0, .null, .null, .null, .null, .null, .null, .null, .null, .null, .null, .null, .null, rd_l 0, rd_l 0]))] sz) := by
  refine Met.ofW (cc := c_M_init) (maxL := 1) (ret := none) (by decide) rfl ?_
  intro p e s m args below meth c s₁ BB hml hv
  obtain ⟨rfl, hsz, hP, hK, hD0⟩ := hv
  have hx := BB.exec
  have hb := BB.bytes
  have hr := BB.returns
  have hts := atoms_spec (ws := .code y_M_init c_M_init 1 none :: B) BB.pre
  have hown : s.vm.findClass "ReinsuranceDeskModel" = some m.cls := findClass_of_methodNamed BB.named
  have hlocks := BB.notSynchronized
  have hin : meth.name = "<init>" := (name_of_methodNamed BB.named BB.method).1
  subst hsz
  have hD := hD0.self (sz := s.heap.size)
  generalize hAe : va_A [(h0, .inr (5, [rd_i 0, .null, .null, .null, .null, .null, .null, .null, .null, rd_i 0, .null, .null, .null, .null, .null, rd_i 0, .null, .null, .null, .null, .null, .null, .null, .null, .null, .null, .null, .null, rd_l 0, rd_l 0]))] s.heap.size = A at hD ⊢
  have hA : ∀ q : Nat, s.heap.size ≤ q → A q := fun q h => by rw [← hAe]; exact Or.inr h
  have hS : va_S A s.heap s.heap [] := va_S.rf
  have hP : va_P D rd_CL [(h0, .inr (5, [rd_i 0, .null, .null, .null, .null, .null, .null, .null, .null, rd_i 0, .null, .null, .null, .null, .null, rd_i 0, .null, .null, .null, .null, .null, .null, .null, .null, .null, .null, .null, .null, rd_l 0, rd_l 0]))] s.heap := hP
  have hl := lv_entry ([.ref h0]) (n := 1) (Nat.le_of_ble_eq_true rfl)
  rw [lg_entry_eq]
  generalize (lg_sl ([.ref h0]) ++ List.replicate (1 - (lg_sl ([.ref h0])).length) Slot.unset).toArray = ls at hl ⊢
  have hl : lv_has ls 1 [(0, .ref h0)] := hl
  refine lv_aload_n (pc := 0) hx hb d_M_init_0 rfl (lv_at hl 0 rfl) ?_
  refine W.objInit hx hb hown (hts (.methodLink "ReinsuranceDeskModel" 1 objectInit) (List.mem_cons_of_mem _ (bw_B hB (bw_m (rd_m 613 (by decide +kernel)))))) (hts (.instanceMethod objectInit) (List.mem_cons_of_mem _ (bw_B hB (bw_m (rd_m 20 (by decide +kernel)))))) (hts _ (List.mem_cons_of_mem _ (bw_B hB bw_obj))) rfl (by rw [hml]; exact hl.1) rfl d_M_init_1 (Nat.le_of_ble_eq_true rfl) (Nat.le_of_ble_eq_true rfl) ?_
  refine W.eq (g2 := F0 m 4 ls []) rfl ?_
  refine lv_aload_n (pc := 4) hx hb d_M_init_4 rfl (lv_at hl 0 rfl) ?_
  refine lv_bipush (pc := 5) (v := Int32.ofInt 12) hx hb d_M_init_5 rfl ?_
  refine bd_newa (pc := 7) (atype := .int) (N' := 12) (a0 := (12, .inl (fun _ => Int32.ofInt 0))) hx hb (hts (.arrayClass .int) (List.mem_cons_of_mem _ (bw_B hB (bw_m (rd_m 44 (by decide +kernel)))))) (ty := .int) rfl 0 rfl (fun _ h => h) hK hP hD hS hA (bI_ha 12) (by decide) (by decide) (by decide) (Nat.le_of_ble_eq_true rfl) (Nat.le_of_ble_eq_true rfl) d_M_init_7 (fun q7 H hP hD hS => ?_)
  have hP : va_P D rd_CL [(h0, .inr (5, [rd_i 0, .null, .null, .null, .null, .null, .null, .null, .null, rd_i 0, .null, .null, .null, .null, .null, rd_i 0, .null, .null, .null, .null, .null, .null, .null, .null, .null, .null, .null, .null, rd_l 0, rd_l 0])), (q7, bI cA 12)] H := hP
  have hD : va_D A [(h0, .inr (5, [rd_i 0, .null, .null, .null, .null, .null, .null, .null, .null, rd_i 0, .null, .null, .null, .null, .null, rd_i 0, .null, .null, .null, .null, .null, .null, .null, .null, .null, .null, .null, .null, rd_l 0, rd_l 0])), (q7, bI cA 12)] := hD
  refine W.widen (k := 1) (n := 12) (Nat.le_of_ble_eq_true rfl) (Nat.le_of_ble_eq_true rfl) ?_
  refine va_putF (pc := 9) (D := D) (ci := 5) (v := .ref q7) (ty := .array .int) (C := "ReinsuranceDeskModel") (T := rd_T5) (N := 30) hx hb hts (fun w h => List.mem_cons_of_mem _ (bw_B hB (bw_u5 w h))) rd_t5 rd_tt5 rd_nn5 hown hK hP hD hS 0 rfl rfl 1 (by decide) (hts (.fieldLink "ReinsuranceDeskModel" 7 "ReinsuranceDeskModel" "sum" "[I") (List.mem_cons_of_mem _ (bw_B hB (bw_m (rd_m 615 (by decide +kernel)))))) (fun _ h9 => h9) rfl hin rfl (by decide +kernel) rfl rfl (Nat.le_of_ble_eq_true rfl) d_M_init_9 (fun H locs hP hD hS => ?_)
  have hP : va_P D rd_CL [(h0, .inr (5, [rd_i 0, .ref q7, .null, .null, .null, .null, .null, .null, .null, rd_i 0, .null, .null, .null, .null, .null, rd_i 0, .null, .null, .null, .null, .null, .null, .null, .null, .null, .null, .null, .null, rd_l 0, rd_l 0])), (q7, bI cA 12)] H := hP
  have hD : va_D A [(h0, .inr (5, [rd_i 0, .ref q7, .null, .null, .null, .null, .null, .null, .null, rd_i 0, .null, .null, .null, .null, .null, rd_i 0, .null, .null, .null, .null, .null, .null, .null, .null, .null, .null, .null, .null, rd_l 0, rd_l 0])), (q7, bI cA 12)] := hD
  refine lv_aload_n (pc := 12) hx hb d_M_init_12 rfl (lv_at hl 0 rfl) ?_
  refine lv_bipush (pc := 13) (v := Int32.ofInt 12) hx hb d_M_init_13 rfl ?_
  refine bd_newa (pc := 15) (atype := .int) (N' := 12) (a0 := (12, .inl (fun _ => Int32.ofInt 0))) hx hb (hts (.arrayClass .int) (List.mem_cons_of_mem _ (bw_B hB (bw_m (rd_m 44 (by decide +kernel)))))) (ty := .int) rfl 0 rfl (fun _ h => h) hK hP hD hS hA (bI_ha 12) (by decide) (by decide) (by decide) (Nat.le_of_ble_eq_true rfl) (Nat.le_of_ble_eq_true rfl) d_M_init_15 (fun q15 H hP hD hS => ?_)
  have hP : va_P D rd_CL [(h0, .inr (5, [rd_i 0, .ref q7, .null, .null, .null, .null, .null, .null, .null, rd_i 0, .null, .null, .null, .null, .null, rd_i 0, .null, .null, .null, .null, .null, .null, .null, .null, .null, .null, .null, .null, rd_l 0, rd_l 0])), (q7, bI cA 12), (q15, bI cA 12)] H := hP
  have hD : va_D A [(h0, .inr (5, [rd_i 0, .ref q7, .null, .null, .null, .null, .null, .null, .null, rd_i 0, .null, .null, .null, .null, .null, rd_i 0, .null, .null, .null, .null, .null, .null, .null, .null, .null, .null, .null, .null, rd_l 0, rd_l 0])), (q7, bI cA 12), (q15, bI cA 12)] := hD
  refine W.widen (k := 2) (n := 24) (Nat.le_of_ble_eq_true rfl) (Nat.le_of_ble_eq_true rfl) ?_
  refine va_putF (pc := 17) (D := D) (ci := 5) (v := .ref q15) (ty := .array .int) (C := "ReinsuranceDeskModel") (T := rd_T5) (N := 30) hx hb hts (fun w h => List.mem_cons_of_mem _ (bw_B hB (bw_u5 w h))) rd_t5 rd_tt5 rd_nn5 hown hK hP hD hS 0 rfl rfl 2 (by decide) (hts (.fieldLink "ReinsuranceDeskModel" 13 "ReinsuranceDeskModel" "premium" "[I") (List.mem_cons_of_mem _ (bw_B hB (bw_m (rd_m 616 (by decide +kernel)))))) (fun _ h9 => h9) rfl hin rfl (by decide +kernel) rfl rfl (Nat.le_of_ble_eq_true rfl) d_M_init_17 (fun H locs hP hD hS => ?_)
  have hP : va_P D rd_CL [(h0, .inr (5, [rd_i 0, .ref q7, .ref q15, .null, .null, .null, .null, .null, .null, rd_i 0, .null, .null, .null, .null, .null, rd_i 0, .null, .null, .null, .null, .null, .null, .null, .null, .null, .null, .null, .null, rd_l 0, rd_l 0])), (q7, bI cA 12), (q15, bI cA 12)] H := hP
  have hD : va_D A [(h0, .inr (5, [rd_i 0, .ref q7, .ref q15, .null, .null, .null, .null, .null, .null, rd_i 0, .null, .null, .null, .null, .null, rd_i 0, .null, .null, .null, .null, .null, .null, .null, .null, .null, .null, .null, .null, rd_l 0, rd_l 0])), (q7, bI cA 12), (q15, bI cA 12)] := hD
  refine lv_aload_n (pc := 20) hx hb d_M_init_20 rfl (lv_at hl 0 rfl) ?_
  refine lv_bipush (pc := 21) (v := Int32.ofInt 12) hx hb d_M_init_21 rfl ?_
  refine bd_newa (pc := 23) (atype := .int) (N' := 12) (a0 := (12, .inl (fun _ => Int32.ofInt 0))) hx hb (hts (.arrayClass .int) (List.mem_cons_of_mem _ (bw_B hB (bw_m (rd_m 44 (by decide +kernel)))))) (ty := .int) rfl 0 rfl (fun _ h => h) hK hP hD hS hA (bI_ha 12) (by decide) (by decide) (by decide) (Nat.le_of_ble_eq_true rfl) (Nat.le_of_ble_eq_true rfl) d_M_init_23 (fun q23 H hP hD hS => ?_)
  have hP : va_P D rd_CL [(h0, .inr (5, [rd_i 0, .ref q7, .ref q15, .null, .null, .null, .null, .null, .null, rd_i 0, .null, .null, .null, .null, .null, rd_i 0, .null, .null, .null, .null, .null, .null, .null, .null, .null, .null, .null, .null, rd_l 0, rd_l 0])), (q7, bI cA 12), (q15, bI cA 12), (q23, bI cA 12)] H := hP
  have hD : va_D A [(h0, .inr (5, [rd_i 0, .ref q7, .ref q15, .null, .null, .null, .null, .null, .null, rd_i 0, .null, .null, .null, .null, .null, rd_i 0, .null, .null, .null, .null, .null, .null, .null, .null, .null, .null, .null, .null, rd_l 0, rd_l 0])), (q7, bI cA 12), (q15, bI cA 12), (q23, bI cA 12)] := hD
  refine W.widen (k := 3) (n := 36) (Nat.le_of_ble_eq_true rfl) (Nat.le_of_ble_eq_true rfl) ?_
  refine va_putF (pc := 25) (D := D) (ci := 5) (v := .ref q23) (ty := .array .int) (C := "ReinsuranceDeskModel") (T := rd_T5) (N := 30) hx hb hts (fun w h => List.mem_cons_of_mem _ (bw_B hB (bw_u5 w h))) rd_t5 rd_tt5 rd_nn5 hown hK hP hD hS 0 rfl rfl 3 (by decide) (hts (.fieldLink "ReinsuranceDeskModel" 16 "ReinsuranceDeskModel" "yearOf" "[I") (List.mem_cons_of_mem _ (bw_B hB (bw_m (rd_m 617 (by decide +kernel)))))) (fun _ h9 => h9) rfl hin rfl (by decide +kernel) rfl rfl (Nat.le_of_ble_eq_true rfl) d_M_init_25 (fun H locs hP hD hS => ?_)
  have hP : va_P D rd_CL [(h0, .inr (5, [rd_i 0, .ref q7, .ref q15, .ref q23, .null, .null, .null, .null, .null, rd_i 0, .null, .null, .null, .null, .null, rd_i 0, .null, .null, .null, .null, .null, .null, .null, .null, .null, .null, .null, .null, rd_l 0, rd_l 0])), (q7, bI cA 12), (q15, bI cA 12), (q23, bI cA 12)] H := hP
  have hD : va_D A [(h0, .inr (5, [rd_i 0, .ref q7, .ref q15, .ref q23, .null, .null, .null, .null, .null, rd_i 0, .null, .null, .null, .null, .null, rd_i 0, .null, .null, .null, .null, .null, .null, .null, .null, .null, .null, .null, .null, rd_l 0, rd_l 0])), (q7, bI cA 12), (q15, bI cA 12), (q23, bI cA 12)] := hD
  refine lv_aload_n (pc := 28) hx hb d_M_init_28 rfl (lv_at hl 0 rfl) ?_
  refine lv_bipush (pc := 29) (v := Int32.ofInt 40) hx hb d_M_init_29 rfl ?_
  refine bd_newa (pc := 31) (atype := .int) (N' := 40) (a0 := (40, .inl (fun _ => Int32.ofInt 0))) hx hb (hts (.arrayClass .int) (List.mem_cons_of_mem _ (bw_B hB (bw_m (rd_m 44 (by decide +kernel)))))) (ty := .int) rfl 0 rfl (fun _ h => h) hK hP hD hS hA (bI_ha 40) (by decide) (by decide) (by decide) (Nat.le_of_ble_eq_true rfl) (Nat.le_of_ble_eq_true rfl) d_M_init_31 (fun q31 H hP hD hS => ?_)
  have hP : va_P D rd_CL [(h0, .inr (5, [rd_i 0, .ref q7, .ref q15, .ref q23, .null, .null, .null, .null, .null, rd_i 0, .null, .null, .null, .null, .null, rd_i 0, .null, .null, .null, .null, .null, .null, .null, .null, .null, .null, .null, .null, rd_l 0, rd_l 0])), (q7, bI cA 12), (q15, bI cA 12), (q23, bI cA 12), (q31, bI cA 40)] H := hP
  have hD : va_D A [(h0, .inr (5, [rd_i 0, .ref q7, .ref q15, .ref q23, .null, .null, .null, .null, .null, rd_i 0, .null, .null, .null, .null, .null, rd_i 0, .null, .null, .null, .null, .null, .null, .null, .null, .null, .null, .null, .null, rd_l 0, rd_l 0])), (q7, bI cA 12), (q15, bI cA 12), (q23, bI cA 12), (q31, bI cA 40)] := hD
  refine W.widen (k := 4) (n := 76) (Nat.le_of_ble_eq_true rfl) (Nat.le_of_ble_eq_true rfl) ?_
  refine va_putF (pc := 33) (D := D) (ci := 5) (v := .ref q31) (ty := .array .int) (C := "ReinsuranceDeskModel") (T := rd_T5) (N := 30) hx hb hts (fun w h => List.mem_cons_of_mem _ (bw_B hB (bw_u5 w h))) rd_t5 rd_tt5 rd_nn5 hown hK hP hD hS 0 rfl rfl 4 (by decide) (hts (.fieldLink "ReinsuranceDeskModel" 19 "ReinsuranceDeskModel" "risk" "[I") (List.mem_cons_of_mem _ (bw_B hB (bw_m (rd_m 618 (by decide +kernel)))))) (fun _ h9 => h9) rfl hin rfl (by decide +kernel) rfl rfl (Nat.le_of_ble_eq_true rfl) d_M_init_33 (fun H locs hP hD hS => ?_)
  have hP : va_P D rd_CL [(h0, .inr (5, [rd_i 0, .ref q7, .ref q15, .ref q23, .ref q31, .null, .null, .null, .null, rd_i 0, .null, .null, .null, .null, .null, rd_i 0, .null, .null, .null, .null, .null, .null, .null, .null, .null, .null, .null, .null, rd_l 0, rd_l 0])), (q7, bI cA 12), (q15, bI cA 12), (q23, bI cA 12), (q31, bI cA 40)] H := hP
  have hD : va_D A [(h0, .inr (5, [rd_i 0, .ref q7, .ref q15, .ref q23, .ref q31, .null, .null, .null, .null, rd_i 0, .null, .null, .null, .null, .null, rd_i 0, .null, .null, .null, .null, .null, .null, .null, .null, .null, .null, .null, .null, rd_l 0, rd_l 0])), (q7, bI cA 12), (q15, bI cA 12), (q23, bI cA 12), (q31, bI cA 40)] := hD
  refine lv_aload_n (pc := 36) hx hb d_M_init_36 rfl (lv_at hl 0 rfl) ?_
  refine lv_bipush (pc := 37) (v := Int32.ofInt 40) hx hb d_M_init_37 rfl ?_
  refine bd_newa (pc := 39) (atype := .int) (N' := 40) (a0 := (40, .inl (fun _ => Int32.ofInt 0))) hx hb (hts (.arrayClass .int) (List.mem_cons_of_mem _ (bw_B hB (bw_m (rd_m 44 (by decide +kernel)))))) (ty := .int) rfl 0 rfl (fun _ h => h) hK hP hD hS hA (bI_ha 40) (by decide) (by decide) (by decide) (Nat.le_of_ble_eq_true rfl) (Nat.le_of_ble_eq_true rfl) d_M_init_39 (fun q39 H hP hD hS => ?_)
  have hP : va_P D rd_CL [(h0, .inr (5, [rd_i 0, .ref q7, .ref q15, .ref q23, .ref q31, .null, .null, .null, .null, rd_i 0, .null, .null, .null, .null, .null, rd_i 0, .null, .null, .null, .null, .null, .null, .null, .null, .null, .null, .null, .null, rd_l 0, rd_l 0])), (q7, bI cA 12), (q15, bI cA 12), (q23, bI cA 12), (q31, bI cA 40), (q39, bI cA 40)] H := hP
  have hD : va_D A [(h0, .inr (5, [rd_i 0, .ref q7, .ref q15, .ref q23, .ref q31, .null, .null, .null, .null, rd_i 0, .null, .null, .null, .null, .null, rd_i 0, .null, .null, .null, .null, .null, .null, .null, .null, .null, .null, .null, .null, rd_l 0, rd_l 0])), (q7, bI cA 12), (q15, bI cA 12), (q23, bI cA 12), (q31, bI cA 40), (q39, bI cA 40)] := hD
  refine W.widen (k := 5) (n := 116) (Nat.le_of_ble_eq_true rfl) (Nat.le_of_ble_eq_true rfl) ?_
  refine va_putF (pc := 41) (D := D) (ci := 5) (v := .ref q39) (ty := .array .int) (C := "ReinsuranceDeskModel") (T := rd_T5) (N := 30) hx hb hts (fun w h => List.mem_cons_of_mem _ (bw_B hB (bw_u5 w h))) rd_t5 rd_tt5 rd_nn5 hown hK hP hD hS 0 rfl rfl 5 (by decide) (hts (.fieldLink "ReinsuranceDeskModel" 22 "ReinsuranceDeskModel" "event" "[I") (List.mem_cons_of_mem _ (bw_B hB (bw_m (rd_m 619 (by decide +kernel)))))) (fun _ h9 => h9) rfl hin rfl (by decide +kernel) rfl rfl (Nat.le_of_ble_eq_true rfl) d_M_init_41 (fun H locs hP hD hS => ?_)
  have hP : va_P D rd_CL [(h0, .inr (5, [rd_i 0, .ref q7, .ref q15, .ref q23, .ref q31, .ref q39, .null, .null, .null, rd_i 0, .null, .null, .null, .null, .null, rd_i 0, .null, .null, .null, .null, .null, .null, .null, .null, .null, .null, .null, .null, rd_l 0, rd_l 0])), (q7, bI cA 12), (q15, bI cA 12), (q23, bI cA 12), (q31, bI cA 40), (q39, bI cA 40)] H := hP
  have hD : va_D A [(h0, .inr (5, [rd_i 0, .ref q7, .ref q15, .ref q23, .ref q31, .ref q39, .null, .null, .null, rd_i 0, .null, .null, .null, .null, .null, rd_i 0, .null, .null, .null, .null, .null, .null, .null, .null, .null, .null, .null, .null, rd_l 0, rd_l 0])), (q7, bI cA 12), (q15, bI cA 12), (q23, bI cA 12), (q31, bI cA 40), (q39, bI cA 40)] := hD
  refine lv_aload_n (pc := 44) hx hb d_M_init_44 rfl (lv_at hl 0 rfl) ?_
  refine lv_bipush (pc := 45) (v := Int32.ofInt 40) hx hb d_M_init_45 rfl ?_
  refine bd_newa (pc := 47) (atype := .int) (N' := 40) (a0 := (40, .inl (fun _ => Int32.ofInt 0))) hx hb (hts (.arrayClass .int) (List.mem_cons_of_mem _ (bw_B hB (bw_m (rd_m 44 (by decide +kernel)))))) (ty := .int) rfl 0 rfl (fun _ h => h) hK hP hD hS hA (bI_ha 40) (by decide) (by decide) (by decide) (Nat.le_of_ble_eq_true rfl) (Nat.le_of_ble_eq_true rfl) d_M_init_47 (fun q47 H hP hD hS => ?_)
  have hP : va_P D rd_CL [(h0, .inr (5, [rd_i 0, .ref q7, .ref q15, .ref q23, .ref q31, .ref q39, .null, .null, .null, rd_i 0, .null, .null, .null, .null, .null, rd_i 0, .null, .null, .null, .null, .null, .null, .null, .null, .null, .null, .null, .null, rd_l 0, rd_l 0])), (q7, bI cA 12), (q15, bI cA 12), (q23, bI cA 12), (q31, bI cA 40), (q39, bI cA 40), (q47, bI cA 40)] H := hP
  have hD : va_D A [(h0, .inr (5, [rd_i 0, .ref q7, .ref q15, .ref q23, .ref q31, .ref q39, .null, .null, .null, rd_i 0, .null, .null, .null, .null, .null, rd_i 0, .null, .null, .null, .null, .null, .null, .null, .null, .null, .null, .null, .null, rd_l 0, rd_l 0])), (q7, bI cA 12), (q15, bI cA 12), (q23, bI cA 12), (q31, bI cA 40), (q39, bI cA 40), (q47, bI cA 40)] := hD
  refine W.widen (k := 6) (n := 156) (Nat.le_of_ble_eq_true rfl) (Nat.le_of_ble_eq_true rfl) ?_
  refine va_putF (pc := 49) (D := D) (ci := 5) (v := .ref q47) (ty := .array .int) (C := "ReinsuranceDeskModel") (T := rd_T5) (N := 30) hx hb hts (fun w h => List.mem_cons_of_mem _ (bw_B hB (bw_u5 w h))) rd_t5 rd_tt5 rd_nn5 hown hK hP hD hS 0 rfl rfl 6 (by decide) (hts (.fieldLink "ReinsuranceDeskModel" 25 "ReinsuranceDeskModel" "hour" "[I") (List.mem_cons_of_mem _ (bw_B hB (bw_m (rd_m 620 (by decide +kernel)))))) (fun _ h9 => h9) rfl hin rfl (by decide +kernel) rfl rfl (Nat.le_of_ble_eq_true rfl) d_M_init_49 (fun H locs hP hD hS => ?_)
  have hP : va_P D rd_CL [(h0, .inr (5, [rd_i 0, .ref q7, .ref q15, .ref q23, .ref q31, .ref q39, .ref q47, .null, .null, rd_i 0, .null, .null, .null, .null, .null, rd_i 0, .null, .null, .null, .null, .null, .null, .null, .null, .null, .null, .null, .null, rd_l 0, rd_l 0])), (q7, bI cA 12), (q15, bI cA 12), (q23, bI cA 12), (q31, bI cA 40), (q39, bI cA 40), (q47, bI cA 40)] H := hP
  have hD : va_D A [(h0, .inr (5, [rd_i 0, .ref q7, .ref q15, .ref q23, .ref q31, .ref q39, .ref q47, .null, .null, rd_i 0, .null, .null, .null, .null, .null, rd_i 0, .null, .null, .null, .null, .null, .null, .null, .null, .null, .null, .null, .null, rd_l 0, rd_l 0])), (q7, bI cA 12), (q15, bI cA 12), (q23, bI cA 12), (q31, bI cA 40), (q39, bI cA 40), (q47, bI cA 40)] := hD
  refine lv_aload_n (pc := 52) hx hb d_M_init_52 rfl (lv_at hl 0 rfl) ?_
  refine lv_bipush (pc := 53) (v := Int32.ofInt 40) hx hb d_M_init_53 rfl ?_
  refine bd_newa (pc := 55) (atype := .int) (N' := 40) (a0 := (40, .inl (fun _ => Int32.ofInt 0))) hx hb (hts (.arrayClass .int) (List.mem_cons_of_mem _ (bw_B hB (bw_m (rd_m 44 (by decide +kernel)))))) (ty := .int) rfl 0 rfl (fun _ h => h) hK hP hD hS hA (bI_ha 40) (by decide) (by decide) (by decide) (Nat.le_of_ble_eq_true rfl) (Nat.le_of_ble_eq_true rfl) d_M_init_55 (fun q55 H hP hD hS => ?_)
  have hP : va_P D rd_CL [(h0, .inr (5, [rd_i 0, .ref q7, .ref q15, .ref q23, .ref q31, .ref q39, .ref q47, .null, .null, rd_i 0, .null, .null, .null, .null, .null, rd_i 0, .null, .null, .null, .null, .null, .null, .null, .null, .null, .null, .null, .null, rd_l 0, rd_l 0])), (q7, bI cA 12), (q15, bI cA 12), (q23, bI cA 12), (q31, bI cA 40), (q39, bI cA 40), (q47, bI cA 40), (q55, bI cA 40)] H := hP
  have hD : va_D A [(h0, .inr (5, [rd_i 0, .ref q7, .ref q15, .ref q23, .ref q31, .ref q39, .ref q47, .null, .null, rd_i 0, .null, .null, .null, .null, .null, rd_i 0, .null, .null, .null, .null, .null, .null, .null, .null, .null, .null, .null, .null, rd_l 0, rd_l 0])), (q7, bI cA 12), (q15, bI cA 12), (q23, bI cA 12), (q31, bI cA 40), (q39, bI cA 40), (q47, bI cA 40), (q55, bI cA 40)] := hD
  refine W.widen (k := 7) (n := 196) (Nat.le_of_ble_eq_true rfl) (Nat.le_of_ble_eq_true rfl) ?_
  refine va_putF (pc := 57) (D := D) (ci := 5) (v := .ref q55) (ty := .array .int) (C := "ReinsuranceDeskModel") (T := rd_T5) (N := 30) hx hb hts (fun w h => List.mem_cons_of_mem _ (bw_B hB (bw_u5 w h))) rd_t5 rd_tt5 rd_nn5 hown hK hP hD hS 0 rfl rfl 7 (by decide) (hts (.fieldLink "ReinsuranceDeskModel" 28 "ReinsuranceDeskModel" "estimate" "[I") (List.mem_cons_of_mem _ (bw_B hB (bw_m (rd_m 621 (by decide +kernel)))))) (fun _ h9 => h9) rfl hin rfl (by decide +kernel) rfl rfl (Nat.le_of_ble_eq_true rfl) d_M_init_57 (fun H locs hP hD hS => ?_)
  have hP : va_P D rd_CL [(h0, .inr (5, [rd_i 0, .ref q7, .ref q15, .ref q23, .ref q31, .ref q39, .ref q47, .ref q55, .null, rd_i 0, .null, .null, .null, .null, .null, rd_i 0, .null, .null, .null, .null, .null, .null, .null, .null, .null, .null, .null, .null, rd_l 0, rd_l 0])), (q7, bI cA 12), (q15, bI cA 12), (q23, bI cA 12), (q31, bI cA 40), (q39, bI cA 40), (q47, bI cA 40), (q55, bI cA 40)] H := hP
  have hD : va_D A [(h0, .inr (5, [rd_i 0, .ref q7, .ref q15, .ref q23, .ref q31, .ref q39, .ref q47, .ref q55, .null, rd_i 0, .null, .null, .null, .null, .null, rd_i 0, .null, .null, .null, .null, .null, .null, .null, .null, .null, .null, .null, .null, rd_l 0, rd_l 0])), (q7, bI cA 12), (q15, bI cA 12), (q23, bI cA 12), (q31, bI cA 40), (q39, bI cA 40), (q47, bI cA 40), (q55, bI cA 40)] := hD
  refine lv_aload_n (pc := 60) hx hb d_M_init_60 rfl (lv_at hl 0 rfl) ?_
  refine lv_bipush (pc := 61) (v := Int32.ofInt 40) hx hb d_M_init_61 rfl ?_
  refine bd_newa (pc := 63) (atype := .boolean) (N' := 40) (a0 := (40, .inl (fun _ => Int32.ofInt 0))) hx hb (hts (.arrayClass .boolean) (List.mem_cons_of_mem _ (bw_B hB (bw_m (rd_m 85 (by decide +kernel)))))) (ty := .boolean) rfl 2 rfl (fun _ h => h) hK hP hD hS hA (bZ_ha 40) (by decide) (by decide) (by decide) (Nat.le_of_ble_eq_true rfl) (Nat.le_of_ble_eq_true rfl) d_M_init_63 (fun q63 H hP hD hS => ?_)
  have hP : va_P D rd_CL [(h0, .inr (5, [rd_i 0, .ref q7, .ref q15, .ref q23, .ref q31, .ref q39, .ref q47, .ref q55, .null, rd_i 0, .null, .null, .null, .null, .null, rd_i 0, .null, .null, .null, .null, .null, .null, .null, .null, .null, .null, .null, .null, rd_l 0, rd_l 0])), (q7, bI cA 12), (q15, bI cA 12), (q23, bI cA 12), (q31, bI cA 40), (q39, bI cA 40), (q47, bI cA 40), (q55, bI cA 40), (q63, bZ cA 40)] H := hP
  have hD : va_D A [(h0, .inr (5, [rd_i 0, .ref q7, .ref q15, .ref q23, .ref q31, .ref q39, .ref q47, .ref q55, .null, rd_i 0, .null, .null, .null, .null, .null, rd_i 0, .null, .null, .null, .null, .null, .null, .null, .null, .null, .null, .null, .null, rd_l 0, rd_l 0])), (q7, bI cA 12), (q15, bI cA 12), (q23, bI cA 12), (q31, bI cA 40), (q39, bI cA 40), (q47, bI cA 40), (q55, bI cA 40), (q63, bZ cA 40)] := hD
  refine W.widen (k := 8) (n := 236) (Nat.le_of_ble_eq_true rfl) (Nat.le_of_ble_eq_true rfl) ?_
  refine va_putF (pc := 65) (D := D) (ci := 5) (v := .ref q63) (ty := .array .boolean) (C := "ReinsuranceDeskModel") (T := rd_T5) (N := 30) hx hb hts (fun w h => List.mem_cons_of_mem _ (bw_B hB (bw_u5 w h))) rd_t5 rd_tt5 rd_nn5 hown hK hP hD hS 0 rfl rfl 8 (by decide) (hts (.fieldLink "ReinsuranceDeskModel" 31 "ReinsuranceDeskModel" "struck" "[Z") (List.mem_cons_of_mem _ (bw_B hB (bw_m (rd_m 622 (by decide +kernel)))))) (fun _ h9 => h9) rfl hin rfl (by decide +kernel) rfl rfl (Nat.le_of_ble_eq_true rfl) d_M_init_65 (fun H locs hP hD hS => ?_)
  have hP : va_P D rd_CL [(h0, .inr (5, [rd_i 0, .ref q7, .ref q15, .ref q23, .ref q31, .ref q39, .ref q47, .ref q55, .ref q63, rd_i 0, .null, .null, .null, .null, .null, rd_i 0, .null, .null, .null, .null, .null, .null, .null, .null, .null, .null, .null, .null, rd_l 0, rd_l 0])), (q7, bI cA 12), (q15, bI cA 12), (q23, bI cA 12), (q31, bI cA 40), (q39, bI cA 40), (q47, bI cA 40), (q55, bI cA 40), (q63, bZ cA 40)] H := hP
  have hD : va_D A [(h0, .inr (5, [rd_i 0, .ref q7, .ref q15, .ref q23, .ref q31, .ref q39, .ref q47, .ref q55, .ref q63, rd_i 0, .null, .null, .null, .null, .null, rd_i 0, .null, .null, .null, .null, .null, .null, .null, .null, .null, .null, .null, .null, rd_l 0, rd_l 0])), (q7, bI cA 12), (q15, bI cA 12), (q23, bI cA 12), (q31, bI cA 40), (q39, bI cA 40), (q47, bI cA 40), (q55, bI cA 40), (q63, bZ cA 40)] := hD
  refine lv_aload_n (pc := 68) hx hb d_M_init_68 rfl (lv_at hl 0 rfl) ?_
  refine lv_bipush (pc := 69) (v := Int32.ofInt 10) hx hb d_M_init_69 rfl ?_
  refine bd_newa (pc := 71) (atype := .int) (N' := 10) (a0 := (10, .inl (fun _ => Int32.ofInt 0))) hx hb (hts (.arrayClass .int) (List.mem_cons_of_mem _ (bw_B hB (bw_m (rd_m 44 (by decide +kernel)))))) (ty := .int) rfl 0 rfl (fun _ h => h) hK hP hD hS hA (bI_ha 10) (by decide) (by decide) (by decide) (Nat.le_of_ble_eq_true rfl) (Nat.le_of_ble_eq_true rfl) d_M_init_71 (fun q71 H hP hD hS => ?_)
  have hP : va_P D rd_CL [(h0, .inr (5, [rd_i 0, .ref q7, .ref q15, .ref q23, .ref q31, .ref q39, .ref q47, .ref q55, .ref q63, rd_i 0, .null, .null, .null, .null, .null, rd_i 0, .null, .null, .null, .null, .null, .null, .null, .null, .null, .null, .null, .null, rd_l 0, rd_l 0])), (q7, bI cA 12), (q15, bI cA 12), (q23, bI cA 12), (q31, bI cA 40), (q39, bI cA 40), (q47, bI cA 40), (q55, bI cA 40), (q63, bZ cA 40), (q71, bI cA 10)] H := hP
  have hD : va_D A [(h0, .inr (5, [rd_i 0, .ref q7, .ref q15, .ref q23, .ref q31, .ref q39, .ref q47, .ref q55, .ref q63, rd_i 0, .null, .null, .null, .null, .null, rd_i 0, .null, .null, .null, .null, .null, .null, .null, .null, .null, .null, .null, .null, rd_l 0, rd_l 0])), (q7, bI cA 12), (q15, bI cA 12), (q23, bI cA 12), (q31, bI cA 40), (q39, bI cA 40), (q47, bI cA 40), (q55, bI cA 40), (q63, bZ cA 40), (q71, bI cA 10)] := hD
  refine W.widen (k := 9) (n := 246) (Nat.le_of_ble_eq_true rfl) (Nat.le_of_ble_eq_true rfl) ?_
  refine va_putF (pc := 73) (D := D) (ci := 5) (v := .ref q71) (ty := .array .int) (C := "ReinsuranceDeskModel") (T := rd_T5) (N := 30) hx hb hts (fun w h => List.mem_cons_of_mem _ (bw_B hB (bw_u5 w h))) rd_t5 rd_tt5 rd_nn5 hown hK hP hD hS 0 rfl rfl 10 (by decide) (hts (.fieldLink "ReinsuranceDeskModel" 35 "ReinsuranceDeskModel" "shape" "[I") (List.mem_cons_of_mem _ (bw_B hB (bw_m (rd_m 624 (by decide +kernel)))))) (fun _ h9 => h9) rfl hin rfl (by decide +kernel) rfl rfl (Nat.le_of_ble_eq_true rfl) d_M_init_73 (fun H locs hP hD hS => ?_)
  have hP : va_P D rd_CL [(h0, .inr (5, [rd_i 0, .ref q7, .ref q15, .ref q23, .ref q31, .ref q39, .ref q47, .ref q55, .ref q63, rd_i 0, .ref q71, .null, .null, .null, .null, rd_i 0, .null, .null, .null, .null, .null, .null, .null, .null, .null, .null, .null, .null, rd_l 0, rd_l 0])), (q7, bI cA 12), (q15, bI cA 12), (q23, bI cA 12), (q31, bI cA 40), (q39, bI cA 40), (q47, bI cA 40), (q55, bI cA 40), (q63, bZ cA 40), (q71, bI cA 10)] H := hP
  have hD : va_D A [(h0, .inr (5, [rd_i 0, .ref q7, .ref q15, .ref q23, .ref q31, .ref q39, .ref q47, .ref q55, .ref q63, rd_i 0, .ref q71, .null, .null, .null, .null, rd_i 0, .null, .null, .null, .null, .null, .null, .null, .null, .null, .null, .null, .null, rd_l 0, rd_l 0])), (q7, bI cA 12), (q15, bI cA 12), (q23, bI cA 12), (q31, bI cA 40), (q39, bI cA 40), (q47, bI cA 40), (q55, bI cA 40), (q63, bZ cA 40), (q71, bI cA 10)] := hD
  refine lv_aload_n (pc := 76) hx hb d_M_init_76 rfl (lv_at hl 0 rfl) ?_
  refine lv_bipush (pc := 77) (v := Int32.ofInt 10) hx hb d_M_init_77 rfl ?_
  refine bd_newa (pc := 79) (atype := .int) (N' := 10) (a0 := (10, .inl (fun _ => Int32.ofInt 0))) hx hb (hts (.arrayClass .int) (List.mem_cons_of_mem _ (bw_B hB (bw_m (rd_m 44 (by decide +kernel)))))) (ty := .int) rfl 0 rfl (fun _ h => h) hK hP hD hS hA (bI_ha 10) (by decide) (by decide) (by decide) (Nat.le_of_ble_eq_true rfl) (Nat.le_of_ble_eq_true rfl) d_M_init_79 (fun q79 H hP hD hS => ?_)
  have hP : va_P D rd_CL [(h0, .inr (5, [rd_i 0, .ref q7, .ref q15, .ref q23, .ref q31, .ref q39, .ref q47, .ref q55, .ref q63, rd_i 0, .ref q71, .null, .null, .null, .null, rd_i 0, .null, .null, .null, .null, .null, .null, .null, .null, .null, .null, .null, .null, rd_l 0, rd_l 0])), (q7, bI cA 12), (q15, bI cA 12), (q23, bI cA 12), (q31, bI cA 40), (q39, bI cA 40), (q47, bI cA 40), (q55, bI cA 40), (q63, bZ cA 40), (q71, bI cA 10), (q79, bI cA 10)] H := hP
  have hD : va_D A [(h0, .inr (5, [rd_i 0, .ref q7, .ref q15, .ref q23, .ref q31, .ref q39, .ref q47, .ref q55, .ref q63, rd_i 0, .ref q71, .null, .null, .null, .null, rd_i 0, .null, .null, .null, .null, .null, .null, .null, .null, .null, .null, .null, .null, rd_l 0, rd_l 0])), (q7, bI cA 12), (q15, bI cA 12), (q23, bI cA 12), (q31, bI cA 40), (q39, bI cA 40), (q47, bI cA 40), (q55, bI cA 40), (q63, bZ cA 40), (q71, bI cA 10), (q79, bI cA 10)] := hD
  refine W.widen (k := 10) (n := 256) (Nat.le_of_ble_eq_true rfl) (Nat.le_of_ble_eq_true rfl) ?_
  refine va_putF (pc := 81) (D := D) (ci := 5) (v := .ref q79) (ty := .array .int) (C := "ReinsuranceDeskModel") (T := rd_T5) (N := 30) hx hb hts (fun w h => List.mem_cons_of_mem _ (bw_B hB (bw_u5 w h))) rd_t5 rd_tt5 rd_nn5 hown hK hP hD hS 0 rfl rfl 11 (by decide) (hts (.fieldLink "ReinsuranceDeskModel" 38 "ReinsuranceDeskModel" "a" "[I") (List.mem_cons_of_mem _ (bw_B hB (bw_m (rd_m 625 (by decide +kernel)))))) (fun _ h9 => h9) rfl hin rfl (by decide +kernel) rfl rfl (Nat.le_of_ble_eq_true rfl) d_M_init_81 (fun H locs hP hD hS => ?_)
  have hP : va_P D rd_CL [(h0, .inr (5, [rd_i 0, .ref q7, .ref q15, .ref q23, .ref q31, .ref q39, .ref q47, .ref q55, .ref q63, rd_i 0, .ref q71, .ref q79, .null, .null, .null, rd_i 0, .null, .null, .null, .null, .null, .null, .null, .null, .null, .null, .null, .null, rd_l 0, rd_l 0])), (q7, bI cA 12), (q15, bI cA 12), (q23, bI cA 12), (q31, bI cA 40), (q39, bI cA 40), (q47, bI cA 40), (q55, bI cA 40), (q63, bZ cA 40), (q71, bI cA 10), (q79, bI cA 10)] H := hP
  have hD : va_D A [(h0, .inr (5, [rd_i 0, .ref q7, .ref q15, .ref q23, .ref q31, .ref q39, .ref q47, .ref q55, .ref q63, rd_i 0, .ref q71, .ref q79, .null, .null, .null, rd_i 0, .null, .null, .null, .null, .null, .null, .null, .null, .null, .null, .null, .null, rd_l 0, rd_l 0])), (q7, bI cA 12), (q15, bI cA 12), (q23, bI cA 12), (q31, bI cA 40), (q39, bI cA 40), (q47, bI cA 40), (q55, bI cA 40), (q63, bZ cA 40), (q71, bI cA 10), (q79, bI cA 10)] := hD
  refine lv_aload_n (pc := 84) hx hb d_M_init_84 rfl (lv_at hl 0 rfl) ?_
  refine lv_bipush (pc := 85) (v := Int32.ofInt 10) hx hb d_M_init_85 rfl ?_
  refine bd_newa (pc := 87) (atype := .int) (N' := 10) (a0 := (10, .inl (fun _ => Int32.ofInt 0))) hx hb (hts (.arrayClass .int) (List.mem_cons_of_mem _ (bw_B hB (bw_m (rd_m 44 (by decide +kernel)))))) (ty := .int) rfl 0 rfl (fun _ h => h) hK hP hD hS hA (bI_ha 10) (by decide) (by decide) (by decide) (Nat.le_of_ble_eq_true rfl) (Nat.le_of_ble_eq_true rfl) d_M_init_87 (fun q87 H hP hD hS => ?_)
  have hP : va_P D rd_CL [(h0, .inr (5, [rd_i 0, .ref q7, .ref q15, .ref q23, .ref q31, .ref q39, .ref q47, .ref q55, .ref q63, rd_i 0, .ref q71, .ref q79, .null, .null, .null, rd_i 0, .null, .null, .null, .null, .null, .null, .null, .null, .null, .null, .null, .null, rd_l 0, rd_l 0])), (q7, bI cA 12), (q15, bI cA 12), (q23, bI cA 12), (q31, bI cA 40), (q39, bI cA 40), (q47, bI cA 40), (q55, bI cA 40), (q63, bZ cA 40), (q71, bI cA 10), (q79, bI cA 10), (q87, bI cA 10)] H := hP
  have hD : va_D A [(h0, .inr (5, [rd_i 0, .ref q7, .ref q15, .ref q23, .ref q31, .ref q39, .ref q47, .ref q55, .ref q63, rd_i 0, .ref q71, .ref q79, .null, .null, .null, rd_i 0, .null, .null, .null, .null, .null, .null, .null, .null, .null, .null, .null, .null, rd_l 0, rd_l 0])), (q7, bI cA 12), (q15, bI cA 12), (q23, bI cA 12), (q31, bI cA 40), (q39, bI cA 40), (q47, bI cA 40), (q55, bI cA 40), (q63, bZ cA 40), (q71, bI cA 10), (q79, bI cA 10), (q87, bI cA 10)] := hD
  refine W.widen (k := 11) (n := 266) (Nat.le_of_ble_eq_true rfl) (Nat.le_of_ble_eq_true rfl) ?_
  refine va_putF (pc := 89) (D := D) (ci := 5) (v := .ref q87) (ty := .array .int) (C := "ReinsuranceDeskModel") (T := rd_T5) (N := 30) hx hb hts (fun w h => List.mem_cons_of_mem _ (bw_B hB (bw_u5 w h))) rd_t5 rd_tt5 rd_nn5 hown hK hP hD hS 0 rfl rfl 12 (by decide) (hts (.fieldLink "ReinsuranceDeskModel" 41 "ReinsuranceDeskModel" "b" "[I") (List.mem_cons_of_mem _ (bw_B hB (bw_m (rd_m 626 (by decide +kernel)))))) (fun _ h9 => h9) rfl hin rfl (by decide +kernel) rfl rfl (Nat.le_of_ble_eq_true rfl) d_M_init_89 (fun H locs hP hD hS => ?_)
  have hP : va_P D rd_CL [(h0, .inr (5, [rd_i 0, .ref q7, .ref q15, .ref q23, .ref q31, .ref q39, .ref q47, .ref q55, .ref q63, rd_i 0, .ref q71, .ref q79, .ref q87, .null, .null, rd_i 0, .null, .null, .null, .null, .null, .null, .null, .null, .null, .null, .null, .null, rd_l 0, rd_l 0])), (q7, bI cA 12), (q15, bI cA 12), (q23, bI cA 12), (q31, bI cA 40), (q39, bI cA 40), (q47, bI cA 40), (q55, bI cA 40), (q63, bZ cA 40), (q71, bI cA 10), (q79, bI cA 10), (q87, bI cA 10)] H := hP
  have hD : va_D A [(h0, .inr (5, [rd_i 0, .ref q7, .ref q15, .ref q23, .ref q31, .ref q39, .ref q47, .ref q55, .ref q63, rd_i 0, .ref q71, .ref q79, .ref q87, .null, .null, rd_i 0, .null, .null, .null, .null, .null, .null, .null, .null, .null, .null, .null, .null, rd_l 0, rd_l 0])), (q7, bI cA 12), (q15, bI cA 12), (q23, bI cA 12), (q31, bI cA 40), (q39, bI cA 40), (q47, bI cA 40), (q55, bI cA 40), (q63, bZ cA 40), (q71, bI cA 10), (q79, bI cA 10), (q87, bI cA 10)] := hD
  refine lv_aload_n (pc := 92) hx hb d_M_init_92 rfl (lv_at hl 0 rfl) ?_
  refine lv_bipush (pc := 93) (v := Int32.ofInt 10) hx hb d_M_init_93 rfl ?_
  refine bd_newa (pc := 95) (atype := .int) (N' := 10) (a0 := (10, .inl (fun _ => Int32.ofInt 0))) hx hb (hts (.arrayClass .int) (List.mem_cons_of_mem _ (bw_B hB (bw_m (rd_m 44 (by decide +kernel)))))) (ty := .int) rfl 0 rfl (fun _ h => h) hK hP hD hS hA (bI_ha 10) (by decide) (by decide) (by decide) (Nat.le_of_ble_eq_true rfl) (Nat.le_of_ble_eq_true rfl) d_M_init_95 (fun q95 H hP hD hS => ?_)
  have hP : va_P D rd_CL [(h0, .inr (5, [rd_i 0, .ref q7, .ref q15, .ref q23, .ref q31, .ref q39, .ref q47, .ref q55, .ref q63, rd_i 0, .ref q71, .ref q79, .ref q87, .null, .null, rd_i 0, .null, .null, .null, .null, .null, .null, .null, .null, .null, .null, .null, .null, rd_l 0, rd_l 0])), (q7, bI cA 12), (q15, bI cA 12), (q23, bI cA 12), (q31, bI cA 40), (q39, bI cA 40), (q47, bI cA 40), (q55, bI cA 40), (q63, bZ cA 40), (q71, bI cA 10), (q79, bI cA 10), (q87, bI cA 10), (q95, bI cA 10)] H := hP
  have hD : va_D A [(h0, .inr (5, [rd_i 0, .ref q7, .ref q15, .ref q23, .ref q31, .ref q39, .ref q47, .ref q55, .ref q63, rd_i 0, .ref q71, .ref q79, .ref q87, .null, .null, rd_i 0, .null, .null, .null, .null, .null, .null, .null, .null, .null, .null, .null, .null, rd_l 0, rd_l 0])), (q7, bI cA 12), (q15, bI cA 12), (q23, bI cA 12), (q31, bI cA 40), (q39, bI cA 40), (q47, bI cA 40), (q55, bI cA 40), (q63, bZ cA 40), (q71, bI cA 10), (q79, bI cA 10), (q87, bI cA 10), (q95, bI cA 10)] := hD
  refine W.widen (k := 12) (n := 276) (Nat.le_of_ble_eq_true rfl) (Nat.le_of_ble_eq_true rfl) ?_
  refine va_putF (pc := 97) (D := D) (ci := 5) (v := .ref q95) (ty := .array .int) (C := "ReinsuranceDeskModel") (T := rd_T5) (N := 30) hx hb hts (fun w h => List.mem_cons_of_mem _ (bw_B hB (bw_u5 w h))) rd_t5 rd_tt5 rd_nn5 hown hK hP hD hS 0 rfl rfl 13 (by decide) (hts (.fieldLink "ReinsuranceDeskModel" 44 "ReinsuranceDeskModel" "c" "[I") (List.mem_cons_of_mem _ (bw_B hB (bw_m (rd_m 627 (by decide +kernel)))))) (fun _ h9 => h9) rfl hin rfl (by decide +kernel) rfl rfl (Nat.le_of_ble_eq_true rfl) d_M_init_97 (fun H locs hP hD hS => ?_)
  have hP : va_P D rd_CL [(h0, .inr (5, [rd_i 0, .ref q7, .ref q15, .ref q23, .ref q31, .ref q39, .ref q47, .ref q55, .ref q63, rd_i 0, .ref q71, .ref q79, .ref q87, .ref q95, .null, rd_i 0, .null, .null, .null, .null, .null, .null, .null, .null, .null, .null, .null, .null, rd_l 0, rd_l 0])), (q7, bI cA 12), (q15, bI cA 12), (q23, bI cA 12), (q31, bI cA 40), (q39, bI cA 40), (q47, bI cA 40), (q55, bI cA 40), (q63, bZ cA 40), (q71, bI cA 10), (q79, bI cA 10), (q87, bI cA 10), (q95, bI cA 10)] H := hP
  have hD : va_D A [(h0, .inr (5, [rd_i 0, .ref q7, .ref q15, .ref q23, .ref q31, .ref q39, .ref q47, .ref q55, .ref q63, rd_i 0, .ref q71, .ref q79, .ref q87, .ref q95, .null, rd_i 0, .null, .null, .null, .null, .null, .null, .null, .null, .null, .null, .null, .null, rd_l 0, rd_l 0])), (q7, bI cA 12), (q15, bI cA 12), (q23, bI cA 12), (q31, bI cA 40), (q39, bI cA 40), (q47, bI cA 40), (q55, bI cA 40), (q63, bZ cA 40), (q71, bI cA 10), (q79, bI cA 10), (q87, bI cA 10), (q95, bI cA 10)] := hD
  refine lv_aload_n (pc := 100) hx hb d_M_init_100 rfl (lv_at hl 0 rfl) ?_
  refine lv_bipush (pc := 101) (v := Int32.ofInt 10) hx hb d_M_init_101 rfl ?_
  refine bd_newa (pc := 103) (atype := .int) (N' := 10) (a0 := (10, .inl (fun _ => Int32.ofInt 0))) hx hb (hts (.arrayClass .int) (List.mem_cons_of_mem _ (bw_B hB (bw_m (rd_m 44 (by decide +kernel)))))) (ty := .int) rfl 0 rfl (fun _ h => h) hK hP hD hS hA (bI_ha 10) (by decide) (by decide) (by decide) (Nat.le_of_ble_eq_true rfl) (Nat.le_of_ble_eq_true rfl) d_M_init_103 (fun q103 H hP hD hS => ?_)
  have hP : va_P D rd_CL [(h0, .inr (5, [rd_i 0, .ref q7, .ref q15, .ref q23, .ref q31, .ref q39, .ref q47, .ref q55, .ref q63, rd_i 0, .ref q71, .ref q79, .ref q87, .ref q95, .null, rd_i 0, .null, .null, .null, .null, .null, .null, .null, .null, .null, .null, .null, .null, rd_l 0, rd_l 0])), (q7, bI cA 12), (q15, bI cA 12), (q23, bI cA 12), (q31, bI cA 40), (q39, bI cA 40), (q47, bI cA 40), (q55, bI cA 40), (q63, bZ cA 40), (q71, bI cA 10), (q79, bI cA 10), (q87, bI cA 10), (q95, bI cA 10), (q103, bI cA 10)] H := hP
  have hD : va_D A [(h0, .inr (5, [rd_i 0, .ref q7, .ref q15, .ref q23, .ref q31, .ref q39, .ref q47, .ref q55, .ref q63, rd_i 0, .ref q71, .ref q79, .ref q87, .ref q95, .null, rd_i 0, .null, .null, .null, .null, .null, .null, .null, .null, .null, .null, .null, .null, rd_l 0, rd_l 0])), (q7, bI cA 12), (q15, bI cA 12), (q23, bI cA 12), (q31, bI cA 40), (q39, bI cA 40), (q47, bI cA 40), (q55, bI cA 40), (q63, bZ cA 40), (q71, bI cA 10), (q79, bI cA 10), (q87, bI cA 10), (q95, bI cA 10), (q103, bI cA 10)] := hD
  refine W.widen (k := 13) (n := 286) (Nat.le_of_ble_eq_true rfl) (Nat.le_of_ble_eq_true rfl) ?_
  refine va_putF (pc := 105) (D := D) (ci := 5) (v := .ref q103) (ty := .array .int) (C := "ReinsuranceDeskModel") (T := rd_T5) (N := 30) hx hb hts (fun w h => List.mem_cons_of_mem _ (bw_B hB (bw_u5 w h))) rd_t5 rd_tt5 rd_nn5 hown hK hP hD hS 0 rfl rfl 14 (by decide) (hts (.fieldLink "ReinsuranceDeskModel" 47 "ReinsuranceDeskModel" "d" "[I") (List.mem_cons_of_mem _ (bw_B hB (bw_m (rd_m 628 (by decide +kernel)))))) (fun _ h9 => h9) rfl hin rfl (by decide +kernel) rfl rfl (Nat.le_of_ble_eq_true rfl) d_M_init_105 (fun H locs hP hD hS => ?_)
  have hP : va_P D rd_CL [(h0, .inr (5, [rd_i 0, .ref q7, .ref q15, .ref q23, .ref q31, .ref q39, .ref q47, .ref q55, .ref q63, rd_i 0, .ref q71, .ref q79, .ref q87, .ref q95, .ref q103, rd_i 0, .null, .null, .null, .null, .null, .null, .null, .null, .null, .null, .null, .null, rd_l 0, rd_l 0])), (q7, bI cA 12), (q15, bI cA 12), (q23, bI cA 12), (q31, bI cA 40), (q39, bI cA 40), (q47, bI cA 40), (q55, bI cA 40), (q63, bZ cA 40), (q71, bI cA 10), (q79, bI cA 10), (q87, bI cA 10), (q95, bI cA 10), (q103, bI cA 10)] H := hP
  have hD : va_D A [(h0, .inr (5, [rd_i 0, .ref q7, .ref q15, .ref q23, .ref q31, .ref q39, .ref q47, .ref q55, .ref q63, rd_i 0, .ref q71, .ref q79, .ref q87, .ref q95, .ref q103, rd_i 0, .null, .null, .null, .null, .null, .null, .null, .null, .null, .null, .null, .null, rd_l 0, rd_l 0])), (q7, bI cA 12), (q15, bI cA 12), (q23, bI cA 12), (q31, bI cA 40), (q39, bI cA 40), (q47, bI cA 40), (q55, bI cA 40), (q63, bZ cA 40), (q71, bI cA 10), (q79, bI cA 10), (q87, bI cA 10), (q95, bI cA 10), (q103, bI cA 10)] := hD
  refine lv_aload_n (pc := 108) hx hb d_M_init_108 rfl (lv_at hl 0 rfl) ?_
  refine lv_bipush (pc := 109) (v := Int32.ofInt 60) hx hb d_M_init_109 rfl ?_
  refine bd_newa (pc := 111) (atype := .int) (N' := 60) (a0 := (60, .inl (fun _ => Int32.ofInt 0))) hx hb (hts (.arrayClass .int) (List.mem_cons_of_mem _ (bw_B hB (bw_m (rd_m 44 (by decide +kernel)))))) (ty := .int) rfl 0 rfl (fun _ h => h) hK hP hD hS hA (bI_ha 60) (by decide) (by decide) (by decide) (Nat.le_of_ble_eq_true rfl) (Nat.le_of_ble_eq_true rfl) d_M_init_111 (fun q111 H hP hD hS => ?_)
  have hP : va_P D rd_CL [(h0, .inr (5, [rd_i 0, .ref q7, .ref q15, .ref q23, .ref q31, .ref q39, .ref q47, .ref q55, .ref q63, rd_i 0, .ref q71, .ref q79, .ref q87, .ref q95, .ref q103, rd_i 0, .null, .null, .null, .null, .null, .null, .null, .null, .null, .null, .null, .null, rd_l 0, rd_l 0])), (q7, bI cA 12), (q15, bI cA 12), (q23, bI cA 12), (q31, bI cA 40), (q39, bI cA 40), (q47, bI cA 40), (q55, bI cA 40), (q63, bZ cA 40), (q71, bI cA 10), (q79, bI cA 10), (q87, bI cA 10), (q95, bI cA 10), (q103, bI cA 10), (q111, bI cA 60)] H := hP
  have hD : va_D A [(h0, .inr (5, [rd_i 0, .ref q7, .ref q15, .ref q23, .ref q31, .ref q39, .ref q47, .ref q55, .ref q63, rd_i 0, .ref q71, .ref q79, .ref q87, .ref q95, .ref q103, rd_i 0, .null, .null, .null, .null, .null, .null, .null, .null, .null, .null, .null, .null, rd_l 0, rd_l 0])), (q7, bI cA 12), (q15, bI cA 12), (q23, bI cA 12), (q31, bI cA 40), (q39, bI cA 40), (q47, bI cA 40), (q55, bI cA 40), (q63, bZ cA 40), (q71, bI cA 10), (q79, bI cA 10), (q87, bI cA 10), (q95, bI cA 10), (q103, bI cA 10), (q111, bI cA 60)] := hD
  refine W.widen (k := 14) (n := 346) (Nat.le_of_ble_eq_true rfl) (Nat.le_of_ble_eq_true rfl) ?_
  refine va_putF (pc := 113) (D := D) (ci := 5) (v := .ref q111) (ty := .array .int) (C := "ReinsuranceDeskModel") (T := rd_T5) (N := 30) hx hb hts (fun w h => List.mem_cons_of_mem _ (bw_B hB (bw_u5 w h))) rd_t5 rd_tt5 rd_nn5 hown hK hP hD hS 0 rfl rfl 16 (by decide) (hts (.fieldLink "ReinsuranceDeskModel" 50 "ReinsuranceDeskModel" "shares" "[I") (List.mem_cons_of_mem _ (bw_B hB (bw_m (rd_m 630 (by decide +kernel)))))) (fun _ h9 => h9) rfl hin rfl (by decide +kernel) rfl rfl (Nat.le_of_ble_eq_true rfl) d_M_init_113 (fun H locs hP hD hS => ?_)
  have hP : va_P D rd_CL [(h0, .inr (5, [rd_i 0, .ref q7, .ref q15, .ref q23, .ref q31, .ref q39, .ref q47, .ref q55, .ref q63, rd_i 0, .ref q71, .ref q79, .ref q87, .ref q95, .ref q103, rd_i 0, .ref q111, .null, .null, .null, .null, .null, .null, .null, .null, .null, .null, .null, rd_l 0, rd_l 0])), (q7, bI cA 12), (q15, bI cA 12), (q23, bI cA 12), (q31, bI cA 40), (q39, bI cA 40), (q47, bI cA 40), (q55, bI cA 40), (q63, bZ cA 40), (q71, bI cA 10), (q79, bI cA 10), (q87, bI cA 10), (q95, bI cA 10), (q103, bI cA 10), (q111, bI cA 60)] H := hP
  have hD : va_D A [(h0, .inr (5, [rd_i 0, .ref q7, .ref q15, .ref q23, .ref q31, .ref q39, .ref q47, .ref q55, .ref q63, rd_i 0, .ref q71, .ref q79, .ref q87, .ref q95, .ref q103, rd_i 0, .ref q111, .null, .null, .null, .null, .null, .null, .null, .null, .null, .null, .null, rd_l 0, rd_l 0])), (q7, bI cA 12), (q15, bI cA 12), (q23, bI cA 12), (q31, bI cA 40), (q39, bI cA 40), (q47, bI cA 40), (q55, bI cA 40), (q63, bZ cA 40), (q71, bI cA 10), (q79, bI cA 10), (q87, bI cA 10), (q95, bI cA 10), (q103, bI cA 10), (q111, bI cA 60)] := hD
  refine lv_aload_n (pc := 116) hx hb d_M_init_116 rfl (lv_at hl 0 rfl) ?_
  refine lv_bipush (pc := 117) (v := Int32.ofInt 6) hx hb d_M_init_117 rfl ?_
  refine bd_newa (pc := 119) (atype := .long) (N' := 6) (a0 := (6, .inr (.inl (fun _ => Int64.ofInt 0)))) hx hb (hts (.arrayClass .long) (List.mem_cons_of_mem _ (bw_B hB (bw_m (rd_m 126 (by decide +kernel)))))) (ty := .long) rfl 1 rfl (fun _ h => h) hK hP hD hS hA (bJ_ha 6) (by decide) (by decide) (by decide) (Nat.le_of_ble_eq_true rfl) (Nat.le_of_ble_eq_true rfl) d_M_init_119 (fun q119 H hP hD hS => ?_)
  have hP : va_P D rd_CL [(h0, .inr (5, [rd_i 0, .ref q7, .ref q15, .ref q23, .ref q31, .ref q39, .ref q47, .ref q55, .ref q63, rd_i 0, .ref q71, .ref q79, .ref q87, .ref q95, .ref q103, rd_i 0, .ref q111, .null, .null, .null, .null, .null, .null, .null, .null, .null, .null, .null, rd_l 0, rd_l 0])), (q7, bI cA 12), (q15, bI cA 12), (q23, bI cA 12), (q31, bI cA 40), (q39, bI cA 40), (q47, bI cA 40), (q55, bI cA 40), (q63, bZ cA 40), (q71, bI cA 10), (q79, bI cA 10), (q87, bI cA 10), (q95, bI cA 10), (q103, bI cA 10), (q111, bI cA 60), (q119, bJ cA 6)] H := hP
  have hD : va_D A [(h0, .inr (5, [rd_i 0, .ref q7, .ref q15, .ref q23, .ref q31, .ref q39, .ref q47, .ref q55, .ref q63, rd_i 0, .ref q71, .ref q79, .ref q87, .ref q95, .ref q103, rd_i 0, .ref q111, .null, .null, .null, .null, .null, .null, .null, .null, .null, .null, .null, rd_l 0, rd_l 0])), (q7, bI cA 12), (q15, bI cA 12), (q23, bI cA 12), (q31, bI cA 40), (q39, bI cA 40), (q47, bI cA 40), (q55, bI cA 40), (q63, bZ cA 40), (q71, bI cA 10), (q79, bI cA 10), (q87, bI cA 10), (q95, bI cA 10), (q103, bI cA 10), (q111, bI cA 60), (q119, bJ cA 6)] := hD
  refine W.widen (k := 15) (n := 352) (Nat.le_of_ble_eq_true rfl) (Nat.le_of_ble_eq_true rfl) ?_
  refine va_putF (pc := 121) (D := D) (ci := 5) (v := .ref q119) (ty := .array .long) (C := "ReinsuranceDeskModel") (T := rd_T5) (N := 30) hx hb hts (fun w h => List.mem_cons_of_mem _ (bw_B hB (bw_u5 w h))) rd_t5 rd_tt5 rd_nn5 hown hK hP hD hS 0 rfl rfl 17 (by decide) (hts (.fieldLink "ReinsuranceDeskModel" 53 "ReinsuranceDeskModel" "billed" "[J") (List.mem_cons_of_mem _ (bw_B hB (bw_m (rd_m 631 (by decide +kernel)))))) (fun _ h9 => h9) rfl hin rfl (by decide +kernel) rfl rfl (Nat.le_of_ble_eq_true rfl) d_M_init_121 (fun H locs hP hD hS => ?_)
  have hP : va_P D rd_CL [(h0, .inr (5, [rd_i 0, .ref q7, .ref q15, .ref q23, .ref q31, .ref q39, .ref q47, .ref q55, .ref q63, rd_i 0, .ref q71, .ref q79, .ref q87, .ref q95, .ref q103, rd_i 0, .ref q111, .ref q119, .null, .null, .null, .null, .null, .null, .null, .null, .null, .null, rd_l 0, rd_l 0])), (q7, bI cA 12), (q15, bI cA 12), (q23, bI cA 12), (q31, bI cA 40), (q39, bI cA 40), (q47, bI cA 40), (q55, bI cA 40), (q63, bZ cA 40), (q71, bI cA 10), (q79, bI cA 10), (q87, bI cA 10), (q95, bI cA 10), (q103, bI cA 10), (q111, bI cA 60), (q119, bJ cA 6)] H := hP
  have hD : va_D A [(h0, .inr (5, [rd_i 0, .ref q7, .ref q15, .ref q23, .ref q31, .ref q39, .ref q47, .ref q55, .ref q63, rd_i 0, .ref q71, .ref q79, .ref q87, .ref q95, .ref q103, rd_i 0, .ref q111, .ref q119, .null, .null, .null, .null, .null, .null, .null, .null, .null, .null, rd_l 0, rd_l 0])), (q7, bI cA 12), (q15, bI cA 12), (q23, bI cA 12), (q31, bI cA 40), (q39, bI cA 40), (q47, bI cA 40), (q55, bI cA 40), (q63, bZ cA 40), (q71, bI cA 10), (q79, bI cA 10), (q87, bI cA 10), (q95, bI cA 10), (q103, bI cA 10), (q111, bI cA 60), (q119, bJ cA 6)] := hD
  refine lv_aload_n (pc := 124) hx hb d_M_init_124 rfl (lv_at hl 0 rfl) ?_
  refine lv_iconst (pc := 125) (v := Int32.ofInt 4) hx hb d_M_init_125 rfl ?_
  refine bd_newa (pc := 126) (atype := .boolean) (N' := 4) (a0 := (4, .inl (fun _ => Int32.ofInt 0))) hx hb (hts (.arrayClass .boolean) (List.mem_cons_of_mem _ (bw_B hB (bw_m (rd_m 85 (by decide +kernel)))))) (ty := .boolean) rfl 2 rfl (fun _ h => h) hK hP hD hS hA (bZ_ha 4) (by decide) (by decide) (by decide) (Nat.le_of_ble_eq_true rfl) (Nat.le_of_ble_eq_true rfl) d_M_init_126 (fun q126 H hP hD hS => ?_)
  have hP : va_P D rd_CL [(h0, .inr (5, [rd_i 0, .ref q7, .ref q15, .ref q23, .ref q31, .ref q39, .ref q47, .ref q55, .ref q63, rd_i 0, .ref q71, .ref q79, .ref q87, .ref q95, .ref q103, rd_i 0, .ref q111, .ref q119, .null, .null, .null, .null, .null, .null, .null, .null, .null, .null, rd_l 0, rd_l 0])), (q7, bI cA 12), (q15, bI cA 12), (q23, bI cA 12), (q31, bI cA 40), (q39, bI cA 40), (q47, bI cA 40), (q55, bI cA 40), (q63, bZ cA 40), (q71, bI cA 10), (q79, bI cA 10), (q87, bI cA 10), (q95, bI cA 10), (q103, bI cA 10), (q111, bI cA 60), (q119, bJ cA 6), (q126, bZ cA 4)] H := hP
  have hD : va_D A [(h0, .inr (5, [rd_i 0, .ref q7, .ref q15, .ref q23, .ref q31, .ref q39, .ref q47, .ref q55, .ref q63, rd_i 0, .ref q71, .ref q79, .ref q87, .ref q95, .ref q103, rd_i 0, .ref q111, .ref q119, .null, .null, .null, .null, .null, .null, .null, .null, .null, .null, rd_l 0, rd_l 0])), (q7, bI cA 12), (q15, bI cA 12), (q23, bI cA 12), (q31, bI cA 40), (q39, bI cA 40), (q47, bI cA 40), (q55, bI cA 40), (q63, bZ cA 40), (q71, bI cA 10), (q79, bI cA 10), (q87, bI cA 10), (q95, bI cA 10), (q103, bI cA 10), (q111, bI cA 60), (q119, bJ cA 6), (q126, bZ cA 4)] := hD
  refine W.widen (k := 16) (n := 356) (Nat.le_of_ble_eq_true rfl) (Nat.le_of_ble_eq_true rfl) ?_
  refine va_putF (pc := 128) (D := D) (ci := 5) (v := .ref q126) (ty := .array .boolean) (C := "ReinsuranceDeskModel") (T := rd_T5) (N := 30) hx hb hts (fun w h => List.mem_cons_of_mem _ (bw_B hB (bw_u5 w h))) rd_t5 rd_tt5 rd_nn5 hown hK hP hD hS 0 rfl rfl 18 (by decide) (hts (.fieldLink "ReinsuranceDeskModel" 57 "ReinsuranceDeskModel" "closed" "[Z") (List.mem_cons_of_mem _ (bw_B hB (bw_m (rd_m 632 (by decide +kernel)))))) (fun _ h9 => h9) rfl hin rfl (by decide +kernel) rfl rfl (Nat.le_of_ble_eq_true rfl) d_M_init_128 (fun H locs hP hD hS => ?_)
  have hP : va_P D rd_CL [(h0, .inr (5, [rd_i 0, .ref q7, .ref q15, .ref q23, .ref q31, .ref q39, .ref q47, .ref q55, .ref q63, rd_i 0, .ref q71, .ref q79, .ref q87, .ref q95, .ref q103, rd_i 0, .ref q111, .ref q119, .ref q126, .null, .null, .null, .null, .null, .null, .null, .null, .null, rd_l 0, rd_l 0])), (q7, bI cA 12), (q15, bI cA 12), (q23, bI cA 12), (q31, bI cA 40), (q39, bI cA 40), (q47, bI cA 40), (q55, bI cA 40), (q63, bZ cA 40), (q71, bI cA 10), (q79, bI cA 10), (q87, bI cA 10), (q95, bI cA 10), (q103, bI cA 10), (q111, bI cA 60), (q119, bJ cA 6), (q126, bZ cA 4)] H := hP
  have hD : va_D A [(h0, .inr (5, [rd_i 0, .ref q7, .ref q15, .ref q23, .ref q31, .ref q39, .ref q47, .ref q55, .ref q63, rd_i 0, .ref q71, .ref q79, .ref q87, .ref q95, .ref q103, rd_i 0, .ref q111, .ref q119, .ref q126, .null, .null, .null, .null, .null, .null, .null, .null, .null, rd_l 0, rd_l 0])), (q7, bI cA 12), (q15, bI cA 12), (q23, bI cA 12), (q31, bI cA 40), (q39, bI cA 40), (q47, bI cA 40), (q55, bI cA 40), (q63, bZ cA 40), (q71, bI cA 10), (q79, bI cA 10), (q87, bI cA 10), (q95, bI cA 10), (q103, bI cA 10), (q111, bI cA 60), (q119, bJ cA 6), (q126, bZ cA 4)] := hD
  refine lv_aload_n (pc := 131) hx hb d_M_init_131 rfl (lv_at hl 0 rfl) ?_
  refine lv_bipush (pc := 132) (v := Int32.ofInt 40) hx hb d_M_init_132 rfl ?_
  refine bd_newa (pc := 134) (atype := .long) (N' := 40) (a0 := (40, .inr (.inl (fun _ => Int64.ofInt 0)))) hx hb (hts (.arrayClass .long) (List.mem_cons_of_mem _ (bw_B hB (bw_m (rd_m 126 (by decide +kernel)))))) (ty := .long) rfl 1 rfl (fun _ h => h) hK hP hD hS hA (bJ_ha 40) (by decide) (by decide) (by decide) (Nat.le_of_ble_eq_true rfl) (Nat.le_of_ble_eq_true rfl) d_M_init_134 (fun q134 H hP hD hS => ?_)
  have hP : va_P D rd_CL [(h0, .inr (5, [rd_i 0, .ref q7, .ref q15, .ref q23, .ref q31, .ref q39, .ref q47, .ref q55, .ref q63, rd_i 0, .ref q71, .ref q79, .ref q87, .ref q95, .ref q103, rd_i 0, .ref q111, .ref q119, .ref q126, .null, .null, .null, .null, .null, .null, .null, .null, .null, rd_l 0, rd_l 0])), (q7, bI cA 12), (q15, bI cA 12), (q23, bI cA 12), (q31, bI cA 40), (q39, bI cA 40), (q47, bI cA 40), (q55, bI cA 40), (q63, bZ cA 40), (q71, bI cA 10), (q79, bI cA 10), (q87, bI cA 10), (q95, bI cA 10), (q103, bI cA 10), (q111, bI cA 60), (q119, bJ cA 6), (q126, bZ cA 4), (q134, bJ cA 40)] H := hP
  have hD : va_D A [(h0, .inr (5, [rd_i 0, .ref q7, .ref q15, .ref q23, .ref q31, .ref q39, .ref q47, .ref q55, .ref q63, rd_i 0, .ref q71, .ref q79, .ref q87, .ref q95, .ref q103, rd_i 0, .ref q111, .ref q119, .ref q126, .null, .null, .null, .null, .null, .null, .null, .null, .null, rd_l 0, rd_l 0])), (q7, bI cA 12), (q15, bI cA 12), (q23, bI cA 12), (q31, bI cA 40), (q39, bI cA 40), (q47, bI cA 40), (q55, bI cA 40), (q63, bZ cA 40), (q71, bI cA 10), (q79, bI cA 10), (q87, bI cA 10), (q95, bI cA 10), (q103, bI cA 10), (q111, bI cA 60), (q119, bJ cA 6), (q126, bZ cA 4), (q134, bJ cA 40)] := hD
  refine W.widen (k := 17) (n := 396) (Nat.le_of_ble_eq_true rfl) (Nat.le_of_ble_eq_true rfl) ?_
  refine va_putF (pc := 136) (D := D) (ci := 5) (v := .ref q134) (ty := .array .long) (C := "ReinsuranceDeskModel") (T := rd_T5) (N := 30) hx hb hts (fun w h => List.mem_cons_of_mem _ (bw_B hB (bw_u5 w h))) rd_t5 rd_tt5 rd_nn5 hown hK hP hD hS 0 rfl rfl 19 (by decide) (hts (.fieldLink "ReinsuranceDeskModel" 60 "ReinsuranceDeskModel" "kept" "[J") (List.mem_cons_of_mem _ (bw_B hB (bw_m (rd_m 633 (by decide +kernel)))))) (fun _ h9 => h9) rfl hin rfl (by decide +kernel) rfl rfl (Nat.le_of_ble_eq_true rfl) d_M_init_136 (fun H locs hP hD hS => ?_)
  have hP : va_P D rd_CL [(h0, .inr (5, [rd_i 0, .ref q7, .ref q15, .ref q23, .ref q31, .ref q39, .ref q47, .ref q55, .ref q63, rd_i 0, .ref q71, .ref q79, .ref q87, .ref q95, .ref q103, rd_i 0, .ref q111, .ref q119, .ref q126, .ref q134, .null, .null, .null, .null, .null, .null, .null, .null, rd_l 0, rd_l 0])), (q7, bI cA 12), (q15, bI cA 12), (q23, bI cA 12), (q31, bI cA 40), (q39, bI cA 40), (q47, bI cA 40), (q55, bI cA 40), (q63, bZ cA 40), (q71, bI cA 10), (q79, bI cA 10), (q87, bI cA 10), (q95, bI cA 10), (q103, bI cA 10), (q111, bI cA 60), (q119, bJ cA 6), (q126, bZ cA 4), (q134, bJ cA 40)] H := hP
  have hD : va_D A [(h0, .inr (5, [rd_i 0, .ref q7, .ref q15, .ref q23, .ref q31, .ref q39, .ref q47, .ref q55, .ref q63, rd_i 0, .ref q71, .ref q79, .ref q87, .ref q95, .ref q103, rd_i 0, .ref q111, .ref q119, .ref q126, .ref q134, .null, .null, .null, .null, .null, .null, .null, .null, rd_l 0, rd_l 0])), (q7, bI cA 12), (q15, bI cA 12), (q23, bI cA 12), (q31, bI cA 40), (q39, bI cA 40), (q47, bI cA 40), (q55, bI cA 40), (q63, bZ cA 40), (q71, bI cA 10), (q79, bI cA 10), (q87, bI cA 10), (q95, bI cA 10), (q103, bI cA 10), (q111, bI cA 60), (q119, bJ cA 6), (q126, bZ cA 4), (q134, bJ cA 40)] := hD
  refine lv_aload_n (pc := 139) hx hb d_M_init_139 rfl (lv_at hl 0 rfl) ?_
  refine lv_sipush (pc := 140) (v := Int32.ofInt 400) hx hb d_M_init_140 rfl ?_
  refine bd_newa (pc := 143) (atype := .long) (N' := 400) (a0 := (400, .inr (.inl (fun _ => Int64.ofInt 0)))) hx hb (hts (.arrayClass .long) (List.mem_cons_of_mem _ (bw_B hB (bw_m (rd_m 126 (by decide +kernel)))))) (ty := .long) rfl 1 rfl (fun _ h => h) hK hP hD hS hA (bJ_ha 400) (by decide) (by decide) (by decide) (Nat.le_of_ble_eq_true rfl) (Nat.le_of_ble_eq_true rfl) d_M_init_143 (fun q143 H hP hD hS => ?_)
  have hP : va_P D rd_CL [(h0, .inr (5, [rd_i 0, .ref q7, .ref q15, .ref q23, .ref q31, .ref q39, .ref q47, .ref q55, .ref q63, rd_i 0, .ref q71, .ref q79, .ref q87, .ref q95, .ref q103, rd_i 0, .ref q111, .ref q119, .ref q126, .ref q134, .null, .null, .null, .null, .null, .null, .null, .null, rd_l 0, rd_l 0])), (q7, bI cA 12), (q15, bI cA 12), (q23, bI cA 12), (q31, bI cA 40), (q39, bI cA 40), (q47, bI cA 40), (q55, bI cA 40), (q63, bZ cA 40), (q71, bI cA 10), (q79, bI cA 10), (q87, bI cA 10), (q95, bI cA 10), (q103, bI cA 10), (q111, bI cA 60), (q119, bJ cA 6), (q126, bZ cA 4), (q134, bJ cA 40), (q143, bJ cA 400)] H := hP
  have hD : va_D A [(h0, .inr (5, [rd_i 0, .ref q7, .ref q15, .ref q23, .ref q31, .ref q39, .ref q47, .ref q55, .ref q63, rd_i 0, .ref q71, .ref q79, .ref q87, .ref q95, .ref q103, rd_i 0, .ref q111, .ref q119, .ref q126, .ref q134, .null, .null, .null, .null, .null, .null, .null, .null, rd_l 0, rd_l 0])), (q7, bI cA 12), (q15, bI cA 12), (q23, bI cA 12), (q31, bI cA 40), (q39, bI cA 40), (q47, bI cA 40), (q55, bI cA 40), (q63, bZ cA 40), (q71, bI cA 10), (q79, bI cA 10), (q87, bI cA 10), (q95, bI cA 10), (q103, bI cA 10), (q111, bI cA 60), (q119, bJ cA 6), (q126, bZ cA 4), (q134, bJ cA 40), (q143, bJ cA 400)] := hD
  refine W.widen (k := 18) (n := 796) (Nat.le_of_ble_eq_true rfl) (Nat.le_of_ble_eq_true rfl) ?_
  refine va_putF (pc := 145) (D := D) (ci := 5) (v := .ref q143) (ty := .array .long) (C := "ReinsuranceDeskModel") (T := rd_T5) (N := 30) hx hb hts (fun w h => List.mem_cons_of_mem _ (bw_B hB (bw_u5 w h))) rd_t5 rd_tt5 rd_nn5 hown hK hP hD hS 0 rfl rfl 20 (by decide) (hts (.fieldLink "ReinsuranceDeskModel" 63 "ReinsuranceDeskModel" "taken" "[J") (List.mem_cons_of_mem _ (bw_B hB (bw_m (rd_m 634 (by decide +kernel)))))) (fun _ h9 => h9) rfl hin rfl (by decide +kernel) rfl rfl (Nat.le_of_ble_eq_true rfl) d_M_init_145 (fun H locs hP hD hS => ?_)
  have hP : va_P D rd_CL [(h0, .inr (5, [rd_i 0, .ref q7, .ref q15, .ref q23, .ref q31, .ref q39, .ref q47, .ref q55, .ref q63, rd_i 0, .ref q71, .ref q79, .ref q87, .ref q95, .ref q103, rd_i 0, .ref q111, .ref q119, .ref q126, .ref q134, .ref q143, .null, .null, .null, .null, .null, .null, .null, rd_l 0, rd_l 0])), (q7, bI cA 12), (q15, bI cA 12), (q23, bI cA 12), (q31, bI cA 40), (q39, bI cA 40), (q47, bI cA 40), (q55, bI cA 40), (q63, bZ cA 40), (q71, bI cA 10), (q79, bI cA 10), (q87, bI cA 10), (q95, bI cA 10), (q103, bI cA 10), (q111, bI cA 60), (q119, bJ cA 6), (q126, bZ cA 4), (q134, bJ cA 40), (q143, bJ cA 400)] H := hP
  have hD : va_D A [(h0, .inr (5, [rd_i 0, .ref q7, .ref q15, .ref q23, .ref q31, .ref q39, .ref q47, .ref q55, .ref q63, rd_i 0, .ref q71, .ref q79, .ref q87, .ref q95, .ref q103, rd_i 0, .ref q111, .ref q119, .ref q126, .ref q134, .ref q143, .null, .null, .null, .null, .null, .null, .null, rd_l 0, rd_l 0])), (q7, bI cA 12), (q15, bI cA 12), (q23, bI cA 12), (q31, bI cA 40), (q39, bI cA 40), (q47, bI cA 40), (q55, bI cA 40), (q63, bZ cA 40), (q71, bI cA 10), (q79, bI cA 10), (q87, bI cA 10), (q95, bI cA 10), (q103, bI cA 10), (q111, bI cA 60), (q119, bJ cA 6), (q126, bZ cA 4), (q134, bJ cA 40), (q143, bJ cA 400)] := hD
  refine lv_aload_n (pc := 148) hx hb d_M_init_148 rfl (lv_at hl 0 rfl) ?_
  refine lv_bipush (pc := 149) (v := Int32.ofInt 10) hx hb d_M_init_149 rfl ?_
  refine bd_newa (pc := 151) (atype := .long) (N' := 10) (a0 := (10, .inr (.inl (fun _ => Int64.ofInt 0)))) hx hb (hts (.arrayClass .long) (List.mem_cons_of_mem _ (bw_B hB (bw_m (rd_m 126 (by decide +kernel)))))) (ty := .long) rfl 1 rfl (fun _ h => h) hK hP hD hS hA (bJ_ha 10) (by decide) (by decide) (by decide) (Nat.le_of_ble_eq_true rfl) (Nat.le_of_ble_eq_true rfl) d_M_init_151 (fun q151 H hP hD hS => ?_)
  have hP : va_P D rd_CL [(h0, .inr (5, [rd_i 0, .ref q7, .ref q15, .ref q23, .ref q31, .ref q39, .ref q47, .ref q55, .ref q63, rd_i 0, .ref q71, .ref q79, .ref q87, .ref q95, .ref q103, rd_i 0, .ref q111, .ref q119, .ref q126, .ref q134, .ref q143, .null, .null, .null, .null, .null, .null, .null, rd_l 0, rd_l 0])), (q7, bI cA 12), (q15, bI cA 12), (q23, bI cA 12), (q31, bI cA 40), (q39, bI cA 40), (q47, bI cA 40), (q55, bI cA 40), (q63, bZ cA 40), (q71, bI cA 10), (q79, bI cA 10), (q87, bI cA 10), (q95, bI cA 10), (q103, bI cA 10), (q111, bI cA 60), (q119, bJ cA 6), (q126, bZ cA 4), (q134, bJ cA 40), (q143, bJ cA 400), (q151, bJ cA 10)] H := hP
  have hD : va_D A [(h0, .inr (5, [rd_i 0, .ref q7, .ref q15, .ref q23, .ref q31, .ref q39, .ref q47, .ref q55, .ref q63, rd_i 0, .ref q71, .ref q79, .ref q87, .ref q95, .ref q103, rd_i 0, .ref q111, .ref q119, .ref q126, .ref q134, .ref q143, .null, .null, .null, .null, .null, .null, .null, rd_l 0, rd_l 0])), (q7, bI cA 12), (q15, bI cA 12), (q23, bI cA 12), (q31, bI cA 40), (q39, bI cA 40), (q47, bI cA 40), (q55, bI cA 40), (q63, bZ cA 40), (q71, bI cA 10), (q79, bI cA 10), (q87, bI cA 10), (q95, bI cA 10), (q103, bI cA 10), (q111, bI cA 60), (q119, bJ cA 6), (q126, bZ cA 4), (q134, bJ cA 40), (q143, bJ cA 400), (q151, bJ cA 10)] := hD
  refine W.widen (k := 19) (n := 806) (Nat.le_of_ble_eq_true rfl) (Nat.le_of_ble_eq_true rfl) ?_
  refine va_putF (pc := 153) (D := D) (ci := 5) (v := .ref q151) (ty := .array .long) (C := "ReinsuranceDeskModel") (T := rd_T5) (N := 30) hx hb hts (fun w h => List.mem_cons_of_mem _ (bw_B hB (bw_u5 w h))) rd_t5 rd_tt5 rd_nn5 hown hK hP hD hS 0 rfl rfl 21 (by decide) (hts (.fieldLink "ReinsuranceDeskModel" 66 "ReinsuranceDeskModel" "total" "[J") (List.mem_cons_of_mem _ (bw_B hB (bw_m (rd_m 635 (by decide +kernel)))))) (fun _ h9 => h9) rfl hin rfl (by decide +kernel) rfl rfl (Nat.le_of_ble_eq_true rfl) d_M_init_153 (fun H locs hP hD hS => ?_)
  have hP : va_P D rd_CL [(h0, .inr (5, [rd_i 0, .ref q7, .ref q15, .ref q23, .ref q31, .ref q39, .ref q47, .ref q55, .ref q63, rd_i 0, .ref q71, .ref q79, .ref q87, .ref q95, .ref q103, rd_i 0, .ref q111, .ref q119, .ref q126, .ref q134, .ref q143, .ref q151, .null, .null, .null, .null, .null, .null, rd_l 0, rd_l 0])), (q7, bI cA 12), (q15, bI cA 12), (q23, bI cA 12), (q31, bI cA 40), (q39, bI cA 40), (q47, bI cA 40), (q55, bI cA 40), (q63, bZ cA 40), (q71, bI cA 10), (q79, bI cA 10), (q87, bI cA 10), (q95, bI cA 10), (q103, bI cA 10), (q111, bI cA 60), (q119, bJ cA 6), (q126, bZ cA 4), (q134, bJ cA 40), (q143, bJ cA 400), (q151, bJ cA 10)] H := hP
  have hD : va_D A [(h0, .inr (5, [rd_i 0, .ref q7, .ref q15, .ref q23, .ref q31, .ref q39, .ref q47, .ref q55, .ref q63, rd_i 0, .ref q71, .ref q79, .ref q87, .ref q95, .ref q103, rd_i 0, .ref q111, .ref q119, .ref q126, .ref q134, .ref q143, .ref q151, .null, .null, .null, .null, .null, .null, rd_l 0, rd_l 0])), (q7, bI cA 12), (q15, bI cA 12), (q23, bI cA 12), (q31, bI cA 40), (q39, bI cA 40), (q47, bI cA 40), (q55, bI cA 40), (q63, bZ cA 40), (q71, bI cA 10), (q79, bI cA 10), (q87, bI cA 10), (q95, bI cA 10), (q103, bI cA 10), (q111, bI cA 60), (q119, bJ cA 6), (q126, bZ cA 4), (q134, bJ cA 40), (q143, bJ cA 400), (q151, bJ cA 10)] := hD
  refine lv_aload_n (pc := 156) hx hb d_M_init_156 rfl (lv_at hl 0 rfl) ?_
  refine lv_bipush (pc := 157) (v := Int32.ofInt 10) hx hb d_M_init_157 rfl ?_
  refine bd_newa (pc := 159) (atype := .long) (N' := 10) (a0 := (10, .inr (.inl (fun _ => Int64.ofInt 0)))) hx hb (hts (.arrayClass .long) (List.mem_cons_of_mem _ (bw_B hB (bw_m (rd_m 126 (by decide +kernel)))))) (ty := .long) rfl 1 rfl (fun _ h => h) hK hP hD hS hA (bJ_ha 10) (by decide) (by decide) (by decide) (Nat.le_of_ble_eq_true rfl) (Nat.le_of_ble_eq_true rfl) d_M_init_159 (fun q159 H hP hD hS => ?_)
  have hP : va_P D rd_CL [(h0, .inr (5, [rd_i 0, .ref q7, .ref q15, .ref q23, .ref q31, .ref q39, .ref q47, .ref q55, .ref q63, rd_i 0, .ref q71, .ref q79, .ref q87, .ref q95, .ref q103, rd_i 0, .ref q111, .ref q119, .ref q126, .ref q134, .ref q143, .ref q151, .null, .null, .null, .null, .null, .null, rd_l 0, rd_l 0])), (q7, bI cA 12), (q15, bI cA 12), (q23, bI cA 12), (q31, bI cA 40), (q39, bI cA 40), (q47, bI cA 40), (q55, bI cA 40), (q63, bZ cA 40), (q71, bI cA 10), (q79, bI cA 10), (q87, bI cA 10), (q95, bI cA 10), (q103, bI cA 10), (q111, bI cA 60), (q119, bJ cA 6), (q126, bZ cA 4), (q134, bJ cA 40), (q143, bJ cA 400), (q151, bJ cA 10), (q159, bJ cA 10)] H := hP
  have hD : va_D A [(h0, .inr (5, [rd_i 0, .ref q7, .ref q15, .ref q23, .ref q31, .ref q39, .ref q47, .ref q55, .ref q63, rd_i 0, .ref q71, .ref q79, .ref q87, .ref q95, .ref q103, rd_i 0, .ref q111, .ref q119, .ref q126, .ref q134, .ref q143, .ref q151, .null, .null, .null, .null, .null, .null, rd_l 0, rd_l 0])), (q7, bI cA 12), (q15, bI cA 12), (q23, bI cA 12), (q31, bI cA 40), (q39, bI cA 40), (q47, bI cA 40), (q55, bI cA 40), (q63, bZ cA 40), (q71, bI cA 10), (q79, bI cA 10), (q87, bI cA 10), (q95, bI cA 10), (q103, bI cA 10), (q111, bI cA 60), (q119, bJ cA 6), (q126, bZ cA 4), (q134, bJ cA 40), (q143, bJ cA 400), (q151, bJ cA 10), (q159, bJ cA 10)] := hD
  refine W.widen (k := 20) (n := 816) (Nat.le_of_ble_eq_true rfl) (Nat.le_of_ble_eq_true rfl) ?_
  refine va_putF (pc := 161) (D := D) (ci := 5) (v := .ref q159) (ty := .array .long) (C := "ReinsuranceDeskModel") (T := rd_T5) (N := 30) hx hb hts (fun w h => List.mem_cons_of_mem _ (bw_B hB (bw_u5 w h))) rd_t5 rd_tt5 rd_nn5 hown hK hP hD hS 0 rfl rfl 22 (by decide) (hts (.fieldLink "ReinsuranceDeskModel" 69 "ReinsuranceDeskModel" "earned" "[J") (List.mem_cons_of_mem _ (bw_B hB (bw_m (rd_m 636 (by decide +kernel)))))) (fun _ h9 => h9) rfl hin rfl (by decide +kernel) rfl rfl (Nat.le_of_ble_eq_true rfl) d_M_init_161 (fun H locs hP hD hS => ?_)
  have hP : va_P D rd_CL [(h0, .inr (5, [rd_i 0, .ref q7, .ref q15, .ref q23, .ref q31, .ref q39, .ref q47, .ref q55, .ref q63, rd_i 0, .ref q71, .ref q79, .ref q87, .ref q95, .ref q103, rd_i 0, .ref q111, .ref q119, .ref q126, .ref q134, .ref q143, .ref q151, .ref q159, .null, .null, .null, .null, .null, rd_l 0, rd_l 0])), (q7, bI cA 12), (q15, bI cA 12), (q23, bI cA 12), (q31, bI cA 40), (q39, bI cA 40), (q47, bI cA 40), (q55, bI cA 40), (q63, bZ cA 40), (q71, bI cA 10), (q79, bI cA 10), (q87, bI cA 10), (q95, bI cA 10), (q103, bI cA 10), (q111, bI cA 60), (q119, bJ cA 6), (q126, bZ cA 4), (q134, bJ cA 40), (q143, bJ cA 400), (q151, bJ cA 10), (q159, bJ cA 10)] H := hP
  have hD : va_D A [(h0, .inr (5, [rd_i 0, .ref q7, .ref q15, .ref q23, .ref q31, .ref q39, .ref q47, .ref q55, .ref q63, rd_i 0, .ref q71, .ref q79, .ref q87, .ref q95, .ref q103, rd_i 0, .ref q111, .ref q119, .ref q126, .ref q134, .ref q143, .ref q151, .ref q159, .null, .null, .null, .null, .null, rd_l 0, rd_l 0])), (q7, bI cA 12), (q15, bI cA 12), (q23, bI cA 12), (q31, bI cA 40), (q39, bI cA 40), (q47, bI cA 40), (q55, bI cA 40), (q63, bZ cA 40), (q71, bI cA 10), (q79, bI cA 10), (q87, bI cA 10), (q95, bI cA 10), (q103, bI cA 10), (q111, bI cA 60), (q119, bJ cA 6), (q126, bZ cA 4), (q134, bJ cA 40), (q143, bJ cA 400), (q151, bJ cA 10), (q159, bJ cA 10)] := hD
  refine lv_aload_n (pc := 164) hx hb d_M_init_164 rfl (lv_at hl 0 rfl) ?_
  refine lv_bipush (pc := 165) (v := Int32.ofInt 100) hx hb d_M_init_165 rfl ?_
  refine bd_newa (pc := 167) (atype := .int) (N' := 100) (a0 := (100, .inl (fun _ => Int32.ofInt 0))) hx hb (hts (.arrayClass .int) (List.mem_cons_of_mem _ (bw_B hB (bw_m (rd_m 44 (by decide +kernel)))))) (ty := .int) rfl 0 rfl (fun _ h => h) hK hP hD hS hA (bI_ha 100) (by decide) (by decide) (by decide) (Nat.le_of_ble_eq_true rfl) (Nat.le_of_ble_eq_true rfl) d_M_init_167 (fun q167 H hP hD hS => ?_)
  have hP : va_P D rd_CL [(h0, .inr (5, [rd_i 0, .ref q7, .ref q15, .ref q23, .ref q31, .ref q39, .ref q47, .ref q55, .ref q63, rd_i 0, .ref q71, .ref q79, .ref q87, .ref q95, .ref q103, rd_i 0, .ref q111, .ref q119, .ref q126, .ref q134, .ref q143, .ref q151, .ref q159, .null, .null, .null, .null, .null, rd_l 0, rd_l 0])), (q7, bI cA 12), (q15, bI cA 12), (q23, bI cA 12), (q31, bI cA 40), (q39, bI cA 40), (q47, bI cA 40), (q55, bI cA 40), (q63, bZ cA 40), (q71, bI cA 10), (q79, bI cA 10), (q87, bI cA 10), (q95, bI cA 10), (q103, bI cA 10), (q111, bI cA 60), (q119, bJ cA 6), (q126, bZ cA 4), (q134, bJ cA 40), (q143, bJ cA 400), (q151, bJ cA 10), (q159, bJ cA 10), (q167, bI cA 100)] H := hP
  have hD : va_D A [(h0, .inr (5, [rd_i 0, .ref q7, .ref q15, .ref q23, .ref q31, .ref q39, .ref q47, .ref q55, .ref q63, rd_i 0, .ref q71, .ref q79, .ref q87, .ref q95, .ref q103, rd_i 0, .ref q111, .ref q119, .ref q126, .ref q134, .ref q143, .ref q151, .ref q159, .null, .null, .null, .null, .null, rd_l 0, rd_l 0])), (q7, bI cA 12), (q15, bI cA 12), (q23, bI cA 12), (q31, bI cA 40), (q39, bI cA 40), (q47, bI cA 40), (q55, bI cA 40), (q63, bZ cA 40), (q71, bI cA 10), (q79, bI cA 10), (q87, bI cA 10), (q95, bI cA 10), (q103, bI cA 10), (q111, bI cA 60), (q119, bJ cA 6), (q126, bZ cA 4), (q134, bJ cA 40), (q143, bJ cA 400), (q151, bJ cA 10), (q159, bJ cA 10), (q167, bI cA 100)] := hD
  refine W.widen (k := 21) (n := 916) (Nat.le_of_ble_eq_true rfl) (Nat.le_of_ble_eq_true rfl) ?_
  refine va_putF (pc := 169) (D := D) (ci := 5) (v := .ref q167) (ty := .array .int) (C := "ReinsuranceDeskModel") (T := rd_T5) (N := 30) hx hb hts (fun w h => List.mem_cons_of_mem _ (bw_B hB (bw_u5 w h))) rd_t5 rd_tt5 rd_nn5 hown hK hP hD hS 0 rfl rfl 23 (by decide) (hts (.fieldLink "ReinsuranceDeskModel" 72 "ReinsuranceDeskModel" "window" "[I") (List.mem_cons_of_mem _ (bw_B hB (bw_m (rd_m 637 (by decide +kernel)))))) (fun _ h9 => h9) rfl hin rfl (by decide +kernel) rfl rfl (Nat.le_of_ble_eq_true rfl) d_M_init_169 (fun H locs hP hD hS => ?_)
  have hP : va_P D rd_CL [(h0, .inr (5, [rd_i 0, .ref q7, .ref q15, .ref q23, .ref q31, .ref q39, .ref q47, .ref q55, .ref q63, rd_i 0, .ref q71, .ref q79, .ref q87, .ref q95, .ref q103, rd_i 0, .ref q111, .ref q119, .ref q126, .ref q134, .ref q143, .ref q151, .ref q159, .ref q167, .null, .null, .null, .null, rd_l 0, rd_l 0])), (q7, bI cA 12), (q15, bI cA 12), (q23, bI cA 12), (q31, bI cA 40), (q39, bI cA 40), (q47, bI cA 40), (q55, bI cA 40), (q63, bZ cA 40), (q71, bI cA 10), (q79, bI cA 10), (q87, bI cA 10), (q95, bI cA 10), (q103, bI cA 10), (q111, bI cA 60), (q119, bJ cA 6), (q126, bZ cA 4), (q134, bJ cA 40), (q143, bJ cA 400), (q151, bJ cA 10), (q159, bJ cA 10), (q167, bI cA 100)] H := hP
  have hD : va_D A [(h0, .inr (5, [rd_i 0, .ref q7, .ref q15, .ref q23, .ref q31, .ref q39, .ref q47, .ref q55, .ref q63, rd_i 0, .ref q71, .ref q79, .ref q87, .ref q95, .ref q103, rd_i 0, .ref q111, .ref q119, .ref q126, .ref q134, .ref q143, .ref q151, .ref q159, .ref q167, .null, .null, .null, .null, rd_l 0, rd_l 0])), (q7, bI cA 12), (q15, bI cA 12), (q23, bI cA 12), (q31, bI cA 40), (q39, bI cA 40), (q47, bI cA 40), (q55, bI cA 40), (q63, bZ cA 40), (q71, bI cA 10), (q79, bI cA 10), (q87, bI cA 10), (q95, bI cA 10), (q103, bI cA 10), (q111, bI cA 60), (q119, bJ cA 6), (q126, bZ cA 4), (q134, bJ cA 40), (q143, bJ cA 400), (q151, bJ cA 10), (q159, bJ cA 10), (q167, bI cA 100)] := hD
  refine lv_aload_n (pc := 172) hx hb d_M_init_172 rfl (lv_at hl 0 rfl) ?_
  refine lv_bipush (pc := 173) (v := Int32.ofInt 12) hx hb d_M_init_173 rfl ?_
  refine bd_newa (pc := 175) (atype := .long) (N' := 12) (a0 := (12, .inr (.inl (fun _ => Int64.ofInt 0)))) hx hb (hts (.arrayClass .long) (List.mem_cons_of_mem _ (bw_B hB (bw_m (rd_m 126 (by decide +kernel)))))) (ty := .long) rfl 1 rfl (fun _ h => h) hK hP hD hS hA (bJ_ha 12) (by decide) (by decide) (by decide) (Nat.le_of_ble_eq_true rfl) (Nat.le_of_ble_eq_true rfl) d_M_init_175 (fun q175 H hP hD hS => ?_)
  have hP : va_P D rd_CL [(h0, .inr (5, [rd_i 0, .ref q7, .ref q15, .ref q23, .ref q31, .ref q39, .ref q47, .ref q55, .ref q63, rd_i 0, .ref q71, .ref q79, .ref q87, .ref q95, .ref q103, rd_i 0, .ref q111, .ref q119, .ref q126, .ref q134, .ref q143, .ref q151, .ref q159, .ref q167, .null, .null, .null, .null, rd_l 0, rd_l 0])), (q7, bI cA 12), (q15, bI cA 12), (q23, bI cA 12), (q31, bI cA 40), (q39, bI cA 40), (q47, bI cA 40), (q55, bI cA 40), (q63, bZ cA 40), (q71, bI cA 10), (q79, bI cA 10), (q87, bI cA 10), (q95, bI cA 10), (q103, bI cA 10), (q111, bI cA 60), (q119, bJ cA 6), (q126, bZ cA 4), (q134, bJ cA 40), (q143, bJ cA 400), (q151, bJ cA 10), (q159, bJ cA 10), (q167, bI cA 100), (q175, bJ cA 12)] H := hP
  have hD : va_D A [(h0, .inr (5, [rd_i 0, .ref q7, .ref q15, .ref q23, .ref q31, .ref q39, .ref q47, .ref q55, .ref q63, rd_i 0, .ref q71, .ref q79, .ref q87, .ref q95, .ref q103, rd_i 0, .ref q111, .ref q119, .ref q126, .ref q134, .ref q143, .ref q151, .ref q159, .ref q167, .null, .null, .null, .null, rd_l 0, rd_l 0])), (q7, bI cA 12), (q15, bI cA 12), (q23, bI cA 12), (q31, bI cA 40), (q39, bI cA 40), (q47, bI cA 40), (q55, bI cA 40), (q63, bZ cA 40), (q71, bI cA 10), (q79, bI cA 10), (q87, bI cA 10), (q95, bI cA 10), (q103, bI cA 10), (q111, bI cA 60), (q119, bJ cA 6), (q126, bZ cA 4), (q134, bJ cA 40), (q143, bJ cA 400), (q151, bJ cA 10), (q159, bJ cA 10), (q167, bI cA 100), (q175, bJ cA 12)] := hD
  refine W.widen (k := 22) (n := 928) (Nat.le_of_ble_eq_true rfl) (Nat.le_of_ble_eq_true rfl) ?_
  refine va_putF (pc := 177) (D := D) (ci := 5) (v := .ref q175) (ty := .array .long) (C := "ReinsuranceDeskModel") (T := rd_T5) (N := 30) hx hb hts (fun w h => List.mem_cons_of_mem _ (bw_B hB (bw_u5 w h))) rd_t5 rd_tt5 rd_nn5 hown hK hP hD hS 0 rfl rfl 24 (by decide) (hts (.fieldLink "ReinsuranceDeskModel" 75 "ReinsuranceDeskModel" "left" "[J") (List.mem_cons_of_mem _ (bw_B hB (bw_m (rd_m 638 (by decide +kernel)))))) (fun _ h9 => h9) rfl hin rfl (by decide +kernel) rfl rfl (Nat.le_of_ble_eq_true rfl) d_M_init_177 (fun H locs hP hD hS => ?_)
  have hP : va_P D rd_CL [(h0, .inr (5, [rd_i 0, .ref q7, .ref q15, .ref q23, .ref q31, .ref q39, .ref q47, .ref q55, .ref q63, rd_i 0, .ref q71, .ref q79, .ref q87, .ref q95, .ref q103, rd_i 0, .ref q111, .ref q119, .ref q126, .ref q134, .ref q143, .ref q151, .ref q159, .ref q167, .ref q175, .null, .null, .null, rd_l 0, rd_l 0])), (q7, bI cA 12), (q15, bI cA 12), (q23, bI cA 12), (q31, bI cA 40), (q39, bI cA 40), (q47, bI cA 40), (q55, bI cA 40), (q63, bZ cA 40), (q71, bI cA 10), (q79, bI cA 10), (q87, bI cA 10), (q95, bI cA 10), (q103, bI cA 10), (q111, bI cA 60), (q119, bJ cA 6), (q126, bZ cA 4), (q134, bJ cA 40), (q143, bJ cA 400), (q151, bJ cA 10), (q159, bJ cA 10), (q167, bI cA 100), (q175, bJ cA 12)] H := hP
  have hD : va_D A [(h0, .inr (5, [rd_i 0, .ref q7, .ref q15, .ref q23, .ref q31, .ref q39, .ref q47, .ref q55, .ref q63, rd_i 0, .ref q71, .ref q79, .ref q87, .ref q95, .ref q103, rd_i 0, .ref q111, .ref q119, .ref q126, .ref q134, .ref q143, .ref q151, .ref q159, .ref q167, .ref q175, .null, .null, .null, rd_l 0, rd_l 0])), (q7, bI cA 12), (q15, bI cA 12), (q23, bI cA 12), (q31, bI cA 40), (q39, bI cA 40), (q47, bI cA 40), (q55, bI cA 40), (q63, bZ cA 40), (q71, bI cA 10), (q79, bI cA 10), (q87, bI cA 10), (q95, bI cA 10), (q103, bI cA 10), (q111, bI cA 60), (q119, bJ cA 6), (q126, bZ cA 4), (q134, bJ cA 40), (q143, bJ cA 400), (q151, bJ cA 10), (q159, bJ cA 10), (q167, bI cA 100), (q175, bJ cA 12)] := hD
  refine lv_aload_n (pc := 180) hx hb d_M_init_180 rfl (lv_at hl 0 rfl) ?_
  refine lv_bipush (pc := 181) (v := Int32.ofInt 40) hx hb d_M_init_181 rfl ?_
  refine bd_newa (pc := 183) (atype := .boolean) (N' := 40) (a0 := (40, .inl (fun _ => Int32.ofInt 0))) hx hb (hts (.arrayClass .boolean) (List.mem_cons_of_mem _ (bw_B hB (bw_m (rd_m 85 (by decide +kernel)))))) (ty := .boolean) rfl 2 rfl (fun _ h => h) hK hP hD hS hA (bZ_ha 40) (by decide) (by decide) (by decide) (Nat.le_of_ble_eq_true rfl) (Nat.le_of_ble_eq_true rfl) d_M_init_183 (fun q183 H hP hD hS => ?_)
  have hP : va_P D rd_CL [(h0, .inr (5, [rd_i 0, .ref q7, .ref q15, .ref q23, .ref q31, .ref q39, .ref q47, .ref q55, .ref q63, rd_i 0, .ref q71, .ref q79, .ref q87, .ref q95, .ref q103, rd_i 0, .ref q111, .ref q119, .ref q126, .ref q134, .ref q143, .ref q151, .ref q159, .ref q167, .ref q175, .null, .null, .null, rd_l 0, rd_l 0])), (q7, bI cA 12), (q15, bI cA 12), (q23, bI cA 12), (q31, bI cA 40), (q39, bI cA 40), (q47, bI cA 40), (q55, bI cA 40), (q63, bZ cA 40), (q71, bI cA 10), (q79, bI cA 10), (q87, bI cA 10), (q95, bI cA 10), (q103, bI cA 10), (q111, bI cA 60), (q119, bJ cA 6), (q126, bZ cA 4), (q134, bJ cA 40), (q143, bJ cA 400), (q151, bJ cA 10), (q159, bJ cA 10), (q167, bI cA 100), (q175, bJ cA 12), (q183, bZ cA 40)] H := hP
  have hD : va_D A [(h0, .inr (5, [rd_i 0, .ref q7, .ref q15, .ref q23, .ref q31, .ref q39, .ref q47, .ref q55, .ref q63, rd_i 0, .ref q71, .ref q79, .ref q87, .ref q95, .ref q103, rd_i 0, .ref q111, .ref q119, .ref q126, .ref q134, .ref q143, .ref q151, .ref q159, .ref q167, .ref q175, .null, .null, .null, rd_l 0, rd_l 0])), (q7, bI cA 12), (q15, bI cA 12), (q23, bI cA 12), (q31, bI cA 40), (q39, bI cA 40), (q47, bI cA 40), (q55, bI cA 40), (q63, bZ cA 40), (q71, bI cA 10), (q79, bI cA 10), (q87, bI cA 10), (q95, bI cA 10), (q103, bI cA 10), (q111, bI cA 60), (q119, bJ cA 6), (q126, bZ cA 4), (q134, bJ cA 40), (q143, bJ cA 400), (q151, bJ cA 10), (q159, bJ cA 10), (q167, bI cA 100), (q175, bJ cA 12), (q183, bZ cA 40)] := hD
  refine W.widen (k := 23) (n := 968) (Nat.le_of_ble_eq_true rfl) (Nat.le_of_ble_eq_true rfl) ?_
  refine va_putF (pc := 185) (D := D) (ci := 5) (v := .ref q183) (ty := .array .boolean) (C := "ReinsuranceDeskModel") (T := rd_T5) (N := 30) hx hb hts (fun w h => List.mem_cons_of_mem _ (bw_B hB (bw_u5 w h))) rd_t5 rd_tt5 rd_nn5 hown hK hP hD hS 0 rfl rfl 25 (by decide) (hts (.fieldLink "ReinsuranceDeskModel" 78 "ReinsuranceDeskModel" "inside" "[Z") (List.mem_cons_of_mem _ (bw_B hB (bw_m (rd_m 639 (by decide +kernel)))))) (fun _ h9 => h9) rfl hin rfl (by decide +kernel) rfl rfl (Nat.le_of_ble_eq_true rfl) d_M_init_185 (fun H locs hP hD hS => ?_)
  have hP : va_P D rd_CL [(h0, .inr (5, [rd_i 0, .ref q7, .ref q15, .ref q23, .ref q31, .ref q39, .ref q47, .ref q55, .ref q63, rd_i 0, .ref q71, .ref q79, .ref q87, .ref q95, .ref q103, rd_i 0, .ref q111, .ref q119, .ref q126, .ref q134, .ref q143, .ref q151, .ref q159, .ref q167, .ref q175, .ref q183, .null, .null, rd_l 0, rd_l 0])), (q7, bI cA 12), (q15, bI cA 12), (q23, bI cA 12), (q31, bI cA 40), (q39, bI cA 40), (q47, bI cA 40), (q55, bI cA 40), (q63, bZ cA 40), (q71, bI cA 10), (q79, bI cA 10), (q87, bI cA 10), (q95, bI cA 10), (q103, bI cA 10), (q111, bI cA 60), (q119, bJ cA 6), (q126, bZ cA 4), (q134, bJ cA 40), (q143, bJ cA 400), (q151, bJ cA 10), (q159, bJ cA 10), (q167, bI cA 100), (q175, bJ cA 12), (q183, bZ cA 40)] H := hP
  have hD : va_D A [(h0, .inr (5, [rd_i 0, .ref q7, .ref q15, .ref q23, .ref q31, .ref q39, .ref q47, .ref q55, .ref q63, rd_i 0, .ref q71, .ref q79, .ref q87, .ref q95, .ref q103, rd_i 0, .ref q111, .ref q119, .ref q126, .ref q134, .ref q143, .ref q151, .ref q159, .ref q167, .ref q175, .ref q183, .null, .null, rd_l 0, rd_l 0])), (q7, bI cA 12), (q15, bI cA 12), (q23, bI cA 12), (q31, bI cA 40), (q39, bI cA 40), (q47, bI cA 40), (q55, bI cA 40), (q63, bZ cA 40), (q71, bI cA 10), (q79, bI cA 10), (q87, bI cA 10), (q95, bI cA 10), (q103, bI cA 10), (q111, bI cA 60), (q119, bJ cA 6), (q126, bZ cA 4), (q134, bJ cA 40), (q143, bJ cA 400), (q151, bJ cA 10), (q159, bJ cA 10), (q167, bI cA 100), (q175, bJ cA 12), (q183, bZ cA 40)] := hD
  refine lv_aload_n (pc := 188) hx hb d_M_init_188 rfl (lv_at hl 0 rfl) ?_
  refine lv_bipush (pc := 189) (v := Int32.ofInt 40) hx hb d_M_init_189 rfl ?_
  refine bd_newa (pc := 191) (atype := .long) (N' := 40) (a0 := (40, .inr (.inl (fun _ => Int64.ofInt 0)))) hx hb (hts (.arrayClass .long) (List.mem_cons_of_mem _ (bw_B hB (bw_m (rd_m 126 (by decide +kernel)))))) (ty := .long) rfl 1 rfl (fun _ h => h) hK hP hD hS hA (bJ_ha 40) (by decide) (by decide) (by decide) (Nat.le_of_ble_eq_true rfl) (Nat.le_of_ble_eq_true rfl) d_M_init_191 (fun q191 H hP hD hS => ?_)
  have hP : va_P D rd_CL [(h0, .inr (5, [rd_i 0, .ref q7, .ref q15, .ref q23, .ref q31, .ref q39, .ref q47, .ref q55, .ref q63, rd_i 0, .ref q71, .ref q79, .ref q87, .ref q95, .ref q103, rd_i 0, .ref q111, .ref q119, .ref q126, .ref q134, .ref q143, .ref q151, .ref q159, .ref q167, .ref q175, .ref q183, .null, .null, rd_l 0, rd_l 0])), (q7, bI cA 12), (q15, bI cA 12), (q23, bI cA 12), (q31, bI cA 40), (q39, bI cA 40), (q47, bI cA 40), (q55, bI cA 40), (q63, bZ cA 40), (q71, bI cA 10), (q79, bI cA 10), (q87, bI cA 10), (q95, bI cA 10), (q103, bI cA 10), (q111, bI cA 60), (q119, bJ cA 6), (q126, bZ cA 4), (q134, bJ cA 40), (q143, bJ cA 400), (q151, bJ cA 10), (q159, bJ cA 10), (q167, bI cA 100), (q175, bJ cA 12), (q183, bZ cA 40), (q191, bJ cA 40)] H := hP
  have hD : va_D A [(h0, .inr (5, [rd_i 0, .ref q7, .ref q15, .ref q23, .ref q31, .ref q39, .ref q47, .ref q55, .ref q63, rd_i 0, .ref q71, .ref q79, .ref q87, .ref q95, .ref q103, rd_i 0, .ref q111, .ref q119, .ref q126, .ref q134, .ref q143, .ref q151, .ref q159, .ref q167, .ref q175, .ref q183, .null, .null, rd_l 0, rd_l 0])), (q7, bI cA 12), (q15, bI cA 12), (q23, bI cA 12), (q31, bI cA 40), (q39, bI cA 40), (q47, bI cA 40), (q55, bI cA 40), (q63, bZ cA 40), (q71, bI cA 10), (q79, bI cA 10), (q87, bI cA 10), (q95, bI cA 10), (q103, bI cA 10), (q111, bI cA 60), (q119, bJ cA 6), (q126, bZ cA 4), (q134, bJ cA 40), (q143, bJ cA 400), (q151, bJ cA 10), (q159, bJ cA 10), (q167, bI cA 100), (q175, bJ cA 12), (q183, bZ cA 40), (q191, bJ cA 40)] := hD
  refine W.widen (k := 24) (n := 1008) (Nat.le_of_ble_eq_true rfl) (Nat.le_of_ble_eq_true rfl) ?_
  refine va_putF (pc := 193) (D := D) (ci := 5) (v := .ref q191) (ty := .array .long) (C := "ReinsuranceDeskModel") (T := rd_T5) (N := 30) hx hb hts (fun w h => List.mem_cons_of_mem _ (bw_B hB (bw_u5 w h))) rd_t5 rd_tt5 rd_nn5 hown hK hP hD hS 0 rfl rfl 26 (by decide) (hts (.fieldLink "ReinsuranceDeskModel" 81 "ReinsuranceDeskModel" "rest" "[J") (List.mem_cons_of_mem _ (bw_B hB (bw_m (rd_m 640 (by decide +kernel)))))) (fun _ h9 => h9) rfl hin rfl (by decide +kernel) rfl rfl (Nat.le_of_ble_eq_true rfl) d_M_init_193 (fun H locs hP hD hS => ?_)
  have hP : va_P D rd_CL [(h0, .inr (5, [rd_i 0, .ref q7, .ref q15, .ref q23, .ref q31, .ref q39, .ref q47, .ref q55, .ref q63, rd_i 0, .ref q71, .ref q79, .ref q87, .ref q95, .ref q103, rd_i 0, .ref q111, .ref q119, .ref q126, .ref q134, .ref q143, .ref q151, .ref q159, .ref q167, .ref q175, .ref q183, .ref q191, .null, rd_l 0, rd_l 0])), (q7, bI cA 12), (q15, bI cA 12), (q23, bI cA 12), (q31, bI cA 40), (q39, bI cA 40), (q47, bI cA 40), (q55, bI cA 40), (q63, bZ cA 40), (q71, bI cA 10), (q79, bI cA 10), (q87, bI cA 10), (q95, bI cA 10), (q103, bI cA 10), (q111, bI cA 60), (q119, bJ cA 6), (q126, bZ cA 4), (q134, bJ cA 40), (q143, bJ cA 400), (q151, bJ cA 10), (q159, bJ cA 10), (q167, bI cA 100), (q175, bJ cA 12), (q183, bZ cA 40), (q191, bJ cA 40)] H := hP
  have hD : va_D A [(h0, .inr (5, [rd_i 0, .ref q7, .ref q15, .ref q23, .ref q31, .ref q39, .ref q47, .ref q55, .ref q63, rd_i 0, .ref q71, .ref q79, .ref q87, .ref q95, .ref q103, rd_i 0, .ref q111, .ref q119, .ref q126, .ref q134, .ref q143, .ref q151, .ref q159, .ref q167, .ref q175, .ref q183, .ref q191, .null, rd_l 0, rd_l 0])), (q7, bI cA 12), (q15, bI cA 12), (q23, bI cA 12), (q31, bI cA 40), (q39, bI cA 40), (q47, bI cA 40), (q55, bI cA 40), (q63, bZ cA 40), (q71, bI cA 10), (q79, bI cA 10), (q87, bI cA 10), (q95, bI cA 10), (q103, bI cA 10), (q111, bI cA 60), (q119, bJ cA 6), (q126, bZ cA 4), (q134, bJ cA 40), (q143, bJ cA 400), (q151, bJ cA 10), (q159, bJ cA 10), (q167, bI cA 100), (q175, bJ cA 12), (q183, bZ cA 40), (q191, bJ cA 40)] := hD
  refine lv_aload_n (pc := 196) hx hb d_M_init_196 rfl (lv_at hl 0 rfl) ?_
  refine lv_bipush (pc := 197) (v := Int32.ofInt 40) hx hb d_M_init_197 rfl ?_
  refine bd_newa (pc := 199) (atype := .int) (N' := 40) (a0 := (40, .inl (fun _ => Int32.ofInt 0))) hx hb (hts (.arrayClass .int) (List.mem_cons_of_mem _ (bw_B hB (bw_m (rd_m 44 (by decide +kernel)))))) (ty := .int) rfl 0 rfl (fun _ h => h) hK hP hD hS hA (bI_ha 40) (by decide) (by decide) (by decide) (Nat.le_of_ble_eq_true rfl) (Nat.le_of_ble_eq_true rfl) d_M_init_199 (fun q199 H hP hD hS => ?_)
  have hP : va_P D rd_CL [(h0, .inr (5, [rd_i 0, .ref q7, .ref q15, .ref q23, .ref q31, .ref q39, .ref q47, .ref q55, .ref q63, rd_i 0, .ref q71, .ref q79, .ref q87, .ref q95, .ref q103, rd_i 0, .ref q111, .ref q119, .ref q126, .ref q134, .ref q143, .ref q151, .ref q159, .ref q167, .ref q175, .ref q183, .ref q191, .null, rd_l 0, rd_l 0])), (q7, bI cA 12), (q15, bI cA 12), (q23, bI cA 12), (q31, bI cA 40), (q39, bI cA 40), (q47, bI cA 40), (q55, bI cA 40), (q63, bZ cA 40), (q71, bI cA 10), (q79, bI cA 10), (q87, bI cA 10), (q95, bI cA 10), (q103, bI cA 10), (q111, bI cA 60), (q119, bJ cA 6), (q126, bZ cA 4), (q134, bJ cA 40), (q143, bJ cA 400), (q151, bJ cA 10), (q159, bJ cA 10), (q167, bI cA 100), (q175, bJ cA 12), (q183, bZ cA 40), (q191, bJ cA 40), (q199, bI cA 40)] H := hP
  have hD : va_D A [(h0, .inr (5, [rd_i 0, .ref q7, .ref q15, .ref q23, .ref q31, .ref q39, .ref q47, .ref q55, .ref q63, rd_i 0, .ref q71, .ref q79, .ref q87, .ref q95, .ref q103, rd_i 0, .ref q111, .ref q119, .ref q126, .ref q134, .ref q143, .ref q151, .ref q159, .ref q167, .ref q175, .ref q183, .ref q191, .null, rd_l 0, rd_l 0])), (q7, bI cA 12), (q15, bI cA 12), (q23, bI cA 12), (q31, bI cA 40), (q39, bI cA 40), (q47, bI cA 40), (q55, bI cA 40), (q63, bZ cA 40), (q71, bI cA 10), (q79, bI cA 10), (q87, bI cA 10), (q95, bI cA 10), (q103, bI cA 10), (q111, bI cA 60), (q119, bJ cA 6), (q126, bZ cA 4), (q134, bJ cA 40), (q143, bJ cA 400), (q151, bJ cA 10), (q159, bJ cA 10), (q167, bI cA 100), (q175, bJ cA 12), (q183, bZ cA 40), (q191, bJ cA 40), (q199, bI cA 40)] := hD
  refine W.widen (k := 25) (n := 1048) (Nat.le_of_ble_eq_true rfl) (Nat.le_of_ble_eq_true rfl) ?_
  refine va_putF (pc := 201) (D := D) (ci := 5) (v := .ref q199) (ty := .array .int) (C := "ReinsuranceDeskModel") (T := rd_T5) (N := 30) hx hb hts (fun w h => List.mem_cons_of_mem _ (bw_B hB (bw_u5 w h))) rd_t5 rd_tt5 rd_nn5 hown hK hP hD hS 0 rfl rfl 27 (by decide) (hts (.fieldLink "ReinsuranceDeskModel" 84 "ReinsuranceDeskModel" "more" "[I") (List.mem_cons_of_mem _ (bw_B hB (bw_m (rd_m 641 (by decide +kernel)))))) (fun _ h9 => h9) rfl hin rfl (by decide +kernel) rfl rfl (Nat.le_of_ble_eq_true rfl) d_M_init_201 (fun H locs hP hD hS => ?_)
  have hP : va_P D rd_CL [(h0, .inr (5, [rd_i 0, .ref q7, .ref q15, .ref q23, .ref q31, .ref q39, .ref q47, .ref q55, .ref q63, rd_i 0, .ref q71, .ref q79, .ref q87, .ref q95, .ref q103, rd_i 0, .ref q111, .ref q119, .ref q126, .ref q134, .ref q143, .ref q151, .ref q159, .ref q167, .ref q175, .ref q183, .ref q191, .ref q199, rd_l 0, rd_l 0])), (q7, bI cA 12), (q15, bI cA 12), (q23, bI cA 12), (q31, bI cA 40), (q39, bI cA 40), (q47, bI cA 40), (q55, bI cA 40), (q63, bZ cA 40), (q71, bI cA 10), (q79, bI cA 10), (q87, bI cA 10), (q95, bI cA 10), (q103, bI cA 10), (q111, bI cA 60), (q119, bJ cA 6), (q126, bZ cA 4), (q134, bJ cA 40), (q143, bJ cA 400), (q151, bJ cA 10), (q159, bJ cA 10), (q167, bI cA 100), (q175, bJ cA 12), (q183, bZ cA 40), (q191, bJ cA 40), (q199, bI cA 40)] H := hP
  have hD : va_D A [(h0, .inr (5, [rd_i 0, .ref q7, .ref q15, .ref q23, .ref q31, .ref q39, .ref q47, .ref q55, .ref q63, rd_i 0, .ref q71, .ref q79, .ref q87, .ref q95, .ref q103, rd_i 0, .ref q111, .ref q119, .ref q126, .ref q134, .ref q143, .ref q151, .ref q159, .ref q167, .ref q175, .ref q183, .ref q191, .ref q199, rd_l 0, rd_l 0])), (q7, bI cA 12), (q15, bI cA 12), (q23, bI cA 12), (q31, bI cA 40), (q39, bI cA 40), (q47, bI cA 40), (q55, bI cA 40), (q63, bZ cA 40), (q71, bI cA 10), (q79, bI cA 10), (q87, bI cA 10), (q95, bI cA 10), (q103, bI cA 10), (q111, bI cA 60), (q119, bJ cA 6), (q126, bZ cA 4), (q134, bJ cA 40), (q143, bJ cA 400), (q151, bJ cA 10), (q159, bJ cA 10), (q167, bI cA 100), (q175, bJ cA 12), (q183, bZ cA 40), (q191, bJ cA 40), (q199, bI cA 40)] := hD
  exact W.vret (pc := 204) hx hb hr (fun t ht hW => ⟨⟨(), rfl, trivial, q7, q15, q23, q31, q39, q47, q55, q63, q71, q79, q87, q95, q103, q111, q119, q126, q134, q143, q151, q159, q167, q175, q183, q191, q199, by rw [ht]; exact hP, va_K.moved hW.alike hK, hD⟩, hS.F ht⟩) hS.2.2 d_M_init_204
end

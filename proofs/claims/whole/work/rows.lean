section
-- ===== PART A: goes FIRST, ahead of the names: the tables' words, and 'selects' of the private methods out of them =====
/-- a private method of a class that the tables say can be made, by its rows of tables_1 -/
def lw_okq (q : MethodName × Nat) : Prop := (q.1.cls ≠ "java/lang/invoke/MethodHandle" ∧ q.1.cls ≠ "java/lang/invoke/VarHandle") ∧ Cond.instantiable q.1.cls q.2 ∈ tables_1 ∧ Cond.privateMethod q.1 ∈ tables_1 ∧ Cond.instanceMethod q.1 ∈ tables_1
theorem lw_p0 : lw_okq (⟨"java/lang/Throwable", "fillInStackTrace", "(I)Ljava/lang/Throwable;"⟩, 6) := ⟨⟨by decide +kernel, by decide +kernel⟩, List.mem_of_getElem? (i := 251) (by decide +kernel), List.mem_of_getElem? (i := 249) (by decide +kernel), List.mem_of_getElem? (i := 250) (by decide +kernel)⟩
theorem lw_p1 : lw_okq (⟨"ReinsuranceDesk$Claims", "placeByHour", "(I)V"⟩, 7) := ⟨⟨by decide +kernel, by decide +kernel⟩, List.mem_of_getElem? (i := 46) (by decide +kernel), List.mem_of_getElem? (i := 364) (by decide +kernel), List.mem_of_getElem? (i := 365) (by decide +kernel)⟩
theorem lw_p2 : lw_okq (⟨"ReinsuranceDesk", "yearOfClaim", "(I)I"⟩, 6) := ⟨⟨by decide +kernel, by decide +kernel⟩, List.mem_of_getElem? (i := 15) (by decide +kernel), List.mem_of_getElem? (i := 380) (by decide +kernel), List.mem_of_getElem? (i := 381) (by decide +kernel)⟩
theorem lw_p3 : lw_okq (⟨"ReinsuranceDesk$Cession", "begin", "(I)V"⟩, 13) := ⟨⟨by decide +kernel, by decide +kernel⟩, List.mem_of_getElem? (i := 128) (by decide +kernel), List.mem_of_getElem? (i := 412) (by decide +kernel), List.mem_of_getElem? (i := 413) (by decide +kernel)⟩
theorem lw_p4 : lw_okq (⟨"ReinsuranceDesk$Cession", "cedeYear", "(I)V"⟩, 13) := ⟨⟨by decide +kernel, by decide +kernel⟩, List.mem_of_getElem? (i := 128) (by decide +kernel), List.mem_of_getElem? (i := 422) (by decide +kernel), List.mem_of_getElem? (i := 423) (by decide +kernel)⟩
theorem lw_p5 : lw_okq (⟨"ReinsuranceDesk$Cession", "cedeTo", "(I)V"⟩, 13) := ⟨⟨by decide +kernel, by decide +kernel⟩, List.mem_of_getElem? (i := 128) (by decide +kernel), List.mem_of_getElem? (i := 426) (by decide +kernel), List.mem_of_getElem? (i := 427) (by decide +kernel)⟩
theorem lw_p6 : lw_okq (⟨"ReinsuranceDesk$Cession", "cedePremiums", "(I)V"⟩, 13) := ⟨⟨by decide +kernel, by decide +kernel⟩, List.mem_of_getElem? (i := 128) (by decide +kernel), List.mem_of_getElem? (i := 430) (by decide +kernel), List.mem_of_getElem? (i := 431) (by decide +kernel)⟩
theorem lw_p7 : lw_okq (⟨"ReinsuranceDesk$Cession", "cedePartOfEachClaim", "(I)V"⟩, 13) := ⟨⟨by decide +kernel, by decide +kernel⟩, List.mem_of_getElem? (i := 128) (by decide +kernel), List.mem_of_getElem? (i := 446) (by decide +kernel), List.mem_of_getElem? (i := 447) (by decide +kernel)⟩
theorem lw_p8 : lw_okq (⟨"ReinsuranceDesk$Cession", "take", "(IIJ)V"⟩, 13) := ⟨⟨by decide +kernel, by decide +kernel⟩, List.mem_of_getElem? (i := 128) (by decide +kernel), List.mem_of_getElem? (i := 450) (by decide +kernel), List.mem_of_getElem? (i := 451) (by decide +kernel)⟩
theorem lw_p9 : lw_okq (⟨"ReinsuranceDesk$Cession", "cedeExcessOfEachClaim", "(I)V"⟩, 13) := ⟨⟨by decide +kernel, by decide +kernel⟩, List.mem_of_getElem? (i := 128) (by decide +kernel), List.mem_of_getElem? (i := 454) (by decide +kernel), List.mem_of_getElem? (i := 455) (by decide +kernel)⟩
theorem lw_p10 : lw_okq (⟨"ReinsuranceDesk$Cession", "cedeExcessOfEachEvent", "(I)V"⟩, 13) := ⟨⟨by decide +kernel, by decide +kernel⟩, List.mem_of_getElem? (i := 128) (by decide +kernel), List.mem_of_getElem? (i := 470) (by decide +kernel), List.mem_of_getElem? (i := 471) (by decide +kernel)⟩
theorem lw_p11 : lw_okq (⟨"ReinsuranceDesk$Cession", "gatherEvent", "(I)V"⟩, 13) := ⟨⟨by decide +kernel, by decide +kernel⟩, List.mem_of_getElem? (i := 128) (by decide +kernel), List.mem_of_getElem? (i := 474) (by decide +kernel), List.mem_of_getElem? (i := 475) (by decide +kernel)⟩
theorem lw_p12 : lw_okq (⟨"ReinsuranceDesk$Cession", "startOfWindow", "()I"⟩, 13) := ⟨⟨by decide +kernel, by decide +kernel⟩, List.mem_of_getElem? (i := 128) (by decide +kernel), List.mem_of_getElem? (i := 478) (by decide +kernel), List.mem_of_getElem? (i := 479) (by decide +kernel)⟩
theorem lw_p13 : lw_okq (⟨"ReinsuranceDesk$Cession", "keptFrom", "(I)J"⟩, 13) := ⟨⟨by decide +kernel, by decide +kernel⟩, List.mem_of_getElem? (i := 128) (by decide +kernel), List.mem_of_getElem? (i := 483) (by decide +kernel), List.mem_of_getElem? (i := 484) (by decide +kernel)⟩
theorem lw_p14 : lw_okq (⟨"ReinsuranceDesk$Cession", "dropOutside", "(I)V"⟩, 13) := ⟨⟨by decide +kernel, by decide +kernel⟩, List.mem_of_getElem? (i := 128) (by decide +kernel), List.mem_of_getElem? (i := 487) (by decide +kernel), List.mem_of_getElem? (i := 488) (by decide +kernel)⟩
theorem lw_p15 : lw_okq (⟨"ReinsuranceDesk$Cession", "takeByParts", "(IJJ)V"⟩, 13) := ⟨⟨by decide +kernel, by decide +kernel⟩, List.mem_of_getElem? (i := 128) (by decide +kernel), List.mem_of_getElem? (i := 491) (by decide +kernel), List.mem_of_getElem? (i := 492) (by decide +kernel)⟩
def lw_privs_1 : List (MethodName × Nat) := [(⟨"java/lang/Throwable", "fillInStackTrace", "(I)Ljava/lang/Throwable;"⟩, 6), (⟨"ReinsuranceDesk$Claims", "placeByHour", "(I)V"⟩, 7), (⟨"ReinsuranceDesk", "yearOfClaim", "(I)I"⟩, 6), (⟨"ReinsuranceDesk$Cession", "begin", "(I)V"⟩, 13), (⟨"ReinsuranceDesk$Cession", "cedeYear", "(I)V"⟩, 13), (⟨"ReinsuranceDesk$Cession", "cedeTo", "(I)V"⟩, 13), (⟨"ReinsuranceDesk$Cession", "cedePremiums", "(I)V"⟩, 13), (⟨"ReinsuranceDesk$Cession", "cedePartOfEachClaim", "(I)V"⟩, 13), (⟨"ReinsuranceDesk$Cession", "take", "(IIJ)V"⟩, 13), (⟨"ReinsuranceDesk$Cession", "cedeExcessOfEachClaim", "(I)V"⟩, 13), (⟨"ReinsuranceDesk$Cession", "cedeExcessOfEachEvent", "(I)V"⟩, 13), (⟨"ReinsuranceDesk$Cession", "gatherEvent", "(I)V"⟩, 13), (⟨"ReinsuranceDesk$Cession", "startOfWindow", "()I"⟩, 13), (⟨"ReinsuranceDesk$Cession", "keptFrom", "(I)J"⟩, 13), (⟨"ReinsuranceDesk$Cession", "dropOutside", "(I)V"⟩, 13), (⟨"ReinsuranceDesk$Cession", "takeByParts", "(IJJ)V"⟩, 13)]
theorem lw_r1 : ∀ q ∈ lw_privs_1, lw_okq q := List.forall_mem_cons.mpr ⟨lw_p0, List.forall_mem_cons.mpr ⟨lw_p1, List.forall_mem_cons.mpr ⟨lw_p2, List.forall_mem_cons.mpr ⟨lw_p3, List.forall_mem_cons.mpr ⟨lw_p4, List.forall_mem_cons.mpr ⟨lw_p5, List.forall_mem_cons.mpr ⟨lw_p6, List.forall_mem_cons.mpr ⟨lw_p7, List.forall_mem_cons.mpr ⟨lw_p8, List.forall_mem_cons.mpr ⟨lw_p9, List.forall_mem_cons.mpr ⟨lw_p10, List.forall_mem_cons.mpr ⟨lw_p11, List.forall_mem_cons.mpr ⟨lw_p12, List.forall_mem_cons.mpr ⟨lw_p13, List.forall_mem_cons.mpr ⟨lw_p14, List.forall_mem_cons.mpr ⟨lw_p15, fun _ h => absurd h List.not_mem_nil⟩⟩⟩⟩⟩⟩⟩⟩⟩⟩⟩⟩⟩⟩⟩⟩
theorem lw_p16 : lw_okq (⟨"ReinsuranceDesk$Cession", "greatestRemainder", "()I"⟩, 13) := ⟨⟨by decide +kernel, by decide +kernel⟩, List.mem_of_getElem? (i := 128) (by decide +kernel), List.mem_of_getElem? (i := 495) (by decide +kernel), List.mem_of_getElem? (i := 496) (by decide +kernel)⟩
theorem lw_p17 : lw_okq (⟨"ReinsuranceDesk$Cession", "cedeStopLoss", "(I)V"⟩, 13) := ⟨⟨by decide +kernel, by decide +kernel⟩, List.mem_of_getElem? (i := 128) (by decide +kernel), List.mem_of_getElem? (i := 499) (by decide +kernel), List.mem_of_getElem? (i := 500) (by decide +kernel)⟩
theorem lw_p18 : lw_okq (⟨"ReinsuranceDeskModel", "throwing", "(ZZ)Z"⟩, 30) := ⟨⟨by decide +kernel, by decide +kernel⟩, List.mem_of_getElem? (i := 609) (by decide +kernel), List.mem_of_getElem? (i := 720) (by decide +kernel), List.mem_of_getElem? (i := 721) (by decide +kernel)⟩
theorem lw_p19 : lw_okq (⟨"ReinsuranceDeskModel", "isRisk", "(I)Z"⟩, 30) := ⟨⟨by decide +kernel, by decide +kernel⟩, List.mem_of_getElem? (i := 609) (by decide +kernel), List.mem_of_getElem? (i := 728) (by decide +kernel), List.mem_of_getElem? (i := 729) (by decide +kernel)⟩
theorem lw_p20 : lw_okq (⟨"ReinsuranceDeskModel", "isTreaty", "(I)Z"⟩, 30) := ⟨⟨by decide +kernel, by decide +kernel⟩, List.mem_of_getElem? (i := 609) (by decide +kernel), List.mem_of_getElem? (i := 747) (by decide +kernel), List.mem_of_getElem? (i := 748) (by decide +kernel)⟩
theorem lw_p21 : lw_okq (⟨"ReinsuranceDeskModel", "treatyYear", "(I)I"⟩, 30) := ⟨⟨by decide +kernel, by decide +kernel⟩, List.mem_of_getElem? (i := 609) (by decide +kernel), List.mem_of_getElem? (i := 751) (by decide +kernel), List.mem_of_getElem? (i := 752) (by decide +kernel)⟩
theorem lw_p22 : lw_okq (⟨"ReinsuranceDeskModel", "isClaim", "(I)Z"⟩, 30) := ⟨⟨by decide +kernel, by decide +kernel⟩, List.mem_of_getElem? (i := 609) (by decide +kernel), List.mem_of_getElem? (i := 765) (by decide +kernel), List.mem_of_getElem? (i := 766) (by decide +kernel)⟩
theorem lw_p23 : lw_okq (⟨"ReinsuranceDeskModel", "claimYear", "(I)I"⟩, 30) := ⟨⟨by decide +kernel, by decide +kernel⟩, List.mem_of_getElem? (i := 609) (by decide +kernel), List.mem_of_getElem? (i := 769) (by decide +kernel), List.mem_of_getElem? (i := 770) (by decide +kernel)⟩
theorem lw_p24 : lw_okq (⟨"ReinsuranceDeskModel", "reckon", "()V"⟩, 30) := ⟨⟨by decide +kernel, by decide +kernel⟩, List.mem_of_getElem? (i := 609) (by decide +kernel), List.mem_of_getElem? (i := 789) (by decide +kernel), List.mem_of_getElem? (i := 790) (by decide +kernel)⟩
theorem lw_p25 : lw_okq (⟨"ReinsuranceDeskModel", "kindOf", "(I)I"⟩, 30) := ⟨⟨by decide +kernel, by decide +kernel⟩, List.mem_of_getElem? (i := 609) (by decide +kernel), List.mem_of_getElem? (i := 793) (by decide +kernel), List.mem_of_getElem? (i := 794) (by decide +kernel)⟩
theorem lw_p26 : lw_okq (⟨"ReinsuranceDeskModel", "apply", "(I)V"⟩, 30) := ⟨⟨by decide +kernel, by decide +kernel⟩, List.mem_of_getElem? (i := 609) (by decide +kernel), List.mem_of_getElem? (i := 797) (by decide +kernel), List.mem_of_getElem? (i := 798) (by decide +kernel)⟩
theorem lw_p27 : lw_okq (⟨"ReinsuranceDeskModel", "counts", "(II)Z"⟩, 30) := ⟨⟨by decide +kernel, by decide +kernel⟩, List.mem_of_getElem? (i := 609) (by decide +kernel), List.mem_of_getElem? (i := 801) (by decide +kernel), List.mem_of_getElem? (i := 802) (by decide +kernel)⟩
theorem lw_p28 : lw_okq (⟨"ReinsuranceDeskModel", "partOf", "(II)J"⟩, 30) := ⟨⟨by decide +kernel, by decide +kernel⟩, List.mem_of_getElem? (i := 609) (by decide +kernel), List.mem_of_getElem? (i := 805) (by decide +kernel), List.mem_of_getElem? (i := 806) (by decide +kernel)⟩
theorem lw_p29 : lw_okq (⟨"ReinsuranceDeskModel", "take", "(IIJ)V"⟩, 30) := ⟨⟨by decide +kernel, by decide +kernel⟩, List.mem_of_getElem? (i := 609) (by decide +kernel), List.mem_of_getElem? (i := 809) (by decide +kernel), List.mem_of_getElem? (i := 810) (by decide +kernel)⟩
theorem lw_p30 : lw_okq (⟨"ReinsuranceDeskModel", "excessOfRisks", "(I)V"⟩, 30) := ⟨⟨by decide +kernel, by decide +kernel⟩, List.mem_of_getElem? (i := 609) (by decide +kernel), List.mem_of_getElem? (i := 813) (by decide +kernel), List.mem_of_getElem? (i := 814) (by decide +kernel)⟩
theorem lw_p31 : lw_okq (⟨"ReinsuranceDeskModel", "allowed", "(IJ)J"⟩, 30) := ⟨⟨by decide +kernel, by decide +kernel⟩, List.mem_of_getElem? (i := 609) (by decide +kernel), List.mem_of_getElem? (i := 820) (by decide +kernel), List.mem_of_getElem? (i := 821) (by decide +kernel)⟩
def lw_privs_2 : List (MethodName × Nat) := [(⟨"ReinsuranceDesk$Cession", "greatestRemainder", "()I"⟩, 13), (⟨"ReinsuranceDesk$Cession", "cedeStopLoss", "(I)V"⟩, 13), (⟨"ReinsuranceDeskModel", "throwing", "(ZZ)Z"⟩, 30), (⟨"ReinsuranceDeskModel", "isRisk", "(I)Z"⟩, 30), (⟨"ReinsuranceDeskModel", "isTreaty", "(I)Z"⟩, 30), (⟨"ReinsuranceDeskModel", "treatyYear", "(I)I"⟩, 30), (⟨"ReinsuranceDeskModel", "isClaim", "(I)Z"⟩, 30), (⟨"ReinsuranceDeskModel", "claimYear", "(I)I"⟩, 30), (⟨"ReinsuranceDeskModel", "reckon", "()V"⟩, 30), (⟨"ReinsuranceDeskModel", "kindOf", "(I)I"⟩, 30), (⟨"ReinsuranceDeskModel", "apply", "(I)V"⟩, 30), (⟨"ReinsuranceDeskModel", "counts", "(II)Z"⟩, 30), (⟨"ReinsuranceDeskModel", "partOf", "(II)J"⟩, 30), (⟨"ReinsuranceDeskModel", "take", "(IIJ)V"⟩, 30), (⟨"ReinsuranceDeskModel", "excessOfRisks", "(I)V"⟩, 30), (⟨"ReinsuranceDeskModel", "allowed", "(IJ)J"⟩, 30)]
theorem lw_r2 : ∀ q ∈ lw_privs_2, lw_okq q := List.forall_mem_cons.mpr ⟨lw_p16, List.forall_mem_cons.mpr ⟨lw_p17, List.forall_mem_cons.mpr ⟨lw_p18, List.forall_mem_cons.mpr ⟨lw_p19, List.forall_mem_cons.mpr ⟨lw_p20, List.forall_mem_cons.mpr ⟨lw_p21, List.forall_mem_cons.mpr ⟨lw_p22, List.forall_mem_cons.mpr ⟨lw_p23, List.forall_mem_cons.mpr ⟨lw_p24, List.forall_mem_cons.mpr ⟨lw_p25, List.forall_mem_cons.mpr ⟨lw_p26, List.forall_mem_cons.mpr ⟨lw_p27, List.forall_mem_cons.mpr ⟨lw_p28, List.forall_mem_cons.mpr ⟨lw_p29, List.forall_mem_cons.mpr ⟨lw_p30, List.forall_mem_cons.mpr ⟨lw_p31, fun _ h => absurd h List.not_mem_nil⟩⟩⟩⟩⟩⟩⟩⟩⟩⟩⟩⟩⟩⟩⟩⟩
theorem lw_p32 : lw_okq (⟨"ReinsuranceDeskModel", "excessOfEvents", "(I)V"⟩, 30) := ⟨⟨by decide +kernel, by decide +kernel⟩, List.mem_of_getElem? (i := 609) (by decide +kernel), List.mem_of_getElem? (i := 824) (by decide +kernel), List.mem_of_getElem? (i := 825) (by decide +kernel)⟩
theorem lw_p33 : lw_okq (⟨"ReinsuranceDeskModel", "inWindow", "(III)J"⟩, 30) := ⟨⟨by decide +kernel, by decide +kernel⟩, List.mem_of_getElem? (i := 609) (by decide +kernel), List.mem_of_getElem? (i := 828) (by decide +kernel), List.mem_of_getElem? (i := 829) (by decide +kernel)⟩
theorem lw_p34 : lw_okq (⟨"ReinsuranceDeskModel", "spread", "(IJJ)V"⟩, 30) := ⟨⟨by decide +kernel, by decide +kernel⟩, List.mem_of_getElem? (i := 609) (by decide +kernel), List.mem_of_getElem? (i := 832) (by decide +kernel), List.mem_of_getElem? (i := 833) (by decide +kernel)⟩
theorem lw_p35 : lw_okq (⟨"ReinsuranceDeskModel", "ratio", "(I)J"⟩, 30) := ⟨⟨by decide +kernel, by decide +kernel⟩, List.mem_of_getElem? (i := 609) (by decide +kernel), List.mem_of_getElem? (i := 853) (by decide +kernel), List.mem_of_getElem? (i := 854) (by decide +kernel)⟩
theorem lw_p36 : lw_okq (⟨"ReinsuranceDeskModel", "commission", "(I)J"⟩, 30) := ⟨⟨by decide +kernel, by decide +kernel⟩, List.mem_of_getElem? (i := 609) (by decide +kernel), List.mem_of_getElem? (i := 858) (by decide +kernel), List.mem_of_getElem? (i := 859) (by decide +kernel)⟩
theorem lw_p37 : lw_okq (⟨"ReinsuranceDeskModel", "shareOf", "(IIJ)J"⟩, 30) := ⟨⟨by decide +kernel, by decide +kernel⟩, List.mem_of_getElem? (i := 609) (by decide +kernel), List.mem_of_getElem? (i := 868) (by decide +kernel), List.mem_of_getElem? (i := 869) (by decide +kernel)⟩
theorem lw_p38 : lw_okq (⟨"ReinsuranceDeskModel", "reinstatement", "(II)J"⟩, 30) := ⟨⟨by decide +kernel, by decide +kernel⟩, List.mem_of_getElem? (i := 609) (by decide +kernel), List.mem_of_getElem? (i := 872) (by decide +kernel), List.mem_of_getElem? (i := 873) (by decide +kernel)⟩
def lw_privs_3 : List (MethodName × Nat) := [(⟨"ReinsuranceDeskModel", "excessOfEvents", "(I)V"⟩, 30), (⟨"ReinsuranceDeskModel", "inWindow", "(III)J"⟩, 30), (⟨"ReinsuranceDeskModel", "spread", "(IJJ)V"⟩, 30), (⟨"ReinsuranceDeskModel", "ratio", "(I)J"⟩, 30), (⟨"ReinsuranceDeskModel", "commission", "(I)J"⟩, 30), (⟨"ReinsuranceDeskModel", "shareOf", "(IIJ)J"⟩, 30), (⟨"ReinsuranceDeskModel", "reinstatement", "(II)J"⟩, 30)]
theorem lw_r3 : ∀ q ∈ lw_privs_3, lw_okq q := List.forall_mem_cons.mpr ⟨lw_p32, List.forall_mem_cons.mpr ⟨lw_p33, List.forall_mem_cons.mpr ⟨lw_p34, List.forall_mem_cons.mpr ⟨lw_p35, List.forall_mem_cons.mpr ⟨lw_p36, List.forall_mem_cons.mpr ⟨lw_p37, List.forall_mem_cons.mpr ⟨lw_p38, fun _ h => absurd h List.not_mem_nil⟩⟩⟩⟩⟩⟩⟩
def lw_privs : List (MethodName × Nat) := lw_privs_1 ++ (lw_privs_2 ++ (lw_privs_3))
def lw_tbl : List Cond := k2_sels lw_privs ++ tables_1
theorem lw_privs_ok : ∀ q ∈ lw_privs, lw_okq q := by
  show ∀ q ∈ lw_privs_1 ++ (lw_privs_2 ++ (lw_privs_3)), lw_okq q
  exact List.forall_mem_append.mpr ⟨lw_r1, List.forall_mem_append.mpr ⟨lw_r2, lw_r3⟩⟩
end
section
/-! names: classes and their fields, the world's shape, methods -/
def rd_T0 : u_T := fun k => match k with
  | 0 => ("ReinsuranceDesk$Cession", "risks", "LReinsuranceDesk$Risks;", true)
  | 1 => ("ReinsuranceDesk$Cession", "claims", "LReinsuranceDesk$Claims;", true)
  | 2 => ("ReinsuranceDesk$Cession", "treaties", "LReinsuranceDesk$Treaties;", true)
  | 3 => ("ReinsuranceDesk$Cession", "counts", "[Z", true)
  | 4 => ("ReinsuranceDesk$Cession", "keptOf", "[I", true)
  | 5 => ("ReinsuranceDesk$Cession", "cededOf", "[I", true)
  | 6 => ("ReinsuranceDesk$Cession", "taken", "[J", true)
  | 7 => ("ReinsuranceDesk$Cession", "windowOf", "[I", true)
  | 8 => ("ReinsuranceDesk$Cession", "premiumLeft", "[J", true)
  | 9 => ("ReinsuranceDesk$Cession", "premiumTo", "[J", true)
  | 10 => ("ReinsuranceDesk$Cession", "group", "[I", true)
  | 11 => ("ReinsuranceDesk$Cession", "groupSize", "I", false)
  | _ => ("ReinsuranceDesk$Cession", "remainder", "[J", true)
def rd_t0 : Nat → FieldType := fun k => match k with
  | 0 => .object "ReinsuranceDesk$Risks"
  | 1 => .object "ReinsuranceDesk$Claims"
  | 2 => .object "ReinsuranceDesk$Treaties"
  | 3 => .array .boolean
  | 4 => .array .int
  | 5 => .array .int
  | 6 => .array .long
  | 7 => .array .int
  | 8 => .array .long
  | 9 => .array .long
  | 10 => .array .int
  | 11 => .int
  | _ => .array .long
theorem rd_nn0 : ∀ a, a < 13 → ∀ b, b < 13 → a ≠ b → (rd_T0 a).2.1 ≠ (rd_T0 b).2.1 := by decide +kernel
theorem rd_tt0 : ∀ k, k < 13 → parseFieldDescriptor (rd_T0 k).2.2.1 = some (rd_t0 k) := by decide +kernel
def rd_T1 : u_T := fun k => match k with
  | 0 => ("ReinsuranceDesk$Claims", "count", "I", false)
  | 1 => ("ReinsuranceDesk$Claims", "riskOf", "[I", true)
  | 2 => ("ReinsuranceDesk$Claims", "event", "[I", true)
  | 3 => ("ReinsuranceDesk$Claims", "hour", "[I", true)
  | 4 => ("ReinsuranceDesk$Claims", "amount", "[I", true)
  | 5 => ("ReinsuranceDesk$Claims", "struck", "[Z", true)
  | _ => ("ReinsuranceDesk$Claims", "byHour", "[I", true)
def rd_t1 : Nat → FieldType := fun k => match k with
  | 0 => .int
  | 1 => .array .int
  | 2 => .array .int
  | 3 => .array .int
  | 4 => .array .int
  | 5 => .array .boolean
  | _ => .array .int
theorem rd_nn1 : ∀ a, a < 7 → ∀ b, b < 7 → a ≠ b → (rd_T1 a).2.1 ≠ (rd_T1 b).2.1 := by decide +kernel
theorem rd_tt1 : ∀ k, k < 7 → parseFieldDescriptor (rd_T1 k).2.2.1 = some (rd_t1 k) := by decide +kernel
def rd_T2 : u_T := fun k => match k with
  | 0 => ("ReinsuranceDesk$Risks", "sum", "[I", true)
  | 1 => ("ReinsuranceDesk$Risks", "premiumOf", "[I", true)
  | _ => ("ReinsuranceDesk$Risks", "yearOf", "[I", true)
def rd_t2 : Nat → FieldType := fun k => match k with
  | 0 => .array .int
  | 1 => .array .int
  | _ => .array .int
theorem rd_nn2 : ∀ a, a < 3 → ∀ b, b < 3 → a ≠ b → (rd_T2 a).2.1 ≠ (rd_T2 b).2.1 := by decide +kernel
theorem rd_tt2 : ∀ k, k < 3 → parseFieldDescriptor (rd_T2 k).2.2.1 = some (rd_t2 k) := by decide +kernel
def rd_T3 : u_T := fun k => match k with
  | 0 => ("ReinsuranceDesk$Treaties", "count", "I", false)
  | 1 => ("ReinsuranceDesk$Treaties", "kind", "[I", true)
  | 2 => ("ReinsuranceDesk$Treaties", "yearOf", "[I", true)
  | 3 => ("ReinsuranceDesk$Treaties", "a", "[J", true)
  | 4 => ("ReinsuranceDesk$Treaties", "b", "[J", true)
  | 5 => ("ReinsuranceDesk$Treaties", "c", "[J", true)
  | 6 => ("ReinsuranceDesk$Treaties", "d", "[J", true)
  | _ => ("ReinsuranceDesk$Treaties", "part", "[I", true)
def rd_t3 : Nat → FieldType := fun k => match k with
  | 0 => .int
  | 1 => .array .int
  | 2 => .array .int
  | 3 => .array .long
  | 4 => .array .long
  | 5 => .array .long
  | 6 => .array .long
  | _ => .array .int
theorem rd_nn3 : ∀ a, a < 8 → ∀ b, b < 8 → a ≠ b → (rd_T3 a).2.1 ≠ (rd_T3 b).2.1 := by decide +kernel
theorem rd_tt3 : ∀ k, k < 8 → parseFieldDescriptor (rd_T3 k).2.2.1 = some (rd_t3 k) := by decide +kernel
def rd_T4 : u_T := fun k => match k with
  | 0 => ("ReinsuranceDesk", "risks", "LReinsuranceDesk$Risks;", true)
  | 1 => ("ReinsuranceDesk", "claims", "LReinsuranceDesk$Claims;", true)
  | 2 => ("ReinsuranceDesk", "treaties", "LReinsuranceDesk$Treaties;", true)
  | 3 => ("ReinsuranceDesk", "cession", "LReinsuranceDesk$Cession;", true)
  | 4 => ("ReinsuranceDesk", "closed", "[Z", true)
  | _ => ("ReinsuranceDesk", "billed", "[J", true)
def rd_t4 : Nat → FieldType := fun k => match k with
  | 0 => .object "ReinsuranceDesk$Risks"
  | 1 => .object "ReinsuranceDesk$Claims"
  | 2 => .object "ReinsuranceDesk$Treaties"
  | 3 => .object "ReinsuranceDesk$Cession"
  | 4 => .array .boolean
  | _ => .array .long
theorem rd_nn4 : ∀ a, a < 6 → ∀ b, b < 6 → a ≠ b → (rd_T4 a).2.1 ≠ (rd_T4 b).2.1 := by decide +kernel
theorem rd_tt4 : ∀ k, k < 6 → parseFieldDescriptor (rd_T4 k).2.2.1 = some (rd_t4 k) := by decide +kernel
def rd_T5 : u_T := fun k => match k with
  | 0 => ("ReinsuranceDeskModel", "thrown", "I", false)
  | 1 => ("ReinsuranceDeskModel", "sum", "[I", true)
  | 2 => ("ReinsuranceDeskModel", "premium", "[I", true)
  | 3 => ("ReinsuranceDeskModel", "yearOf", "[I", true)
  | 4 => ("ReinsuranceDeskModel", "risk", "[I", true)
  | 5 => ("ReinsuranceDeskModel", "event", "[I", true)
  | 6 => ("ReinsuranceDeskModel", "hour", "[I", true)
  | 7 => ("ReinsuranceDeskModel", "estimate", "[I", true)
  | 8 => ("ReinsuranceDeskModel", "struck", "[Z", true)
  | 9 => ("ReinsuranceDeskModel", "claims", "I", false)
  | 10 => ("ReinsuranceDeskModel", "shape", "[I", true)
  | 11 => ("ReinsuranceDeskModel", "a", "[I", true)
  | 12 => ("ReinsuranceDeskModel", "b", "[I", true)
  | 13 => ("ReinsuranceDeskModel", "c", "[I", true)
  | 14 => ("ReinsuranceDeskModel", "d", "[I", true)
  | 15 => ("ReinsuranceDeskModel", "treaties", "I", false)
  | 16 => ("ReinsuranceDeskModel", "shares", "[I", true)
  | 17 => ("ReinsuranceDeskModel", "billed", "[J", true)
  | 18 => ("ReinsuranceDeskModel", "closed", "[Z", true)
  | 19 => ("ReinsuranceDeskModel", "kept", "[J", true)
  | 20 => ("ReinsuranceDeskModel", "taken", "[J", true)
  | 21 => ("ReinsuranceDeskModel", "total", "[J", true)
  | 22 => ("ReinsuranceDeskModel", "earned", "[J", true)
  | 23 => ("ReinsuranceDeskModel", "window", "[I", true)
  | 24 => ("ReinsuranceDeskModel", "left", "[J", true)
  | 25 => ("ReinsuranceDeskModel", "inside", "[Z", true)
  | 26 => ("ReinsuranceDeskModel", "rest", "[J", true)
  | 27 => ("ReinsuranceDeskModel", "more", "[I", true)
  | 28 => ("ReinsuranceDeskModel", "passed", "J", false)
  | _ => ("ReinsuranceDeskModel", "used", "J", false)
def rd_t5 : Nat → FieldType := fun k => match k with
  | 0 => .int
  | 1 => .array .int
  | 2 => .array .int
  | 3 => .array .int
  | 4 => .array .int
  | 5 => .array .int
  | 6 => .array .int
  | 7 => .array .int
  | 8 => .array .boolean
  | 9 => .int
  | 10 => .array .int
  | 11 => .array .int
  | 12 => .array .int
  | 13 => .array .int
  | 14 => .array .int
  | 15 => .int
  | 16 => .array .int
  | 17 => .array .long
  | 18 => .array .boolean
  | 19 => .array .long
  | 20 => .array .long
  | 21 => .array .long
  | 22 => .array .long
  | 23 => .array .int
  | 24 => .array .long
  | 25 => .array .boolean
  | 26 => .array .long
  | 27 => .array .int
  | 28 => .long
  | _ => .long
theorem rd_nn5 : ∀ a, a < 30 → ∀ b, b < 30 → a ≠ b → (rd_T5 a).2.1 ≠ (rd_T5 b).2.1 := by decide +kernel
theorem rd_tt5 : ∀ k, k < 30 → parseFieldDescriptor (rd_T5 k).2.2.1 = some (rd_t5 k) := by decide +kernel
abbrev rd_CL : List vw_C := [("ReinsuranceDesk$Cession", rd_T0, 13), ("ReinsuranceDesk$Claims", rd_T1, 7), ("ReinsuranceDesk$Risks", rd_T2, 3), ("ReinsuranceDesk$Treaties", rd_T3, 8), ("ReinsuranceDesk", rd_T4, 6), ("ReinsuranceDeskModel", rd_T5, 30)]
/-- the world: arrays (kind of element, length), objects (class, fields: a place, or a number) -/
def rd_SH : List ((Nat × Nat) ⊕ (Nat × List (Nat ⊕ Nat))) := [
  .inr (4, [.inl 1, .inl 2, .inl 3, .inl 4, .inl 5, .inl 6]),
  .inr (2, [.inl 7, .inl 8, .inl 9]),
  .inr (1, [.inr 0, .inl 10, .inl 11, .inl 12, .inl 13, .inl 14, .inl 15]),
  .inr (3, [.inr 0, .inl 16, .inl 17, .inl 18, .inl 19, .inl 20, .inl 21, .inl 22]),
  .inr (0, [.inl 1, .inl 2, .inl 3, .inl 23, .inl 24, .inl 25, .inl 26, .inl 27, .inl 28, .inl 29, .inl 30, .inr 0, .inl 31]),
  .inl (2, 4),
  .inl (1, 6),
  .inl (0, 12),
  .inl (0, 12),
  .inl (0, 12),
  .inl (0, 40),
  .inl (0, 40),
  .inl (0, 40),
  .inl (0, 40),
  .inl (2, 40),
  .inl (0, 40),
  .inl (0, 10),
  .inl (0, 10),
  .inl (1, 10),
  .inl (1, 10),
  .inl (1, 10),
  .inl (1, 10),
  .inl (0, 60),
  .inl (2, 40),
  .inl (0, 40),
  .inl (0, 400),
  .inl (1, 10),
  .inl (0, 100),
  .inl (1, 12),
  .inl (1, 10),
  .inl (0, 40),
  .inl (1, 40),
  .inr (5, [.inr 0, .inl 33, .inl 34, .inl 35, .inl 36, .inl 37, .inl 38, .inl 39, .inl 40, .inr 0, .inl 41, .inl 42, .inl 43, .inl 44, .inl 45, .inr 0, .inl 46, .inl 47, .inl 48, .inl 49, .inl 50, .inl 51, .inl 52, .inl 53, .inl 54, .inl 55, .inl 56, .inl 57, .inr 1, .inr 1]),
  .inl (0, 12),
  .inl (0, 12),
  .inl (0, 12),
  .inl (0, 40),
  .inl (0, 40),
  .inl (0, 40),
  .inl (0, 40),
  .inl (2, 40),
  .inl (0, 10),
  .inl (0, 10),
  .inl (0, 10),
  .inl (0, 10),
  .inl (0, 10),
  .inl (0, 60),
  .inl (1, 6),
  .inl (2, 4),
  .inl (1, 40),
  .inl (1, 400),
  .inl (1, 10),
  .inl (1, 10),
  .inl (0, 100),
  .inl (1, 12),
  .inl (2, 40),
  .inl (1, 40),
  .inl (0, 40),
  .inl (1, 1)]
def rd_ws : List Cond := lw_tbl.filter goodWord
def rd_KC : Nat := 1
def rd_KS : Nat := 6
def rd_xn (k : Nat) : String := match k with
  | 0 => "java/lang/IllegalArgumentException"
  | _ => "java/lang/IllegalStateException"
theorem rd_m {w : Cond} (i : Nat) (h : tables_1[i]? = some w) (g : goodWord w = true := by rfl) : w ∈ rd_ws := List.mem_filter.mpr ⟨List.mem_append_right _ (List.mem_of_getElem? h), g⟩
theorem rd_ms {w : Cond} (h : w ∈ k2_sels lw_privs) (g : goodWord w = true := by rfl) : w ∈ rd_ws := List.mem_filter.mpr ⟨List.mem_append_left _ h, g⟩
set_option maxRecDepth 100000 in
theorem rd_good : ∀ w ∈ rd_ws, goodWord w = true := fun w h => (List.mem_filter.mp h).2
set_option maxRecDepth 100000 in
theorem rd_u0 : ∀ w ∈ u_ws "ReinsuranceDesk$Cession" rd_T0 13, w ∈ rd_ws := fun w h => of_decide_eq_true (List.all_eq_true.mp (by decide +kernel : (u_ws "ReinsuranceDesk$Cession" rd_T0 13).all (fun w => decide (w ∈ rd_ws)) = true) w h)
set_option maxRecDepth 100000 in
theorem rd_u1 : ∀ w ∈ u_ws "ReinsuranceDesk$Claims" rd_T1 7, w ∈ rd_ws := fun w h => of_decide_eq_true (List.all_eq_true.mp (by decide +kernel : (u_ws "ReinsuranceDesk$Claims" rd_T1 7).all (fun w => decide (w ∈ rd_ws)) = true) w h)
set_option maxRecDepth 100000 in
theorem rd_u2 : ∀ w ∈ u_ws "ReinsuranceDesk$Risks" rd_T2 3, w ∈ rd_ws := fun w h => of_decide_eq_true (List.all_eq_true.mp (by decide +kernel : (u_ws "ReinsuranceDesk$Risks" rd_T2 3).all (fun w => decide (w ∈ rd_ws)) = true) w h)
set_option maxRecDepth 100000 in
theorem rd_u3 : ∀ w ∈ u_ws "ReinsuranceDesk$Treaties" rd_T3 8, w ∈ rd_ws := fun w h => of_decide_eq_true (List.all_eq_true.mp (by decide +kernel : (u_ws "ReinsuranceDesk$Treaties" rd_T3 8).all (fun w => decide (w ∈ rd_ws)) = true) w h)
set_option maxRecDepth 100000 in
theorem rd_u4 : ∀ w ∈ u_ws "ReinsuranceDesk" rd_T4 6, w ∈ rd_ws := fun w h => of_decide_eq_true (List.all_eq_true.mp (by decide +kernel : (u_ws "ReinsuranceDesk" rd_T4 6).all (fun w => decide (w ∈ rd_ws)) = true) w h)
set_option maxRecDepth 100000 in
theorem rd_u5 : ∀ w ∈ u_ws "ReinsuranceDeskModel" rd_T5 30, w ∈ rd_ws := fun w h => of_decide_eq_true (List.all_eq_true.mp (by decide +kernel : (u_ws "ReinsuranceDeskModel" rd_T5 30).all (fun w => decide (w ∈ rd_ws)) = true) w h)
end
section
/-! numbers: a machine word as an integer -/
abbrev rd_I (x : Int) : Prop := -2147483648 ≤ x ∧ x ≤ 2147483647
abbrev rd_J (x : Int) : Prop := -9223372036854775808 ≤ x ∧ x ≤ 9223372036854775807
theorem rd_i32 {x : Int} (h : rd_I x) : (Int32.ofInt x).toInt = x := Int32.toInt_ofInt_of_le (by have := h.1; omega) (by have := h.2; omega)
theorem rd_i64 {x : Int} (h : rd_J x) : (Int64.ofInt x).toInt = x := Int64.toInt_ofInt_of_le (by have := h.1; omega) (by have := h.2; omega)
theorem rd_lt32 {x y : Int} (hx : rd_I x) (hy : rd_I y) : Int32.ofInt x < Int32.ofInt y ↔ x < y := by rw [Int32.lt_iff_toInt_lt, rd_i32 hx, rd_i32 hy]
theorem rd_le32 {x y : Int} (hx : rd_I x) (hy : rd_I y) : Int32.ofInt x ≤ Int32.ofInt y ↔ x ≤ y := by rw [Int32.le_iff_toInt_le, rd_i32 hx, rd_i32 hy]
theorem rd_eq32 {x y : Int} (hx : rd_I x) (hy : rd_I y) : Int32.ofInt x = Int32.ofInt y ↔ x = y := by rw [← Int32.toInt_inj, rd_i32 hx, rd_i32 hy]
theorem rd_lt64 {x y : Int} (hx : rd_J x) (hy : rd_J y) : Int64.ofInt x < Int64.ofInt y ↔ x < y := by rw [Int64.lt_iff_toInt_lt, rd_i64 hx, rd_i64 hy]
theorem rd_eq64 {x y : Int} (hx : rd_J x) (hy : rd_J y) : Int64.ofInt x = Int64.ofInt y ↔ x = y := by rw [← Int64.toInt_inj, rd_i64 hx, rd_i64 hy]
theorem rd_I0 : rd_I 0 := by constructor <;> decide
theorem rd_zero32 : (0 : Int32) = Int32.ofInt 0 := lit0.symm
theorem rd_ne0_32 {y : Int} (hy : rd_I y) (h : y ≠ 0) : ¬ Int32.ofInt y = 0 := by rw [rd_zero32, rd_eq32 hy rd_I0]; exact h
theorem rd_ne0_64 {y : Int} (hy : rd_J y) (h : y ≠ 0) : ¬ Int64.ofInt y = 0 := by
  rw [← Int64.toInt_inj, rd_i64 hy]; simpa using h
theorem rd_div32 {x y : Int} (hx : rd_I x) (hy : rd_I y) : Int32.ofInt x / Int32.ofInt y = Int32.ofInt (x.tdiv y) := (Int32.ofInt_tdiv hx.1 hx.2 hy.1 hy.2).symm
theorem rd_mod32 {x y : Int} (hx : rd_I x) (hy : rd_I y) : Int32.ofInt x % Int32.ofInt y = Int32.ofInt (x.tmod y) := (Int32.ofInt_tmod hx.1 hx.2 hy.1 hy.2).symm
theorem rd_div64 {x y : Int} (hx : rd_J x) (hy : rd_J y) : Int64.ofInt x / Int64.ofInt y = Int64.ofInt (x.tdiv y) := (Int64.ofInt_tdiv hx.1 hx.2 hy.1 hy.2).symm
theorem rd_mod64 {x y : Int} (hx : rd_J x) (hy : rd_J y) : Int64.ofInt x % Int64.ofInt y = Int64.ofInt (x.tmod y) := (Int64.ofInt_tmod hx.1 hx.2 hy.1 hy.2).symm
theorem rd_ci2l {x : Int} (hx : rd_I x) : (Int32.ofInt x).toInt64 = Int64.ofInt x := Int32.toInt64_ofInt hx.1 hx.2
theorem rd_cl2i {x : Int} : (Int64.ofInt x).toInt32 = Int32.ofInt x := Int64.toInt32_ofInt
theorem rd_clamp {i : Int} (h0 : 0 ≤ i) (h1 : i ≤ 2147483647) : (Int32.ofInt i).toNatClampNeg = i.toNat := Int32.toNatClampNeg_ofInt_of_le (by omega) (by omega)
theorem rd_in {i : Int} {n : Nat} (h0 : 0 ≤ i) (h1 : i < n) (hn : n ≤ 2147483647) : vp_in (Int32.ofInt i) n := by
  have hi : rd_I i := ⟨by omega, by omega⟩
  intro h
  rcases h with h | h
  · rw [rd_zero32, rd_lt32 hi rd_I0] at h; omega
  · rw [rd_clamp h0 (by omega)] at h; omega
/-! the memory: a place's contents at an index; a method; the shape of the world -/
abbrev rd_M : Type := Nat → Int → Int
abbrev rd_i (x : Int) : Value := .int (Int32.ofInt x)
abbrev rd_l (x : Int) : Value := .long (Int64.ofInt x)
/-- name, code, locals, answer's type, handlers, depth of its calls, words that they take, exceptions that it may make, the script if it reads one -/
abbrev rd_X : Type := MethodName × ByteArray × Nat × Option FieldType × List (Nat × Nat × Nat × Nat) × Nat × Nat × Nat × Option (Nat × (Int → Int))
abbrev rd_nm (x : rd_X) : MethodName := x.1
abbrev rd_cd (x : rd_X) : ByteArray := x.2.1
abbrev rd_ml (x : rd_X) : Nat := x.2.2.1
abbrev rd_rt (x : rd_X) : Option FieldType := x.2.2.2.1
abbrev rd_hs (x : rd_X) : List (Nat × Nat × Nat × Nat) := x.2.2.2.2.1
abbrev rd_dp (x : rd_X) : Nat := x.2.2.2.2.2.1
abbrev rd_lb (x : rd_X) : Nat := x.2.2.2.2.2.2.1
abbrev rd_cp (x : rd_X) : Nat := x.2.2.2.2.2.2.2.1
abbrev rd_sc (x : rd_X) : Option (Nat × (Int → Int)) := x.2.2.2.2.2.2.2.2
/-- an answer, or which exception -/
abbrev rd_R : Type := Option Value ⊕ Nat
def rd_pv (σ : Nat → Nat) : Value → Value
  | .ref q => .ref (σ q)
  | v => v
def rd_fv (σ : Nat → Nat) (m : Int → Int) (k : Nat) : Nat ⊕ Nat → Value
  | .inl q => .ref (σ q)
  | .inr 0 => rd_i (m k)
  | .inr _ => rd_l (m k)
def rd_cell (σ : Nat → Nat) (cA : Nat → ClassId) (m : Int → Int) : (Nat × Nat) ⊕ (Nat × List (Nat ⊕ Nat)) → va_E
  | .inl (0, n) => .inl (cA 0, n, .inl (fun j => Int32.ofInt (m j)))
  | .inl (1, n) => .inl (cA 1, n, .inr (.inl (fun j => Int64.ofInt (m j))))
  | .inl (_, n) => .inl (cA 2, n, .inl (fun j => Int32.ofInt (m j)))
  | .inr (k, fs) => .inr (k, fs.mapIdx (fun j f => rd_fv σ m j f))
def rd_wd (σ : Nat → Nat) (cA : Nat → ClassId) (M : rd_M) : va_W := rd_SH.mapIdx (fun i c => (σ i, rd_cell σ cA (M i) c))
abbrev rd_ty (cA : Nat → ClassId) : List (ClassId × FieldType) := [(cA 0, .int), (cA 1, .long), (cA 2, .boolean)]
def rd_up (M : rd_M) (p : Nat) (i v : Int) : rd_M := fun q j => if q = p ∧ j = i then v else M q j
theorem rd_up_ne {M : rd_M} {p q : Nat} {i v : Int} (h : q ≠ p) : rd_up M p i v q = M q := by
  funext j; simp [rd_up, h]
theorem rd_up_same {M : rd_M} {p : Nat} {i v j : Int} : rd_up M p i v p j = if j = i then v else M p j := by simp [rd_up]
theorem rd_wd_at {σ : Nat → Nat} {cA : Nat → ClassId} {M : rd_M} {p : Nat} {c : (Nat × Nat) ⊕ (Nat × List (Nat ⊕ Nat))} (h : rd_SH[p]? = some c) : (rd_wd σ cA M)[p]? = some (σ p, rd_cell σ cA (M p) c) := by
  simp [rd_wd, List.getElem?_mapIdx, h]
theorem rd_wd_set {σ : Nat → Nat} {cA : Nat → ClassId} {M : rd_M} {p : Nat} {c : (Nat × Nat) ⊕ (Nat × List (Nat ⊕ Nat))} {i v : Int} {e : va_E} (h : rd_SH[p]? = some c) (he : rd_cell σ cA (rd_up M p i v p) c = e) : (rd_wd σ cA M).set p (σ p, e) = rd_wd σ cA (rd_up M p i v) := by
  apply List.ext_getElem?
  intro k
  by_cases hk : k = p
  · subst hk
    have hl : k < (rd_wd σ cA M).length := (List.getElem?_eq_some_iff.mp (rd_wd_at (M := M) h)).1
    rw [List.getElem?_set_self hl, rd_wd_at h, he]
  · rw [List.getElem?_set_ne (Ne.symm hk)]
    simp only [rd_wd, List.getElem?_mapIdx, rd_up_ne hk]
def rd_inj (σ : Nat → Nat) : Prop := ∀ i j, i < rd_SH.length → j < rd_SH.length → σ i = σ j → i = j
theorem rd_wd_len {σ : Nat → Nat} {cA : Nat → ClassId} {M : rd_M} : (rd_wd σ cA M).length = rd_SH.length := by simp [rd_wd]
theorem rd_wd_ad {σ : Nat → Nat} {cA : Nat → ClassId} {M : rd_M} {k : Nat} {q : Nat × va_E} (h : (rd_wd σ cA M)[k]? = some q) : k < rd_SH.length ∧ q.1 = σ k := by
  have hl := (List.getElem?_eq_some_iff.mp h).1
  rw [rd_wd_len] at hl
  refine ⟨hl, ?_⟩
  simp only [rd_wd, List.getElem?_mapIdx] at h
  cases hc : rd_SH[k]? with
  | none => rw [hc] at h; cases h
  | some c => rw [hc] at h; cases h; rfl
theorem rd_D {σ : Nat → Nat} {cA : Nat → ClassId} {M : rd_M} {A : Nat → Prop} (hj : rd_inj σ) (hA : ∀ i, i < rd_SH.length → A (σ i)) : va_D A (rd_wd σ cA M) := by
  refine ⟨fun i j p q hi hj' he => ?_, fun k q hk => ?_⟩
  · obtain ⟨a1, a2⟩ := rd_wd_ad hi
    obtain ⟨b1, b2⟩ := rd_wd_ad hj'
    exact hj i j a1 b1 (by rw [← a2, ← b2]; exact he)
  · obtain ⟨a1, a2⟩ := rd_wd_ad hk
    rw [a2]; exact hA k a1
/-- the locals: what is known of them -/
def rd_L (σ : Nat → Nat) (ls : Array Slot) (nL : Nat) (L : List (Option Value)) : Prop := ls.size = nL ∧ lv_wf ls ∧ L.length ≤ nL ∧ ∀ (i : Nat) (v : Value), L[i]? = some (some v) → ls[i]? = some (.val (rd_pv σ v))
def rd_al (σ : Nat → Nat) : Nat → List (Option Value) → List (Nat × Value)
  | _, [] => []
  | i, none :: r => rd_al σ (i + 1) r
  | i, some v :: r => (i, rd_pv σ v) :: rd_al σ (i + 1) r
theorem rd_al_mem {σ : Nat → Nat} : ∀ (L : List (Option Value)) (i j : Nat) (w : Value), L[j]? = some (some w) → (i + j, rd_pv σ w) ∈ rd_al σ i L
  | [], i, j, w, h => by simp at h
  | o :: r, i, 0, w, h => by
    have h : o = some w := by simpa using h
    subst h
    exact List.mem_cons_self
  | o :: r, i, j + 1, w, h => by
    have h : r[j]? = some (some w) := by simpa using h
    have h1 := rd_al_mem (σ := σ) r (i + 1) j w h
    rw [show i + 1 + j = i + (j + 1) by omega] at h1
    cases o with
    | none => exact h1
    | some v => exact List.mem_cons_of_mem _ h1
theorem rd_al_of {σ : Nat → Nat} : ∀ (L : List (Option Value)) (i : Nat) (q : Nat × Value), q ∈ rd_al σ i L → ∃ (j : Nat) (w : Value), L[j]? = some (some w) ∧ q = (i + j, rd_pv σ w)
  | [], i, q, h => by simp [rd_al] at h
  | none :: r, i, q, h => by
    obtain ⟨j, w, h1, h2⟩ := rd_al_of r (i + 1) q h
    exact ⟨j + 1, w, by simpa using h1, by rw [h2]; congr 1; omega⟩
  | some v :: r, i, q, h => by
    rcases List.mem_cons.mp h with rfl | h
    · exact ⟨0, v, by simp, rfl⟩
    · obtain ⟨j, w, h1, h2⟩ := rd_al_of r (i + 1) q h
      exact ⟨j + 1, w, by simpa using h1, by rw [h2]; congr 1; omega⟩
theorem rd_L.al {σ : Nat → Nat} {ls : Array Slot} {nL : Nat} {L : List (Option Value)} (h : rd_L σ ls nL L) : lv_has ls nL (rd_al σ 0 L) :=
  ⟨h.1, h.2.1, fun q hq => by
    obtain ⟨j, w, h1, rfl⟩ := rd_al_of L 0 q hq
    show ls[0 + j]? = _
    rw [Nat.zero_add]
    exact h.2.2.2 j w h1⟩
/-- whether a value takes two locals -/
def rd_two : Option Value → Bool
  | some (.long _) => true
  | some (.double _) => true
  | _ => false
def rd_okp (pre : List (Option Value)) : Bool := match pre.getLast? with
  | some o => !rd_two o
  | none => true
theorem rd_cat {σ : Nat → Nat} {v : Value} : (rd_pv σ v).category = v.category := by cases v <;> rfl
theorem rd_okp_last {pre : List (Option Value)} {j : Nat} {w : Value} (hp : rd_okp pre = true) (hj : pre[j]? = some (some w)) (h1 : j + 1 = pre.length) (h2 : w.category = 2) : False := by
  have h3 : pre.getLast? = some (some w) := by rw [List.getLast?_eq_getElem?, show pre.length - 1 = j by omega]; exact hj
  unfold rd_okp at hp
  rw [h3] at hp
  cases w <;> simp [Value.category] at h2 <;> simp [rd_two] at hp
theorem rd_L.st1 {σ : Nat → Nat} {ls ls' : Array Slot} {nL : Nat} {pre r : List (Option Value)} {old : Option Value} {v : Value} (h : rd_L σ ls nL (pre ++ old :: r)) (hp : rd_okp pre = true)
    (h' : lv_has ls' nL ((pre.length, rd_pv σ v) :: (rd_al σ 0 (pre ++ old :: r)).filter (fun q => !(q.1 == pre.length) && !(q.1 + 1 == pre.length && q.2.category == 2)))) : rd_L σ ls' nL (pre ++ some v :: r) := by
  refine ⟨h'.1, h'.2.1, by simpa using h.2.2.1, fun j w hj => h'.2.2 (j, rd_pv σ w) ?_⟩
  rcases Nat.lt_trichotomy j pre.length with hlt | heq | hgt
  · rw [List.getElem?_append_left hlt] at hj
    have hL : (pre ++ old :: r)[j]? = some (some w) := by rw [List.getElem?_append_left hlt]; exact hj
    have hm := rd_al_mem (σ := σ) _ 0 j w hL
    rw [Nat.zero_add] at hm
    refine List.mem_cons_of_mem _ (List.mem_filter.mpr ⟨hm, ?_⟩)
    have hne : ¬ j = pre.length := by omega
    by_cases hz : j + 1 = pre.length
    · have hc : ¬ w.category = 2 := fun q => rd_okp_last hp hj hz q
      simp [hne, rd_cat, hc]
    · simp [hne, hz]
  · subst heq
    rw [List.getElem?_append_right (Nat.le_refl _), Nat.sub_self] at hj
    cases hj
    exact List.mem_cons_self
  · rw [List.getElem?_append_right (by omega)] at hj
    obtain ⟨d, hd⟩ : ∃ d, j - pre.length = d + 1 := ⟨j - pre.length - 1, by omega⟩
    rw [hd, List.getElem?_cons_succ] at hj
    have hL : (pre ++ old :: r)[j]? = some (some w) := by rw [List.getElem?_append_right (by omega), hd, List.getElem?_cons_succ]; exact hj
    have hm := rd_al_mem (σ := σ) _ 0 j w hL
    rw [Nat.zero_add] at hm
    refine List.mem_cons_of_mem _ (List.mem_filter.mpr ⟨hm, ?_⟩)
    have hne : ¬ j = pre.length := by omega
    have hz : ¬ j + 1 = pre.length := by omega
    simp [hne, hz]
theorem rd_L.st2 {σ : Nat → Nat} {ls ls' : Array Slot} {nL : Nat} {pre r : List (Option Value)} {old old2 : Option Value} {v : Value} (h : rd_L σ ls nL (pre ++ old :: old2 :: r)) (hp : rd_okp pre = true)
    (h' : lv_has ls' nL ((pre.length, rd_pv σ v) :: (rd_al σ 0 (pre ++ old :: old2 :: r)).filter (fun q => !(q.1 == pre.length) && (!(q.1 == pre.length + 1) && !(q.1 + 1 == pre.length && q.2.category == 2))))) : rd_L σ ls' nL (pre ++ some v :: none :: r) := by
  refine ⟨h'.1, h'.2.1, by simpa using h.2.2.1, fun j w hj => h'.2.2 (j, rd_pv σ w) ?_⟩
  rcases Nat.lt_trichotomy j pre.length with hlt | heq | hgt
  · rw [List.getElem?_append_left hlt] at hj
    have hL : (pre ++ old :: old2 :: r)[j]? = some (some w) := by rw [List.getElem?_append_left hlt]; exact hj
    have hm := rd_al_mem (σ := σ) _ 0 j w hL
    rw [Nat.zero_add] at hm
    refine List.mem_cons_of_mem _ (List.mem_filter.mpr ⟨hm, ?_⟩)
    have hne : ¬ j = pre.length := by omega
    have hne2 : ¬ j = pre.length + 1 := by omega
    by_cases hz : j + 1 = pre.length
    · have hc : ¬ w.category = 2 := fun q => rd_okp_last hp hj hz q
      simp [hne, hne2, rd_cat, hc]
    · simp [hne, hne2, hz]
  · subst heq
    rw [List.getElem?_append_right (Nat.le_refl _), Nat.sub_self] at hj
    cases hj
    exact List.mem_cons_self
  · rw [List.getElem?_append_right (by omega)] at hj
    obtain ⟨d, hd⟩ : ∃ d, j - pre.length = d + 1 := ⟨j - pre.length - 1, by omega⟩
    rw [hd, List.getElem?_cons_succ] at hj
    cases d with
    | zero => simp at hj
    | succ d =>
      rw [List.getElem?_cons_succ] at hj
      have hL : (pre ++ old :: old2 :: r)[j]? = some (some w) := by rw [List.getElem?_append_right (by omega), hd, List.getElem?_cons_succ, List.getElem?_cons_succ]; exact hj
      have hm := rd_al_mem (σ := σ) _ 0 j w hL
      rw [Nat.zero_add] at hm
      refine List.mem_cons_of_mem _ (List.mem_filter.mpr ⟨hm, ?_⟩)
      have hne : ¬ j = pre.length := by omega
      have hne2 : ¬ j = pre.length + 1 := by omega
      have hz : ¬ j + 1 = pre.length := by omega
      simp [hne, hne2, hz]
/-- fewer known -/
def rd_le : List (Option Value) → List (Option Value) → Prop
  | [], _ => True
  | none :: r, _ :: r' => rd_le r r'
  | some v :: r, some w :: r' => v = w ∧ rd_le r r'
  | _, _ => False
theorem rd_le_at : ∀ (L L' : List (Option Value)), rd_le L L' → L.length ≤ L'.length ∧ ∀ (i : Nat) (v : Value), L[i]? = some (some v) → L'[i]? = some (some v)
  | [], L', _ => ⟨Nat.zero_le _, fun i v h => by simp at h⟩
  | none :: r, [], h => h.elim
  | some v :: r, [], h => h.elim
  | some v :: r, none :: r', h => h.elim
  | none :: r, o :: r', h => by
    obtain ⟨h1, h2⟩ := rd_le_at r r' h
    refine ⟨by simpa using h1, fun i v hi => ?_⟩
    cases i with
    | zero => simp at hi
    | succ i => simpa using h2 i v (by simpa using hi)
  | some v :: r, some w :: r', h => by
    obtain ⟨h1, h2⟩ := rd_le_at r r' h.2
    refine ⟨by simpa using h1, fun i u hi => ?_⟩
    cases i with
    | zero =>
      have hz : v = u := by simpa using hi
      rw [← hz, h.1]; simp
    | succ i => simpa using h2 i u (by simpa using hi)
theorem rd_L.le {σ : Nat → Nat} {ls : Array Slot} {nL : Nat} {L L' : List (Option Value)} (h : rd_L σ ls nL L') (hl : rd_le L L') : rd_L σ ls nL L :=
  ⟨h.1, h.2.1, Nat.le_trans (rd_le_at L L' hl).1 h.2.2.1, fun i v hi => h.2.2.2 i v ((rd_le_at L L' hl).2 i v hi)⟩
end
section
/-- where a static field lies, its class's statics cell in H -/
def vx_L (C n d : String) (A : Nat → Prop) (U : State) (H : Heap) : Prop := ∃ (c : ClassId) (k : Class) (i : Nat) (f : Field) (a : Nat) (cell : Cell), U.vm.findClass C = some c ∧ U.fieldFound? C n d = some (c, k, i, f) ∧ f.isStatic = true ∧ k.statics = some a ∧ H[a]? = some cell ∧ cell.vm.isStatics = true ∧ cell.cls = c ∧ f.slot < cell.slots.size ∧ k.staticTypes[f.slot]? = some f.type ∧ ¬ A a
theorem vx_L.moved {C n d : String} {A : Nat → Prop} {u U : State} {H : Heap} (hvm : u.vm.Alike U.vm) (h : vx_L C n d A u H) : vx_L C n d A U H := by
  obtain ⟨c, k, i, f, a, cell, h1, h2, h3, h4, h5, h6, h7, h8, h9, h10⟩ := h
  obtain ⟨k', hi', he⟩ := State.fieldFound?_setVm hvm h2
  exact ⟨c, k', i, f, a, cell, by rw [hvm.findClass]; exact h1, hi', h3, by rw [he]; exact h4, h5, h6, h7, h8, by rw [he]; exact h9, h10⟩
theorem vx_L.kept {C n d : String} {A : Nat → Prop} {U : State} {H H1 : Heap} (h : vx_L C n d A U H) (hq : ∀ a : Nat, a < H.size → ¬ A a → H1[a]? = H[a]?) : vx_L C n d A U H1 := by
  obtain ⟨c, k, i, f, a, cell, h1, h2, h3, h4, h5, h6, h7, h8, h9, h10⟩ := h
  exact ⟨c, k, i, f, a, cell, h1, h2, h3, h4, by rw [hq a (Array.getElem?_eq_some_iff.mp h5).1 h10]; exact h5, h6, h7, h8, h9, h10⟩
theorem vx_L.narrow {C n d : String} {A B : Nat → Prop} {U : State} {H : Heap} (h : vx_L C n d A U H) (hAB : ∀ q, B q → A q) : vx_L C n d B U H := by
  obtain ⟨c, k, i, f, a, cell, h1, h2, h3, h4, h5, h6, h7, h8, h9, h10⟩ := h
  exact ⟨c, k, i, f, a, cell, h1, h2, h3, h4, h5, h6, h7, h8, h9, fun z => h10 (hAB _ z)⟩
theorem vx_L.word {C n d : String} {A : Nat → Prop} {s : State} {args : Array Value} (h : vx_L C n d A s s.heap) : (Cond.laysStatic C n d).before args s = true := by
  obtain ⟨c, k, i, f, a, cell, h1, h2, h3, h4, h5, h6, h7, h8, h9, -⟩ := h
  show (Cond.laysStatic C n d).holds args s none s [] = true
  exact Cond.laysStatic_of h1 h2 h3 h4 h5 h6 h7 h8 h9
/-- .. and what it holds: null or some reference -/
def vx_Zq (C n d : String) (A : Nat → Prop) (U : State) (H : Heap) : Prop := va_Zq C n d A U H ∧ vx_L C n d A U H
theorem vx_Zq.moved {C n d : String} {A : Nat → Prop} {u U : State} {H : Heap} (hvm : u.vm.Alike U.vm) (h : vx_Zq C n d A u H) : vx_Zq C n d A U H := ⟨va_Zq.moved hvm h.1, vx_L.moved hvm h.2⟩
theorem vx_Zq.kept {C n d : String} {A : Nat → Prop} {U : State} {H H1 : Heap} (h : vx_Zq C n d A U H) (hq : ∀ a : Nat, a < H.size → ¬ A a → H1[a]? = H[a]?) : vx_Zq C n d A U H1 := ⟨va_Zq.kept h.1 hq, vx_L.kept h.2 hq⟩
theorem vx_Zq.narrow {C n d : String} {A B : Nat → Prop} {U : State} {H : Heap} (h : vx_Zq C n d A U H) (hAB : ∀ q, B q → A q) : vx_Zq C n d B U H := ⟨va_Zq.narrow h.1 hAB, vx_L.narrow h.2 hAB⟩
theorem vx_Zqof {args : Array Value} {s : State} {C n d : String} {A : Nat → Prop} (hl : (Cond.laysStatic C n d).before args s = true) (hini : (Cond.initialized C).before args s = true) (h : (Cond.isRef (.static C n d)).before args s = true) (hA : ∀ a : Nat, a < s.heap.size → ¬ A a) : vx_Zq C n d A s s.heap := by
  refine ⟨va_Zqof hl hini h hA, ?_⟩
  obtain ⟨c, k, i, f, a, cell, h1, h2, h3, h4, h5, h6, h7, h8, h9⟩ := Cond.laysStatic_spec hl
  exact ⟨c, k, i, f, a, cell, h1, h2, h3, h4, h5, h6, h7, h8, h9, hA a (Array.getElem?_eq_some_iff.mp h5).1⟩
theorem vx_isRef {C n d : String} {v : Value} {A : Nat → Prop} {s : State} {args : Array Value} (h : va_Z C n d v A s s.heap) (hv : v.isRef = true) : (Cond.isRef (.static C n d)).before args s = true := by
  obtain ⟨cf, kf, fi, f, a, cell, h1, h2, h3, h4, h5, h6, h7, -⟩ := h
  have he : (Term.static C n d).eval args s none [] s = some v := by
    simp [Term.eval, State.fieldNamed?, h1, h2, h4, h5, h6, h7]
  simp only [Cond.before, Cond.holds, Cond.value, he]
  cases v <;> simp_all [Value.isRef]
theorem vx_isRefq {C n d : String} {A : Nat → Prop} {s : State} {args : Array Value} (h : va_Zq C n d A s s.heap) : (Cond.isRef (.static C n d)).before args s = true := by
  rcases h with h | ⟨t, h⟩
  · exact vx_isRef h rfl
  · exact vx_isRef h rfl
/-- the texts of exceptions -/
def rd_ss : List (String × Nat × String) := [("ReinsuranceDesk", 57, "no such risk, sum or year"), ("ReinsuranceDesk", 68, "the risk is told, or the year is closed"), ("ReinsuranceDesk", 81, "no such risk or amount"), ("ReinsuranceDesk", 83, "the year is closed"), ("ReinsuranceDesk", 95, "no such treaty"), ("ReinsuranceDesk", 101, "there are no more treaties, or the year is closed"), ("ReinsuranceDesk", 111, "no such treaty, reinsurer or part"), ("ReinsuranceDesk", 118, "the shares would be too much, or the year is closed"), ("ReinsuranceDesk", 124, "no such risk, event or hour"), ("ReinsuranceDesk", 127, "there are no more claims, or the year is closed"), ("ReinsuranceDesk", 133, "no such claim or amount"), ("ReinsuranceDesk", 142, "the claim is struck, or the year is closed"), ("ReinsuranceDesk", 147, "no such claim"), ("ReinsuranceDesk", 149, "no such event or year"), ("ReinsuranceDesk", 161, "no such claim or treaty"), ("ReinsuranceDesk", 169, "no such excess"), ("ReinsuranceDesk", 181, "no such excess or event"), ("ReinsuranceDesk", 186, "no such treaty or what"), ("ReinsuranceDesk", 197, "no such treaty, reinsurer or what"), ("ReinsuranceDesk", 206, "no such claim, amount or treaty"), ("ReinsuranceDesk", 208, "the claim is struck"), ("ReinsuranceDesk", 214, "no such reinsurer"), ("ReinsuranceDesk", 220, "no such year"), ("ReinsuranceDesk", 222, "the year is so")]
abbrev rd_sU : String × String × String := ("java/lang/Throwable", "UNASSIGNED_STACK", "[Ljava/lang/StackTraceElement;")
abbrev rd_sN : String × String × String := ("java/lang/Throwable", "SUPPRESSED_SENTINEL", "Ljava/util/List;")
/-- what throwing stands on: a launch without stack traces; two static fields; texts; no cell that may be changed is a holder of static fields -/
def rd_XF (l : Launch) (s : State) (A : Nat → Prop) : Prop :=
  l.stackTraces = false ∧ vx_Zq rd_sU.1 rd_sU.2.1 rd_sU.2.2 A s s.heap ∧ vx_Zq rd_sN.1 rd_sN.2.1 rd_sN.2.2 A s s.heap ∧ (∀ (a : Nat) (ce : Cell), s.heap[a]? = some ce → ce.vm.isStatics = true → ¬ A a) ∧ (∀ q ∈ rd_ss, ∃ sa, vk_R q.1 q.2.1 q.2.2 sa s) ∧ va_Nc (rd_xn 1) (rd_xn 0) s
end
section
/-! what a walk is -/
/-- what a method's walk stands on -/
def rd_Cx (x : rd_X) (p : Program) (l : Launch) (e : Env) (R : Room) (s : State) (m : MethodId) (args : Array Value) (meth : Method) (c : Code) (σ : Nat → Nat) (D : va_G) (cA : Nat → ClassId) (A : Nat → Prop) : Prop :=
  p.tables.exec = Jvm.exec ∧ c.code = rd_cd x ∧ c.maxLocals = rd_ml x ∧ s.vm.findClass (rd_nm x).cls = some m.cls ∧ (∀ w ∈ rd_ws, w.before args s = true) ∧ va_K D rd_CL (rd_ty cA) s ∧ rd_inj σ ∧ (∀ i, i < rd_SH.length → A (σ i)) ∧ (∀ q, s.heap.size ≤ q → A q) ∧
  (rd_dp x ≤ R.frames ∧ rd_lb x ≤ R.locals ∧ rd_cp x * rd_KC ≤ R.cells ∧ rd_cp x * rd_KS ≤ R.slots) ∧ meth.sig.returnType = rd_rt x ∧ meth.locks = false ∧ c.exceptionTable.toList = tableOf (rd_hs x) ∧ rd_XF l s A ∧ ∀ (Ls : Nat) (xs : Int → Int), rd_sc x = some (Ls, xs) → va_X (σ 999) Ls (fun j => Int32.ofInt (xs j)) s s.heap ∧ σ 999 < s.heap.size ∧ ¬ A (σ 999) ∧ Ls ≤ 2147483647
/-- an answer as the machine has it -/
def rd_O (σ : Nat → Nat) : rd_R → Outcome → State → Prop
  | .inl v, o, _ => o = .returned (v.map (rd_pv σ))
  | .inr k, o, t => ∃ (a : Addr) (ce : Cell), o = .threw a ∧ t.heap[a]? = some ce ∧ ce.vm = .none ∧ t.vm.findClass (rd_xn k) = some ce.cls
/-- a method's end -/
def rd_E (x : rd_X) (below : List Frame) (s : State) (σ : Nat → Nat) (D : va_G) (cA : Nat → ClassId) (A : Nat → Prop) (Q : rd_R → rd_M → Prop) (t : State) : Prop :=
  ∃ (o : Outcome) (r : rd_R) (M' : rd_M), t.status = .running ∧ Ended t below o ∧ rd_O σ r o t ∧ Q r M' ∧ va_P D rd_CL (rd_wd σ cA M') t.heap ∧
    ∃ Lc : List Loc, s.WarmedH t.vm ∧ s.sameButNew ({ t with vm := s.vm } : State) Lc (rd_cp x * rd_KC) (rd_cp x * rd_KS) ∧ (∀ q ∈ Lc, A q.base) ∧ va_F A s t
/-- from this place of this method, with these locals, stack and memory, n exceptions paid: it ends, and so -/
def rd_G (x : rd_X) (pc : Nat) (L : List (Option Value)) (st : List Value) (M : rd_M) (n : Nat) (Q : rd_R → rd_M → Prop) : Prop :=
  ∀ (p : Program) (l : Launch) (e : Env) (R : Room) (s : State) (m : MethodId) (args : Array Value) (below : List Frame) (meth : Method) (c : Code) (σ : Nat → Nat) (D : va_G) (cA : Nat → ClassId) (A : Nat → Prop),
    rd_Cx x p l e R s m args meth c σ D cA A → ∀ (H : Heap) (locs : List Loc) (ls : Array Slot) (cells slots : Nat), cells ≤ n * rd_KC → slots ≤ n * rd_KS → va_P D rd_CL (rd_wd σ cA M) H → va_S A s.heap H locs → rd_L σ ls (rd_ml x) L →
    W p l e R s m args below meth c H locs cells slots (rd_E x below s σ D cA A Q) (F0 m pc ls (st.map (rd_pv σ)))
theorem rd_le64 {x y : Int} (hx : rd_J x) (hy : rd_J y) : Int64.ofInt x ≤ Int64.ofInt y ↔ x ≤ y := by rw [Int64.le_iff_toInt_le, rd_i64 hx, rd_i64 hy]
theorem rd_len {q ety len : Nat} (h : rd_SH[q]? = some (.inl (ety, len))) : len ≤ 2147483647 := by
  have hm := List.mem_of_getElem? h
  have ha : ∀ c ∈ rd_SH, (match c with | .inl z => decide (z.2 ≤ 2147483647) | .inr _ => true) = true := List.all_eq_true.mp (by decide +kernel)
  have h1 := ha _ hm
  simpa using h1
section RdRules
variable {x : rd_X} {pc : Nat} {L : List (Option Value)} {st : List Value} {M : rd_M} {n : Nat} {Q : rd_R → rd_M → Prop}
theorem rd_top {v v' : Value} (h : v = v') (k : rd_G x pc L (v :: st) M n Q) : rd_G x pc L (v' :: st) M n Q := h ▸ k
theorem rd_weak {L' : List (Option Value)} (h : rd_le L' L) (k : rd_G x pc L' st M n Q) : rd_G x pc L st M n Q := by
  intro p l e R s m args below meth c σ D cA A C H locs ls cells slots hc hs hP hS hl
  exact k p l e R s m args below meth c σ D cA A C H locs ls cells slots hc hs hP hS (hl.le h)
theorem rd_mono {Q' : rd_R → rd_M → Prop} (h : ∀ r M', Q r M' → Q' r M') (k : rd_G x pc L st M n Q) : rd_G x pc L st M n Q' := by
  intro p l e R s m args below meth c σ D cA A C H locs ls cells slots hc hs hP hS hl
  intro T hT X
  obtain ⟨t, a1, o, r, M', b1, b2, b3, b4, b5⟩ := k p l e R s m args below meth c σ D cA A C H locs ls cells slots hc hs hP hS hl T hT X
  exact ⟨t, a1, o, r, M', b1, b2, b3, h r M' b4, b5⟩
theorem rd_iconst {v : Int} (hd : decode (rd_cd x) pc = .ok (.iconst v, 1)) (k : rd_G x (pc + 1) L (rd_i v :: st) M n Q) : rd_G x pc L (st) M n Q := by
  intro p l e R s m args below meth c σ D cA A C H locs ls cells slots hc hs hP hS hl
  exact lv_iconst (v := Int32.ofInt v) (rest := st.map (rd_pv σ)) C.1 C.2.1 hd rfl (k p l e R s m args below meth c σ D cA A C H locs ls cells slots hc hs hP hS hl)
theorem rd_bipush {v : Int} (hd : decode (rd_cd x) pc = .ok (.bipush v, 2)) (hv : (Int8.ofInt v).toInt32 = Int32.ofInt v) (k : rd_G x (pc + 2) L (rd_i v :: st) M n Q) : rd_G x pc L (st) M n Q := by
  intro p l e R s m args below meth c σ D cA A C H locs ls cells slots hc hs hP hS hl
  exact lv_bipush (v := Int32.ofInt v) (rest := st.map (rd_pv σ)) C.1 C.2.1 hd hv (k p l e R s m args below meth c σ D cA A C H locs ls cells slots hc hs hP hS hl)
theorem rd_sipush {v : Int} (hd : decode (rd_cd x) pc = .ok (.sipush v, 3)) (hv : (Int16.ofInt v).toInt32 = Int32.ofInt v) (k : rd_G x (pc + 3) L (rd_i v :: st) M n Q) : rd_G x pc L (st) M n Q := by
  intro p l e R s m args below meth c σ D cA A C H locs ls cells slots hc hs hP hS hl
  exact lv_sipush (v := Int32.ofInt v) (rest := st.map (rd_pv σ)) C.1 C.2.1 hd hv (k p l e R s m args below meth c σ D cA A C H locs ls cells slots hc hs hP hS hl)
theorem rd_lconst {f : Fin 2} {v : Int} (hd : decode (rd_cd x) pc = .ok (.lconst f, 1)) (hv : Int64.ofNat (f : Nat) = Int64.ofInt v) (k : rd_G x (pc + 1) L (rd_l v :: st) M n Q) : rd_G x pc L (st) M n Q := by
  intro p l e R s m args below meth c σ D cA A C H locs ls cells slots hc hs hP hS hl
  exact lv_lconst (v := Int64.ofInt v) (rest := st.map (rd_pv σ)) C.1 C.2.1 hd hv (k p l e R s m args below meth c σ D cA A C H locs ls cells slots hc hs hP hS hl)
theorem rd_ldc {v : Int} {ix : Nat} (hd : decode (rd_cd x) pc = .ok (.ldc ix, 2)) (hw : Cond.constant (rd_nm x).cls ix (Int32.ofInt v) ∈ rd_ws) (k : rd_G x (pc + 2) L (rd_i v :: st) M n Q) : rd_G x pc L (st) M n Q := by
  intro p l e R s m args below meth c σ D cA A C H locs ls cells slots hc hs hP hS hl
  exact lv_ldc (v := Int32.ofInt v) (rest := st.map (rd_pv σ)) C.1 C.2.1 C.2.2.2.1 (C.2.2.2.2.1 _ hw) hd (k p l e R s m args below meth c σ D cA A C H locs ls cells slots hc hs hP hS hl)
theorem rd_ldc2 {v : Int} {ix : Nat} (hd : decode (rd_cd x) pc = .ok (.ldc2_w ix, 3)) (hw : Cond.constantLong (rd_nm x).cls ix (Int64.ofInt v) ∈ rd_ws) (k : rd_G x (pc + 3) L (rd_l v :: st) M n Q) : rd_G x pc L (st) M n Q := by
  intro p l e R s m args below meth c σ D cA A C H locs ls cells slots hc hs hP hS hl
  exact lv_ldc2 (v := Int64.ofInt v) (rest := st.map (rd_pv σ)) C.1 C.2.1 C.2.2.2.1 (C.2.2.2.2.1 _ hw) hd (k p l e R s m args below meth c σ D cA A C H locs ls cells slots hc hs hP hS hl)
theorem rd_ildn {f : Fin 4} {v : Int} (hd : decode (rd_cd x) pc = .ok (.iload_n f, 1)) (hv : L[(f : Nat)]? = some (some (rd_i v))) (k : rd_G x (pc + 1) L (rd_i v :: st) M n Q) : rd_G x pc L (st) M n Q := by
  intro p l e R s m args below meth c σ D cA A C H locs ls cells slots hc hs hP hS hl
  exact lv_iload_n (x := Int32.ofInt v) (rest := st.map (rd_pv σ)) C.1 C.2.1 hd rfl (hl.2.2.2 _ _ hv) (k p l e R s m args below meth c σ D cA A C H locs ls cells slots hc hs hP hS hl)
theorem rd_ild {i : Nat} {v : Int} (hd : decode (rd_cd x) pc = .ok (.iload i, 2)) (hv : L[i]? = some (some (rd_i v))) (k : rd_G x (pc + 2) L (rd_i v :: st) M n Q) : rd_G x pc L (st) M n Q := by
  intro p l e R s m args below meth c σ D cA A C H locs ls cells slots hc hs hP hS hl
  exact lv_iload (x := Int32.ofInt v) (rest := st.map (rd_pv σ)) C.1 C.2.1 hd (hl.2.2.2 _ _ hv) (k p l e R s m args below meth c σ D cA A C H locs ls cells slots hc hs hP hS hl)
theorem rd_lldn {f : Fin 4} {v : Int} (hd : decode (rd_cd x) pc = .ok (.lload_n f, 1)) (hv : L[(f : Nat)]? = some (some (rd_l v))) (k : rd_G x (pc + 1) L (rd_l v :: st) M n Q) : rd_G x pc L (st) M n Q := by
  intro p l e R s m args below meth c σ D cA A C H locs ls cells slots hc hs hP hS hl
  exact lv_lload_n (x := Int64.ofInt v) (rest := st.map (rd_pv σ)) C.1 C.2.1 hd rfl (hl.2.2.2 _ _ hv) (k p l e R s m args below meth c σ D cA A C H locs ls cells slots hc hs hP hS hl)
theorem rd_lld {i : Nat} {v : Int} (hd : decode (rd_cd x) pc = .ok (.lload i, 2)) (hv : L[i]? = some (some (rd_l v))) (k : rd_G x (pc + 2) L (rd_l v :: st) M n Q) : rd_G x pc L (st) M n Q := by
  intro p l e R s m args below meth c σ D cA A C H locs ls cells slots hc hs hP hS hl
  exact lv_lload (x := Int64.ofInt v) (rest := st.map (rd_pv σ)) C.1 C.2.1 hd (hl.2.2.2 _ _ hv) (k p l e R s m args below meth c σ D cA A C H locs ls cells slots hc hs hP hS hl)
theorem rd_aldn {f : Fin 4} {q : Nat} (hd : decode (rd_cd x) pc = .ok (.aload_n f, 1)) (hv : L[(f : Nat)]? = some (some (.ref q))) (k : rd_G x (pc + 1) L (.ref q :: st) M n Q) : rd_G x pc L (st) M n Q := by
  intro p l e R s m args below meth c σ D cA A C H locs ls cells slots hc hs hP hS hl
  exact lv_aload_n (x := σ q) (rest := st.map (rd_pv σ)) C.1 C.2.1 hd rfl (hl.2.2.2 _ _ hv) (k p l e R s m args below meth c σ D cA A C H locs ls cells slots hc hs hP hS hl)
theorem rd_ald {i : Nat} {q : Nat} (hd : decode (rd_cd x) pc = .ok (.aload i, 2)) (hv : L[i]? = some (some (.ref q))) (k : rd_G x (pc + 2) L (.ref q :: st) M n Q) : rd_G x pc L (st) M n Q := by
  intro p l e R s m args below meth c σ D cA A C H locs ls cells slots hc hs hP hS hl
  exact lv_aload (x := σ q) (rest := st.map (rd_pv σ)) C.1 C.2.1 hd (hl.2.2.2 _ _ hv) (k p l e R s m args below meth c σ D cA A C H locs ls cells slots hc hs hP hS hl)
theorem rd_istgn {f : Fin 4} {v : Int} {pre r : List (Option Value)} {old : Option Value} (hd : decode (rd_cd x) pc = .ok (.istore_n f, 1)) (hf : (f : Nat) = pre.length) (hp : rd_okp pre = true) (k : rd_G x (pc + 1) (pre ++ some (rd_i v) :: r) st M n Q) : rd_G x pc (pre ++ old :: r) (rd_i v :: st) M n Q := by
  intro p l e R s m args below meth c σ D cA A C H locs ls cells slots hc hs hP hS hl
  exact lv_istore_n (x := Int32.ofInt v) (rest := st.map (rd_pv σ)) C.1 C.2.1 hd hf hl.al (Nat.lt_of_lt_of_le (by simp) hl.2.2.1) rfl (fun ls' h' => k p l e R s m args below meth c σ D cA A C H locs ls' cells slots hc hs hP hS (hl.st1 hp h'))
theorem rd_istg {i : Nat} {v : Int} {pre r : List (Option Value)} {old : Option Value} (hd : decode (rd_cd x) pc = .ok (.istore i, 2)) (hf : i = pre.length) (hp : rd_okp pre = true) (k : rd_G x (pc + 2) (pre ++ some (rd_i v) :: r) st M n Q) : rd_G x pc (pre ++ old :: r) (rd_i v :: st) M n Q := by
  subst hf
  intro p l e R s m args below meth c σ D cA A C H locs ls cells slots hc hs hP hS hl
  exact lv_istore (x := Int32.ofInt v) (rest := st.map (rd_pv σ)) C.1 C.2.1 hd hl.al (Nat.lt_of_lt_of_le (by simp) hl.2.2.1) rfl (fun ls' h' => k p l e R s m args below meth c σ D cA A C H locs ls' cells slots hc hs hP hS (hl.st1 hp h'))
theorem rd_astgn {f : Fin 4} {v : Nat} {pre r : List (Option Value)} {old : Option Value} (hd : decode (rd_cd x) pc = .ok (.astore_n f, 1)) (hf : (f : Nat) = pre.length) (hp : rd_okp pre = true) (k : rd_G x (pc + 1) (pre ++ some (.ref v) :: r) st M n Q) : rd_G x pc (pre ++ old :: r) (.ref v :: st) M n Q := by
  intro p l e R s m args below meth c σ D cA A C H locs ls cells slots hc hs hP hS hl
  exact lv_astore_n (x := σ v) (rest := st.map (rd_pv σ)) C.1 C.2.1 hd hf hl.al (Nat.lt_of_lt_of_le (by simp) hl.2.2.1) rfl (fun ls' h' => k p l e R s m args below meth c σ D cA A C H locs ls' cells slots hc hs hP hS (hl.st1 hp h'))
theorem rd_astg {i : Nat} {v : Nat} {pre r : List (Option Value)} {old : Option Value} (hd : decode (rd_cd x) pc = .ok (.astore i, 2)) (hf : i = pre.length) (hp : rd_okp pre = true) (k : rd_G x (pc + 2) (pre ++ some (.ref v) :: r) st M n Q) : rd_G x pc (pre ++ old :: r) (.ref v :: st) M n Q := by
  subst hf
  intro p l e R s m args below meth c σ D cA A C H locs ls cells slots hc hs hP hS hl
  exact lv_astore (x := σ v) (rest := st.map (rd_pv σ)) C.1 C.2.1 hd hl.al (Nat.lt_of_lt_of_le (by simp) hl.2.2.1) rfl (fun ls' h' => k p l e R s m args below meth c σ D cA A C H locs ls' cells slots hc hs hP hS (hl.st1 hp h'))
theorem rd_lstgn {f : Fin 4} {v : Int} {pre r : List (Option Value)} {old old2 : Option Value} (hd : decode (rd_cd x) pc = .ok (.lstore_n f, 1)) (hf : (f : Nat) = pre.length) (hp : rd_okp pre = true) (k : rd_G x (pc + 1) (pre ++ some (rd_l v) :: none :: r) st M n Q) : rd_G x pc (pre ++ old :: old2 :: r) (rd_l v :: st) M n Q := by
  intro p l e R s m args below meth c σ D cA A C H locs ls cells slots hc hs hP hS hl
  exact lv_lstore_n (x := Int64.ofInt v) (rest := st.map (rd_pv σ)) C.1 C.2.1 hd hf hl.al (Nat.lt_of_lt_of_le (by simp) hl.2.2.1) rfl (fun ls' h' => k p l e R s m args below meth c σ D cA A C H locs ls' cells slots hc hs hP hS (hl.st2 hp h'))
theorem rd_lstg {i : Nat} {v : Int} {pre r : List (Option Value)} {old old2 : Option Value} (hd : decode (rd_cd x) pc = .ok (.lstore i, 2)) (hf : i = pre.length) (hp : rd_okp pre = true) (k : rd_G x (pc + 2) (pre ++ some (rd_l v) :: none :: r) st M n Q) : rd_G x pc (pre ++ old :: old2 :: r) (rd_l v :: st) M n Q := by
  subst hf
  intro p l e R s m args below meth c σ D cA A C H locs ls cells slots hc hs hP hS hl
  exact lv_lstore (x := Int64.ofInt v) (rest := st.map (rd_pv σ)) C.1 C.2.1 hd hl.al (Nat.lt_of_lt_of_le (by simp) hl.2.2.1) rfl (fun ls' h' => k p l e R s m args below meth c σ D cA A C H locs ls' cells slots hc hs hP hS (hl.st2 hp h'))
theorem rd_iincg {i : Nat} {d v : Int} {pre r : List (Option Value)} (hd : decode (rd_cd x) pc = .ok (.iinc i d, 3)) (hf : i = pre.length) (hp : rd_okp pre = true) (k : rd_G x (pc + 3) (pre ++ some (rd_i (v + d)) :: r) st M n Q) : rd_G x pc (pre ++ some (rd_i v) :: r) st M n Q := by
  subst hf
  intro p l e R s m args below meth c σ D cA A C H locs ls cells slots hc hs hP hS hl
  have hat : (pre ++ some (rd_i v) :: r)[pre.length]? = some (some (rd_i v)) := by rw [List.getElem?_append_right (Nat.le_refl _), Nat.sub_self]; rfl
  have hm := rd_al_mem (σ := σ) _ 0 _ _ hat
  rw [Nat.zero_add] at hm
  obtain ⟨kq, hkq⟩ := List.getElem?_of_mem hm
  refine lv_iinc (x := Int32.ofInt v) (v := Int32.ofInt (v + d)) (rest := st.map (rd_pv σ)) C.1 C.2.1 hd hl.al hkq (by rw [Int32.ofInt_add]) (Nat.lt_of_lt_of_le (by simp) hl.2.2.1) rfl (fun ls' h' => ?_)
  exact k p l e R s m args below meth c σ D cA A C H locs ls' cells slots hc hs hP hS (hl.st1 (v := rd_i (v + d)) hp h')
theorem rd_ist0 {v : Int} {old : Option Value} {r : List (Option Value)} (hd : decode (rd_cd x) pc = .ok (.istore_n 0, 1)) (k : rd_G x (pc + 1) (some (rd_i v) :: r) st M n Q) : rd_G x pc (old :: r) (rd_i v :: st) M n Q := rd_istgn (pre := []) (f := 0) hd rfl rfl k
theorem rd_ast0 {v : Nat} {old : Option Value} {r : List (Option Value)} (hd : decode (rd_cd x) pc = .ok (.astore_n 0, 1)) (k : rd_G x (pc + 1) (some (.ref v) :: r) st M n Q) : rd_G x pc (old :: r) (.ref v :: st) M n Q := rd_astgn (pre := []) (f := 0) hd rfl rfl k
theorem rd_lst0 {v : Int} {old old2 : Option Value} {r : List (Option Value)} (hd : decode (rd_cd x) pc = .ok (.lstore_n 0, 1)) (k : rd_G x (pc + 1) (some (rd_l v) :: none :: r) st M n Q) : rd_G x pc (old :: old2 :: r) (rd_l v :: st) M n Q := rd_lstgn (pre := []) (f := 0) hd rfl rfl k
theorem rd_iinc0 {d v : Int} {r : List (Option Value)} (hd : decode (rd_cd x) pc = .ok (.iinc 0 d, 3)) (k : rd_G x (pc + 3) (some (rd_i (v + d)) :: r) st M n Q) : rd_G x pc (some (rd_i v) :: r) st M n Q := rd_iincg (pre := []) hd rfl rfl k
theorem rd_ist1 {v : Int} {a0 old : Option Value} {r : List (Option Value)} (hd : decode (rd_cd x) pc = .ok (.istore_n 1, 1)) (hp : rd_two a0 = false) (k : rd_G x (pc + 1) (a0 :: some (rd_i v) :: r) st M n Q) : rd_G x pc (a0 :: old :: r) (rd_i v :: st) M n Q := rd_istgn (pre := [a0]) (f := 1) hd rfl (by simp [rd_okp, hp]) k
theorem rd_ast1 {v : Nat} {a0 old : Option Value} {r : List (Option Value)} (hd : decode (rd_cd x) pc = .ok (.astore_n 1, 1)) (hp : rd_two a0 = false) (k : rd_G x (pc + 1) (a0 :: some (.ref v) :: r) st M n Q) : rd_G x pc (a0 :: old :: r) (.ref v :: st) M n Q := rd_astgn (pre := [a0]) (f := 1) hd rfl (by simp [rd_okp, hp]) k
theorem rd_lst1 {v : Int} {a0 old old2 : Option Value} {r : List (Option Value)} (hd : decode (rd_cd x) pc = .ok (.lstore_n 1, 1)) (hp : rd_two a0 = false) (k : rd_G x (pc + 1) (a0 :: some (rd_l v) :: none :: r) st M n Q) : rd_G x pc (a0 :: old :: old2 :: r) (rd_l v :: st) M n Q := rd_lstgn (pre := [a0]) (f := 1) hd rfl (by simp [rd_okp, hp]) k
theorem rd_iinc1 {d v : Int} {a0 : Option Value} {r : List (Option Value)} (hd : decode (rd_cd x) pc = .ok (.iinc 1 d, 3)) (hp : rd_two a0 = false) (k : rd_G x (pc + 3) (a0 :: some (rd_i (v + d)) :: r) st M n Q) : rd_G x pc (a0 :: some (rd_i v) :: r) st M n Q := rd_iincg (pre := [a0]) hd rfl (by simp [rd_okp, hp]) k
theorem rd_ist2 {v : Int} {a0 a1 old : Option Value} {r : List (Option Value)} (hd : decode (rd_cd x) pc = .ok (.istore_n 2, 1)) (hp : rd_two a1 = false) (k : rd_G x (pc + 1) (a0 :: a1 :: some (rd_i v) :: r) st M n Q) : rd_G x pc (a0 :: a1 :: old :: r) (rd_i v :: st) M n Q := rd_istgn (pre := [a0, a1]) (f := 2) hd rfl (by simp [rd_okp, hp]) k
theorem rd_ast2 {v : Nat} {a0 a1 old : Option Value} {r : List (Option Value)} (hd : decode (rd_cd x) pc = .ok (.astore_n 2, 1)) (hp : rd_two a1 = false) (k : rd_G x (pc + 1) (a0 :: a1 :: some (.ref v) :: r) st M n Q) : rd_G x pc (a0 :: a1 :: old :: r) (.ref v :: st) M n Q := rd_astgn (pre := [a0, a1]) (f := 2) hd rfl (by simp [rd_okp, hp]) k
theorem rd_lst2 {v : Int} {a0 a1 old old2 : Option Value} {r : List (Option Value)} (hd : decode (rd_cd x) pc = .ok (.lstore_n 2, 1)) (hp : rd_two a1 = false) (k : rd_G x (pc + 1) (a0 :: a1 :: some (rd_l v) :: none :: r) st M n Q) : rd_G x pc (a0 :: a1 :: old :: old2 :: r) (rd_l v :: st) M n Q := rd_lstgn (pre := [a0, a1]) (f := 2) hd rfl (by simp [rd_okp, hp]) k
theorem rd_iinc2 {d v : Int} {a0 a1 : Option Value} {r : List (Option Value)} (hd : decode (rd_cd x) pc = .ok (.iinc 2 d, 3)) (hp : rd_two a1 = false) (k : rd_G x (pc + 3) (a0 :: a1 :: some (rd_i (v + d)) :: r) st M n Q) : rd_G x pc (a0 :: a1 :: some (rd_i v) :: r) st M n Q := rd_iincg (pre := [a0, a1]) hd rfl (by simp [rd_okp, hp]) k
theorem rd_ist3 {v : Int} {a0 a1 a2 old : Option Value} {r : List (Option Value)} (hd : decode (rd_cd x) pc = .ok (.istore_n 3, 1)) (hp : rd_two a2 = false) (k : rd_G x (pc + 1) (a0 :: a1 :: a2 :: some (rd_i v) :: r) st M n Q) : rd_G x pc (a0 :: a1 :: a2 :: old :: r) (rd_i v :: st) M n Q := rd_istgn (pre := [a0, a1, a2]) (f := 3) hd rfl (by simp [rd_okp, hp]) k
theorem rd_ast3 {v : Nat} {a0 a1 a2 old : Option Value} {r : List (Option Value)} (hd : decode (rd_cd x) pc = .ok (.astore_n 3, 1)) (hp : rd_two a2 = false) (k : rd_G x (pc + 1) (a0 :: a1 :: a2 :: some (.ref v) :: r) st M n Q) : rd_G x pc (a0 :: a1 :: a2 :: old :: r) (.ref v :: st) M n Q := rd_astgn (pre := [a0, a1, a2]) (f := 3) hd rfl (by simp [rd_okp, hp]) k
theorem rd_lst3 {v : Int} {a0 a1 a2 old old2 : Option Value} {r : List (Option Value)} (hd : decode (rd_cd x) pc = .ok (.lstore_n 3, 1)) (hp : rd_two a2 = false) (k : rd_G x (pc + 1) (a0 :: a1 :: a2 :: some (rd_l v) :: none :: r) st M n Q) : rd_G x pc (a0 :: a1 :: a2 :: old :: old2 :: r) (rd_l v :: st) M n Q := rd_lstgn (pre := [a0, a1, a2]) (f := 3) hd rfl (by simp [rd_okp, hp]) k
theorem rd_iinc3 {d v : Int} {a0 a1 a2 : Option Value} {r : List (Option Value)} (hd : decode (rd_cd x) pc = .ok (.iinc 3 d, 3)) (hp : rd_two a2 = false) (k : rd_G x (pc + 3) (a0 :: a1 :: a2 :: some (rd_i (v + d)) :: r) st M n Q) : rd_G x pc (a0 :: a1 :: a2 :: some (rd_i v) :: r) st M n Q := rd_iincg (pre := [a0, a1, a2]) hd rfl (by simp [rd_okp, hp]) k
theorem rd_ist4 {v : Int} {a0 a1 a2 a3 old : Option Value} {r : List (Option Value)} (hd : decode (rd_cd x) pc = .ok (.istore 4, 2)) (hp : rd_two a3 = false) (k : rd_G x (pc + 2) (a0 :: a1 :: a2 :: a3 :: some (rd_i v) :: r) st M n Q) : rd_G x pc (a0 :: a1 :: a2 :: a3 :: old :: r) (rd_i v :: st) M n Q := rd_istg (pre := [a0, a1, a2, a3]) hd rfl (by simp [rd_okp, hp]) k
theorem rd_ast4 {v : Nat} {a0 a1 a2 a3 old : Option Value} {r : List (Option Value)} (hd : decode (rd_cd x) pc = .ok (.astore 4, 2)) (hp : rd_two a3 = false) (k : rd_G x (pc + 2) (a0 :: a1 :: a2 :: a3 :: some (.ref v) :: r) st M n Q) : rd_G x pc (a0 :: a1 :: a2 :: a3 :: old :: r) (.ref v :: st) M n Q := rd_astg (pre := [a0, a1, a2, a3]) hd rfl (by simp [rd_okp, hp]) k
theorem rd_lst4 {v : Int} {a0 a1 a2 a3 old old2 : Option Value} {r : List (Option Value)} (hd : decode (rd_cd x) pc = .ok (.lstore 4, 2)) (hp : rd_two a3 = false) (k : rd_G x (pc + 2) (a0 :: a1 :: a2 :: a3 :: some (rd_l v) :: none :: r) st M n Q) : rd_G x pc (a0 :: a1 :: a2 :: a3 :: old :: old2 :: r) (rd_l v :: st) M n Q := rd_lstg (pre := [a0, a1, a2, a3]) hd rfl (by simp [rd_okp, hp]) k
theorem rd_iinc4 {d v : Int} {a0 a1 a2 a3 : Option Value} {r : List (Option Value)} (hd : decode (rd_cd x) pc = .ok (.iinc 4 d, 3)) (hp : rd_two a3 = false) (k : rd_G x (pc + 3) (a0 :: a1 :: a2 :: a3 :: some (rd_i (v + d)) :: r) st M n Q) : rd_G x pc (a0 :: a1 :: a2 :: a3 :: some (rd_i v) :: r) st M n Q := rd_iincg (pre := [a0, a1, a2, a3]) hd rfl (by simp [rd_okp, hp]) k
theorem rd_ist5 {v : Int} {a0 a1 a2 a3 a4 old : Option Value} {r : List (Option Value)} (hd : decode (rd_cd x) pc = .ok (.istore 5, 2)) (hp : rd_two a4 = false) (k : rd_G x (pc + 2) (a0 :: a1 :: a2 :: a3 :: a4 :: some (rd_i v) :: r) st M n Q) : rd_G x pc (a0 :: a1 :: a2 :: a3 :: a4 :: old :: r) (rd_i v :: st) M n Q := rd_istg (pre := [a0, a1, a2, a3, a4]) hd rfl (by simp [rd_okp, hp]) k
theorem rd_ast5 {v : Nat} {a0 a1 a2 a3 a4 old : Option Value} {r : List (Option Value)} (hd : decode (rd_cd x) pc = .ok (.astore 5, 2)) (hp : rd_two a4 = false) (k : rd_G x (pc + 2) (a0 :: a1 :: a2 :: a3 :: a4 :: some (.ref v) :: r) st M n Q) : rd_G x pc (a0 :: a1 :: a2 :: a3 :: a4 :: old :: r) (.ref v :: st) M n Q := rd_astg (pre := [a0, a1, a2, a3, a4]) hd rfl (by simp [rd_okp, hp]) k
theorem rd_lst5 {v : Int} {a0 a1 a2 a3 a4 old old2 : Option Value} {r : List (Option Value)} (hd : decode (rd_cd x) pc = .ok (.lstore 5, 2)) (hp : rd_two a4 = false) (k : rd_G x (pc + 2) (a0 :: a1 :: a2 :: a3 :: a4 :: some (rd_l v) :: none :: r) st M n Q) : rd_G x pc (a0 :: a1 :: a2 :: a3 :: a4 :: old :: old2 :: r) (rd_l v :: st) M n Q := rd_lstg (pre := [a0, a1, a2, a3, a4]) hd rfl (by simp [rd_okp, hp]) k
theorem rd_iinc5 {d v : Int} {a0 a1 a2 a3 a4 : Option Value} {r : List (Option Value)} (hd : decode (rd_cd x) pc = .ok (.iinc 5 d, 3)) (hp : rd_two a4 = false) (k : rd_G x (pc + 3) (a0 :: a1 :: a2 :: a3 :: a4 :: some (rd_i (v + d)) :: r) st M n Q) : rd_G x pc (a0 :: a1 :: a2 :: a3 :: a4 :: some (rd_i v) :: r) st M n Q := rd_iincg (pre := [a0, a1, a2, a3, a4]) hd rfl (by simp [rd_okp, hp]) k
theorem rd_ist6 {v : Int} {a0 a1 a2 a3 a4 a5 old : Option Value} {r : List (Option Value)} (hd : decode (rd_cd x) pc = .ok (.istore 6, 2)) (hp : rd_two a5 = false) (k : rd_G x (pc + 2) (a0 :: a1 :: a2 :: a3 :: a4 :: a5 :: some (rd_i v) :: r) st M n Q) : rd_G x pc (a0 :: a1 :: a2 :: a3 :: a4 :: a5 :: old :: r) (rd_i v :: st) M n Q := rd_istg (pre := [a0, a1, a2, a3, a4, a5]) hd rfl (by simp [rd_okp, hp]) k
theorem rd_ast6 {v : Nat} {a0 a1 a2 a3 a4 a5 old : Option Value} {r : List (Option Value)} (hd : decode (rd_cd x) pc = .ok (.astore 6, 2)) (hp : rd_two a5 = false) (k : rd_G x (pc + 2) (a0 :: a1 :: a2 :: a3 :: a4 :: a5 :: some (.ref v) :: r) st M n Q) : rd_G x pc (a0 :: a1 :: a2 :: a3 :: a4 :: a5 :: old :: r) (.ref v :: st) M n Q := rd_astg (pre := [a0, a1, a2, a3, a4, a5]) hd rfl (by simp [rd_okp, hp]) k
theorem rd_lst6 {v : Int} {a0 a1 a2 a3 a4 a5 old old2 : Option Value} {r : List (Option Value)} (hd : decode (rd_cd x) pc = .ok (.lstore 6, 2)) (hp : rd_two a5 = false) (k : rd_G x (pc + 2) (a0 :: a1 :: a2 :: a3 :: a4 :: a5 :: some (rd_l v) :: none :: r) st M n Q) : rd_G x pc (a0 :: a1 :: a2 :: a3 :: a4 :: a5 :: old :: old2 :: r) (rd_l v :: st) M n Q := rd_lstg (pre := [a0, a1, a2, a3, a4, a5]) hd rfl (by simp [rd_okp, hp]) k
theorem rd_iinc6 {d v : Int} {a0 a1 a2 a3 a4 a5 : Option Value} {r : List (Option Value)} (hd : decode (rd_cd x) pc = .ok (.iinc 6 d, 3)) (hp : rd_two a5 = false) (k : rd_G x (pc + 3) (a0 :: a1 :: a2 :: a3 :: a4 :: a5 :: some (rd_i (v + d)) :: r) st M n Q) : rd_G x pc (a0 :: a1 :: a2 :: a3 :: a4 :: a5 :: some (rd_i v) :: r) st M n Q := rd_iincg (pre := [a0, a1, a2, a3, a4, a5]) hd rfl (by simp [rd_okp, hp]) k
theorem rd_ist7 {v : Int} {a0 a1 a2 a3 a4 a5 a6 old : Option Value} {r : List (Option Value)} (hd : decode (rd_cd x) pc = .ok (.istore 7, 2)) (hp : rd_two a6 = false) (k : rd_G x (pc + 2) (a0 :: a1 :: a2 :: a3 :: a4 :: a5 :: a6 :: some (rd_i v) :: r) st M n Q) : rd_G x pc (a0 :: a1 :: a2 :: a3 :: a4 :: a5 :: a6 :: old :: r) (rd_i v :: st) M n Q := rd_istg (pre := [a0, a1, a2, a3, a4, a5, a6]) hd rfl (by simp [rd_okp, hp]) k
theorem rd_ast7 {v : Nat} {a0 a1 a2 a3 a4 a5 a6 old : Option Value} {r : List (Option Value)} (hd : decode (rd_cd x) pc = .ok (.astore 7, 2)) (hp : rd_two a6 = false) (k : rd_G x (pc + 2) (a0 :: a1 :: a2 :: a3 :: a4 :: a5 :: a6 :: some (.ref v) :: r) st M n Q) : rd_G x pc (a0 :: a1 :: a2 :: a3 :: a4 :: a5 :: a6 :: old :: r) (.ref v :: st) M n Q := rd_astg (pre := [a0, a1, a2, a3, a4, a5, a6]) hd rfl (by simp [rd_okp, hp]) k
theorem rd_lst7 {v : Int} {a0 a1 a2 a3 a4 a5 a6 old old2 : Option Value} {r : List (Option Value)} (hd : decode (rd_cd x) pc = .ok (.lstore 7, 2)) (hp : rd_two a6 = false) (k : rd_G x (pc + 2) (a0 :: a1 :: a2 :: a3 :: a4 :: a5 :: a6 :: some (rd_l v) :: none :: r) st M n Q) : rd_G x pc (a0 :: a1 :: a2 :: a3 :: a4 :: a5 :: a6 :: old :: old2 :: r) (rd_l v :: st) M n Q := rd_lstg (pre := [a0, a1, a2, a3, a4, a5, a6]) hd rfl (by simp [rd_okp, hp]) k
theorem rd_iinc7 {d v : Int} {a0 a1 a2 a3 a4 a5 a6 : Option Value} {r : List (Option Value)} (hd : decode (rd_cd x) pc = .ok (.iinc 7 d, 3)) (hp : rd_two a6 = false) (k : rd_G x (pc + 3) (a0 :: a1 :: a2 :: a3 :: a4 :: a5 :: a6 :: some (rd_i (v + d)) :: r) st M n Q) : rd_G x pc (a0 :: a1 :: a2 :: a3 :: a4 :: a5 :: a6 :: some (rd_i v) :: r) st M n Q := rd_iincg (pre := [a0, a1, a2, a3, a4, a5, a6]) hd rfl (by simp [rd_okp, hp]) k
theorem rd_ist8 {v : Int} {a0 a1 a2 a3 a4 a5 a6 a7 old : Option Value} {r : List (Option Value)} (hd : decode (rd_cd x) pc = .ok (.istore 8, 2)) (hp : rd_two a7 = false) (k : rd_G x (pc + 2) (a0 :: a1 :: a2 :: a3 :: a4 :: a5 :: a6 :: a7 :: some (rd_i v) :: r) st M n Q) : rd_G x pc (a0 :: a1 :: a2 :: a3 :: a4 :: a5 :: a6 :: a7 :: old :: r) (rd_i v :: st) M n Q := rd_istg (pre := [a0, a1, a2, a3, a4, a5, a6, a7]) hd rfl (by simp [rd_okp, hp]) k
theorem rd_ast8 {v : Nat} {a0 a1 a2 a3 a4 a5 a6 a7 old : Option Value} {r : List (Option Value)} (hd : decode (rd_cd x) pc = .ok (.astore 8, 2)) (hp : rd_two a7 = false) (k : rd_G x (pc + 2) (a0 :: a1 :: a2 :: a3 :: a4 :: a5 :: a6 :: a7 :: some (.ref v) :: r) st M n Q) : rd_G x pc (a0 :: a1 :: a2 :: a3 :: a4 :: a5 :: a6 :: a7 :: old :: r) (.ref v :: st) M n Q := rd_astg (pre := [a0, a1, a2, a3, a4, a5, a6, a7]) hd rfl (by simp [rd_okp, hp]) k
theorem rd_lst8 {v : Int} {a0 a1 a2 a3 a4 a5 a6 a7 old old2 : Option Value} {r : List (Option Value)} (hd : decode (rd_cd x) pc = .ok (.lstore 8, 2)) (hp : rd_two a7 = false) (k : rd_G x (pc + 2) (a0 :: a1 :: a2 :: a3 :: a4 :: a5 :: a6 :: a7 :: some (rd_l v) :: none :: r) st M n Q) : rd_G x pc (a0 :: a1 :: a2 :: a3 :: a4 :: a5 :: a6 :: a7 :: old :: old2 :: r) (rd_l v :: st) M n Q := rd_lstg (pre := [a0, a1, a2, a3, a4, a5, a6, a7]) hd rfl (by simp [rd_okp, hp]) k
theorem rd_iinc8 {d v : Int} {a0 a1 a2 a3 a4 a5 a6 a7 : Option Value} {r : List (Option Value)} (hd : decode (rd_cd x) pc = .ok (.iinc 8 d, 3)) (hp : rd_two a7 = false) (k : rd_G x (pc + 3) (a0 :: a1 :: a2 :: a3 :: a4 :: a5 :: a6 :: a7 :: some (rd_i (v + d)) :: r) st M n Q) : rd_G x pc (a0 :: a1 :: a2 :: a3 :: a4 :: a5 :: a6 :: a7 :: some (rd_i v) :: r) st M n Q := rd_iincg (pre := [a0, a1, a2, a3, a4, a5, a6, a7]) hd rfl (by simp [rd_okp, hp]) k
theorem rd_ist9 {v : Int} {a0 a1 a2 a3 a4 a5 a6 a7 a8 old : Option Value} {r : List (Option Value)} (hd : decode (rd_cd x) pc = .ok (.istore 9, 2)) (hp : rd_two a8 = false) (k : rd_G x (pc + 2) (a0 :: a1 :: a2 :: a3 :: a4 :: a5 :: a6 :: a7 :: a8 :: some (rd_i v) :: r) st M n Q) : rd_G x pc (a0 :: a1 :: a2 :: a3 :: a4 :: a5 :: a6 :: a7 :: a8 :: old :: r) (rd_i v :: st) M n Q := rd_istg (pre := [a0, a1, a2, a3, a4, a5, a6, a7, a8]) hd rfl (by simp [rd_okp, hp]) k
theorem rd_ast9 {v : Nat} {a0 a1 a2 a3 a4 a5 a6 a7 a8 old : Option Value} {r : List (Option Value)} (hd : decode (rd_cd x) pc = .ok (.astore 9, 2)) (hp : rd_two a8 = false) (k : rd_G x (pc + 2) (a0 :: a1 :: a2 :: a3 :: a4 :: a5 :: a6 :: a7 :: a8 :: some (.ref v) :: r) st M n Q) : rd_G x pc (a0 :: a1 :: a2 :: a3 :: a4 :: a5 :: a6 :: a7 :: a8 :: old :: r) (.ref v :: st) M n Q := rd_astg (pre := [a0, a1, a2, a3, a4, a5, a6, a7, a8]) hd rfl (by simp [rd_okp, hp]) k
theorem rd_lst9 {v : Int} {a0 a1 a2 a3 a4 a5 a6 a7 a8 old old2 : Option Value} {r : List (Option Value)} (hd : decode (rd_cd x) pc = .ok (.lstore 9, 2)) (hp : rd_two a8 = false) (k : rd_G x (pc + 2) (a0 :: a1 :: a2 :: a3 :: a4 :: a5 :: a6 :: a7 :: a8 :: some (rd_l v) :: none :: r) st M n Q) : rd_G x pc (a0 :: a1 :: a2 :: a3 :: a4 :: a5 :: a6 :: a7 :: a8 :: old :: old2 :: r) (rd_l v :: st) M n Q := rd_lstg (pre := [a0, a1, a2, a3, a4, a5, a6, a7, a8]) hd rfl (by simp [rd_okp, hp]) k
theorem rd_iinc9 {d v : Int} {a0 a1 a2 a3 a4 a5 a6 a7 a8 : Option Value} {r : List (Option Value)} (hd : decode (rd_cd x) pc = .ok (.iinc 9 d, 3)) (hp : rd_two a8 = false) (k : rd_G x (pc + 3) (a0 :: a1 :: a2 :: a3 :: a4 :: a5 :: a6 :: a7 :: a8 :: some (rd_i (v + d)) :: r) st M n Q) : rd_G x pc (a0 :: a1 :: a2 :: a3 :: a4 :: a5 :: a6 :: a7 :: a8 :: some (rd_i v) :: r) st M n Q := rd_iincg (pre := [a0, a1, a2, a3, a4, a5, a6, a7, a8]) hd rfl (by simp [rd_okp, hp]) k
theorem rd_ist10 {v : Int} {a0 a1 a2 a3 a4 a5 a6 a7 a8 a9 old : Option Value} {r : List (Option Value)} (hd : decode (rd_cd x) pc = .ok (.istore 10, 2)) (hp : rd_two a9 = false) (k : rd_G x (pc + 2) (a0 :: a1 :: a2 :: a3 :: a4 :: a5 :: a6 :: a7 :: a8 :: a9 :: some (rd_i v) :: r) st M n Q) : rd_G x pc (a0 :: a1 :: a2 :: a3 :: a4 :: a5 :: a6 :: a7 :: a8 :: a9 :: old :: r) (rd_i v :: st) M n Q := rd_istg (pre := [a0, a1, a2, a3, a4, a5, a6, a7, a8, a9]) hd rfl (by simp [rd_okp, hp]) k
theorem rd_ast10 {v : Nat} {a0 a1 a2 a3 a4 a5 a6 a7 a8 a9 old : Option Value} {r : List (Option Value)} (hd : decode (rd_cd x) pc = .ok (.astore 10, 2)) (hp : rd_two a9 = false) (k : rd_G x (pc + 2) (a0 :: a1 :: a2 :: a3 :: a4 :: a5 :: a6 :: a7 :: a8 :: a9 :: some (.ref v) :: r) st M n Q) : rd_G x pc (a0 :: a1 :: a2 :: a3 :: a4 :: a5 :: a6 :: a7 :: a8 :: a9 :: old :: r) (.ref v :: st) M n Q := rd_astg (pre := [a0, a1, a2, a3, a4, a5, a6, a7, a8, a9]) hd rfl (by simp [rd_okp, hp]) k
theorem rd_lst10 {v : Int} {a0 a1 a2 a3 a4 a5 a6 a7 a8 a9 old old2 : Option Value} {r : List (Option Value)} (hd : decode (rd_cd x) pc = .ok (.lstore 10, 2)) (hp : rd_two a9 = false) (k : rd_G x (pc + 2) (a0 :: a1 :: a2 :: a3 :: a4 :: a5 :: a6 :: a7 :: a8 :: a9 :: some (rd_l v) :: none :: r) st M n Q) : rd_G x pc (a0 :: a1 :: a2 :: a3 :: a4 :: a5 :: a6 :: a7 :: a8 :: a9 :: old :: old2 :: r) (rd_l v :: st) M n Q := rd_lstg (pre := [a0, a1, a2, a3, a4, a5, a6, a7, a8, a9]) hd rfl (by simp [rd_okp, hp]) k
theorem rd_iinc10 {d v : Int} {a0 a1 a2 a3 a4 a5 a6 a7 a8 a9 : Option Value} {r : List (Option Value)} (hd : decode (rd_cd x) pc = .ok (.iinc 10 d, 3)) (hp : rd_two a9 = false) (k : rd_G x (pc + 3) (a0 :: a1 :: a2 :: a3 :: a4 :: a5 :: a6 :: a7 :: a8 :: a9 :: some (rd_i (v + d)) :: r) st M n Q) : rd_G x pc (a0 :: a1 :: a2 :: a3 :: a4 :: a5 :: a6 :: a7 :: a8 :: a9 :: some (rd_i v) :: r) st M n Q := rd_iincg (pre := [a0, a1, a2, a3, a4, a5, a6, a7, a8, a9]) hd rfl (by simp [rd_okp, hp]) k
theorem rd_ist11 {v : Int} {a0 a1 a2 a3 a4 a5 a6 a7 a8 a9 a10 old : Option Value} {r : List (Option Value)} (hd : decode (rd_cd x) pc = .ok (.istore 11, 2)) (hp : rd_two a10 = false) (k : rd_G x (pc + 2) (a0 :: a1 :: a2 :: a3 :: a4 :: a5 :: a6 :: a7 :: a8 :: a9 :: a10 :: some (rd_i v) :: r) st M n Q) : rd_G x pc (a0 :: a1 :: a2 :: a3 :: a4 :: a5 :: a6 :: a7 :: a8 :: a9 :: a10 :: old :: r) (rd_i v :: st) M n Q := rd_istg (pre := [a0, a1, a2, a3, a4, a5, a6, a7, a8, a9, a10]) hd rfl (by simp [rd_okp, hp]) k
theorem rd_ast11 {v : Nat} {a0 a1 a2 a3 a4 a5 a6 a7 a8 a9 a10 old : Option Value} {r : List (Option Value)} (hd : decode (rd_cd x) pc = .ok (.astore 11, 2)) (hp : rd_two a10 = false) (k : rd_G x (pc + 2) (a0 :: a1 :: a2 :: a3 :: a4 :: a5 :: a6 :: a7 :: a8 :: a9 :: a10 :: some (.ref v) :: r) st M n Q) : rd_G x pc (a0 :: a1 :: a2 :: a3 :: a4 :: a5 :: a6 :: a7 :: a8 :: a9 :: a10 :: old :: r) (.ref v :: st) M n Q := rd_astg (pre := [a0, a1, a2, a3, a4, a5, a6, a7, a8, a9, a10]) hd rfl (by simp [rd_okp, hp]) k
theorem rd_lst11 {v : Int} {a0 a1 a2 a3 a4 a5 a6 a7 a8 a9 a10 old old2 : Option Value} {r : List (Option Value)} (hd : decode (rd_cd x) pc = .ok (.lstore 11, 2)) (hp : rd_two a10 = false) (k : rd_G x (pc + 2) (a0 :: a1 :: a2 :: a3 :: a4 :: a5 :: a6 :: a7 :: a8 :: a9 :: a10 :: some (rd_l v) :: none :: r) st M n Q) : rd_G x pc (a0 :: a1 :: a2 :: a3 :: a4 :: a5 :: a6 :: a7 :: a8 :: a9 :: a10 :: old :: old2 :: r) (rd_l v :: st) M n Q := rd_lstg (pre := [a0, a1, a2, a3, a4, a5, a6, a7, a8, a9, a10]) hd rfl (by simp [rd_okp, hp]) k
theorem rd_iinc11 {d v : Int} {a0 a1 a2 a3 a4 a5 a6 a7 a8 a9 a10 : Option Value} {r : List (Option Value)} (hd : decode (rd_cd x) pc = .ok (.iinc 11 d, 3)) (hp : rd_two a10 = false) (k : rd_G x (pc + 3) (a0 :: a1 :: a2 :: a3 :: a4 :: a5 :: a6 :: a7 :: a8 :: a9 :: a10 :: some (rd_i (v + d)) :: r) st M n Q) : rd_G x pc (a0 :: a1 :: a2 :: a3 :: a4 :: a5 :: a6 :: a7 :: a8 :: a9 :: a10 :: some (rd_i v) :: r) st M n Q := rd_iincg (pre := [a0, a1, a2, a3, a4, a5, a6, a7, a8, a9, a10]) hd rfl (by simp [rd_okp, hp]) k
theorem rd_ist12 {v : Int} {a0 a1 a2 a3 a4 a5 a6 a7 a8 a9 a10 a11 old : Option Value} {r : List (Option Value)} (hd : decode (rd_cd x) pc = .ok (.istore 12, 2)) (hp : rd_two a11 = false) (k : rd_G x (pc + 2) (a0 :: a1 :: a2 :: a3 :: a4 :: a5 :: a6 :: a7 :: a8 :: a9 :: a10 :: a11 :: some (rd_i v) :: r) st M n Q) : rd_G x pc (a0 :: a1 :: a2 :: a3 :: a4 :: a5 :: a6 :: a7 :: a8 :: a9 :: a10 :: a11 :: old :: r) (rd_i v :: st) M n Q := rd_istg (pre := [a0, a1, a2, a3, a4, a5, a6, a7, a8, a9, a10, a11]) hd rfl (by simp [rd_okp, hp]) k
theorem rd_ast12 {v : Nat} {a0 a1 a2 a3 a4 a5 a6 a7 a8 a9 a10 a11 old : Option Value} {r : List (Option Value)} (hd : decode (rd_cd x) pc = .ok (.astore 12, 2)) (hp : rd_two a11 = false) (k : rd_G x (pc + 2) (a0 :: a1 :: a2 :: a3 :: a4 :: a5 :: a6 :: a7 :: a8 :: a9 :: a10 :: a11 :: some (.ref v) :: r) st M n Q) : rd_G x pc (a0 :: a1 :: a2 :: a3 :: a4 :: a5 :: a6 :: a7 :: a8 :: a9 :: a10 :: a11 :: old :: r) (.ref v :: st) M n Q := rd_astg (pre := [a0, a1, a2, a3, a4, a5, a6, a7, a8, a9, a10, a11]) hd rfl (by simp [rd_okp, hp]) k
theorem rd_lst12 {v : Int} {a0 a1 a2 a3 a4 a5 a6 a7 a8 a9 a10 a11 old old2 : Option Value} {r : List (Option Value)} (hd : decode (rd_cd x) pc = .ok (.lstore 12, 2)) (hp : rd_two a11 = false) (k : rd_G x (pc + 2) (a0 :: a1 :: a2 :: a3 :: a4 :: a5 :: a6 :: a7 :: a8 :: a9 :: a10 :: a11 :: some (rd_l v) :: none :: r) st M n Q) : rd_G x pc (a0 :: a1 :: a2 :: a3 :: a4 :: a5 :: a6 :: a7 :: a8 :: a9 :: a10 :: a11 :: old :: old2 :: r) (rd_l v :: st) M n Q := rd_lstg (pre := [a0, a1, a2, a3, a4, a5, a6, a7, a8, a9, a10, a11]) hd rfl (by simp [rd_okp, hp]) k
theorem rd_iinc12 {d v : Int} {a0 a1 a2 a3 a4 a5 a6 a7 a8 a9 a10 a11 : Option Value} {r : List (Option Value)} (hd : decode (rd_cd x) pc = .ok (.iinc 12 d, 3)) (hp : rd_two a11 = false) (k : rd_G x (pc + 3) (a0 :: a1 :: a2 :: a3 :: a4 :: a5 :: a6 :: a7 :: a8 :: a9 :: a10 :: a11 :: some (rd_i (v + d)) :: r) st M n Q) : rd_G x pc (a0 :: a1 :: a2 :: a3 :: a4 :: a5 :: a6 :: a7 :: a8 :: a9 :: a10 :: a11 :: some (rd_i v) :: r) st M n Q := rd_iincg (pre := [a0, a1, a2, a3, a4, a5, a6, a7, a8, a9, a10, a11]) hd rfl (by simp [rd_okp, hp]) k
theorem rd_ist13 {v : Int} {a0 a1 a2 a3 a4 a5 a6 a7 a8 a9 a10 a11 a12 old : Option Value} {r : List (Option Value)} (hd : decode (rd_cd x) pc = .ok (.istore 13, 2)) (hp : rd_two a12 = false) (k : rd_G x (pc + 2) (a0 :: a1 :: a2 :: a3 :: a4 :: a5 :: a6 :: a7 :: a8 :: a9 :: a10 :: a11 :: a12 :: some (rd_i v) :: r) st M n Q) : rd_G x pc (a0 :: a1 :: a2 :: a3 :: a4 :: a5 :: a6 :: a7 :: a8 :: a9 :: a10 :: a11 :: a12 :: old :: r) (rd_i v :: st) M n Q := rd_istg (pre := [a0, a1, a2, a3, a4, a5, a6, a7, a8, a9, a10, a11, a12]) hd rfl (by simp [rd_okp, hp]) k
theorem rd_ast13 {v : Nat} {a0 a1 a2 a3 a4 a5 a6 a7 a8 a9 a10 a11 a12 old : Option Value} {r : List (Option Value)} (hd : decode (rd_cd x) pc = .ok (.astore 13, 2)) (hp : rd_two a12 = false) (k : rd_G x (pc + 2) (a0 :: a1 :: a2 :: a3 :: a4 :: a5 :: a6 :: a7 :: a8 :: a9 :: a10 :: a11 :: a12 :: some (.ref v) :: r) st M n Q) : rd_G x pc (a0 :: a1 :: a2 :: a3 :: a4 :: a5 :: a6 :: a7 :: a8 :: a9 :: a10 :: a11 :: a12 :: old :: r) (.ref v :: st) M n Q := rd_astg (pre := [a0, a1, a2, a3, a4, a5, a6, a7, a8, a9, a10, a11, a12]) hd rfl (by simp [rd_okp, hp]) k
theorem rd_lst13 {v : Int} {a0 a1 a2 a3 a4 a5 a6 a7 a8 a9 a10 a11 a12 old old2 : Option Value} {r : List (Option Value)} (hd : decode (rd_cd x) pc = .ok (.lstore 13, 2)) (hp : rd_two a12 = false) (k : rd_G x (pc + 2) (a0 :: a1 :: a2 :: a3 :: a4 :: a5 :: a6 :: a7 :: a8 :: a9 :: a10 :: a11 :: a12 :: some (rd_l v) :: none :: r) st M n Q) : rd_G x pc (a0 :: a1 :: a2 :: a3 :: a4 :: a5 :: a6 :: a7 :: a8 :: a9 :: a10 :: a11 :: a12 :: old :: old2 :: r) (rd_l v :: st) M n Q := rd_lstg (pre := [a0, a1, a2, a3, a4, a5, a6, a7, a8, a9, a10, a11, a12]) hd rfl (by simp [rd_okp, hp]) k
theorem rd_iinc13 {d v : Int} {a0 a1 a2 a3 a4 a5 a6 a7 a8 a9 a10 a11 a12 : Option Value} {r : List (Option Value)} (hd : decode (rd_cd x) pc = .ok (.iinc 13 d, 3)) (hp : rd_two a12 = false) (k : rd_G x (pc + 3) (a0 :: a1 :: a2 :: a3 :: a4 :: a5 :: a6 :: a7 :: a8 :: a9 :: a10 :: a11 :: a12 :: some (rd_i (v + d)) :: r) st M n Q) : rd_G x pc (a0 :: a1 :: a2 :: a3 :: a4 :: a5 :: a6 :: a7 :: a8 :: a9 :: a10 :: a11 :: a12 :: some (rd_i v) :: r) st M n Q := rd_iincg (pre := [a0, a1, a2, a3, a4, a5, a6, a7, a8, a9, a10, a11, a12]) hd rfl (by simp [rd_okp, hp]) k
theorem rd_ist14 {v : Int} {a0 a1 a2 a3 a4 a5 a6 a7 a8 a9 a10 a11 a12 a13 old : Option Value} {r : List (Option Value)} (hd : decode (rd_cd x) pc = .ok (.istore 14, 2)) (hp : rd_two a13 = false) (k : rd_G x (pc + 2) (a0 :: a1 :: a2 :: a3 :: a4 :: a5 :: a6 :: a7 :: a8 :: a9 :: a10 :: a11 :: a12 :: a13 :: some (rd_i v) :: r) st M n Q) : rd_G x pc (a0 :: a1 :: a2 :: a3 :: a4 :: a5 :: a6 :: a7 :: a8 :: a9 :: a10 :: a11 :: a12 :: a13 :: old :: r) (rd_i v :: st) M n Q := rd_istg (pre := [a0, a1, a2, a3, a4, a5, a6, a7, a8, a9, a10, a11, a12, a13]) hd rfl (by simp [rd_okp, hp]) k
theorem rd_ast14 {v : Nat} {a0 a1 a2 a3 a4 a5 a6 a7 a8 a9 a10 a11 a12 a13 old : Option Value} {r : List (Option Value)} (hd : decode (rd_cd x) pc = .ok (.astore 14, 2)) (hp : rd_two a13 = false) (k : rd_G x (pc + 2) (a0 :: a1 :: a2 :: a3 :: a4 :: a5 :: a6 :: a7 :: a8 :: a9 :: a10 :: a11 :: a12 :: a13 :: some (.ref v) :: r) st M n Q) : rd_G x pc (a0 :: a1 :: a2 :: a3 :: a4 :: a5 :: a6 :: a7 :: a8 :: a9 :: a10 :: a11 :: a12 :: a13 :: old :: r) (.ref v :: st) M n Q := rd_astg (pre := [a0, a1, a2, a3, a4, a5, a6, a7, a8, a9, a10, a11, a12, a13]) hd rfl (by simp [rd_okp, hp]) k
theorem rd_lst14 {v : Int} {a0 a1 a2 a3 a4 a5 a6 a7 a8 a9 a10 a11 a12 a13 old old2 : Option Value} {r : List (Option Value)} (hd : decode (rd_cd x) pc = .ok (.lstore 14, 2)) (hp : rd_two a13 = false) (k : rd_G x (pc + 2) (a0 :: a1 :: a2 :: a3 :: a4 :: a5 :: a6 :: a7 :: a8 :: a9 :: a10 :: a11 :: a12 :: a13 :: some (rd_l v) :: none :: r) st M n Q) : rd_G x pc (a0 :: a1 :: a2 :: a3 :: a4 :: a5 :: a6 :: a7 :: a8 :: a9 :: a10 :: a11 :: a12 :: a13 :: old :: old2 :: r) (rd_l v :: st) M n Q := rd_lstg (pre := [a0, a1, a2, a3, a4, a5, a6, a7, a8, a9, a10, a11, a12, a13]) hd rfl (by simp [rd_okp, hp]) k
theorem rd_iinc14 {d v : Int} {a0 a1 a2 a3 a4 a5 a6 a7 a8 a9 a10 a11 a12 a13 : Option Value} {r : List (Option Value)} (hd : decode (rd_cd x) pc = .ok (.iinc 14 d, 3)) (hp : rd_two a13 = false) (k : rd_G x (pc + 3) (a0 :: a1 :: a2 :: a3 :: a4 :: a5 :: a6 :: a7 :: a8 :: a9 :: a10 :: a11 :: a12 :: a13 :: some (rd_i (v + d)) :: r) st M n Q) : rd_G x pc (a0 :: a1 :: a2 :: a3 :: a4 :: a5 :: a6 :: a7 :: a8 :: a9 :: a10 :: a11 :: a12 :: a13 :: some (rd_i v) :: r) st M n Q := rd_iincg (pre := [a0, a1, a2, a3, a4, a5, a6, a7, a8, a9, a10, a11, a12, a13]) hd rfl (by simp [rd_okp, hp]) k
theorem rd_ist15 {v : Int} {a0 a1 a2 a3 a4 a5 a6 a7 a8 a9 a10 a11 a12 a13 a14 old : Option Value} {r : List (Option Value)} (hd : decode (rd_cd x) pc = .ok (.istore 15, 2)) (hp : rd_two a14 = false) (k : rd_G x (pc + 2) (a0 :: a1 :: a2 :: a3 :: a4 :: a5 :: a6 :: a7 :: a8 :: a9 :: a10 :: a11 :: a12 :: a13 :: a14 :: some (rd_i v) :: r) st M n Q) : rd_G x pc (a0 :: a1 :: a2 :: a3 :: a4 :: a5 :: a6 :: a7 :: a8 :: a9 :: a10 :: a11 :: a12 :: a13 :: a14 :: old :: r) (rd_i v :: st) M n Q := rd_istg (pre := [a0, a1, a2, a3, a4, a5, a6, a7, a8, a9, a10, a11, a12, a13, a14]) hd rfl (by simp [rd_okp, hp]) k
theorem rd_ast15 {v : Nat} {a0 a1 a2 a3 a4 a5 a6 a7 a8 a9 a10 a11 a12 a13 a14 old : Option Value} {r : List (Option Value)} (hd : decode (rd_cd x) pc = .ok (.astore 15, 2)) (hp : rd_two a14 = false) (k : rd_G x (pc + 2) (a0 :: a1 :: a2 :: a3 :: a4 :: a5 :: a6 :: a7 :: a8 :: a9 :: a10 :: a11 :: a12 :: a13 :: a14 :: some (.ref v) :: r) st M n Q) : rd_G x pc (a0 :: a1 :: a2 :: a3 :: a4 :: a5 :: a6 :: a7 :: a8 :: a9 :: a10 :: a11 :: a12 :: a13 :: a14 :: old :: r) (.ref v :: st) M n Q := rd_astg (pre := [a0, a1, a2, a3, a4, a5, a6, a7, a8, a9, a10, a11, a12, a13, a14]) hd rfl (by simp [rd_okp, hp]) k
theorem rd_lst15 {v : Int} {a0 a1 a2 a3 a4 a5 a6 a7 a8 a9 a10 a11 a12 a13 a14 old old2 : Option Value} {r : List (Option Value)} (hd : decode (rd_cd x) pc = .ok (.lstore 15, 2)) (hp : rd_two a14 = false) (k : rd_G x (pc + 2) (a0 :: a1 :: a2 :: a3 :: a4 :: a5 :: a6 :: a7 :: a8 :: a9 :: a10 :: a11 :: a12 :: a13 :: a14 :: some (rd_l v) :: none :: r) st M n Q) : rd_G x pc (a0 :: a1 :: a2 :: a3 :: a4 :: a5 :: a6 :: a7 :: a8 :: a9 :: a10 :: a11 :: a12 :: a13 :: a14 :: old :: old2 :: r) (rd_l v :: st) M n Q := rd_lstg (pre := [a0, a1, a2, a3, a4, a5, a6, a7, a8, a9, a10, a11, a12, a13, a14]) hd rfl (by simp [rd_okp, hp]) k
theorem rd_iinc15 {d v : Int} {a0 a1 a2 a3 a4 a5 a6 a7 a8 a9 a10 a11 a12 a13 a14 : Option Value} {r : List (Option Value)} (hd : decode (rd_cd x) pc = .ok (.iinc 15 d, 3)) (hp : rd_two a14 = false) (k : rd_G x (pc + 3) (a0 :: a1 :: a2 :: a3 :: a4 :: a5 :: a6 :: a7 :: a8 :: a9 :: a10 :: a11 :: a12 :: a13 :: a14 :: some (rd_i (v + d)) :: r) st M n Q) : rd_G x pc (a0 :: a1 :: a2 :: a3 :: a4 :: a5 :: a6 :: a7 :: a8 :: a9 :: a10 :: a11 :: a12 :: a13 :: a14 :: some (rd_i v) :: r) st M n Q := rd_iincg (pre := [a0, a1, a2, a3, a4, a5, a6, a7, a8, a9, a10, a11, a12, a13, a14]) hd rfl (by simp [rd_okp, hp]) k
theorem rd_ist16 {v : Int} {a0 a1 a2 a3 a4 a5 a6 a7 a8 a9 a10 a11 a12 a13 a14 a15 old : Option Value} {r : List (Option Value)} (hd : decode (rd_cd x) pc = .ok (.istore 16, 2)) (hp : rd_two a15 = false) (k : rd_G x (pc + 2) (a0 :: a1 :: a2 :: a3 :: a4 :: a5 :: a6 :: a7 :: a8 :: a9 :: a10 :: a11 :: a12 :: a13 :: a14 :: a15 :: some (rd_i v) :: r) st M n Q) : rd_G x pc (a0 :: a1 :: a2 :: a3 :: a4 :: a5 :: a6 :: a7 :: a8 :: a9 :: a10 :: a11 :: a12 :: a13 :: a14 :: a15 :: old :: r) (rd_i v :: st) M n Q := rd_istg (pre := [a0, a1, a2, a3, a4, a5, a6, a7, a8, a9, a10, a11, a12, a13, a14, a15]) hd rfl (by simp [rd_okp, hp]) k
theorem rd_ast16 {v : Nat} {a0 a1 a2 a3 a4 a5 a6 a7 a8 a9 a10 a11 a12 a13 a14 a15 old : Option Value} {r : List (Option Value)} (hd : decode (rd_cd x) pc = .ok (.astore 16, 2)) (hp : rd_two a15 = false) (k : rd_G x (pc + 2) (a0 :: a1 :: a2 :: a3 :: a4 :: a5 :: a6 :: a7 :: a8 :: a9 :: a10 :: a11 :: a12 :: a13 :: a14 :: a15 :: some (.ref v) :: r) st M n Q) : rd_G x pc (a0 :: a1 :: a2 :: a3 :: a4 :: a5 :: a6 :: a7 :: a8 :: a9 :: a10 :: a11 :: a12 :: a13 :: a14 :: a15 :: old :: r) (.ref v :: st) M n Q := rd_astg (pre := [a0, a1, a2, a3, a4, a5, a6, a7, a8, a9, a10, a11, a12, a13, a14, a15]) hd rfl (by simp [rd_okp, hp]) k
theorem rd_lst16 {v : Int} {a0 a1 a2 a3 a4 a5 a6 a7 a8 a9 a10 a11 a12 a13 a14 a15 old old2 : Option Value} {r : List (Option Value)} (hd : decode (rd_cd x) pc = .ok (.lstore 16, 2)) (hp : rd_two a15 = false) (k : rd_G x (pc + 2) (a0 :: a1 :: a2 :: a3 :: a4 :: a5 :: a6 :: a7 :: a8 :: a9 :: a10 :: a11 :: a12 :: a13 :: a14 :: a15 :: some (rd_l v) :: none :: r) st M n Q) : rd_G x pc (a0 :: a1 :: a2 :: a3 :: a4 :: a5 :: a6 :: a7 :: a8 :: a9 :: a10 :: a11 :: a12 :: a13 :: a14 :: a15 :: old :: old2 :: r) (rd_l v :: st) M n Q := rd_lstg (pre := [a0, a1, a2, a3, a4, a5, a6, a7, a8, a9, a10, a11, a12, a13, a14, a15]) hd rfl (by simp [rd_okp, hp]) k
theorem rd_iinc16 {d v : Int} {a0 a1 a2 a3 a4 a5 a6 a7 a8 a9 a10 a11 a12 a13 a14 a15 : Option Value} {r : List (Option Value)} (hd : decode (rd_cd x) pc = .ok (.iinc 16 d, 3)) (hp : rd_two a15 = false) (k : rd_G x (pc + 3) (a0 :: a1 :: a2 :: a3 :: a4 :: a5 :: a6 :: a7 :: a8 :: a9 :: a10 :: a11 :: a12 :: a13 :: a14 :: a15 :: some (rd_i (v + d)) :: r) st M n Q) : rd_G x pc (a0 :: a1 :: a2 :: a3 :: a4 :: a5 :: a6 :: a7 :: a8 :: a9 :: a10 :: a11 :: a12 :: a13 :: a14 :: a15 :: some (rd_i v) :: r) st M n Q := rd_iincg (pre := [a0, a1, a2, a3, a4, a5, a6, a7, a8, a9, a10, a11, a12, a13, a14, a15]) hd rfl (by simp [rd_okp, hp]) k
theorem rd_ist17 {v : Int} {a0 a1 a2 a3 a4 a5 a6 a7 a8 a9 a10 a11 a12 a13 a14 a15 a16 old : Option Value} {r : List (Option Value)} (hd : decode (rd_cd x) pc = .ok (.istore 17, 2)) (hp : rd_two a16 = false) (k : rd_G x (pc + 2) (a0 :: a1 :: a2 :: a3 :: a4 :: a5 :: a6 :: a7 :: a8 :: a9 :: a10 :: a11 :: a12 :: a13 :: a14 :: a15 :: a16 :: some (rd_i v) :: r) st M n Q) : rd_G x pc (a0 :: a1 :: a2 :: a3 :: a4 :: a5 :: a6 :: a7 :: a8 :: a9 :: a10 :: a11 :: a12 :: a13 :: a14 :: a15 :: a16 :: old :: r) (rd_i v :: st) M n Q := rd_istg (pre := [a0, a1, a2, a3, a4, a5, a6, a7, a8, a9, a10, a11, a12, a13, a14, a15, a16]) hd rfl (by simp [rd_okp, hp]) k
theorem rd_ast17 {v : Nat} {a0 a1 a2 a3 a4 a5 a6 a7 a8 a9 a10 a11 a12 a13 a14 a15 a16 old : Option Value} {r : List (Option Value)} (hd : decode (rd_cd x) pc = .ok (.astore 17, 2)) (hp : rd_two a16 = false) (k : rd_G x (pc + 2) (a0 :: a1 :: a2 :: a3 :: a4 :: a5 :: a6 :: a7 :: a8 :: a9 :: a10 :: a11 :: a12 :: a13 :: a14 :: a15 :: a16 :: some (.ref v) :: r) st M n Q) : rd_G x pc (a0 :: a1 :: a2 :: a3 :: a4 :: a5 :: a6 :: a7 :: a8 :: a9 :: a10 :: a11 :: a12 :: a13 :: a14 :: a15 :: a16 :: old :: r) (.ref v :: st) M n Q := rd_astg (pre := [a0, a1, a2, a3, a4, a5, a6, a7, a8, a9, a10, a11, a12, a13, a14, a15, a16]) hd rfl (by simp [rd_okp, hp]) k
theorem rd_lst17 {v : Int} {a0 a1 a2 a3 a4 a5 a6 a7 a8 a9 a10 a11 a12 a13 a14 a15 a16 old old2 : Option Value} {r : List (Option Value)} (hd : decode (rd_cd x) pc = .ok (.lstore 17, 2)) (hp : rd_two a16 = false) (k : rd_G x (pc + 2) (a0 :: a1 :: a2 :: a3 :: a4 :: a5 :: a6 :: a7 :: a8 :: a9 :: a10 :: a11 :: a12 :: a13 :: a14 :: a15 :: a16 :: some (rd_l v) :: none :: r) st M n Q) : rd_G x pc (a0 :: a1 :: a2 :: a3 :: a4 :: a5 :: a6 :: a7 :: a8 :: a9 :: a10 :: a11 :: a12 :: a13 :: a14 :: a15 :: a16 :: old :: old2 :: r) (rd_l v :: st) M n Q := rd_lstg (pre := [a0, a1, a2, a3, a4, a5, a6, a7, a8, a9, a10, a11, a12, a13, a14, a15, a16]) hd rfl (by simp [rd_okp, hp]) k
theorem rd_iinc17 {d v : Int} {a0 a1 a2 a3 a4 a5 a6 a7 a8 a9 a10 a11 a12 a13 a14 a15 a16 : Option Value} {r : List (Option Value)} (hd : decode (rd_cd x) pc = .ok (.iinc 17 d, 3)) (hp : rd_two a16 = false) (k : rd_G x (pc + 3) (a0 :: a1 :: a2 :: a3 :: a4 :: a5 :: a6 :: a7 :: a8 :: a9 :: a10 :: a11 :: a12 :: a13 :: a14 :: a15 :: a16 :: some (rd_i (v + d)) :: r) st M n Q) : rd_G x pc (a0 :: a1 :: a2 :: a3 :: a4 :: a5 :: a6 :: a7 :: a8 :: a9 :: a10 :: a11 :: a12 :: a13 :: a14 :: a15 :: a16 :: some (rd_i v) :: r) st M n Q := rd_iincg (pre := [a0, a1, a2, a3, a4, a5, a6, a7, a8, a9, a10, a11, a12, a13, a14, a15, a16]) hd rfl (by simp [rd_okp, hp]) k
theorem rd_ist18 {v : Int} {a0 a1 a2 a3 a4 a5 a6 a7 a8 a9 a10 a11 a12 a13 a14 a15 a16 a17 old : Option Value} {r : List (Option Value)} (hd : decode (rd_cd x) pc = .ok (.istore 18, 2)) (hp : rd_two a17 = false) (k : rd_G x (pc + 2) (a0 :: a1 :: a2 :: a3 :: a4 :: a5 :: a6 :: a7 :: a8 :: a9 :: a10 :: a11 :: a12 :: a13 :: a14 :: a15 :: a16 :: a17 :: some (rd_i v) :: r) st M n Q) : rd_G x pc (a0 :: a1 :: a2 :: a3 :: a4 :: a5 :: a6 :: a7 :: a8 :: a9 :: a10 :: a11 :: a12 :: a13 :: a14 :: a15 :: a16 :: a17 :: old :: r) (rd_i v :: st) M n Q := rd_istg (pre := [a0, a1, a2, a3, a4, a5, a6, a7, a8, a9, a10, a11, a12, a13, a14, a15, a16, a17]) hd rfl (by simp [rd_okp, hp]) k
theorem rd_ast18 {v : Nat} {a0 a1 a2 a3 a4 a5 a6 a7 a8 a9 a10 a11 a12 a13 a14 a15 a16 a17 old : Option Value} {r : List (Option Value)} (hd : decode (rd_cd x) pc = .ok (.astore 18, 2)) (hp : rd_two a17 = false) (k : rd_G x (pc + 2) (a0 :: a1 :: a2 :: a3 :: a4 :: a5 :: a6 :: a7 :: a8 :: a9 :: a10 :: a11 :: a12 :: a13 :: a14 :: a15 :: a16 :: a17 :: some (.ref v) :: r) st M n Q) : rd_G x pc (a0 :: a1 :: a2 :: a3 :: a4 :: a5 :: a6 :: a7 :: a8 :: a9 :: a10 :: a11 :: a12 :: a13 :: a14 :: a15 :: a16 :: a17 :: old :: r) (.ref v :: st) M n Q := rd_astg (pre := [a0, a1, a2, a3, a4, a5, a6, a7, a8, a9, a10, a11, a12, a13, a14, a15, a16, a17]) hd rfl (by simp [rd_okp, hp]) k
theorem rd_lst18 {v : Int} {a0 a1 a2 a3 a4 a5 a6 a7 a8 a9 a10 a11 a12 a13 a14 a15 a16 a17 old old2 : Option Value} {r : List (Option Value)} (hd : decode (rd_cd x) pc = .ok (.lstore 18, 2)) (hp : rd_two a17 = false) (k : rd_G x (pc + 2) (a0 :: a1 :: a2 :: a3 :: a4 :: a5 :: a6 :: a7 :: a8 :: a9 :: a10 :: a11 :: a12 :: a13 :: a14 :: a15 :: a16 :: a17 :: some (rd_l v) :: none :: r) st M n Q) : rd_G x pc (a0 :: a1 :: a2 :: a3 :: a4 :: a5 :: a6 :: a7 :: a8 :: a9 :: a10 :: a11 :: a12 :: a13 :: a14 :: a15 :: a16 :: a17 :: old :: old2 :: r) (rd_l v :: st) M n Q := rd_lstg (pre := [a0, a1, a2, a3, a4, a5, a6, a7, a8, a9, a10, a11, a12, a13, a14, a15, a16, a17]) hd rfl (by simp [rd_okp, hp]) k
theorem rd_iinc18 {d v : Int} {a0 a1 a2 a3 a4 a5 a6 a7 a8 a9 a10 a11 a12 a13 a14 a15 a16 a17 : Option Value} {r : List (Option Value)} (hd : decode (rd_cd x) pc = .ok (.iinc 18 d, 3)) (hp : rd_two a17 = false) (k : rd_G x (pc + 3) (a0 :: a1 :: a2 :: a3 :: a4 :: a5 :: a6 :: a7 :: a8 :: a9 :: a10 :: a11 :: a12 :: a13 :: a14 :: a15 :: a16 :: a17 :: some (rd_i (v + d)) :: r) st M n Q) : rd_G x pc (a0 :: a1 :: a2 :: a3 :: a4 :: a5 :: a6 :: a7 :: a8 :: a9 :: a10 :: a11 :: a12 :: a13 :: a14 :: a15 :: a16 :: a17 :: some (rd_i v) :: r) st M n Q := rd_iincg (pre := [a0, a1, a2, a3, a4, a5, a6, a7, a8, a9, a10, a11, a12, a13, a14, a15, a16, a17]) hd rfl (by simp [rd_okp, hp]) k
theorem rd_ist19 {v : Int} {a0 a1 a2 a3 a4 a5 a6 a7 a8 a9 a10 a11 a12 a13 a14 a15 a16 a17 a18 old : Option Value} {r : List (Option Value)} (hd : decode (rd_cd x) pc = .ok (.istore 19, 2)) (hp : rd_two a18 = false) (k : rd_G x (pc + 2) (a0 :: a1 :: a2 :: a3 :: a4 :: a5 :: a6 :: a7 :: a8 :: a9 :: a10 :: a11 :: a12 :: a13 :: a14 :: a15 :: a16 :: a17 :: a18 :: some (rd_i v) :: r) st M n Q) : rd_G x pc (a0 :: a1 :: a2 :: a3 :: a4 :: a5 :: a6 :: a7 :: a8 :: a9 :: a10 :: a11 :: a12 :: a13 :: a14 :: a15 :: a16 :: a17 :: a18 :: old :: r) (rd_i v :: st) M n Q := rd_istg (pre := [a0, a1, a2, a3, a4, a5, a6, a7, a8, a9, a10, a11, a12, a13, a14, a15, a16, a17, a18]) hd rfl (by simp [rd_okp, hp]) k
theorem rd_ast19 {v : Nat} {a0 a1 a2 a3 a4 a5 a6 a7 a8 a9 a10 a11 a12 a13 a14 a15 a16 a17 a18 old : Option Value} {r : List (Option Value)} (hd : decode (rd_cd x) pc = .ok (.astore 19, 2)) (hp : rd_two a18 = false) (k : rd_G x (pc + 2) (a0 :: a1 :: a2 :: a3 :: a4 :: a5 :: a6 :: a7 :: a8 :: a9 :: a10 :: a11 :: a12 :: a13 :: a14 :: a15 :: a16 :: a17 :: a18 :: some (.ref v) :: r) st M n Q) : rd_G x pc (a0 :: a1 :: a2 :: a3 :: a4 :: a5 :: a6 :: a7 :: a8 :: a9 :: a10 :: a11 :: a12 :: a13 :: a14 :: a15 :: a16 :: a17 :: a18 :: old :: r) (.ref v :: st) M n Q := rd_astg (pre := [a0, a1, a2, a3, a4, a5, a6, a7, a8, a9, a10, a11, a12, a13, a14, a15, a16, a17, a18]) hd rfl (by simp [rd_okp, hp]) k
theorem rd_lst19 {v : Int} {a0 a1 a2 a3 a4 a5 a6 a7 a8 a9 a10 a11 a12 a13 a14 a15 a16 a17 a18 old old2 : Option Value} {r : List (Option Value)} (hd : decode (rd_cd x) pc = .ok (.lstore 19, 2)) (hp : rd_two a18 = false) (k : rd_G x (pc + 2) (a0 :: a1 :: a2 :: a3 :: a4 :: a5 :: a6 :: a7 :: a8 :: a9 :: a10 :: a11 :: a12 :: a13 :: a14 :: a15 :: a16 :: a17 :: a18 :: some (rd_l v) :: none :: r) st M n Q) : rd_G x pc (a0 :: a1 :: a2 :: a3 :: a4 :: a5 :: a6 :: a7 :: a8 :: a9 :: a10 :: a11 :: a12 :: a13 :: a14 :: a15 :: a16 :: a17 :: a18 :: old :: old2 :: r) (rd_l v :: st) M n Q := rd_lstg (pre := [a0, a1, a2, a3, a4, a5, a6, a7, a8, a9, a10, a11, a12, a13, a14, a15, a16, a17, a18]) hd rfl (by simp [rd_okp, hp]) k
theorem rd_iinc19 {d v : Int} {a0 a1 a2 a3 a4 a5 a6 a7 a8 a9 a10 a11 a12 a13 a14 a15 a16 a17 a18 : Option Value} {r : List (Option Value)} (hd : decode (rd_cd x) pc = .ok (.iinc 19 d, 3)) (hp : rd_two a18 = false) (k : rd_G x (pc + 3) (a0 :: a1 :: a2 :: a3 :: a4 :: a5 :: a6 :: a7 :: a8 :: a9 :: a10 :: a11 :: a12 :: a13 :: a14 :: a15 :: a16 :: a17 :: a18 :: some (rd_i (v + d)) :: r) st M n Q) : rd_G x pc (a0 :: a1 :: a2 :: a3 :: a4 :: a5 :: a6 :: a7 :: a8 :: a9 :: a10 :: a11 :: a12 :: a13 :: a14 :: a15 :: a16 :: a17 :: a18 :: some (rd_i v) :: r) st M n Q := rd_iincg (pre := [a0, a1, a2, a3, a4, a5, a6, a7, a8, a9, a10, a11, a12, a13, a14, a15, a16, a17, a18]) hd rfl (by simp [rd_okp, hp]) k
theorem rd_ist20 {v : Int} {a0 a1 a2 a3 a4 a5 a6 a7 a8 a9 a10 a11 a12 a13 a14 a15 a16 a17 a18 a19 old : Option Value} {r : List (Option Value)} (hd : decode (rd_cd x) pc = .ok (.istore 20, 2)) (hp : rd_two a19 = false) (k : rd_G x (pc + 2) (a0 :: a1 :: a2 :: a3 :: a4 :: a5 :: a6 :: a7 :: a8 :: a9 :: a10 :: a11 :: a12 :: a13 :: a14 :: a15 :: a16 :: a17 :: a18 :: a19 :: some (rd_i v) :: r) st M n Q) : rd_G x pc (a0 :: a1 :: a2 :: a3 :: a4 :: a5 :: a6 :: a7 :: a8 :: a9 :: a10 :: a11 :: a12 :: a13 :: a14 :: a15 :: a16 :: a17 :: a18 :: a19 :: old :: r) (rd_i v :: st) M n Q := rd_istg (pre := [a0, a1, a2, a3, a4, a5, a6, a7, a8, a9, a10, a11, a12, a13, a14, a15, a16, a17, a18, a19]) hd rfl (by simp [rd_okp, hp]) k
theorem rd_ast20 {v : Nat} {a0 a1 a2 a3 a4 a5 a6 a7 a8 a9 a10 a11 a12 a13 a14 a15 a16 a17 a18 a19 old : Option Value} {r : List (Option Value)} (hd : decode (rd_cd x) pc = .ok (.astore 20, 2)) (hp : rd_two a19 = false) (k : rd_G x (pc + 2) (a0 :: a1 :: a2 :: a3 :: a4 :: a5 :: a6 :: a7 :: a8 :: a9 :: a10 :: a11 :: a12 :: a13 :: a14 :: a15 :: a16 :: a17 :: a18 :: a19 :: some (.ref v) :: r) st M n Q) : rd_G x pc (a0 :: a1 :: a2 :: a3 :: a4 :: a5 :: a6 :: a7 :: a8 :: a9 :: a10 :: a11 :: a12 :: a13 :: a14 :: a15 :: a16 :: a17 :: a18 :: a19 :: old :: r) (.ref v :: st) M n Q := rd_astg (pre := [a0, a1, a2, a3, a4, a5, a6, a7, a8, a9, a10, a11, a12, a13, a14, a15, a16, a17, a18, a19]) hd rfl (by simp [rd_okp, hp]) k
theorem rd_lst20 {v : Int} {a0 a1 a2 a3 a4 a5 a6 a7 a8 a9 a10 a11 a12 a13 a14 a15 a16 a17 a18 a19 old old2 : Option Value} {r : List (Option Value)} (hd : decode (rd_cd x) pc = .ok (.lstore 20, 2)) (hp : rd_two a19 = false) (k : rd_G x (pc + 2) (a0 :: a1 :: a2 :: a3 :: a4 :: a5 :: a6 :: a7 :: a8 :: a9 :: a10 :: a11 :: a12 :: a13 :: a14 :: a15 :: a16 :: a17 :: a18 :: a19 :: some (rd_l v) :: none :: r) st M n Q) : rd_G x pc (a0 :: a1 :: a2 :: a3 :: a4 :: a5 :: a6 :: a7 :: a8 :: a9 :: a10 :: a11 :: a12 :: a13 :: a14 :: a15 :: a16 :: a17 :: a18 :: a19 :: old :: old2 :: r) (rd_l v :: st) M n Q := rd_lstg (pre := [a0, a1, a2, a3, a4, a5, a6, a7, a8, a9, a10, a11, a12, a13, a14, a15, a16, a17, a18, a19]) hd rfl (by simp [rd_okp, hp]) k
theorem rd_iinc20 {d v : Int} {a0 a1 a2 a3 a4 a5 a6 a7 a8 a9 a10 a11 a12 a13 a14 a15 a16 a17 a18 a19 : Option Value} {r : List (Option Value)} (hd : decode (rd_cd x) pc = .ok (.iinc 20 d, 3)) (hp : rd_two a19 = false) (k : rd_G x (pc + 3) (a0 :: a1 :: a2 :: a3 :: a4 :: a5 :: a6 :: a7 :: a8 :: a9 :: a10 :: a11 :: a12 :: a13 :: a14 :: a15 :: a16 :: a17 :: a18 :: a19 :: some (rd_i (v + d)) :: r) st M n Q) : rd_G x pc (a0 :: a1 :: a2 :: a3 :: a4 :: a5 :: a6 :: a7 :: a8 :: a9 :: a10 :: a11 :: a12 :: a13 :: a14 :: a15 :: a16 :: a17 :: a18 :: a19 :: some (rd_i v) :: r) st M n Q := rd_iincg (pre := [a0, a1, a2, a3, a4, a5, a6, a7, a8, a9, a10, a11, a12, a13, a14, a15, a16, a17, a18, a19]) hd rfl (by simp [rd_okp, hp]) k
theorem rd_ist21 {v : Int} {a0 a1 a2 a3 a4 a5 a6 a7 a8 a9 a10 a11 a12 a13 a14 a15 a16 a17 a18 a19 a20 old : Option Value} {r : List (Option Value)} (hd : decode (rd_cd x) pc = .ok (.istore 21, 2)) (hp : rd_two a20 = false) (k : rd_G x (pc + 2) (a0 :: a1 :: a2 :: a3 :: a4 :: a5 :: a6 :: a7 :: a8 :: a9 :: a10 :: a11 :: a12 :: a13 :: a14 :: a15 :: a16 :: a17 :: a18 :: a19 :: a20 :: some (rd_i v) :: r) st M n Q) : rd_G x pc (a0 :: a1 :: a2 :: a3 :: a4 :: a5 :: a6 :: a7 :: a8 :: a9 :: a10 :: a11 :: a12 :: a13 :: a14 :: a15 :: a16 :: a17 :: a18 :: a19 :: a20 :: old :: r) (rd_i v :: st) M n Q := rd_istg (pre := [a0, a1, a2, a3, a4, a5, a6, a7, a8, a9, a10, a11, a12, a13, a14, a15, a16, a17, a18, a19, a20]) hd rfl (by simp [rd_okp, hp]) k
theorem rd_ast21 {v : Nat} {a0 a1 a2 a3 a4 a5 a6 a7 a8 a9 a10 a11 a12 a13 a14 a15 a16 a17 a18 a19 a20 old : Option Value} {r : List (Option Value)} (hd : decode (rd_cd x) pc = .ok (.astore 21, 2)) (hp : rd_two a20 = false) (k : rd_G x (pc + 2) (a0 :: a1 :: a2 :: a3 :: a4 :: a5 :: a6 :: a7 :: a8 :: a9 :: a10 :: a11 :: a12 :: a13 :: a14 :: a15 :: a16 :: a17 :: a18 :: a19 :: a20 :: some (.ref v) :: r) st M n Q) : rd_G x pc (a0 :: a1 :: a2 :: a3 :: a4 :: a5 :: a6 :: a7 :: a8 :: a9 :: a10 :: a11 :: a12 :: a13 :: a14 :: a15 :: a16 :: a17 :: a18 :: a19 :: a20 :: old :: r) (.ref v :: st) M n Q := rd_astg (pre := [a0, a1, a2, a3, a4, a5, a6, a7, a8, a9, a10, a11, a12, a13, a14, a15, a16, a17, a18, a19, a20]) hd rfl (by simp [rd_okp, hp]) k
theorem rd_lst21 {v : Int} {a0 a1 a2 a3 a4 a5 a6 a7 a8 a9 a10 a11 a12 a13 a14 a15 a16 a17 a18 a19 a20 old old2 : Option Value} {r : List (Option Value)} (hd : decode (rd_cd x) pc = .ok (.lstore 21, 2)) (hp : rd_two a20 = false) (k : rd_G x (pc + 2) (a0 :: a1 :: a2 :: a3 :: a4 :: a5 :: a6 :: a7 :: a8 :: a9 :: a10 :: a11 :: a12 :: a13 :: a14 :: a15 :: a16 :: a17 :: a18 :: a19 :: a20 :: some (rd_l v) :: none :: r) st M n Q) : rd_G x pc (a0 :: a1 :: a2 :: a3 :: a4 :: a5 :: a6 :: a7 :: a8 :: a9 :: a10 :: a11 :: a12 :: a13 :: a14 :: a15 :: a16 :: a17 :: a18 :: a19 :: a20 :: old :: old2 :: r) (rd_l v :: st) M n Q := rd_lstg (pre := [a0, a1, a2, a3, a4, a5, a6, a7, a8, a9, a10, a11, a12, a13, a14, a15, a16, a17, a18, a19, a20]) hd rfl (by simp [rd_okp, hp]) k
theorem rd_iinc21 {d v : Int} {a0 a1 a2 a3 a4 a5 a6 a7 a8 a9 a10 a11 a12 a13 a14 a15 a16 a17 a18 a19 a20 : Option Value} {r : List (Option Value)} (hd : decode (rd_cd x) pc = .ok (.iinc 21 d, 3)) (hp : rd_two a20 = false) (k : rd_G x (pc + 3) (a0 :: a1 :: a2 :: a3 :: a4 :: a5 :: a6 :: a7 :: a8 :: a9 :: a10 :: a11 :: a12 :: a13 :: a14 :: a15 :: a16 :: a17 :: a18 :: a19 :: a20 :: some (rd_i (v + d)) :: r) st M n Q) : rd_G x pc (a0 :: a1 :: a2 :: a3 :: a4 :: a5 :: a6 :: a7 :: a8 :: a9 :: a10 :: a11 :: a12 :: a13 :: a14 :: a15 :: a16 :: a17 :: a18 :: a19 :: a20 :: some (rd_i v) :: r) st M n Q := rd_iincg (pre := [a0, a1, a2, a3, a4, a5, a6, a7, a8, a9, a10, a11, a12, a13, a14, a15, a16, a17, a18, a19, a20]) hd rfl (by simp [rd_okp, hp]) k
theorem rd_ist22 {v : Int} {a0 a1 a2 a3 a4 a5 a6 a7 a8 a9 a10 a11 a12 a13 a14 a15 a16 a17 a18 a19 a20 a21 old : Option Value} {r : List (Option Value)} (hd : decode (rd_cd x) pc = .ok (.istore 22, 2)) (hp : rd_two a21 = false) (k : rd_G x (pc + 2) (a0 :: a1 :: a2 :: a3 :: a4 :: a5 :: a6 :: a7 :: a8 :: a9 :: a10 :: a11 :: a12 :: a13 :: a14 :: a15 :: a16 :: a17 :: a18 :: a19 :: a20 :: a21 :: some (rd_i v) :: r) st M n Q) : rd_G x pc (a0 :: a1 :: a2 :: a3 :: a4 :: a5 :: a6 :: a7 :: a8 :: a9 :: a10 :: a11 :: a12 :: a13 :: a14 :: a15 :: a16 :: a17 :: a18 :: a19 :: a20 :: a21 :: old :: r) (rd_i v :: st) M n Q := rd_istg (pre := [a0, a1, a2, a3, a4, a5, a6, a7, a8, a9, a10, a11, a12, a13, a14, a15, a16, a17, a18, a19, a20, a21]) hd rfl (by simp [rd_okp, hp]) k
theorem rd_ast22 {v : Nat} {a0 a1 a2 a3 a4 a5 a6 a7 a8 a9 a10 a11 a12 a13 a14 a15 a16 a17 a18 a19 a20 a21 old : Option Value} {r : List (Option Value)} (hd : decode (rd_cd x) pc = .ok (.astore 22, 2)) (hp : rd_two a21 = false) (k : rd_G x (pc + 2) (a0 :: a1 :: a2 :: a3 :: a4 :: a5 :: a6 :: a7 :: a8 :: a9 :: a10 :: a11 :: a12 :: a13 :: a14 :: a15 :: a16 :: a17 :: a18 :: a19 :: a20 :: a21 :: some (.ref v) :: r) st M n Q) : rd_G x pc (a0 :: a1 :: a2 :: a3 :: a4 :: a5 :: a6 :: a7 :: a8 :: a9 :: a10 :: a11 :: a12 :: a13 :: a14 :: a15 :: a16 :: a17 :: a18 :: a19 :: a20 :: a21 :: old :: r) (.ref v :: st) M n Q := rd_astg (pre := [a0, a1, a2, a3, a4, a5, a6, a7, a8, a9, a10, a11, a12, a13, a14, a15, a16, a17, a18, a19, a20, a21]) hd rfl (by simp [rd_okp, hp]) k
theorem rd_lst22 {v : Int} {a0 a1 a2 a3 a4 a5 a6 a7 a8 a9 a10 a11 a12 a13 a14 a15 a16 a17 a18 a19 a20 a21 old old2 : Option Value} {r : List (Option Value)} (hd : decode (rd_cd x) pc = .ok (.lstore 22, 2)) (hp : rd_two a21 = false) (k : rd_G x (pc + 2) (a0 :: a1 :: a2 :: a3 :: a4 :: a5 :: a6 :: a7 :: a8 :: a9 :: a10 :: a11 :: a12 :: a13 :: a14 :: a15 :: a16 :: a17 :: a18 :: a19 :: a20 :: a21 :: some (rd_l v) :: none :: r) st M n Q) : rd_G x pc (a0 :: a1 :: a2 :: a3 :: a4 :: a5 :: a6 :: a7 :: a8 :: a9 :: a10 :: a11 :: a12 :: a13 :: a14 :: a15 :: a16 :: a17 :: a18 :: a19 :: a20 :: a21 :: old :: old2 :: r) (rd_l v :: st) M n Q := rd_lstg (pre := [a0, a1, a2, a3, a4, a5, a6, a7, a8, a9, a10, a11, a12, a13, a14, a15, a16, a17, a18, a19, a20, a21]) hd rfl (by simp [rd_okp, hp]) k
theorem rd_iinc22 {d v : Int} {a0 a1 a2 a3 a4 a5 a6 a7 a8 a9 a10 a11 a12 a13 a14 a15 a16 a17 a18 a19 a20 a21 : Option Value} {r : List (Option Value)} (hd : decode (rd_cd x) pc = .ok (.iinc 22 d, 3)) (hp : rd_two a21 = false) (k : rd_G x (pc + 3) (a0 :: a1 :: a2 :: a3 :: a4 :: a5 :: a6 :: a7 :: a8 :: a9 :: a10 :: a11 :: a12 :: a13 :: a14 :: a15 :: a16 :: a17 :: a18 :: a19 :: a20 :: a21 :: some (rd_i (v + d)) :: r) st M n Q) : rd_G x pc (a0 :: a1 :: a2 :: a3 :: a4 :: a5 :: a6 :: a7 :: a8 :: a9 :: a10 :: a11 :: a12 :: a13 :: a14 :: a15 :: a16 :: a17 :: a18 :: a19 :: a20 :: a21 :: some (rd_i v) :: r) st M n Q := rd_iincg (pre := [a0, a1, a2, a3, a4, a5, a6, a7, a8, a9, a10, a11, a12, a13, a14, a15, a16, a17, a18, a19, a20, a21]) hd rfl (by simp [rd_okp, hp]) k
theorem rd_ist23 {v : Int} {a0 a1 a2 a3 a4 a5 a6 a7 a8 a9 a10 a11 a12 a13 a14 a15 a16 a17 a18 a19 a20 a21 a22 old : Option Value} {r : List (Option Value)} (hd : decode (rd_cd x) pc = .ok (.istore 23, 2)) (hp : rd_two a22 = false) (k : rd_G x (pc + 2) (a0 :: a1 :: a2 :: a3 :: a4 :: a5 :: a6 :: a7 :: a8 :: a9 :: a10 :: a11 :: a12 :: a13 :: a14 :: a15 :: a16 :: a17 :: a18 :: a19 :: a20 :: a21 :: a22 :: some (rd_i v) :: r) st M n Q) : rd_G x pc (a0 :: a1 :: a2 :: a3 :: a4 :: a5 :: a6 :: a7 :: a8 :: a9 :: a10 :: a11 :: a12 :: a13 :: a14 :: a15 :: a16 :: a17 :: a18 :: a19 :: a20 :: a21 :: a22 :: old :: r) (rd_i v :: st) M n Q := rd_istg (pre := [a0, a1, a2, a3, a4, a5, a6, a7, a8, a9, a10, a11, a12, a13, a14, a15, a16, a17, a18, a19, a20, a21, a22]) hd rfl (by simp [rd_okp, hp]) k
theorem rd_ast23 {v : Nat} {a0 a1 a2 a3 a4 a5 a6 a7 a8 a9 a10 a11 a12 a13 a14 a15 a16 a17 a18 a19 a20 a21 a22 old : Option Value} {r : List (Option Value)} (hd : decode (rd_cd x) pc = .ok (.astore 23, 2)) (hp : rd_two a22 = false) (k : rd_G x (pc + 2) (a0 :: a1 :: a2 :: a3 :: a4 :: a5 :: a6 :: a7 :: a8 :: a9 :: a10 :: a11 :: a12 :: a13 :: a14 :: a15 :: a16 :: a17 :: a18 :: a19 :: a20 :: a21 :: a22 :: some (.ref v) :: r) st M n Q) : rd_G x pc (a0 :: a1 :: a2 :: a3 :: a4 :: a5 :: a6 :: a7 :: a8 :: a9 :: a10 :: a11 :: a12 :: a13 :: a14 :: a15 :: a16 :: a17 :: a18 :: a19 :: a20 :: a21 :: a22 :: old :: r) (.ref v :: st) M n Q := rd_astg (pre := [a0, a1, a2, a3, a4, a5, a6, a7, a8, a9, a10, a11, a12, a13, a14, a15, a16, a17, a18, a19, a20, a21, a22]) hd rfl (by simp [rd_okp, hp]) k
theorem rd_lst23 {v : Int} {a0 a1 a2 a3 a4 a5 a6 a7 a8 a9 a10 a11 a12 a13 a14 a15 a16 a17 a18 a19 a20 a21 a22 old old2 : Option Value} {r : List (Option Value)} (hd : decode (rd_cd x) pc = .ok (.lstore 23, 2)) (hp : rd_two a22 = false) (k : rd_G x (pc + 2) (a0 :: a1 :: a2 :: a3 :: a4 :: a5 :: a6 :: a7 :: a8 :: a9 :: a10 :: a11 :: a12 :: a13 :: a14 :: a15 :: a16 :: a17 :: a18 :: a19 :: a20 :: a21 :: a22 :: some (rd_l v) :: none :: r) st M n Q) : rd_G x pc (a0 :: a1 :: a2 :: a3 :: a4 :: a5 :: a6 :: a7 :: a8 :: a9 :: a10 :: a11 :: a12 :: a13 :: a14 :: a15 :: a16 :: a17 :: a18 :: a19 :: a20 :: a21 :: a22 :: old :: old2 :: r) (rd_l v :: st) M n Q := rd_lstg (pre := [a0, a1, a2, a3, a4, a5, a6, a7, a8, a9, a10, a11, a12, a13, a14, a15, a16, a17, a18, a19, a20, a21, a22]) hd rfl (by simp [rd_okp, hp]) k
theorem rd_iinc23 {d v : Int} {a0 a1 a2 a3 a4 a5 a6 a7 a8 a9 a10 a11 a12 a13 a14 a15 a16 a17 a18 a19 a20 a21 a22 : Option Value} {r : List (Option Value)} (hd : decode (rd_cd x) pc = .ok (.iinc 23 d, 3)) (hp : rd_two a22 = false) (k : rd_G x (pc + 3) (a0 :: a1 :: a2 :: a3 :: a4 :: a5 :: a6 :: a7 :: a8 :: a9 :: a10 :: a11 :: a12 :: a13 :: a14 :: a15 :: a16 :: a17 :: a18 :: a19 :: a20 :: a21 :: a22 :: some (rd_i (v + d)) :: r) st M n Q) : rd_G x pc (a0 :: a1 :: a2 :: a3 :: a4 :: a5 :: a6 :: a7 :: a8 :: a9 :: a10 :: a11 :: a12 :: a13 :: a14 :: a15 :: a16 :: a17 :: a18 :: a19 :: a20 :: a21 :: a22 :: some (rd_i v) :: r) st M n Q := rd_iincg (pre := [a0, a1, a2, a3, a4, a5, a6, a7, a8, a9, a10, a11, a12, a13, a14, a15, a16, a17, a18, a19, a20, a21, a22]) hd rfl (by simp [rd_okp, hp]) k
theorem rd_iadd {a b : Int} (hd : decode (rd_cd x) pc = .ok (.iadd, 1)) (k : rd_G x (pc + 1) L (rd_i (a + b) :: st) M n Q) : rd_G x pc L (rd_i b :: rd_i a :: st) M n Q := by
  have k : rd_G x (pc + 1) L (.int (Int32.ofInt a + Int32.ofInt b) :: st) M n Q := rd_top (congrArg Value.int (Int32.ofInt_add a b)) k
  intro p l e R s m args below meth c σ D cA A C H locs ls cells slots hc hs hP hS hl
  exact lv_iadd (x := Int32.ofInt a) (y := Int32.ofInt b) (rest := st.map (rd_pv σ)) C.1 C.2.1 hd (k p l e R s m args below meth c σ D cA A C H locs ls cells slots hc hs hP hS hl)
theorem rd_isub {a b : Int} (hd : decode (rd_cd x) pc = .ok (.isub, 1)) (k : rd_G x (pc + 1) L (rd_i (a - b) :: st) M n Q) : rd_G x pc L (rd_i b :: rd_i a :: st) M n Q := by
  have k : rd_G x (pc + 1) L (.int (Int32.ofInt a - Int32.ofInt b) :: st) M n Q := rd_top (congrArg Value.int (Int32.ofInt_sub a b)) k
  intro p l e R s m args below meth c σ D cA A C H locs ls cells slots hc hs hP hS hl
  exact lv_isub (x := Int32.ofInt a) (y := Int32.ofInt b) (rest := st.map (rd_pv σ)) C.1 C.2.1 hd (k p l e R s m args below meth c σ D cA A C H locs ls cells slots hc hs hP hS hl)
theorem rd_imul {a b : Int} (hd : decode (rd_cd x) pc = .ok (.imul, 1)) (k : rd_G x (pc + 1) L (rd_i (a * b) :: st) M n Q) : rd_G x pc L (rd_i b :: rd_i a :: st) M n Q := by
  have k : rd_G x (pc + 1) L (.int (Int32.ofInt a * Int32.ofInt b) :: st) M n Q := rd_top (congrArg Value.int (Int32.ofInt_mul a b)) k
  intro p l e R s m args below meth c σ D cA A C H locs ls cells slots hc hs hP hS hl
  exact lv_imul (x := Int32.ofInt a) (y := Int32.ofInt b) (rest := st.map (rd_pv σ)) C.1 C.2.1 hd (k p l e R s m args below meth c σ D cA A C H locs ls cells slots hc hs hP hS hl)
theorem rd_idiv {a b : Int} (hd : decode (rd_cd x) pc = .ok (.idiv, 1)) (ha : rd_I a) (hb : rd_I b) (h0 : b ≠ 0) (k : rd_G x (pc + 1) L (rd_i (a.tdiv b) :: st) M n Q) : rd_G x pc L (rd_i b :: rd_i a :: st) M n Q := by
  have k : rd_G x (pc + 1) L (.int (Int32.ofInt a / Int32.ofInt b) :: st) M n Q := rd_top (congrArg Value.int ((rd_div32 ha hb).symm)) k
  intro p l e R s m args below meth c σ D cA A C H locs ls cells slots hc hs hP hS hl
  exact lv_idiv (x := Int32.ofInt a) (y := Int32.ofInt b) (rest := st.map (rd_pv σ)) C.1 C.2.1 hd (rd_ne0_32 hb h0) (k p l e R s m args below meth c σ D cA A C H locs ls cells slots hc hs hP hS hl)
theorem rd_irem {a b : Int} (hd : decode (rd_cd x) pc = .ok (.irem, 1)) (ha : rd_I a) (hb : rd_I b) (h0 : b ≠ 0) (k : rd_G x (pc + 1) L (rd_i (a.tmod b) :: st) M n Q) : rd_G x pc L (rd_i b :: rd_i a :: st) M n Q := by
  have k : rd_G x (pc + 1) L (.int (Int32.ofInt a - Int32.ofInt a / Int32.ofInt b * Int32.ofInt b) :: st) M n Q := rd_top (congrArg Value.int (by rw [rd_div32 ha hb, ← Int32.ofInt_mul, ← Int32.ofInt_sub, Int.mul_comm, ← Int.tmod_def])) k
  intro p l e R s m args below meth c σ D cA A C H locs ls cells slots hc hs hP hS hl
  exact lv_irem (x := Int32.ofInt a) (y := Int32.ofInt b) (rest := st.map (rd_pv σ)) C.1 C.2.1 hd (rd_ne0_32 hb h0) (k p l e R s m args below meth c σ D cA A C H locs ls cells slots hc hs hP hS hl)
theorem rd_ladd {a b : Int} (hd : decode (rd_cd x) pc = .ok (.ladd, 1)) (k : rd_G x (pc + 1) L (rd_l (a + b) :: st) M n Q) : rd_G x pc L (rd_l b :: rd_l a :: st) M n Q := by
  have k : rd_G x (pc + 1) L (.long (Int64.ofInt a + Int64.ofInt b) :: st) M n Q := rd_top (congrArg Value.long (Int64.ofInt_add a b)) k
  intro p l e R s m args below meth c σ D cA A C H locs ls cells slots hc hs hP hS hl
  exact lv_ladd (x := Int64.ofInt a) (y := Int64.ofInt b) (rest := st.map (rd_pv σ)) C.1 C.2.1 hd (k p l e R s m args below meth c σ D cA A C H locs ls cells slots hc hs hP hS hl)
theorem rd_lsub {a b : Int} (hd : decode (rd_cd x) pc = .ok (.lsub, 1)) (k : rd_G x (pc + 1) L (rd_l (a - b) :: st) M n Q) : rd_G x pc L (rd_l b :: rd_l a :: st) M n Q := by
  have k : rd_G x (pc + 1) L (.long (Int64.ofInt a - Int64.ofInt b) :: st) M n Q := rd_top (congrArg Value.long (Int64.ofInt_sub a b)) k
  intro p l e R s m args below meth c σ D cA A C H locs ls cells slots hc hs hP hS hl
  exact lv_lsub (x := Int64.ofInt a) (y := Int64.ofInt b) (rest := st.map (rd_pv σ)) C.1 C.2.1 hd (k p l e R s m args below meth c σ D cA A C H locs ls cells slots hc hs hP hS hl)
theorem rd_lmul {a b : Int} (hd : decode (rd_cd x) pc = .ok (.lmul, 1)) (k : rd_G x (pc + 1) L (rd_l (a * b) :: st) M n Q) : rd_G x pc L (rd_l b :: rd_l a :: st) M n Q := by
  have k : rd_G x (pc + 1) L (.long (Int64.ofInt a * Int64.ofInt b) :: st) M n Q := rd_top (congrArg Value.long (Int64.ofInt_mul a b)) k
  intro p l e R s m args below meth c σ D cA A C H locs ls cells slots hc hs hP hS hl
  exact lv_lmul (x := Int64.ofInt a) (y := Int64.ofInt b) (rest := st.map (rd_pv σ)) C.1 C.2.1 hd (k p l e R s m args below meth c σ D cA A C H locs ls cells slots hc hs hP hS hl)
theorem rd_ldiv {a b : Int} (hd : decode (rd_cd x) pc = .ok (.ldiv, 1)) (ha : rd_J a) (hb : rd_J b) (h0 : b ≠ 0) (k : rd_G x (pc + 1) L (rd_l (a.tdiv b) :: st) M n Q) : rd_G x pc L (rd_l b :: rd_l a :: st) M n Q := by
  have k : rd_G x (pc + 1) L (.long (Int64.ofInt a / Int64.ofInt b) :: st) M n Q := rd_top (congrArg Value.long ((rd_div64 ha hb).symm)) k
  intro p l e R s m args below meth c σ D cA A C H locs ls cells slots hc hs hP hS hl
  exact lv_ldiv (x := Int64.ofInt a) (y := Int64.ofInt b) (rest := st.map (rd_pv σ)) C.1 C.2.1 hd (rd_ne0_64 hb h0) (k p l e R s m args below meth c σ D cA A C H locs ls cells slots hc hs hP hS hl)
theorem rd_lrem {a b : Int} (hd : decode (rd_cd x) pc = .ok (.lrem, 1)) (ha : rd_J a) (hb : rd_J b) (h0 : b ≠ 0) (k : rd_G x (pc + 1) L (rd_l (a.tmod b) :: st) M n Q) : rd_G x pc L (rd_l b :: rd_l a :: st) M n Q := by
  have k : rd_G x (pc + 1) L (.long (Int64.ofInt a - Int64.ofInt a / Int64.ofInt b * Int64.ofInt b) :: st) M n Q := rd_top (congrArg Value.long (by rw [rd_div64 ha hb, ← Int64.ofInt_mul, ← Int64.ofInt_sub, Int.mul_comm, ← Int.tmod_def])) k
  intro p l e R s m args below meth c σ D cA A C H locs ls cells slots hc hs hP hS hl
  exact lv_lrem (x := Int64.ofInt a) (y := Int64.ofInt b) (rest := st.map (rd_pv σ)) C.1 C.2.1 hd (rd_ne0_64 hb h0) (k p l e R s m args below meth c σ D cA A C H locs ls cells slots hc hs hP hS hl)
theorem rd_i2l {a : Int} (hd : decode (rd_cd x) pc = .ok (.i2l, 1)) (ha : rd_I a) (k : rd_G x (pc + 1) L (rd_l a :: st) M n Q) : rd_G x pc L (rd_i a :: st) M n Q := by
  intro p l e R s m args below meth c σ D cA A C H locs ls cells slots hc hs hP hS hl
  exact lv_i2l (x := Int32.ofInt a) (v := Int64.ofInt a) (rest := st.map (rd_pv σ)) C.1 C.2.1 hd (rd_ci2l ha) (k p l e R s m args below meth c σ D cA A C H locs ls cells slots hc hs hP hS hl)
theorem rd_l2i {a : Int} (hd : decode (rd_cd x) pc = .ok (.l2i, 1)) (k : rd_G x (pc + 1) L (rd_i a :: st) M n Q) : rd_G x pc L (rd_l a :: st) M n Q := by
  intro p l e R s m args below meth c σ D cA A C H locs ls cells slots hc hs hP hS hl
  exact lv_l2i (x := Int64.ofInt a) (v := Int32.ofInt a) (rest := st.map (rd_pv σ)) C.1 C.2.1 hd rd_cl2i (k p l e R s m args below meth c σ D cA A C H locs ls cells slots hc hs hP hS hl)
theorem rd_dup {v : Value} (hd : decode (rd_cd x) pc = .ok (.dup, 1)) (hv : v.category = 1) (k : rd_G x (pc + 1) L (v :: v :: st) M n Q) : rd_G x pc L (v :: st) M n Q := by
  intro p l e R s m args below meth c σ D cA A C H locs ls cells slots hc hs hP hS hl
  exact lv_dup (rest := st.map (rd_pv σ)) C.1 C.2.1 hd (by rw [rd_cat]; exact hv) (k p l e R s m args below meth c σ D cA A C H locs ls cells slots hc hs hP hS hl)
theorem rd_pop {v : Value} (hd : decode (rd_cd x) pc = .ok (.pop, 1)) (hv : v.category = 1) (k : rd_G x (pc + 1) L (st) M n Q) : rd_G x pc L (v :: st) M n Q := by
  intro p l e R s m args below meth c σ D cA A C H locs ls cells slots hc hs hP hS hl
  exact lv_pop (rest := st.map (rd_pv σ)) C.1 C.2.1 hd (by rw [rd_cat]; exact hv) (k p l e R s m args below meth c σ D cA A C H locs ls cells slots hc hs hP hS hl)
theorem rd_dup2 {v w : Value} (hd : decode (rd_cd x) pc = .ok (.dup2, 1)) (hv : v.category = 1) (hw : w.category = 1) (k : rd_G x (pc + 1) L (v :: w :: v :: w :: st) M n Q) : rd_G x pc L (v :: w :: st) M n Q := by
  intro p l e R s m args below meth c σ D cA A C H locs ls cells slots hc hs hP hS hl
  exact lv_dup2_11 (rest := st.map (rd_pv σ)) C.1 C.2.1 hd (by rw [rd_cat]; exact hv) (by rw [rd_cat]; exact hw) (k p l e R s m args below meth c σ D cA A C H locs ls cells slots hc hs hP hS hl)
theorem rd_dup2l {v : Value} (hd : decode (rd_cd x) pc = .ok (.dup2, 1)) (hv : v.category = 2) (k : rd_G x (pc + 1) L (v :: v :: st) M n Q) : rd_G x pc L (v :: st) M n Q := by
  intro p l e R s m args below meth c σ D cA A C H locs ls cells slots hc hs hP hS hl
  exact lv_dup2_2 (rest := st.map (rd_pv σ)) C.1 C.2.1 hd (by rw [rd_cat]; exact hv) (k p l e R s m args below meth c σ D cA A C H locs ls cells slots hc hs hP hS hl)
theorem rd_dupx1 {v w : Value} (hd : decode (rd_cd x) pc = .ok (.dup_x1, 1)) (hv : v.category = 1) (hw : w.category = 1) (k : rd_G x (pc + 1) L (v :: w :: v :: st) M n Q) : rd_G x pc L (v :: w :: st) M n Q := by
  intro p l e R s m args below meth c σ D cA A C H locs ls cells slots hc hs hP hS hl
  exact lv_dup_x1 (rest := st.map (rd_pv σ)) C.1 C.2.1 hd (by rw [rd_cat]; exact hv) (by rw [rd_cat]; exact hw) (k p l e R s m args below meth c σ D cA A C H locs ls cells slots hc hs hP hS hl)
theorem rd_dup2x1 {v w : Value} (hd : decode (rd_cd x) pc = .ok (.dup2_x1, 1)) (hv : v.category = 2) (hw : w.category = 1) (k : rd_G x (pc + 1) L (v :: w :: v :: st) M n Q) : rd_G x pc L (v :: w :: st) M n Q := by
  intro p l e R s m args below meth c σ D cA A C H locs ls cells slots hc hs hP hS hl
  exact lv_dup2_x1_2 (rest := st.map (rd_pv σ)) C.1 C.2.1 hd (by rw [rd_cat]; exact hv) (by rw [rd_cat]; exact hw) (k p l e R s m args below meth c σ D cA A C H locs ls cells slots hc hs hP hS hl)
theorem rd_pop2l {v : Value} (hd : decode (rd_cd x) pc = .ok (.pop2, 1)) (hv : v.category = 2) (k : rd_G x (pc + 1) L (st) M n Q) : rd_G x pc L (v :: st) M n Q := by
  intro p l e R s m args below meth c σ D cA A C H locs ls cells slots hc hs hP hS hl
  exact lv_pop2_2 (rest := st.map (rd_pv σ)) C.1 C.2.1 hd (by rw [rd_cat]; exact hv) (k p l e R s m args below meth c σ D cA A C H locs ls cells slots hc hs hP hS hl)
theorem rd_icmp_eq {a b off : Int} {tgt : Nat} (hd : decode (rd_cd x) pc = .ok (.if_icmp .eq off, 3)) (ht : (pc : Int) + off = (tgt : Int)) (ha : rd_I a) (hb : rd_I b) (kt : a = b → rd_G x tgt L st M n Q) (kf : ¬ (a = b) → rd_G x (pc + 3) L st M n Q) : rd_G x pc L (rd_i b :: rd_i a :: st) M n Q := by
  intro p l e R s m args below meth c σ D cA A C H locs ls cells slots hc hs hP hS hl
  exact lv_icmp_eq (x := Int32.ofInt a) (y := Int32.ofInt b) (rest := st.map (rd_pv σ)) C.1 C.2.1 hd ht (fun h => kt ((rd_eq32 ha hb).mp h) p l e R s m args below meth c σ D cA A C H locs ls cells slots hc hs hP hS hl) (fun h => kf (fun q => h ((rd_eq32 ha hb).mpr q)) p l e R s m args below meth c σ D cA A C H locs ls cells slots hc hs hP hS hl)
theorem rd_if_eq {a off : Int} {tgt : Nat} (hd : decode (rd_cd x) pc = .ok (.ifCond .eq off, 3)) (ht : (pc : Int) + off = (tgt : Int)) (ha : rd_I a) (kt : a = 0 → rd_G x tgt L st M n Q) (kf : ¬ (a = 0) → rd_G x (pc + 3) L st M n Q) : rd_G x pc L (rd_i a :: st) M n Q := by
  intro p l e R s m args below meth c σ D cA A C H locs ls cells slots hc hs hP hS hl
  exact lv_if_eq (x := Int32.ofInt a) (rest := st.map (rd_pv σ)) C.1 C.2.1 hd ht (fun h => kt ((rd_eq32 ha rd_I0).mp (by rw [← rd_zero32]; exact h)) p l e R s m args below meth c σ D cA A C H locs ls cells slots hc hs hP hS hl) (fun h => kf (fun q => h (by rw [rd_zero32]; exact (rd_eq32 ha rd_I0).mpr q)) p l e R s m args below meth c σ D cA A C H locs ls cells slots hc hs hP hS hl)
theorem rd_lcmp_eq {a b off : Int} {tgt : Nat} (hc0 : decode (rd_cd x) pc = .ok (.lcmp, 1)) (hd : decode (rd_cd x) (pc + 1) = .ok (.ifCond .eq off, 3)) (ht : ((pc + 1 : Nat) : Int) + off = (tgt : Int)) (ha : rd_J a) (hb : rd_J b) (kt : a = b → rd_G x tgt L st M n Q) (kf : ¬ (a = b) → rd_G x (pc + 4) L st M n Q) : rd_G x pc L (rd_l b :: rd_l a :: st) M n Q := by
  intro p l e R s m args below meth c σ D cA A C H locs ls cells slots hc hs hP hS hl
  refine W.lcmp (x := Int64.ofInt a) (y := Int64.ofInt b) (rest := st.map (rd_pv σ)) C.1 C.2.1 hc0 ?_
  exact lv_if_eq (x := lg_cmp (Int64.ofInt a) (Int64.ofInt b)) (rest := st.map (rd_pv σ)) C.1 C.2.1 hd ht (fun h => kt (((lg_cmp_eq _ _).trans (rd_eq64 ha hb)).mp h) p l e R s m args below meth c σ D cA A C H locs ls cells slots hc hs hP hS hl) (fun h => kf (fun q => h (((lg_cmp_eq _ _).trans (rd_eq64 ha hb)).mpr q)) p l e R s m args below meth c σ D cA A C H locs ls cells slots hc hs hP hS hl)
theorem rd_icmp_ne {a b off : Int} {tgt : Nat} (hd : decode (rd_cd x) pc = .ok (.if_icmp .ne off, 3)) (ht : (pc : Int) + off = (tgt : Int)) (ha : rd_I a) (hb : rd_I b) (kt : ¬ a = b → rd_G x tgt L st M n Q) (kf : a = b → rd_G x (pc + 3) L st M n Q) : rd_G x pc L (rd_i b :: rd_i a :: st) M n Q := by
  intro p l e R s m args below meth c σ D cA A C H locs ls cells slots hc hs hP hS hl
  exact lv_icmp_ne (x := Int32.ofInt a) (y := Int32.ofInt b) (rest := st.map (rd_pv σ)) C.1 C.2.1 hd ht (fun h => kt ((not_congr (rd_eq32 ha hb)).mp h) p l e R s m args below meth c σ D cA A C H locs ls cells slots hc hs hP hS hl) (fun h => kf ((rd_eq32 ha hb).mp h) p l e R s m args below meth c σ D cA A C H locs ls cells slots hc hs hP hS hl)
theorem rd_if_ne {a off : Int} {tgt : Nat} (hd : decode (rd_cd x) pc = .ok (.ifCond .ne off, 3)) (ht : (pc : Int) + off = (tgt : Int)) (ha : rd_I a) (kt : ¬ a = 0 → rd_G x tgt L st M n Q) (kf : a = 0 → rd_G x (pc + 3) L st M n Q) : rd_G x pc L (rd_i a :: st) M n Q := by
  intro p l e R s m args below meth c σ D cA A C H locs ls cells slots hc hs hP hS hl
  exact lv_if_ne (x := Int32.ofInt a) (rest := st.map (rd_pv σ)) C.1 C.2.1 hd ht (fun h => kt ((not_congr (rd_eq32 ha rd_I0)).mp (by rw [← rd_zero32]; exact h)) p l e R s m args below meth c σ D cA A C H locs ls cells slots hc hs hP hS hl) (fun h => kf ((rd_eq32 ha rd_I0).mp (by rw [← rd_zero32]; exact h)) p l e R s m args below meth c σ D cA A C H locs ls cells slots hc hs hP hS hl)
theorem rd_lcmp_ne {a b off : Int} {tgt : Nat} (hc0 : decode (rd_cd x) pc = .ok (.lcmp, 1)) (hd : decode (rd_cd x) (pc + 1) = .ok (.ifCond .ne off, 3)) (ht : ((pc + 1 : Nat) : Int) + off = (tgt : Int)) (ha : rd_J a) (hb : rd_J b) (kt : ¬ a = b → rd_G x tgt L st M n Q) (kf : a = b → rd_G x (pc + 4) L st M n Q) : rd_G x pc L (rd_l b :: rd_l a :: st) M n Q := by
  intro p l e R s m args below meth c σ D cA A C H locs ls cells slots hc hs hP hS hl
  refine W.lcmp (x := Int64.ofInt a) (y := Int64.ofInt b) (rest := st.map (rd_pv σ)) C.1 C.2.1 hc0 ?_
  exact lv_if_ne (x := lg_cmp (Int64.ofInt a) (Int64.ofInt b)) (rest := st.map (rd_pv σ)) C.1 C.2.1 hd ht (fun h => kt ((not_congr ((lg_cmp_eq _ _).trans (rd_eq64 ha hb))).mp h) p l e R s m args below meth c σ D cA A C H locs ls cells slots hc hs hP hS hl) (fun h => kf (((lg_cmp_eq _ _).trans (rd_eq64 ha hb)).mp h) p l e R s m args below meth c σ D cA A C H locs ls cells slots hc hs hP hS hl)
theorem rd_icmp_lt {a b off : Int} {tgt : Nat} (hd : decode (rd_cd x) pc = .ok (.if_icmp .lt off, 3)) (ht : (pc : Int) + off = (tgt : Int)) (ha : rd_I a) (hb : rd_I b) (kt : a < b → rd_G x tgt L st M n Q) (kf : ¬ (a < b) → rd_G x (pc + 3) L st M n Q) : rd_G x pc L (rd_i b :: rd_i a :: st) M n Q := by
  intro p l e R s m args below meth c σ D cA A C H locs ls cells slots hc hs hP hS hl
  exact lv_icmp_lt (x := Int32.ofInt a) (y := Int32.ofInt b) (rest := st.map (rd_pv σ)) C.1 C.2.1 hd ht (fun h => kt ((rd_lt32 ha hb).mp h) p l e R s m args below meth c σ D cA A C H locs ls cells slots hc hs hP hS hl) (fun h => kf (fun q => h ((rd_lt32 ha hb).mpr q)) p l e R s m args below meth c σ D cA A C H locs ls cells slots hc hs hP hS hl)
theorem rd_if_lt {a off : Int} {tgt : Nat} (hd : decode (rd_cd x) pc = .ok (.ifCond .lt off, 3)) (ht : (pc : Int) + off = (tgt : Int)) (ha : rd_I a) (kt : a < 0 → rd_G x tgt L st M n Q) (kf : ¬ (a < 0) → rd_G x (pc + 3) L st M n Q) : rd_G x pc L (rd_i a :: st) M n Q := by
  intro p l e R s m args below meth c σ D cA A C H locs ls cells slots hc hs hP hS hl
  exact lv_if_lt (x := Int32.ofInt a) (rest := st.map (rd_pv σ)) C.1 C.2.1 hd ht (fun h => kt ((rd_lt32 ha rd_I0).mp (by rw [← rd_zero32]; exact h)) p l e R s m args below meth c σ D cA A C H locs ls cells slots hc hs hP hS hl) (fun h => kf (fun q => h (by rw [rd_zero32]; exact (rd_lt32 ha rd_I0).mpr q)) p l e R s m args below meth c σ D cA A C H locs ls cells slots hc hs hP hS hl)
theorem rd_lcmp_lt {a b off : Int} {tgt : Nat} (hc0 : decode (rd_cd x) pc = .ok (.lcmp, 1)) (hd : decode (rd_cd x) (pc + 1) = .ok (.ifCond .lt off, 3)) (ht : ((pc + 1 : Nat) : Int) + off = (tgt : Int)) (ha : rd_J a) (hb : rd_J b) (kt : a < b → rd_G x tgt L st M n Q) (kf : ¬ (a < b) → rd_G x (pc + 4) L st M n Q) : rd_G x pc L (rd_l b :: rd_l a :: st) M n Q := by
  intro p l e R s m args below meth c σ D cA A C H locs ls cells slots hc hs hP hS hl
  refine W.lcmp (x := Int64.ofInt a) (y := Int64.ofInt b) (rest := st.map (rd_pv σ)) C.1 C.2.1 hc0 ?_
  exact lv_if_lt (x := lg_cmp (Int64.ofInt a) (Int64.ofInt b)) (rest := st.map (rd_pv σ)) C.1 C.2.1 hd ht (fun h => kt (((lg_cmp_lt _ _).trans (rd_lt64 ha hb)).mp h) p l e R s m args below meth c σ D cA A C H locs ls cells slots hc hs hP hS hl) (fun h => kf (fun q => h (((lg_cmp_lt _ _).trans (rd_lt64 ha hb)).mpr q)) p l e R s m args below meth c σ D cA A C H locs ls cells slots hc hs hP hS hl)
theorem rd_icmp_ge {a b off : Int} {tgt : Nat} (hd : decode (rd_cd x) pc = .ok (.if_icmp .ge off, 3)) (ht : (pc : Int) + off = (tgt : Int)) (ha : rd_I a) (hb : rd_I b) (kt : b ≤ a → rd_G x tgt L st M n Q) (kf : ¬ (b ≤ a) → rd_G x (pc + 3) L st M n Q) : rd_G x pc L (rd_i b :: rd_i a :: st) M n Q := by
  intro p l e R s m args below meth c σ D cA A C H locs ls cells slots hc hs hP hS hl
  exact lv_icmp_ge (x := Int32.ofInt a) (y := Int32.ofInt b) (rest := st.map (rd_pv σ)) C.1 C.2.1 hd ht (fun h => kt ((rd_le32 hb ha).mp h) p l e R s m args below meth c σ D cA A C H locs ls cells slots hc hs hP hS hl) (fun h => kf (fun q => h ((rd_le32 hb ha).mpr q)) p l e R s m args below meth c σ D cA A C H locs ls cells slots hc hs hP hS hl)
theorem rd_if_ge {a off : Int} {tgt : Nat} (hd : decode (rd_cd x) pc = .ok (.ifCond .ge off, 3)) (ht : (pc : Int) + off = (tgt : Int)) (ha : rd_I a) (kt : 0 ≤ a → rd_G x tgt L st M n Q) (kf : ¬ (0 ≤ a) → rd_G x (pc + 3) L st M n Q) : rd_G x pc L (rd_i a :: st) M n Q := by
  intro p l e R s m args below meth c σ D cA A C H locs ls cells slots hc hs hP hS hl
  exact lv_if_ge (x := Int32.ofInt a) (rest := st.map (rd_pv σ)) C.1 C.2.1 hd ht (fun h => kt ((rd_le32 rd_I0 ha).mp (by rw [← rd_zero32]; exact h)) p l e R s m args below meth c σ D cA A C H locs ls cells slots hc hs hP hS hl) (fun h => kf (fun q => h (by rw [rd_zero32]; exact (rd_le32 rd_I0 ha).mpr q)) p l e R s m args below meth c σ D cA A C H locs ls cells slots hc hs hP hS hl)
theorem rd_lcmp_ge {a b off : Int} {tgt : Nat} (hc0 : decode (rd_cd x) pc = .ok (.lcmp, 1)) (hd : decode (rd_cd x) (pc + 1) = .ok (.ifCond .ge off, 3)) (ht : ((pc + 1 : Nat) : Int) + off = (tgt : Int)) (ha : rd_J a) (hb : rd_J b) (kt : b ≤ a → rd_G x tgt L st M n Q) (kf : ¬ (b ≤ a) → rd_G x (pc + 4) L st M n Q) : rd_G x pc L (rd_l b :: rd_l a :: st) M n Q := by
  intro p l e R s m args below meth c σ D cA A C H locs ls cells slots hc hs hP hS hl
  refine W.lcmp (x := Int64.ofInt a) (y := Int64.ofInt b) (rest := st.map (rd_pv σ)) C.1 C.2.1 hc0 ?_
  exact lv_if_ge (x := lg_cmp (Int64.ofInt a) (Int64.ofInt b)) (rest := st.map (rd_pv σ)) C.1 C.2.1 hd ht (fun h => kt (((lg_cmp_ge _ _).trans (rd_le64 hb ha)).mp h) p l e R s m args below meth c σ D cA A C H locs ls cells slots hc hs hP hS hl) (fun h => kf (fun q => h (((lg_cmp_ge _ _).trans (rd_le64 hb ha)).mpr q)) p l e R s m args below meth c σ D cA A C H locs ls cells slots hc hs hP hS hl)
theorem rd_icmp_gt {a b off : Int} {tgt : Nat} (hd : decode (rd_cd x) pc = .ok (.if_icmp .gt off, 3)) (ht : (pc : Int) + off = (tgt : Int)) (ha : rd_I a) (hb : rd_I b) (kt : b < a → rd_G x tgt L st M n Q) (kf : ¬ (b < a) → rd_G x (pc + 3) L st M n Q) : rd_G x pc L (rd_i b :: rd_i a :: st) M n Q := by
  intro p l e R s m args below meth c σ D cA A C H locs ls cells slots hc hs hP hS hl
  exact lv_icmp_gt (x := Int32.ofInt a) (y := Int32.ofInt b) (rest := st.map (rd_pv σ)) C.1 C.2.1 hd ht (fun h => kt ((rd_lt32 hb ha).mp h) p l e R s m args below meth c σ D cA A C H locs ls cells slots hc hs hP hS hl) (fun h => kf (fun q => h ((rd_lt32 hb ha).mpr q)) p l e R s m args below meth c σ D cA A C H locs ls cells slots hc hs hP hS hl)
theorem rd_if_gt {a off : Int} {tgt : Nat} (hd : decode (rd_cd x) pc = .ok (.ifCond .gt off, 3)) (ht : (pc : Int) + off = (tgt : Int)) (ha : rd_I a) (kt : 0 < a → rd_G x tgt L st M n Q) (kf : ¬ (0 < a) → rd_G x (pc + 3) L st M n Q) : rd_G x pc L (rd_i a :: st) M n Q := by
  intro p l e R s m args below meth c σ D cA A C H locs ls cells slots hc hs hP hS hl
  exact lv_if_gt (x := Int32.ofInt a) (rest := st.map (rd_pv σ)) C.1 C.2.1 hd ht (fun h => kt ((rd_lt32 rd_I0 ha).mp (by rw [← rd_zero32]; exact h)) p l e R s m args below meth c σ D cA A C H locs ls cells slots hc hs hP hS hl) (fun h => kf (fun q => h (by rw [rd_zero32]; exact (rd_lt32 rd_I0 ha).mpr q)) p l e R s m args below meth c σ D cA A C H locs ls cells slots hc hs hP hS hl)
theorem rd_lcmp_gt {a b off : Int} {tgt : Nat} (hc0 : decode (rd_cd x) pc = .ok (.lcmp, 1)) (hd : decode (rd_cd x) (pc + 1) = .ok (.ifCond .gt off, 3)) (ht : ((pc + 1 : Nat) : Int) + off = (tgt : Int)) (ha : rd_J a) (hb : rd_J b) (kt : b < a → rd_G x tgt L st M n Q) (kf : ¬ (b < a) → rd_G x (pc + 4) L st M n Q) : rd_G x pc L (rd_l b :: rd_l a :: st) M n Q := by
  intro p l e R s m args below meth c σ D cA A C H locs ls cells slots hc hs hP hS hl
  refine W.lcmp (x := Int64.ofInt a) (y := Int64.ofInt b) (rest := st.map (rd_pv σ)) C.1 C.2.1 hc0 ?_
  exact lv_if_gt (x := lg_cmp (Int64.ofInt a) (Int64.ofInt b)) (rest := st.map (rd_pv σ)) C.1 C.2.1 hd ht (fun h => kt (((lg_cmp_gt _ _).trans (rd_lt64 hb ha)).mp h) p l e R s m args below meth c σ D cA A C H locs ls cells slots hc hs hP hS hl) (fun h => kf (fun q => h (((lg_cmp_gt _ _).trans (rd_lt64 hb ha)).mpr q)) p l e R s m args below meth c σ D cA A C H locs ls cells slots hc hs hP hS hl)
theorem rd_icmp_le {a b off : Int} {tgt : Nat} (hd : decode (rd_cd x) pc = .ok (.if_icmp .le off, 3)) (ht : (pc : Int) + off = (tgt : Int)) (ha : rd_I a) (hb : rd_I b) (kt : a ≤ b → rd_G x tgt L st M n Q) (kf : ¬ (a ≤ b) → rd_G x (pc + 3) L st M n Q) : rd_G x pc L (rd_i b :: rd_i a :: st) M n Q := by
  intro p l e R s m args below meth c σ D cA A C H locs ls cells slots hc hs hP hS hl
  exact lv_icmp_le (x := Int32.ofInt a) (y := Int32.ofInt b) (rest := st.map (rd_pv σ)) C.1 C.2.1 hd ht (fun h => kt ((rd_le32 ha hb).mp h) p l e R s m args below meth c σ D cA A C H locs ls cells slots hc hs hP hS hl) (fun h => kf (fun q => h ((rd_le32 ha hb).mpr q)) p l e R s m args below meth c σ D cA A C H locs ls cells slots hc hs hP hS hl)
theorem rd_if_le {a off : Int} {tgt : Nat} (hd : decode (rd_cd x) pc = .ok (.ifCond .le off, 3)) (ht : (pc : Int) + off = (tgt : Int)) (ha : rd_I a) (kt : a ≤ 0 → rd_G x tgt L st M n Q) (kf : ¬ (a ≤ 0) → rd_G x (pc + 3) L st M n Q) : rd_G x pc L (rd_i a :: st) M n Q := by
  intro p l e R s m args below meth c σ D cA A C H locs ls cells slots hc hs hP hS hl
  exact lv_if_le (x := Int32.ofInt a) (rest := st.map (rd_pv σ)) C.1 C.2.1 hd ht (fun h => kt ((rd_le32 ha rd_I0).mp (by rw [← rd_zero32]; exact h)) p l e R s m args below meth c σ D cA A C H locs ls cells slots hc hs hP hS hl) (fun h => kf (fun q => h (by rw [rd_zero32]; exact (rd_le32 ha rd_I0).mpr q)) p l e R s m args below meth c σ D cA A C H locs ls cells slots hc hs hP hS hl)
theorem rd_lcmp_le {a b off : Int} {tgt : Nat} (hc0 : decode (rd_cd x) pc = .ok (.lcmp, 1)) (hd : decode (rd_cd x) (pc + 1) = .ok (.ifCond .le off, 3)) (ht : ((pc + 1 : Nat) : Int) + off = (tgt : Int)) (ha : rd_J a) (hb : rd_J b) (kt : a ≤ b → rd_G x tgt L st M n Q) (kf : ¬ (a ≤ b) → rd_G x (pc + 4) L st M n Q) : rd_G x pc L (rd_l b :: rd_l a :: st) M n Q := by
  intro p l e R s m args below meth c σ D cA A C H locs ls cells slots hc hs hP hS hl
  refine W.lcmp (x := Int64.ofInt a) (y := Int64.ofInt b) (rest := st.map (rd_pv σ)) C.1 C.2.1 hc0 ?_
  exact lv_if_le (x := lg_cmp (Int64.ofInt a) (Int64.ofInt b)) (rest := st.map (rd_pv σ)) C.1 C.2.1 hd ht (fun h => kt (((lg_cmp_le _ _).trans (rd_le64 ha hb)).mp h) p l e R s m args below meth c σ D cA A C H locs ls cells slots hc hs hP hS hl) (fun h => kf (fun q => h (((lg_cmp_le _ _).trans (rd_le64 ha hb)).mpr q)) p l e R s m args below meth c σ D cA A C H locs ls cells slots hc hs hP hS hl)
theorem rd_goto {off : Int} {tgt : Nat} (hd : decode (rd_cd x) pc = .ok (.goto off, 3)) (ht : (pc : Int) + off = (tgt : Int)) (k : rd_G x tgt L st M n Q) : rd_G x pc L st M n Q := by
  intro p l e R s m args below meth c σ D cA A C H locs ls cells slots hc hs hP hS hl
  exact lv_goto (rest := st.map (rd_pv σ)) C.1 C.2.1 hd ht (k p l e R s m args below meth c σ D cA A C H locs ls cells slots hc hs hP hS hl)
theorem rd_tsw {a dflt lo hi off : Int} {offs : Array Int} {len tgt : Nat} (hd : decode (rd_cd x) pc = .ok (.tableswitch dflt lo hi offs, len)) (ha : rd_I a) (h1 : ¬ a < lo) (h2 : ¬ hi < a) (ho : offs[(a - lo).toNat]? = some off) (ht : (pc : Int) + off = (tgt : Int)) (k : rd_G x tgt L st M n Q) : rd_G x pc L (rd_i a :: st) M n Q := by
  intro p l e R s m args below meth c σ D cA A C H locs ls cells slots hc hs hP hS hl
  exact lv_tableIn (x := Int32.ofInt a) (rest := st.map (rd_pv σ)) C.1 C.2.1 hd (by rw [rd_i32 ha]; exact h1) (by rw [rd_i32 ha]; exact h2) (by rw [rd_i32 ha]; exact ho) ht (k p l e R s m args below meth c σ D cA A C H locs ls cells slots hc hs hP hS hl)
theorem rd_tswd {a dflt lo hi : Int} {offs : Array Int} {len tgt : Nat} (hd : decode (rd_cd x) pc = .ok (.tableswitch dflt lo hi offs, len)) (ha : rd_I a) (h : a < lo ∨ hi < a) (ht : (pc : Int) + dflt = (tgt : Int)) (k : rd_G x tgt L st M n Q) : rd_G x pc L (rd_i a :: st) M n Q := by
  intro p l e R s m args below meth c σ D cA A C H locs ls cells slots hc hs hP hS hl
  exact lv_tableOut (x := Int32.ofInt a) (rest := st.map (rd_pv σ)) C.1 C.2.1 hd (by rw [rd_i32 ha]; exact h) ht (k p l e R s m args below meth c σ D cA A C H locs ls cells slots hc hs hP hS hl)
theorem rd_lsw {a dflt off : Int} {ps : Array (Int × Int)} {len tgt : Nat} (hd : decode (rd_cd x) pc = .ok (.lookupswitch dflt ps, len)) (ha : rd_I a) (hp : (ps.toList.zip (ps.toList.drop 1)).all (fun (a, next) => a.1 < next.1) = true) (ho : Op.lookupswitch.offset ps.toList dflt a = off) (ht : (pc : Int) + off = (tgt : Int)) (k : rd_G x tgt L st M n Q) : rd_G x pc L (rd_i a :: st) M n Q := by
  intro p l e R s m args below meth c σ D cA A C H locs ls cells slots hc hs hP hS hl
  exact lv_lookup (x := Int32.ofInt a) (rest := st.map (rd_pv σ)) C.1 C.2.1 hd hp (by rw [rd_i32 ha]; exact ho) ht (k p l e R s m args below meth c σ D cA A C H locs ls cells slots hc hs hP hS hl)
theorem rd_iald {q len : Nat} {i : Int} (hd : decode (rd_cd x) pc = .ok (.iaload, 1)) (hq : rd_SH[q]? = some (.inl (0, len))) (h0 : 0 ≤ i) (h1 : i < len) (k : rd_G x (pc + 1) L (rd_i (M q i) :: st) M n Q) : rd_G x pc L (rd_i i :: .ref q :: st) M n Q := by
  intro p l e R s m args below meth c σ D cA A C H locs ls cells slots hc hs hP hS hl
  have hlen := rd_len hq
  have hw := rd_wd_at (σ := σ) (cA := cA) (M := M) hq
  have ek : ((Int32.ofInt i).toNatClampNeg : Int) = i := by rw [rd_clamp h0 (by omega)]; omega
  refine va_iald (a := σ q) (i := Int32.ofInt i) (rest := st.map (rd_pv σ)) C.1 C.2.1 C.2.2.2.2.2.1 hP q 0 hw rfl (rd_in h0 h1 hlen) hd ?_
  show W p l e R s m args below meth c H locs cells slots _ (F0 m (pc + 1) ls (.int (Int32.ofInt (M q ((Int32.ofInt i).toNatClampNeg : Int))) :: st.map (rd_pv σ)))
  rw [ek]
  exact k p l e R s m args below meth c σ D cA A C H locs ls cells slots hc hs hP hS hl
theorem rd_zald {q len : Nat} {i : Int} (hd : decode (rd_cd x) pc = .ok (.baload, 1)) (hq : rd_SH[q]? = some (.inl (2, len))) (h0 : 0 ≤ i) (h1 : i < len) (k : rd_G x (pc + 1) L (rd_i (M q i) :: st) M n Q) : rd_G x pc L (rd_i i :: .ref q :: st) M n Q := by
  intro p l e R s m args below meth c σ D cA A C H locs ls cells slots hc hs hP hS hl
  have hlen := rd_len hq
  have hw := rd_wd_at (σ := σ) (cA := cA) (M := M) hq
  have ek : ((Int32.ofInt i).toNatClampNeg : Int) = i := by rw [rd_clamp h0 (by omega)]; omega
  refine va_zald (a := σ q) (i := Int32.ofInt i) (rest := st.map (rd_pv σ)) C.1 C.2.1 C.2.2.2.2.2.1 hP q 2 hw rfl (rd_in h0 h1 hlen) hd ?_
  show W p l e R s m args below meth c H locs cells slots _ (F0 m (pc + 1) ls (.int (Int32.ofInt (M q ((Int32.ofInt i).toNatClampNeg : Int))) :: st.map (rd_pv σ)))
  rw [ek]
  exact k p l e R s m args below meth c σ D cA A C H locs ls cells slots hc hs hP hS hl
theorem rd_lald {q len : Nat} {i : Int} (hd : decode (rd_cd x) pc = .ok (.laload, 1)) (hq : rd_SH[q]? = some (.inl (1, len))) (h0 : 0 ≤ i) (h1 : i < len) (k : rd_G x (pc + 1) L (rd_l (M q i) :: st) M n Q) : rd_G x pc L (rd_i i :: .ref q :: st) M n Q := by
  intro p l e R s m args below meth c σ D cA A C H locs ls cells slots hc hs hP hS hl
  have hlen := rd_len hq
  have hw := rd_wd_at (σ := σ) (cA := cA) (M := M) hq
  have ek : ((Int32.ofInt i).toNatClampNeg : Int) = i := by rw [rd_clamp h0 (by omega)]; omega
  refine va_lald (a := σ q) (i := Int32.ofInt i) (rest := st.map (rd_pv σ)) C.1 C.2.1 C.2.2.2.2.2.1 hP q 1 hw rfl (rd_in h0 h1 hlen) hd ?_
  show W p l e R s m args below meth c H locs cells slots _ (F0 m (pc + 1) ls (.long (Int64.ofInt (M q ((Int32.ofInt i).toNatClampNeg : Int))) :: st.map (rd_pv σ)))
  rw [ek]
  exact k p l e R s m args below meth c σ D cA A C H locs ls cells slots hc hs hP hS hl
theorem rd_iast {q len : Nat} {i v : Int} (hd : decode (rd_cd x) pc = .ok (.iastore, 1)) (hq : rd_SH[q]? = some (.inl (0, len))) (h0 : 0 ≤ i) (h1 : i < len) (k : rd_G x (pc + 1) L st (rd_up M q i v) n Q) : rd_G x pc L (rd_i v :: rd_i i :: .ref q :: st) M n Q := by
  intro p l e R s m args below meth c σ D cA A C H locs ls cells slots hc hs hP hS hl
  have hlen := rd_len hq
  have hw := rd_wd_at (σ := σ) (cA := cA) (M := M) hq
  have ek : ((Int32.ofInt i).toNatClampNeg : Int) = i := by rw [rd_clamp h0 (by omega)]; omega
  refine va_iast (a := σ q) (i := Int32.ofInt i) (x := Int32.ofInt v) (rest := st.map (rd_pv σ)) C.1 C.2.1 C.2.2.2.2.2.1 hP (rd_D C.2.2.2.2.2.2.1 C.2.2.2.2.2.2.2.1) hS q 0 hw rfl (rd_in h0 h1 hlen) hd (fun H1 locs1 hP1 hD1 hS1 => ?_)
  refine k p l e R s m args below meth c σ D cA A C H1 locs1 ls cells slots hc hs ?_ hS1 hl
  rw [← rd_wd_set (i := i) (v := v) hq rfl]
  refine (congrArg (fun z => va_P D rd_CL ((rd_wd σ cA M).set q (σ q, z)) H1) ?_).mpr hP1
  have ef : (fun j : Nat => Int32.ofInt (rd_up M q i v q (j : Int))) = upd (fun j : Nat => Int32.ofInt (M q (j : Int))) (Int32.ofInt i).toNatClampNeg (Int32.ofInt v) := by
    funext j
    simp only [rd_up_same, upd]
    by_cases hj : (j : Int) = i
    · have hj' : j = (Int32.ofInt i).toNatClampNeg := by omega
      rw [if_pos hj, if_pos hj']
    · have hj' : ¬ j = (Int32.ofInt i).toNatClampNeg := by omega
      rw [if_neg hj, if_neg hj']
  exact congrArg (fun f => (Sum.inl (cA 0, len, Sum.inl f) : va_E)) ef
theorem rd_zast {q len : Nat} {i v : Int} (hd : decode (rd_cd x) pc = .ok (.bastore, 1)) (hq : rd_SH[q]? = some (.inl (2, len))) (h0 : 0 ≤ i) (h1 : i < len) (hv : v = 0 ∨ v = 1) (k : rd_G x (pc + 1) L st (rd_up M q i v) n Q) : rd_G x pc L (rd_i v :: rd_i i :: .ref q :: st) M n Q := by
  intro p l e R s m args below meth c σ D cA A C H locs ls cells slots hc hs hP hS hl
  have hlen := rd_len hq
  have hw := rd_wd_at (σ := σ) (cA := cA) (M := M) hq
  have ek : ((Int32.ofInt i).toNatClampNeg : Int) = i := by rw [rd_clamp h0 (by omega)]; omega
  refine va_zast (a := σ q) (i := Int32.ofInt i) (x := Int32.ofInt v) (rest := st.map (rd_pv σ)) C.1 C.2.1 C.2.2.2.2.2.1 hP (rd_D C.2.2.2.2.2.2.1 C.2.2.2.2.2.2.2.1) hS q 2 hw rfl (rd_in h0 h1 hlen) hd (fun H1 locs1 hP1 hD1 hS1 => ?_)
  refine k p l e R s m args below meth c σ D cA A C H1 locs1 ls cells slots hc hs ?_ hS1 hl
  rw [← rd_wd_set (i := i) (v := v) hq rfl]
  refine (congrArg (fun z => va_P D rd_CL ((rd_wd σ cA M).set q (σ q, z)) H1) ?_).mpr hP1
  have ef : (fun j : Nat => Int32.ofInt (rd_up M q i v q (j : Int))) = upd (fun j : Nat => Int32.ofInt (M q (j : Int))) (Int32.ofInt i).toNatClampNeg (vp_nar .boolean (Int32.ofInt v)) := by
    funext j
    simp only [rd_up_same, upd]
    by_cases hj : (j : Int) = i
    · have hj' : j = (Int32.ofInt i).toNatClampNeg := by omega
      rw [if_pos hj, if_pos hj']; rcases hv with rfl | rfl <;> rfl
    · have hj' : ¬ j = (Int32.ofInt i).toNatClampNeg := by omega
      rw [if_neg hj, if_neg hj']
  exact congrArg (fun f => (Sum.inl (cA 2, len, Sum.inl f) : va_E)) ef
theorem rd_last {q len : Nat} {i v : Int} (hd : decode (rd_cd x) pc = .ok (.lastore, 1)) (hq : rd_SH[q]? = some (.inl (1, len))) (h0 : 0 ≤ i) (h1 : i < len) (k : rd_G x (pc + 1) L st (rd_up M q i v) n Q) : rd_G x pc L (rd_l v :: rd_i i :: .ref q :: st) M n Q := by
  intro p l e R s m args below meth c σ D cA A C H locs ls cells slots hc hs hP hS hl
  have hlen := rd_len hq
  have hw := rd_wd_at (σ := σ) (cA := cA) (M := M) hq
  have ek : ((Int32.ofInt i).toNatClampNeg : Int) = i := by rw [rd_clamp h0 (by omega)]; omega
  refine va_last (a := σ q) (i := Int32.ofInt i) (x := Int64.ofInt v) (rest := st.map (rd_pv σ)) C.1 C.2.1 C.2.2.2.2.2.1 hP (rd_D C.2.2.2.2.2.2.1 C.2.2.2.2.2.2.2.1) hS q 1 hw rfl (rd_in h0 h1 hlen) hd (fun H1 locs1 hP1 hD1 hS1 => ?_)
  refine k p l e R s m args below meth c σ D cA A C H1 locs1 ls cells slots hc hs ?_ hS1 hl
  rw [← rd_wd_set (i := i) (v := v) hq rfl]
  refine (congrArg (fun z => va_P D rd_CL ((rd_wd σ cA M).set q (σ q, z)) H1) ?_).mpr hP1
  have ef : (fun j : Nat => Int64.ofInt (rd_up M q i v q (j : Int))) = vp_updL (fun j : Nat => Int64.ofInt (M q (j : Int))) (Int32.ofInt i).toNatClampNeg (Int64.ofInt v) := by
    funext j
    simp only [rd_up_same, vp_updL]
    by_cases hj : (j : Int) = i
    · have hj' : j = (Int32.ofInt i).toNatClampNeg := by omega
      rw [if_pos hj, if_pos hj']
    · have hj' : ¬ j = (Int32.ofInt i).toNatClampNeg := by omega
      rw [if_neg hj, if_neg hj']
  exact congrArg (fun f => (Sum.inl (cA 1, len, Sum.inr (Sum.inl f)) : va_E)) ef
theorem rd_alen {q len ety : Nat} (hd : decode (rd_cd x) pc = .ok (.arraylength, 1)) (hq : rd_SH[q]? = some (.inl (ety, len))) (he : ety < 3) (k : rd_G x (pc + 1) L (rd_i len :: st) M n Q) : rd_G x pc L (.ref q :: st) M n Q := by
  intro p l e R s m args below meth c σ D cA A C H locs ls cells slots hc hs hP hS hl
  have hw := rd_wd_at (σ := σ) (cA := cA) (M := M) hq
  have k := k p l e R s m args below meth c σ D cA A C H locs ls cells slots hc hs hP hS hl
  rcases (show ety = 0 ∨ ety = 1 ∨ ety = 2 by omega) with rfl | rfl | rfl
  · exact va_alen (a := σ q) (v := Int32.ofInt len) (rest := st.map (rd_pv σ)) C.1 C.2.1 C.2.2.2.2.2.1 hP q 0 hw rfl Int32.ofInt_eq_ofNat.symm hd k
  · exact va_alen (a := σ q) (v := Int32.ofInt len) (rest := st.map (rd_pv σ)) C.1 C.2.1 C.2.2.2.2.2.1 hP q 1 hw rfl Int32.ofInt_eq_ofNat.symm hd k
  · exact va_alen (a := σ q) (v := Int32.ofInt len) (rest := st.map (rd_pv σ)) C.1 C.2.1 C.2.2.2.2.2.1 hP q 2 hw rfl Int32.ofInt_eq_ofNat.symm hd k
theorem rd_sld {Ls : Nat} {xs : Int → Int} {i : Int} (hd : decode (rd_cd x) pc = .ok (.iaload, 1)) (hx : rd_sc x = some (Ls, xs)) (h0 : 0 ≤ i) (h1 : i < Ls) (k : rd_G x (pc + 1) L (rd_i (xs i) :: st) M n Q) : rd_G x pc L (rd_i i :: .ref 999 :: st) M n Q := by
  intro p l e R s m args below meth c σ D cA A C H locs ls cells slots hc hs hP hS hl
  obtain ⟨g1, g2, g3, g4⟩ := C.2.2.2.2.2.2.2.2.2.2.2.2.2.2 Ls xs hx
  have ek : ((Int32.ofInt i).toNatClampNeg : Int) = i := by rw [rd_clamp h0 (by omega)]; omega
  refine va_sld (i := Int32.ofInt i) (rest := st.map (rd_pv σ)) C.1 C.2.1 g1 g2 g3 hS (rd_in h0 h1 g4) hd ?_
  show W p l e R s m args below meth c H locs cells slots _ (F0 m (pc + 1) ls (.int (Int32.ofInt (xs ((Int32.ofInt i).toNatClampNeg : Int))) :: st.map (rd_pv σ)))
  rw [ek]
  exact k p l e R s m args below meth c σ D cA A C H locs ls cells slots hc hs hP hS hl
theorem rd_slen {Ls : Nat} {xs : Int → Int} (hd : decode (rd_cd x) pc = .ok (.arraylength, 1)) (hx : rd_sc x = some (Ls, xs)) (k : rd_G x (pc + 1) L (rd_i Ls :: st) M n Q) : rd_G x pc L (.ref 999 :: st) M n Q := by
  intro p l e R s m args below meth c σ D cA A C H locs ls cells slots hc hs hP hS hl
  obtain ⟨g1, g2, g3, g4⟩ := C.2.2.2.2.2.2.2.2.2.2.2.2.2.2 Ls xs hx
  refine va_slen (rest := st.map (rd_pv σ)) C.1 C.2.1 g1 g2 g3 hS hd ?_
  rw [← Int32.ofInt_eq_ofNat]
  exact k p l e R s m args below meth c σ D cA A C H locs ls cells slots hc hs hP hS hl
end RdRules
end
section
/-! returns, fields, calls -/
section RdEnds
variable {x : rd_X} {pc : Nat} {L : List (Option Value)} {st : List Value} {M : rd_M} {n : Nat} {Q : rd_R → rd_M → Prop}
theorem rd_iret {a : Int} (hd : decode (rd_cd x) pc = .ok (.ireturn, 1)) (hr : rd_rt x = some .int) (hn : n ≤ rd_cp x) (hQ : Q (.inl (some (rd_i a))) M) : rd_G x pc L [rd_i a] M n Q := by
  intro p l e R s m args below meth c σ D cA A C H locs ls cells slots hc hs hP hS hl
  obtain ⟨hx, hb, hml, hown, hts, hK, hj, hA, hAs, hrm, hrt, hlk, htb, hXF, hSC⟩ := C
  refine W.widen (k := rd_cp x * rd_KC) (n := rd_cp x * rd_KS) (Nat.le_trans hc (Nat.mul_le_mul_right _ hn)) (Nat.le_trans hs (Nat.mul_le_mul_right _ hn)) ?_
  intro T hT X
  obtain ⟨t, a1, o, b1, b2, ⟨b3, b4, b5⟩, Lc, ⟨-, b6, b7⟩, b8⟩ := W.iret (v := Int32.ofInt a) (Qc := fun _ _ o t => o = .returned (some (rd_i a)) ∧ t.heap = H ∧ s.WarmedH t.vm) (free := A) hx hb (hrt.trans hr) (fun t ht hW => ⟨rfl, ht, hW⟩) hS.2.2 (ls := ls) hd hlk T hT X
  exact ⟨t, a1, o, .inl (some (rd_i a)), M, b1, b2, b3, hQ, by rw [b4]; exact hP, Lc, b6, b7, b8, hS.F b4⟩
theorem rd_lret {a : Int} (hd : decode (rd_cd x) pc = .ok (.lreturn, 1)) (hr : rd_rt x = some .long) (hn : n ≤ rd_cp x) (hQ : Q (.inl (some (rd_l a))) M) : rd_G x pc L [rd_l a] M n Q := by
  intro p l e R s m args below meth c σ D cA A C H locs ls cells slots hc hs hP hS hl
  obtain ⟨hx, hb, hml, hown, hts, hK, hj, hA, hAs, hrm, hrt, hlk, htb, hXF, hSC⟩ := C
  refine W.widen (k := rd_cp x * rd_KC) (n := rd_cp x * rd_KS) (Nat.le_trans hc (Nat.mul_le_mul_right _ hn)) (Nat.le_trans hs (Nat.mul_le_mul_right _ hn)) ?_
  intro T hT X
  obtain ⟨t, a1, o, b1, b2, ⟨b3, b4, b5⟩, Lc, ⟨-, b6, b7⟩, b8⟩ := W.lret (v := Int64.ofInt a) (Qc := fun _ _ o t => o = .returned (some (rd_l a)) ∧ t.heap = H ∧ s.WarmedH t.vm) (free := A) hx hb (hrt.trans hr) (fun t ht hW => ⟨rfl, ht, hW⟩) hS.2.2 (ls := ls) hd hlk T hT X
  exact ⟨t, a1, o, .inl (some (rd_l a)), M, b1, b2, b3, hQ, by rw [b4]; exact hP, Lc, b6, b7, b8, hS.F b4⟩
theorem rd_zret {a : Int} (hd : decode (rd_cd x) pc = .ok (.ireturn, 1)) (hr : rd_rt x = some .boolean) (hn : n ≤ rd_cp x) (hz : a = 0 ∨ a = 1) (hQ : Q (.inl (some (rd_i a))) M) : rd_G x pc L [rd_i a] M n Q := by
  intro p l e R s m args below meth c σ D cA A C H locs ls cells slots hc hs hP hS hl
  obtain ⟨hx, hb, hml, hown, hts, hK, hj, hA, hAs, hrm, hrt, hlk, htb, hXF, hSC⟩ := C
  refine W.widen (k := rd_cp x * rd_KC) (n := rd_cp x * rd_KS) (Nat.le_trans hc (Nat.mul_le_mul_right _ hn)) (Nat.le_trans hs (Nat.mul_le_mul_right _ hn)) ?_
  intro T hT X
  obtain ⟨t, a1, o, b1, b2, ⟨b3, b4, b5⟩, Lc, ⟨-, b6, b7⟩, b8⟩ := W.zret (v := Int32.ofInt a) (Qc := fun _ _ o t => o = .returned (some (rd_i a)) ∧ t.heap = H ∧ s.WarmedH t.vm) (free := A) hx hb (hrt.trans hr) (by rcases hz with rfl | rfl <;> rfl) (fun t ht hW => ⟨rfl, ht, hW⟩) hS.2.2 (ls := ls) hd hlk T hT X
  exact ⟨t, a1, o, .inl (some (rd_i a)), M, b1, b2, b3, hQ, by rw [b4]; exact hP, Lc, b6, b7, b8, hS.F b4⟩
theorem rd_vret (hd : decode (rd_cd x) pc = .ok (.return_, 1)) (hr : rd_rt x = none) (hn : n ≤ rd_cp x) (hQ : Q (.inl none) M) : rd_G x pc L [] M n Q := by
  intro p l e R s m args below meth c σ D cA A C H locs ls cells slots hc hs hP hS hl
  obtain ⟨hx, hb, hml, hown, hts, hK, hj, hA, hAs, hrm, hrt, hlk, htb, hXF, hSC⟩ := C
  refine W.widen (k := rd_cp x * rd_KC) (n := rd_cp x * rd_KS) (Nat.le_trans hc (Nat.mul_le_mul_right _ hn)) (Nat.le_trans hs (Nat.mul_le_mul_right _ hn)) ?_
  intro T hT X
  obtain ⟨t, a1, o, b1, b2, ⟨b3, b4, b5⟩, Lc, ⟨-, b6, b7⟩, b8⟩ := W.vret (Qc := fun _ _ o t => o = .returned none ∧ t.heap = H ∧ s.WarmedH t.vm) (free := A) hx hb (hrt.trans hr) (fun t ht hW => ⟨rfl, ht, hW⟩) hS.2.2 (ls := ls) hd hlk T hT X
  exact ⟨t, a1, o, .inl none, M, b1, b2, b3, hQ, by rw [b4]; exact hP, Lc, b6, b7, b8, hS.F b4⟩
/-- a field's entry in a class's pool -/
def rd_fl (own : String) (ix ci k : Nat) : Prop := ∃ (C : String) (T : u_T) (N : Nat), rd_CL[ci]? = some (C, T, N) ∧ k < N ∧ (∀ w ∈ u_ws C T N, w ∈ rd_ws) ∧ (Cond.fieldLink own ix (T k).1 (T k).2.1 (T k).2.2.1 ∈ rd_ws)
theorem rd_get {ix ci k q : Nat} {fs : List (Nat ⊕ Nat)} {f : Nat ⊕ Nat} {v : Value} (hd : decode (rd_cd x) pc = .ok (.getfield ix, 3)) (hf : rd_fl (rd_nm x).cls ix ci k) (hq : rd_SH[q]? = some (.inr (ci, fs))) (hk : fs[k]? = some f) (hv : ∀ σ, rd_fv σ (M q) k f = rd_pv σ v) (kk : rd_G x (pc + 3) L (v :: st) M n Q) : rd_G x pc L (.ref q :: st) M n Q := by
  intro p l e R s m args below meth c σ D cA A C H locs ls cells slots hc hs hP hS hl
  obtain ⟨C9, T, N, h1, h2, h3, h4⟩ := hf
  refine va_get (a := σ q) (v := rd_pv σ v) (rest := st.map (rd_pv σ)) C.1 C.2.1 C.2.2.2.2.1 h3 C.2.2.2.1 C.2.2.2.2.2.1 hP q (rd_wd_at (σ := σ) (cA := cA) (M := M) hq) h1 k h2 (C.2.2.2.2.1 _ h4) (fun _ h => h) ?_ hd (kk p l e R s m args below meth c σ D cA A C H locs ls cells slots hc hs hP hS hl)
  rw [List.getElem?_mapIdx, hk, ← hv σ]; rfl
theorem rd_getr {ix ci k q q' : Nat} {fs : List (Nat ⊕ Nat)} (hd : decode (rd_cd x) pc = .ok (.getfield ix, 3)) (hf : rd_fl (rd_nm x).cls ix ci k) (hq : rd_SH[q]? = some (.inr (ci, fs))) (hk : fs[k]? = some (.inl q')) (kk : rd_G x (pc + 3) L (.ref q' :: st) M n Q) : rd_G x pc L (.ref q :: st) M n Q := rd_get hd hf hq hk (fun _ => rfl) kk
theorem rd_geti {ix ci k q : Nat} {fs : List (Nat ⊕ Nat)} (hd : decode (rd_cd x) pc = .ok (.getfield ix, 3)) (hf : rd_fl (rd_nm x).cls ix ci k) (hq : rd_SH[q]? = some (.inr (ci, fs))) (hk : fs[k]? = some (.inr 0)) (kk : rd_G x (pc + 3) L (rd_i (M q k) :: st) M n Q) : rd_G x pc L (.ref q :: st) M n Q := rd_get hd hf hq hk (fun _ => rfl) kk
theorem rd_getl {ix ci k q : Nat} {fs : List (Nat ⊕ Nat)} (hd : decode (rd_cd x) pc = .ok (.getfield ix, 3)) (hf : rd_fl (rd_nm x).cls ix ci k) (hq : rd_SH[q]? = some (.inr (ci, fs))) (hk : fs[k]? = some (.inr 1)) (kk : rd_G x (pc + 3) L (rd_l (M q k) :: st) M n Q) : rd_G x pc L (.ref q :: st) M n Q := rd_get hd hf hq hk (fun _ => rfl) kk
/-- a field that may be written -/
def rd_fp (ci k : Nat) (ty : FieldType) : Prop := ∃ (C : String) (T : u_T) (N : Nat) (ty0 : Nat → FieldType), rd_CL[ci]? = some (C, T, N) ∧ k < N ∧ (∀ k, k < N → parseFieldDescriptor (T k).2.2.1 = some (ty0 k)) ∧ (∀ a, a < N → ∀ b, b < N → a ≠ b → (T a).2.1 ≠ (T b).2.1) ∧ (T k).2.2.2 = false ∧ parseFieldDescriptor (T k).2.2.1 = some ty
theorem rd_put {ix ci k q t9 : Nat} {fs : List (Nat ⊕ Nat)} {a : Int} {v : Value} {ty : FieldType} (hd : decode (rd_cd x) pc = .ok (.putfield ix, 3)) (hf : rd_fl (rd_nm x).cls ix ci k) (hp : rd_fp ci k ty) (hq : rd_SH[q]? = some (.inr (ci, fs))) (hk : fs[k]? = some (.inr t9)) (hv : ∀ σ, rd_fv σ (fun _ => a) k (.inr t9) = v) (hv2 : ∀ σ, rd_pv σ v = v) (hn9 : narrow ty v = v) (hfit : fits ty v = true) (kk : rd_G x (pc + 3) L st (rd_up M q k a) n Q) : rd_G x pc L (v :: .ref q :: st) M n Q := by
  intro p l e R s m args below meth c σ D cA A C H locs ls cells slots hc hs hP hS hl
  obtain ⟨C9, T, N, h1, h2, h3, h4⟩ := hf
  obtain ⟨C8, T8, N8, ty0, g1, g2, g3, g4, g5, g6⟩ := hp
  cases h1.symm.trans g1
  have hl9 : k < (fs.mapIdx (fun j f => rd_fv σ (M q) j f)).length := by simpa using (List.getElem?_eq_some_iff.mp hk).1
  show W p l e R s m args below meth c H locs cells slots _ (F0 m pc ls (rd_pv σ v :: .ref (σ q) :: st.map (rd_pv σ)))
  rw [hv2 σ]
  refine va_put (a := σ q) (v := v) (rest := st.map (rd_pv σ)) C.1 C.2.1 C.2.2.2.2.1 h3 ty0 g3 g4 C.2.2.2.1 C.2.2.2.2.2.1 hP (rd_D C.2.2.2.2.2.2.1 C.2.2.2.2.2.2.2.1) hS q (rd_wd_at (σ := σ) (cA := cA) (M := M) hq) h1 k h2 (C.2.2.2.2.1 _ h4) (fun _ h => h) g5 g6 hn9 hfit hl9 hd (fun H1 locs1 hP1 hD1 hS1 => ?_)
  refine kk p l e R s m args below meth c σ D cA A C H1 locs1 ls cells slots hc hs ?_ hS1 hl
  rw [← rd_wd_set (i := (k : Int)) (v := a) hq rfl]
  refine (congrArg (fun z => va_P D rd_CL ((rd_wd σ cA M).set q (σ q, z)) H1) ?_).mpr hP1
  refine congrArg (fun z => (Sum.inr (ci, z) : va_E)) ?_
  apply List.ext_getElem?
  intro j
  by_cases hj : j = k
  · subst hj
    rw [List.getElem?_set_self hl9, List.getElem?_mapIdx, hk]
    have h9 := hv σ
    simp only [Option.map_some, Option.some.injEq]
    rw [← h9]
    cases t9 with
    | zero => simp [rd_fv, rd_up]
    | succ t9 => simp [rd_fv, rd_up]
  · rw [List.getElem?_set_ne (Ne.symm hj), List.getElem?_mapIdx, List.getElem?_mapIdx]
    have hj' : ¬ ((j : Int) = (k : Int)) := by omega
    cases fs[j]? with
    | none => rfl
    | some f =>
      rcases f with f | f
      · rfl
      · cases f with
        | zero => simp [rd_fv, rd_up, hj']
        | succ f => simp [rd_fv, rd_up, hj']
theorem rd_puti {ix ci k q : Nat} {fs : List (Nat ⊕ Nat)} {a : Int} (hd : decode (rd_cd x) pc = .ok (.putfield ix, 3)) (hf : rd_fl (rd_nm x).cls ix ci k) (hp : rd_fp ci k .int) (hq : rd_SH[q]? = some (.inr (ci, fs))) (hk : fs[k]? = some (.inr 0)) (kk : rd_G x (pc + 3) L st (rd_up M q k a) n Q) : rd_G x pc L (rd_i a :: .ref q :: st) M n Q := rd_put hd hf hp hq hk (fun _ => rfl) (fun _ => rfl) rfl rfl kk
theorem rd_putl {ix ci k q : Nat} {fs : List (Nat ⊕ Nat)} {a : Int} (hd : decode (rd_cd x) pc = .ok (.putfield ix, 3)) (hf : rd_fl (rd_nm x).cls ix ci k) (hp : rd_fp ci k .long) (hq : rd_SH[q]? = some (.inr (ci, fs))) (hk : fs[k]? = some (.inr 1)) (kk : rd_G x (pc + 3) L st (rd_up M q k a) n Q) : rd_G x pc L (rd_l a :: .ref q :: st) M n Q := rd_put hd hf hp hq hk (fun _ => rfl) (fun _ => rfl) rfl rfl kk
end RdEnds
/-! calls -/
/-- the locals at a method's start -/
def rd_en : List Value → List (Option Value)
  | [] => []
  | .long v :: r => some (.long v) :: none :: rd_en r
  | .double v :: r => some (.double v) :: none :: rd_en r
  | v :: r => some v :: rd_en r
theorem rd_en_mem {σ : Nat → Nat} : ∀ (As : List Value) (i j : Nat) (w : Value), (rd_en As)[j]? = some (some w) → (i + j, rd_pv σ w) ∈ lv_args i (As.map (rd_pv σ))
  | [], i, j, w, h => by simp [rd_en] at h
  | v :: r, i, j, w, h => by
    have one : ∀ (u : Value), u.category = 1 → (some u :: rd_en r)[j]? = some (some w) → (i + j, rd_pv σ w) ∈ lv_args i ((u :: r).map (rd_pv σ)) := by
      intro u hu h
      cases j with
      | zero =>
        have h : u = w := by simpa using h
        subst h
        exact List.mem_cons_self
      | succ j =>
        have h1 := rd_en_mem (σ := σ) r (i + 1) j w (by simpa using h)
        rw [show i + 1 + j = i + (j + 1) by omega] at h1
        refine List.mem_cons_of_mem _ ?_
        show _ ∈ lv_args (if (rd_pv σ u).category = 2 then i + 2 else i + 1) _
        rw [rd_cat, hu, if_neg (by decide)]
        exact h1
    have two : ∀ (u : Value), u.category = 2 → (some u :: none :: rd_en r)[j]? = some (some w) → (i + j, rd_pv σ w) ∈ lv_args i ((u :: r).map (rd_pv σ)) := by
      intro u hu h
      cases j with
      | zero =>
        have h : u = w := by simpa using h
        subst h
        exact List.mem_cons_self
      | succ j =>
        cases j with
        | zero => simp at h
        | succ j =>
          have h1 := rd_en_mem (σ := σ) r (i + 2) j w (by simpa using h)
          rw [show i + 2 + j = i + (j + 1 + 1) by omega] at h1
          refine List.mem_cons_of_mem _ ?_
          show _ ∈ lv_args (if (rd_pv σ u).category = 2 then i + 2 else i + 1) _
          rw [rd_cat, hu, if_pos rfl]
          exact h1
    cases v <;> first | exact two _ rfl h | exact one _ rfl h
theorem rd_sl {σ : Nat → Nat} : ∀ As : List Value, (lg_sl (As.map (rd_pv σ))).length = (rd_en As).length
  | [] => rfl
  | v :: r => by
    have ih := rd_sl (σ := σ) r
    have e : lg_sl ((v :: r).map (rd_pv σ)) = (if (rd_pv σ v).category = 2 then [.val (rd_pv σ v), .second] else [.val (rd_pv σ v)]) ++ lg_sl (r.map (rd_pv σ)) := by simp [lg_sl]
    rw [e, List.length_append, ih]
    cases v <;> simp [rd_pv, rd_en, Value.category] <;> omega
def rd_ep (n : Nat) (As : List Value) : List (Option Value) := rd_en As ++ List.replicate (n - (rd_en As).length) none
theorem rd_ep_at {n : Nat} {As : List Value} {i : Nat} {v : Value} (h : (rd_ep n As)[i]? = some (some v)) : (rd_en As)[i]? = some (some v) := by
  unfold rd_ep at h
  by_cases hi : i < (rd_en As).length
  · rw [List.getElem?_append_left hi] at h; exact h
  · rw [List.getElem?_append_right (by omega), List.getElem?_replicate] at h
    split at h <;> simp at h
/-- the cells that a callee may change -/
def rd_A (σ : Nat → Nat) (sz : Nat) (q : Nat) : Prop := (∃ i, i < rd_SH.length ∧ q = σ i) ∨ sz ≤ q
theorem rd_vm {D : va_G} {σ : Nat → Nat} {cA : Nat → ClassId} {M : rd_M} {H : Heap} (hP : va_P D rd_CL (rd_wd σ cA M) H) {i : Nat} (hi : i < rd_SH.length) {ce : Cell} (hc : H[σ i]? = some ce) : ce.vm = .none := by
  have h1 : rd_SH[i]? = some rd_SH[i] := List.getElem?_eq_getElem hi
  have h2 := hP i _ (rd_wd_at (σ := σ) (cA := cA) (M := M) h1)
  generalize rd_SH[i] = c at h2
  rcases c with ⟨t, n⟩ | ⟨k, fs⟩
  · have h3 : ∀ (a : vp_A) (cc : ClassId), H[σ i]? = some (vp_cell cc a) → ce.vm = .none := by
      intro a cc h
      rw [hc] at h
      cases h
      obtain ⟨n, f | f | f | f | f⟩ := a <;> rfl
    match t with
    | 0 => exact h3 _ _ h2
    | 1 => exact h3 _ _ h2
    | t + 2 => exact h3 _ _ h2
  · obtain ⟨r, -, cell, q1, -, q3, -⟩ := h2
    rw [hc] at q1
    cases q1
    exact q3
theorem rd_XF_moved {l : Launch} {s T' : State} {A : Nat → Prop} {H : Heap} {locs : List Loc} {D : va_G} {σ : Nat → Nat} {cA : Nat → ClassId} {M : rd_M} (h : rd_XF l s A) (hW : s.WarmedH T'.vm) (hh : T'.heap = H) (hS : va_S A s.heap H locs) (hP : va_P D rd_CL (rd_wd σ cA M) H) (hA : ∀ i, i < rd_SH.length → A (σ i)) (hAh : ∀ q, s.heap.size ≤ q → A q) : rd_XF l T' (rd_A σ H.size) := by
  obtain ⟨h1, h2, h3, h4, h5, h6⟩ := h
  have hAA : ∀ q, rd_A σ H.size q → A q := fun q hq => by
    rcases hq with ⟨i, hi, rfl⟩ | hq
    · exact hA i hi
    · exact hAh q (Nat.le_trans hS.1 hq)
  refine ⟨h1, ?_, ?_, ?_, fun q hq => ?_, h6.moved hW.alike⟩
  · rw [hh]; exact ((h2.kept hS.2.1).moved hW.alike).narrow hAA
  · rw [hh]; exact ((h3.kept hS.2.1).moved hW.alike).narrow hAA
  · intro a ce hc hst hq
    rw [hh] at hc
    rcases hq with ⟨i, hi, rfl⟩ | hq
    · rw [rd_vm hP hi hc] at hst
      cases hst
    · have := (Array.getElem?_eq_some_iff.mp hc).1
      omega
  · obtain ⟨sa, hsa⟩ := h5 q hq
    exact ⟨sa, vk_R.warm hW hsa⟩
/-- what a callee needs of the words -/
def rd_ok (y : rd_X) : Prop := rd_sc y = none ∧ plainFor (rd_nm y) = true ∧ Cond.initialized (rd_nm y).cls ∈ rd_ws ∧ ((Cond.code (rd_nm y) (rd_cd y) (rd_ml y) (rd_rt y) ∈ rd_ws ∧ rd_hs y = []) ∨ Cond.codeWith (rd_nm y) (rd_cd y) (rd_ml y) (rd_rt y) (rd_hs y) ∈ rd_ws)
theorem rd_ok_code {y : rd_X} (h : rd_ok y) {args : Array Value} {s : State} (hts : ∀ w ∈ rd_ws, w.before args s = true) : ∃ (mk : MethodId) (meth : Method) (c : Code), s.methodNamed? (rd_nm y) = some mk ∧ s.vm.method? mk = some meth ∧ meth.code = some c ∧ c.code = rd_cd y ∧ c.maxLocals = rd_ml y ∧ meth.sig.returnType = rd_rt y ∧ meth.locks = false ∧ c.exceptionTable.toList = tableOf (rd_hs y) ∧ parseMethodDescriptor (rd_nm y).desc = some meth.sig := by
  rcases h.2.2.2 with ⟨hc, he⟩ | hc
  · obtain ⟨mk, hn⟩ := Cond.code_named (hts _ hc)
    obtain ⟨meth, c, h1, h2, h3, h4, h5, h6, h7, h8⟩ := Cond.code_spec hn (hts _ hc)
    refine ⟨mk, meth, c, hn, h1, h2, h3, h4, h5, h6, ?_, h8⟩
    rw [he]
    have h9 : c.exceptionTable = #[] := by simpa using h7
    rw [h9]; rfl
  · obtain ⟨mk, meth, c, hn, h1, h2, h3, h4, h5, h6, h7, h8⟩ := Cond.codeWith_spec (hts _ hc)
    exact ⟨mk, meth, c, hn, h1, h2, h3, h4, h6, h7, by rw [← h5]; exact (table_eq _).symm, h8⟩
theorem rd_words {args a' : Array Value} {s U : State} (hts : ∀ w ∈ rd_ws, w.before args s = true) (hU : s.WarmedH U.vm) : ∀ w ∈ rd_ws, w.before a' U = true :=
  fun w hw => word_at hU (good_of_word (rd_good w hw)) (hts w hw)
theorem rd_weakS {tb : Tables} {e : Env} {g : Frame} {below : List Frame} {a b : State} (h : Steps tb e (g :: below) a b) : Steps tb e below a b := by
  obtain ⟨n, h1, h2⟩ := h
  exact ⟨n, h1, fun k hk => (show Within _ ([g] ++ below) from h2 k hk).weaken⟩
section RdRun
variable {p : Program} {l : Launch} {e : Env} {R : Room} {s : State} {m : MethodId} {args : Array Value} {below : List Frame} {meth : Method} {c : Code} {T : State} {locs : List Loc} {cells slots : Nat} {σ : Nat → Nat} {D : va_G} {cA : Nat → ClassId} {A : Nat → Prop}
theorem rd_run {x y : rd_X} {M : rd_M} {n : Nat} {Qy : rd_R → rd_M → Prop} {As : List Value} {g : JFrame} {ig : Instr} {len : Nat} {mk : MethodId}
    (X : Stand p l e R s m args below meth c T locs cells slots) (C : rd_Cx x p l e R s m args meth c σ D cA A)
    (hg : g.method = m) (hsize : g.locals.size = c.maxLocals) (hdg : decode c.code g.pc = .ok (ig, len)) (hW : 2 * g.monitorRoom + (g.stack.map fun v => v.category).sum ≤ 8)
    (hok : rd_ok y) (hdp : rd_dp y + 1 ≤ rd_dp x) (hlb : 19 + rd_ml y + rd_lb y ≤ rd_lb x) (hcn : cells ≤ n * rd_KC) (hsn : slots ≤ n * rd_KS) (hcp : n + rd_cp y ≤ rd_cp x)
    (hnamed : T.methodNamed? (rd_nm y) = some mk) (hP : va_P D rd_CL (rd_wd σ cA M) T.heap) (hS : va_S A s.heap T.heap locs) (hAl : (rd_en As).length ≤ rd_ml y)
    (k : rd_G y 0 (rd_ep (rd_ml y) As) [] M 0 Qy) :
    ∃ t, Steps p.tables e below (doInvoke e (T.setTop g) [] mk (As.map (rd_pv σ)).toArray).1 t ∧ rd_E y (.java g :: below) (T.calling g mk (As.map (rd_pv σ)).toArray) σ D cA (rd_A σ T.heap.size) Qy t := by
  obtain ⟨hx, hb, hmx, hown, hts, hK, hj, hA, hAh, ⟨r1, r2, r3, r4⟩, hrt, hlk, htb, hXF, hSC⟩ := C
  have hwT : ∀ w ∈ rd_ws, w.before (As.map (rd_pv σ)).toArray T = true := rd_words hts X.warmed
  obtain ⟨mk9, methk, ck, hn9, hmk, hck, hcode, hmlk, hret, hlocks, htab, hsig⟩ := rd_ok_code hok hwT
  cases hn9.symm.trans hnamed
  have hpk : T.plainMethod mk := State.plainMethod.of_named (s := T) hok.2.1 hnamed hmk
  have hC1 : cells + rd_cp y * rd_KC ≤ R.cells := by
    have h1 : (n + rd_cp y) * rd_KC ≤ rd_cp x * rd_KC := Nat.mul_le_mul_right _ hcp
    rw [Nat.add_mul] at h1
    omega
  have hS1 : slots + rd_cp y * rd_KS ≤ R.slots := by
    have h1 : (n + rd_cp y) * rd_KS ≤ rd_cp x * rd_KS := Nat.mul_le_mul_right _ hcp
    rw [Nat.add_mul] at h1
    omega
  obtain ⟨Y, hin⟩ := X.into hg hsize hdg (As.map (rd_pv σ)).toArray (R' := { frames := rd_dp y, cells := rd_cp y * rd_KC, slots := rd_cp y * rd_KS, locals := rd_lb y }) hmk hck hlocks hpk (by show rd_dp y + 1 ≤ R.frames; omega) (by show _ + (ck.maxLocals + 11) + rd_lb y ≤ R.locals; rw [hmlk]; omega) hC1 hS1
  have hent : entryFrame mk (As.map (rd_pv σ)).toArray ck.maxLocals = F0 mk 0 ((lg_sl (As.map (rd_pv σ)) ++ List.replicate (rd_ml y - (lg_sl (As.map (rd_pv σ))).length) Slot.unset).toArray) [] := by
    rw [hmlk]; exact lg_entry_eq ..
  have hl0 := lv_entry (As.map (rd_pv σ)) (n := rd_ml y) (by rw [rd_sl]; exact hAl)
  have hl : rd_L σ ((lg_sl (As.map (rd_pv σ)) ++ List.replicate (rd_ml y - (lg_sl (As.map (rd_pv σ))).length) Slot.unset).toArray) (rd_ml y) (rd_ep (rd_ml y) As) :=
    ⟨hl0.1, hl0.2.1, by simp [rd_ep]; omega, fun i v hv => by
      have h1 := rd_en_mem (σ := σ) As 0 i v (rd_ep_at hv)
      rw [Nat.zero_add] at h1
      exact hl0.2.2 _ h1⟩
  have Cy : rd_Cx y p l e { frames := rd_dp y, cells := rd_cp y * rd_KC, slots := rd_cp y * rd_KS, locals := rd_lb y } (T.calling g mk (As.map (rd_pv σ)).toArray) mk (As.map (rd_pv σ)).toArray methk ck σ D cA (rd_A σ T.heap.size) :=
    ⟨hx, hcode, hmlk, findClass_of_methodNamed (s := T) hnamed, rd_words (U := T.calling g mk (As.map (rd_pv σ)).toArray) hts X.warmed, va_K.moved (U := T.calling g mk (As.map (rd_pv σ)).toArray) X.warmed.alike hK, hj, fun i hi => Or.inl ⟨i, hi, rfl⟩, fun q hq => Or.inr hq, ⟨Nat.le_refl _, Nat.le_refl _, Nat.le_refl _, Nat.le_refl _⟩, hret, hlocks, htab, rd_XF_moved (T' := T.calling g mk (As.map (rd_pv σ)).toArray) (M := M) hXF X.warmed rfl hS hP hA hAh, fun Ls xs hsc => by rw [hok.1] at hsc; cases hsc⟩
  obtain ⟨t, hst, hE⟩ := k p l e _ _ mk _ (.java g :: below) methk ck σ D cA _ Cy T.heap [] _ 0 0 (Nat.zero_le _) (Nat.zero_le _) hP va_S.rf hl ((T.setTop g).pushFrame (.java (entryFrame mk (As.map (rd_pv σ)).toArray ck.maxLocals))) rfl Y
  refine ⟨t, ?_, hE⟩
  rw [hin []]
  rw [hent] at *
  exact rd_weakS hst
/-- behind a call that returned -/
theorem rd_back {x y : rd_X} {n : Nat} {Q : rd_R → rd_M → Prop} {M' : rd_M} {pc len : Nat} {L : List (Option Value)} {st : List Value} {ls : Array Slot} {g : JFrame} {ig : Instr} {mk : MethodId} {a : Array Value} {t : State} {v : Option Value} {Lc : List Loc}
    (X : Stand p l e R s m args below meth c T locs cells slots) (C : rd_Cx x p l e R s m args meth c σ D cA A) (hg : g = F0 m pc ls (st.map (rd_pv σ))) (hdg : decode c.code pc = .ok (ig, len)) (hcn : cells ≤ n * rd_KC) (hsn : slots ≤ n * rd_KS) (hS : va_S A s.heap T.heap locs) (hl : rd_L σ ls (rd_ml x) L)
    (hend : Ended t (.java g :: below) (.returned (v.map (rd_pv σ)))) (hP : va_P D rd_CL (rd_wd σ cA M') t.heap) (hW : (T.calling g mk a).WarmedH t.vm) (hsame : (T.calling g mk a).sameButNew ({ t with vm := (T.calling g mk a).vm } : State) Lc (rd_cp y * rd_KC) (rd_cp y * rd_KS)) (hLc : ∀ q ∈ Lc, rd_A σ T.heap.size q.base) (hF : va_F (rd_A σ T.heap.size) (T.calling g mk a) t)
    (k : rd_G x (pc + len) L (v.toList ++ st) M' (n + rd_cp y) Q) : ∃ t2, Steps p.tables e below t t2 ∧ rd_E x below s σ D cA A Q t2 := by
  subst hg
  obtain ⟨T', X', hW', hB, ht⟩ := X.outOf (g := F0 m pc ls (st.map (rd_pv σ))) rfl hdg hend hW hsame
  have hh : T'.heap = t.heap := by rw [ht]; simp
  obtain ⟨hx, hb, hmx, hown, hts, hK, hj, hA, hAh, hrm, hrt, hlk, htb, hXF, hSC⟩ := id C
  have hsz : s.heap.size ≤ T.heap.size := hS.1
  have hAA : ∀ q, rd_A σ T.heap.size q → A q := fun q hq => by
    rcases hq with ⟨i, hi, rfl⟩ | hq
    · exact hA i hi
    · exact hAh q (Nat.le_trans hsz hq)
  have hF2 : T.heap.size ≤ t.heap.size ∧ ∀ q : Nat, q < T.heap.size → ¬ rd_A σ T.heap.size q → t.heap[q]? = T.heap[q]? := hF
  have hS' : va_S A s.heap T'.heap (locs ++ Lc) := ⟨by rw [hh]; exact Nat.le_trans hsz hF2.1, fun q h1 h2 => by
      rw [hh, hF2.2 q (Nat.lt_of_lt_of_le h1 hsz) (fun z => h2 (hAA q z))]
      exact hS.2.1 q h1 h2, fun q hq => by
      rcases List.mem_append.mp hq with h | h
      · exact hS.2.2 q h
      · exact hAA _ (hLc q h)⟩
  obtain ⟨t2, a1, a2⟩ := k p l e R s m args below meth c σ D cA A C T'.heap (locs ++ Lc) ls _ _ (by rw [Nat.add_mul]; omega) (by rw [Nat.add_mul]; omega) (by rw [hh]; exact hP) hS' hl T' rfl X'
  refine ⟨t2, ?_, a2⟩
  rw [ht]
  have e1 : (v.map (rd_pv σ)).toList ++ st.map (rd_pv σ) = (v.toList ++ st).map (rd_pv σ) := by cases v <;> rfl
  show Steps p.tables e below (T'.setTop (F0 m (pc + len) ls ((v.map (rd_pv σ)).toList ++ st.map (rd_pv σ)))) t2
  rw [e1]
  exact a1
end RdRun
/-- a call's entry: what is owed for a static method, for a method of an object -/
def rd_lS (own : String) (ix : Nat) (y : rd_X) (np : Nat) : Prop := rd_ok y ∧ Cond.methodLink own ix (rd_nm y) ∈ rd_ws ∧ Cond.static (rd_nm y) ∈ rd_ws ∧ ((rd_nm y).cls ≠ "java/lang/invoke/MethodHandle" ∧ (rd_nm y).cls ≠ "java/lang/invoke/VarHandle") ∧ (parseMethodDescriptor (rd_nm y).desc).map (fun d => d.parameters.length) = some np
def rd_lV (own : String) (ix : Nat) (y : rd_X) (np ci : Nat) : Prop := rd_ok y ∧ Cond.methodLink own ix (rd_nm y) ∈ rd_ws ∧ Cond.instanceMethod (rd_nm y) ∈ rd_ws ∧ ((rd_nm y).cls ≠ "java/lang/invoke/MethodHandle" ∧ (rd_nm y).cls ≠ "java/lang/invoke/VarHandle") ∧ (parseMethodDescriptor (rd_nm y).desc).map (fun d => d.parameters.length) = some np ∧ ∃ (C : String) (T : u_T) (N : Nat), rd_CL[ci]? = some (C, T, N) ∧ Cond.selects C (rd_nm y) (rd_nm y) ∈ rd_ws
section RdCalls
variable {x : rd_X} {pc : Nat} {L : List (Option Value)} {st stk : List Value} {M : rd_M} {n : Nat} {Q : rd_R → rd_M → Prop}
theorem rd_cats {σ : Nat → Nat} {st : List Value} : (st.map (rd_pv σ)).map (fun v => v.category) = st.map (fun v => v.category) := by
  rw [List.map_map]; exact List.map_congr_left (fun v _ => rd_cat)
theorem rd_callS {ix np : Nat} {y : rd_X} (As : List Value) (hd : decode (rd_cd x) pc = .ok (.invokestatic ix, 3)) (hk : rd_lS (rd_nm x).cls ix y np) (hdp : rd_dp y + 1 ≤ rd_dp x) (hlb : 19 + rd_ml y + rd_lb y ≤ rd_lb x) (hcp : n + rd_cp y ≤ rd_cp x) (hst : As.reverse ++ st = stk) (hlen : As.length = np) (hsl : (rd_en As).length ≤ rd_ml y) (hW : (st.map fun v => v.category).sum ≤ 8)
    (k : rd_G y 0 (rd_ep (rd_ml y) As) [] M 0 (fun r M' => ∃ v, r = .inl v ∧ rd_G x (pc + 3) L (v.toList ++ st) M' (n + rd_cp y) Q)) : rd_G x pc L stk M n Q := by
  subst hst
  intro p l e R s m args below meth c σ D cA A C H locs ls cells slots hc hs hP hS hl T hT X
  obtain ⟨hx, hb, hml, hown, hts, hK, hj, hA, hAs, hrm, hrt, hlks, htb, hXF, hSC⟩ := id C
  obtain ⟨hok, hlink, hstat, hy, hnp⟩ := hk
  obtain ⟨mk, methM, cM, hnamed, hmethM, -, -, -, -, -, -, hsigM⟩ := rd_ok_code hok hts
  have hstatic : methM.isStatic = true := Cond.static_spec hnamed hmethM (hts _ hstat)
  obtain ⟨kP, hkP, -⟩ := className_of_methodNamed hnamed
  have hinitP : kP.init = .initialized := Cond.initialized_spec (findClass_of_methodNamed hnamed) hkP (hts _ hok.2.2.1)
  have hnp' : (As.map (rd_pv σ)).length = methM.sig.parameters.length := by
    rw [hsigM] at hnp
    have := Option.some.inj hnp
    rw [List.length_map, hlen, ← this]
  obtain ⟨vm₁, X₁, hstep₁⟩ := X.invokestatic hx hown (hts _ hlink) hnamed hmethM hstatic hkP hinitP hy (g := F0 m pc ls ((As.reverse ++ st).map (rd_pv σ))) rfl (argsL := As.map (rd_pv σ)) (rest := st.map (rd_pv σ)) hnp' (by simp) (by rw [hb]; exact hd)
  subst hT
  obtain ⟨t, hs1, o, r, M', b1, b2, b3, ⟨v, rfl, hG⟩, b5, Lc, b6, b7, b8, b9⟩ := rd_run (T := T.setVm vm₁) (g := F0 m pc ls (st.map (rd_pv σ))) (ig := .invokestatic ix) (len := 3) X₁ C rfl (hl.1.trans hml.symm) (by rw [hb]; exact hd) (by rw [rd_cats]; simpa using hW) hok hdp hlb hc hs hcp (X₁.named hnamed) hP hS hsl k
  have b3 : o = .returned (v.map (rd_pv σ)) := b3
  subst b3
  obtain ⟨t2, c1, c2⟩ := rd_back (y := y) (T := T.setVm vm₁) X₁ C rfl (by rw [hb]; exact hd) hc hs hS hl b2 b5 b6 b7 b8 b9 hG
  exact ⟨t2, hstep₁ _ fun acts => by rw [doInvoke_state]; exact hs1.trans c1, c2⟩
theorem rd_callV {ix np ci q : Nat} {fs : List (Nat ⊕ Nat)} {y : rd_X} (As : List Value) (hd : decode (rd_cd x) pc = .ok (.invokevirtual ix, 3)) (hk : rd_lV (rd_nm x).cls ix y np ci) (hq : rd_SH[q]? = some (.inr (ci, fs))) (hdp : rd_dp y + 1 ≤ rd_dp x) (hlb : 19 + rd_ml y + rd_lb y ≤ rd_lb x) (hcp : n + rd_cp y ≤ rd_cp x) (hst : As.reverse ++ .ref q :: st = stk) (hlen : As.length = np) (hsl : (rd_en (.ref q :: As)).length ≤ rd_ml y) (hW : (st.map fun v => v.category).sum ≤ 8)
    (k : rd_G y 0 (rd_ep (rd_ml y) (.ref q :: As)) [] M 0 (fun r M' => ∃ v, r = .inl v ∧ rd_G x (pc + 3) L (v.toList ++ st) M' (n + rd_cp y) Q)) : rd_G x pc L stk M n Q := by
  subst hst
  intro p l e R s m args below meth c σ D cA A C H locs ls cells slots hc hs hP hS hl T hT X
  obtain ⟨hx, hb, hml, hown, hts, hK, hj, hA, hAs, hrm, hrt, hlks, htb, hXF, hSC⟩ := id C
  obtain ⟨hok, hlink, hinst, hy, hnp, Cn, Tn, Nn, hcl, hsel⟩ := hk
  obtain ⟨mk9, methM9, cM, hnamed9, hmethM9, -, -, -, -, -, -, hsigM⟩ := rd_ok_code hok hts
  obtain ⟨mk, methM, hnamed, hmethM, hstM, habM⟩ := Cond.instanceMethod_spec (hts _ hinst)
  cases hnamed.symm.trans hnamed9
  cases hmethM.symm.trans hmethM9
  subst hT
  obtain ⟨rr, hr1, cellB, hq1, hq2, hq3, -⟩ := hP q _ (rd_wd_at (σ := σ) (cA := cA) (M := M) hq)
  cases hr1.symm.trans hcl
  obtain ⟨-, hfc, -⟩ := hK.1 ci _ hcl
  have hcls : s.vm.findClass Cn = some cellB.cls := by rw [hq2]; exact hfc
  obtain ⟨c2, r2, m2, q1, q2, q3, q4, kP, hkP, hkPi⟩ := Cond.selects_spec (hts _ hsel)
  cases hcls.symm.trans q1
  cases (State.methodFound?_of_named hnamed hy).symm.trans q2
  cases hnamed.symm.trans q3
  have hselP : selectMethod e.platform s.vm cellB.cls mk9 = .method mk9 := by rw [Launch.admits_selectMethod X.admits]; exact q4
  have hnp' : (As.map (rd_pv σ)).length = methM9.sig.parameters.length := by
    rw [hsigM] at hnp
    have := Option.some.inj hnp
    rw [List.length_map, hlen, ← this]
  obtain ⟨vm₁, X₁, hstep₁⟩ := X.invokevirtual hx hown (hts _ hlink) hnamed hmethM hstM hkP hkPi hy (a := σ q) (cell := cellB) hq1 (fun z h => by rw [hq3] at h; cases h) hselP hmethM habM hkP hkPi (g := F0 m pc ls ((As.reverse ++ .ref q :: st).map (rd_pv σ))) rfl (argsL := As.map (rd_pv σ)) (rest := st.map (rd_pv σ)) hnp' (by simp [rd_pv]) (by rw [hb]; exact hd)
  obtain ⟨t, hs1, o, r, M', b1, b2, b3, ⟨v, rfl, hG⟩, b5, Lc, b6, b7, b8, b9⟩ := rd_run (T := T.setVm vm₁) (As := .ref q :: As) (g := F0 m pc ls (st.map (rd_pv σ))) (ig := .invokevirtual ix) (len := 3) X₁ C rfl (hl.1.trans hml.symm) (by rw [hb]; exact hd) (by rw [rd_cats]; simpa using hW) hok hdp hlb hc hs hcp (X₁.named hnamed) hP hS hsl k
  have b3 : o = .returned (v.map (rd_pv σ)) := b3
  subst b3
  obtain ⟨t2, c1, c2⟩ := rd_back (y := y) (T := T.setVm vm₁) X₁ C rfl (by rw [hb]; exact hd) hc hs hS hl b2 b5 b6 b7 b8 b9 hG
  exact ⟨t2, hstep₁ _ fun acts => by rw [doInvoke_state]; exact hs1.trans c1, c2⟩
end RdCalls
end
section
/-! methods: code, name, the row of what is fixed of them -/
abbrev c_C_has : ByteArray := prog_3_method_2_code
def y_C_has : MethodName := ⟨"ReinsuranceDesk$Claims", "has", "(I)Z"⟩
def x_C_has : rd_X := (y_C_has, c_C_has, 2, some .boolean, [], 0, 0, 0, none)
theorem ok_C_has : rd_ok x_C_has := ⟨rfl, by decide +kernel, rd_m 3 (by decide +kernel), Or.inl ⟨rd_m 377 (by decide +kernel), rfl⟩⟩
abbrev c_C_placeByHour : ByteArray := prog_3_method_4_code
def y_C_placeByHour : MethodName := ⟨"ReinsuranceDesk$Claims", "placeByHour", "(I)V"⟩
def x_C_placeByHour : rd_X := (y_C_placeByHour, c_C_placeByHour, 3, none, [], 0, 0, 0, none)
theorem ok_C_placeByHour : rd_ok x_C_placeByHour := ⟨rfl, by decide +kernel, rd_m 3 (by decide +kernel), Or.inl ⟨rd_m 366 (by decide +kernel), rfl⟩⟩
abbrev c_D_isAmount : ByteArray := prog_1_method_22_code
def y_D_isAmount : MethodName := ⟨"ReinsuranceDesk", "isAmount", "(I)Z"⟩
def x_D_isAmount : rd_X := (y_D_isAmount, c_D_isAmount, 1, some .boolean, [], 0, 0, 0, none)
theorem ok_D_isAmount : rd_ok x_D_isAmount := ⟨rfl, by decide +kernel, rd_m 1 (by decide +kernel), Or.inl ⟨rd_m 309 (by decide +kernel), rfl⟩⟩
abbrev c_D_isBelow : ByteArray := prog_1_method_20_code
def y_D_isBelow : MethodName := ⟨"ReinsuranceDesk", "isBelow", "(II)Z"⟩
def x_D_isBelow : rd_X := (y_D_isBelow, c_D_isBelow, 2, some .boolean, [], 0, 0, 0, none)
theorem ok_D_isBelow : rd_ok x_D_isBelow := ⟨rfl, by decide +kernel, rd_m 1 (by decide +kernel), Or.inl ⟨rd_m 208 (by decide +kernel), rfl⟩⟩
abbrev c_D_isFromOne : ByteArray := prog_1_method_21_code
def y_D_isFromOne : MethodName := ⟨"ReinsuranceDesk", "isFromOne", "(II)Z"⟩
def x_D_isFromOne : rd_X := (y_D_isFromOne, c_D_isFromOne, 2, some .boolean, [], 0, 0, 0, none)
theorem ok_D_isFromOne : rd_ok x_D_isFromOne := ⟨rfl, by decide +kernel, rd_m 1 (by decide +kernel), Or.inl ⟨rd_m 212 (by decide +kernel), rfl⟩⟩
abbrev c_D_yearOfClaim : ByteArray := prog_1_method_19_code
def y_D_yearOfClaim : MethodName := ⟨"ReinsuranceDesk", "yearOfClaim", "(I)I"⟩
def x_D_yearOfClaim : rd_X := (y_D_yearOfClaim, c_D_yearOfClaim, 2, some .int, [], 0, 0, 0, none)
theorem ok_D_yearOfClaim : rd_ok x_D_yearOfClaim := ⟨rfl, by decide +kernel, rd_m 1 (by decide +kernel), Or.inl ⟨rd_m 382 (by decide +kernel), rfl⟩⟩
abbrev c_J_fillI : ByteArray := prog_15_method_103_code
def y_J_fillI : MethodName := ⟨"java/util/Arrays", "fill", "([II)V"⟩
def x_J_fillI : rd_X := (y_J_fillI, c_J_fillI, 4, none, [], 0, 0, 0, none)
theorem ok_J_fillI : rd_ok x_J_fillI := ⟨rfl, by decide +kernel, rd_m 12 (by decide +kernel), Or.inl ⟨rd_m 417 (by decide +kernel), rfl⟩⟩
abbrev c_J_fillJ : ByteArray := prog_15_method_101_code
def y_J_fillJ : MethodName := ⟨"java/util/Arrays", "fill", "([JJ)V"⟩
def x_J_fillJ : rd_X := (y_J_fillJ, c_J_fillJ, 5, none, [], 0, 0, 0, none)
theorem ok_J_fillJ : rd_ok x_J_fillJ := ⟨rfl, by decide +kernel, rd_m 12 (by decide +kernel), Or.inl ⟨rd_m 420 (by decide +kernel), rfl⟩⟩
abbrev c_J_max : ByteArray := prog_11_method_66_code
def y_J_max : MethodName := ⟨"java/lang/Math", "max", "(JJ)J"⟩
def x_J_max : rd_X := (y_J_max, c_J_max, 4, some .long, [], 0, 0, 0, none)
theorem ok_J_max : rd_ok x_J_max := ⟨rfl, by decide +kernel, rd_m 13 (by decide +kernel), Or.inl ⟨rd_m 439 (by decide +kernel), rfl⟩⟩
abbrev c_J_min : ByteArray := prog_11_method_70_code
def y_J_min : MethodName := ⟨"java/lang/Math", "min", "(JJ)J"⟩
def x_J_min : rd_X := (y_J_min, c_J_min, 4, some .long, [], 0, 0, 0, none)
theorem ok_J_min : rd_ok x_J_min := ⟨rfl, by decide +kernel, rd_m 13 (by decide +kernel), Or.inl ⟨rd_m 443 (by decide +kernel), rfl⟩⟩
abbrev c_M_allowed : ByteArray := prog_7_method_25_code
def y_M_allowed : MethodName := ⟨"ReinsuranceDeskModel", "allowed", "(IJ)J"⟩
def x_M_allowed : rd_X := (y_M_allowed, c_M_allowed, 10, some .long, [], 0, 0, 0, none)
theorem ok_M_allowed : rd_ok x_M_allowed := ⟨rfl, by decide +kernel, rd_m 6 (by decide +kernel), Or.inl ⟨rd_m 822 (by decide +kernel), rfl⟩⟩
abbrev c_M_claimYear : ByteArray := prog_7_method_10_code
def y_M_claimYear : MethodName := ⟨"ReinsuranceDeskModel", "claimYear", "(I)I"⟩
def x_M_claimYear : rd_X := (y_M_claimYear, c_M_claimYear, 2, some .int, [], 0, 0, 0, none)
theorem ok_M_claimYear : rd_ok x_M_claimYear := ⟨rfl, by decide +kernel, rd_m 6 (by decide +kernel), Or.inl ⟨rd_m 771 (by decide +kernel), rfl⟩⟩
abbrev c_M_in : ByteArray := prog_7_method_4_code
def y_M_in : MethodName := ⟨"ReinsuranceDeskModel", "in", "(JJJ)Z"⟩
def x_M_in : rd_X := (y_M_in, c_M_in, 6, some .boolean, [], 0, 0, 0, none)
theorem ok_M_in : rd_ok x_M_in := ⟨rfl, by decide +kernel, rd_m 6 (by decide +kernel), Or.inl ⟨rd_m 716 (by decide +kernel), rfl⟩⟩
abbrev c_M_kindOf : ByteArray := prog_7_method_8_code
def y_M_kindOf : MethodName := ⟨"ReinsuranceDeskModel", "kindOf", "(I)I"⟩
def x_M_kindOf : rd_X := (y_M_kindOf, c_M_kindOf, 2, some .int, [], 0, 0, 0, none)
theorem ok_M_kindOf : rd_ok x_M_kindOf := ⟨rfl, by decide +kernel, rd_m 6 (by decide +kernel), Or.inl ⟨rd_m 795 (by decide +kernel), rfl⟩⟩
abbrev c_M_layer : ByteArray := prog_7_method_24_code
def y_M_layer : MethodName := ⟨"ReinsuranceDeskModel", "layer", "(JJJ)J"⟩
def x_M_layer : rd_X := (y_M_layer, c_M_layer, 8, some .long, [], 0, 0, 0, none)
theorem ok_M_layer : rd_ok x_M_layer := ⟨rfl, by decide +kernel, rd_m 6 (by decide +kernel), Or.inl ⟨rd_m 818 (by decide +kernel), rfl⟩⟩
abbrev c_M_shareOf : ByteArray := prog_7_method_39_code
def y_M_shareOf : MethodName := ⟨"ReinsuranceDeskModel", "shareOf", "(IIJ)J"⟩
def x_M_shareOf : rd_X := (y_M_shareOf, c_M_shareOf, 5, some .long, [], 0, 0, 0, none)
theorem ok_M_shareOf : rd_ok x_M_shareOf := ⟨rfl, by decide +kernel, rd_m 6 (by decide +kernel), Or.inl ⟨rd_m 870 (by decide +kernel), rfl⟩⟩
abbrev c_M_take : ByteArray := prog_7_method_23_code
def y_M_take : MethodName := ⟨"ReinsuranceDeskModel", "take", "(IIJ)V"⟩
def x_M_take : rd_X := (y_M_take, c_M_take, 5, none, [], 0, 0, 0, none)
theorem ok_M_take : rd_ok x_M_take := ⟨rfl, by decide +kernel, rd_m 6 (by decide +kernel), Or.inl ⟨rd_m 811 (by decide +kernel), rfl⟩⟩
abbrev c_M_throwing : ByteArray := prog_7_method_3_code
def y_M_throwing : MethodName := ⟨"ReinsuranceDeskModel", "throwing", "(ZZ)Z"⟩
def x_M_throwing : rd_X := (y_M_throwing, c_M_throwing, 3, some .boolean, [], 0, 0, 0, none)
theorem ok_M_throwing : rd_ok x_M_throwing := ⟨rfl, by decide +kernel, rd_m 6 (by decide +kernel), Or.inl ⟨rd_m 722 (by decide +kernel), rfl⟩⟩
abbrev c_M_thrown : ByteArray := prog_7_method_2_code
def y_M_thrown : MethodName := ⟨"ReinsuranceDeskModel", "thrown", "()I"⟩
def x_M_thrown : rd_X := (y_M_thrown, c_M_thrown, 1, some .int, [], 0, 0, 0, none)
theorem ok_M_thrown : rd_ok x_M_thrown := ⟨rfl, by decide +kernel, rd_m 6 (by decide +kernel), Or.inl ⟨rd_m 708 (by decide +kernel), rfl⟩⟩
abbrev c_M_treatyYear : ByteArray := prog_7_method_9_code
def y_M_treatyYear : MethodName := ⟨"ReinsuranceDeskModel", "treatyYear", "(I)I"⟩
def x_M_treatyYear : rd_X := (y_M_treatyYear, c_M_treatyYear, 2, some .int, [], 0, 0, 0, none)
theorem ok_M_treatyYear : rd_ok x_M_treatyYear := ⟨rfl, by decide +kernel, rd_m 6 (by decide +kernel), Or.inl ⟨rd_m 753 (by decide +kernel), rfl⟩⟩
abbrev c_R_isTold : ByteArray := prog_4_method_2_code
def y_R_isTold : MethodName := ⟨"ReinsuranceDesk$Risks", "isTold", "(I)Z"⟩
def x_R_isTold : rd_X := (y_R_isTold, c_R_isTold, 2, some .boolean, [], 0, 0, 0, none)
theorem ok_R_isTold : rd_ok x_R_isTold := ⟨rfl, by decide +kernel, rd_m 2 (by decide +kernel), Or.inl ⟨rd_m 283 (by decide +kernel), rfl⟩⟩
abbrev c_S_dropOutside : ByteArray := prog_2_method_16_code
def y_S_dropOutside : MethodName := ⟨"ReinsuranceDesk$Cession", "dropOutside", "(I)V"⟩
def x_S_dropOutside : rd_X := (y_S_dropOutside, c_S_dropOutside, 5, none, [], 0, 0, 0, none)
theorem ok_S_dropOutside : rd_ok x_S_dropOutside := ⟨rfl, by decide +kernel, rd_m 5 (by decide +kernel), Or.inl ⟨rd_m 489 (by decide +kernel), rfl⟩⟩
abbrev c_S_gatherEvent : ByteArray := prog_2_method_13_code
def y_S_gatherEvent : MethodName := ⟨"ReinsuranceDesk$Cession", "gatherEvent", "(I)V"⟩
def x_S_gatherEvent : rd_X := (y_S_gatherEvent, c_S_gatherEvent, 3, none, [], 0, 0, 0, none)
theorem ok_S_gatherEvent : rd_ok x_S_gatherEvent := ⟨rfl, by decide +kernel, rd_m 5 (by decide +kernel), Or.inl ⟨rd_m 476 (by decide +kernel), rfl⟩⟩
abbrev c_S_greatestRemainder : ByteArray := prog_2_method_18_code
def y_S_greatestRemainder : MethodName := ⟨"ReinsuranceDesk$Cession", "greatestRemainder", "()I"⟩
def x_S_greatestRemainder : rd_X := (y_S_greatestRemainder, c_S_greatestRemainder, 3, some .int, [], 0, 0, 0, none)
theorem ok_S_greatestRemainder : rd_ok x_S_greatestRemainder := ⟨rfl, by decide +kernel, rd_m 5 (by decide +kernel), Or.inl ⟨rd_m 497 (by decide +kernel), rfl⟩⟩
abbrev c_S_keptFrom : ByteArray := prog_2_method_14_code
def y_S_keptFrom : MethodName := ⟨"ReinsuranceDesk$Cession", "keptFrom", "(I)J"⟩
def x_S_keptFrom : rd_X := (y_S_keptFrom, c_S_keptFrom, 6, some .long, [], 0, 0, 0, none)
theorem ok_S_keptFrom : rd_ok x_S_keptFrom := ⟨rfl, by decide +kernel, rd_m 5 (by decide +kernel), Or.inl ⟨rd_m 485 (by decide +kernel), rfl⟩⟩
abbrev c_S_take : ByteArray := prog_2_method_7_code
def y_S_take : MethodName := ⟨"ReinsuranceDesk$Cession", "take", "(IIJ)V"⟩
def x_S_take : rd_X := (y_S_take, c_S_take, 5, none, [], 0, 0, 0, none)
theorem ok_S_take : rd_ok x_S_take := ⟨rfl, by decide +kernel, rd_m 5 (by decide +kernel), Or.inl ⟨rd_m 452 (by decide +kernel), rfl⟩⟩
abbrev c_T_add : ByteArray := prog_5_method_4_code
def y_T_add : MethodName := ⟨"ReinsuranceDesk$Treaties", "add", "(IIIII)I"⟩
def x_T_add : rd_X := (y_T_add, c_T_add, 7, some .int, [], 0, 0, 0, none)
theorem ok_T_add : rd_ok x_T_add := ⟨rfl, by decide +kernel, rd_m 4 (by decide +kernel), Or.inl ⟨rd_m 331 (by decide +kernel), rfl⟩⟩
abbrev c_T_has : ByteArray := prog_5_method_2_code
def y_T_has : MethodName := ⟨"ReinsuranceDesk$Treaties", "has", "(I)Z"⟩
def x_T_has : rd_X := (y_T_has, c_T_has, 2, some .boolean, [], 0, 0, 0, none)
theorem ok_T_has : rd_ok x_T_has := ⟨rfl, by decide +kernel, rd_m 4 (by decide +kernel), Or.inl ⟨rd_m 342 (by decide +kernel), rfl⟩⟩
abbrev c_T_isExcess : ByteArray := prog_5_method_3_code
def y_T_isExcess : MethodName := ⟨"ReinsuranceDesk$Treaties", "isExcess", "(I)Z"⟩
def x_T_isExcess : rd_X := (y_T_isExcess, c_T_isExcess, 2, some .boolean, [], 0, 0, 0, none)
theorem ok_T_isExcess : rd_ok x_T_isExcess := ⟨rfl, by decide +kernel, rd_m 4 (by decide +kernel), Or.inl ⟨rd_m 520 (by decide +kernel), rfl⟩⟩
abbrev c_T_limitOf : ByteArray := prog_5_method_9_code
def y_T_limitOf : MethodName := ⟨"ReinsuranceDesk$Treaties", "limitOf", "(I)J"⟩
def x_T_limitOf : rd_X := (y_T_limitOf, c_T_limitOf, 2, some .long, [], 0, 0, 0, none)
theorem ok_T_limitOf : rd_ok x_T_limitOf := ⟨rfl, by decide +kernel, rd_m 4 (by decide +kernel), Or.inl ⟨rd_m 468 (by decide +kernel), rfl⟩⟩
abbrev c_T_partOf : ByteArray := prog_5_method_6_code
def y_T_partOf : MethodName := ⟨"ReinsuranceDesk$Treaties", "partOf", "(JII)J"⟩
def x_T_partOf : rd_X := (y_T_partOf, c_T_partOf, 5, some .long, [], 0, 0, 0, none)
theorem ok_T_partOf : rd_ok x_T_partOf := ⟨rfl, by decide +kernel, rd_m 4 (by decide +kernel), Or.inl ⟨rd_m 565 (by decide +kernel), rfl⟩⟩
abbrev c_T_partsOfOthers : ByteArray := prog_5_method_5_code
def y_T_partsOfOthers : MethodName := ⟨"ReinsuranceDesk$Treaties", "partsOfOthers", "(II)I"⟩
def x_T_partsOfOthers : rd_X := (y_T_partsOfOthers, c_T_partsOfOthers, 5, some .int, [], 0, 0, 0, none)
theorem ok_T_partsOfOthers : rd_ok x_T_partsOfOthers := ⟨rfl, by decide +kernel, rd_m 4 (by decide +kernel), Or.inl ⟨rd_m 347 (by decide +kernel), rfl⟩⟩
abbrev c_C_add : ByteArray := prog_3_method_3_code
def y_C_add : MethodName := ⟨"ReinsuranceDesk$Claims", "add", "(III)I"⟩
def x_C_add : rd_X := (y_C_add, c_C_add, 5, some .int, [], 1, 22, 0, none)
theorem ok_C_add : rd_ok x_C_add := ⟨rfl, by decide +kernel, rd_m 3 (by decide +kernel), Or.inl ⟨rd_m 362 (by decide +kernel), rfl⟩⟩
abbrev c_D_areTerms : ByteArray := prog_1_method_24_code
def y_D_areTerms : MethodName := ⟨"ReinsuranceDesk", "areTerms", "(IIIII)Z"⟩
def x_D_areTerms : rd_X := (y_D_areTerms, c_D_areTerms, 5, some .boolean, [], 1, 21, 0, none)
theorem ok_D_areTerms : rd_ok x_D_areTerms := ⟨rfl, by decide +kernel, rd_m 1 (by decide +kernel), Or.inl ⟨rd_m 324 (by decide +kernel), rfl⟩⟩
abbrev c_D_isShape : ByteArray := prog_1_method_23_code
def y_D_isShape : MethodName := ⟨"ReinsuranceDesk", "isShape", "(I)Z"⟩
def x_D_isShape : rd_X := (y_D_isShape, c_D_isShape, 1, some .boolean, [], 1, 21, 0, none)
theorem ok_D_isShape : rd_ok x_D_isShape := ⟨rfl, by decide +kernel, rd_m 1 (by decide +kernel), Or.inl ⟨rd_m 321 (by decide +kernel), rfl⟩⟩
abbrev c_M_areSo : ByteArray := prog_7_method_13_code
def y_M_areSo : MethodName := ⟨"ReinsuranceDeskModel", "areSo", "(IIIII)Z"⟩
def x_M_areSo : rd_X := (y_M_areSo, c_M_areSo, 5, some .boolean, [], 1, 25, 0, none)
theorem ok_M_areSo : rd_ok x_M_areSo := ⟨rfl, by decide +kernel, rd_m 6 (by decide +kernel), Or.inl ⟨rd_m 738 (by decide +kernel), rfl⟩⟩
abbrev c_M_counts : ByteArray := prog_7_method_21_code
def y_M_counts : MethodName := ⟨"ReinsuranceDeskModel", "counts", "(II)Z"⟩
def x_M_counts : rd_X := (y_M_counts, c_M_counts, 3, some .boolean, [], 1, 21, 0, none)
theorem ok_M_counts : rd_ok x_M_counts := ⟨rfl, by decide +kernel, rd_m 6 (by decide +kernel), Or.inl ⟨rd_m 803 (by decide +kernel), rfl⟩⟩
abbrev c_M_dissolve : ByteArray := prog_7_method_19_code
def y_M_dissolve : MethodName := ⟨"ReinsuranceDeskModel", "dissolve", "(II)I"⟩
def x_M_dissolve : rd_X := (y_M_dissolve, c_M_dissolve, 6, some .int, [], 1, 25, 0, none)
theorem ok_M_dissolve : rd_ok x_M_dissolve := ⟨rfl, by decide +kernel, rd_m 6 (by decide +kernel), Or.inl ⟨rd_m 779 (by decide +kernel), rfl⟩⟩
abbrev c_M_isClaim : ByteArray := prog_7_method_6_code
def y_M_isClaim : MethodName := ⟨"ReinsuranceDeskModel", "isClaim", "(I)Z"⟩
def x_M_isClaim : rd_X := (y_M_isClaim, c_M_isClaim, 2, some .boolean, [], 1, 25, 0, none)
theorem ok_M_isClaim : rd_ok x_M_isClaim := ⟨rfl, by decide +kernel, rd_m 6 (by decide +kernel), Or.inl ⟨rd_m 767 (by decide +kernel), rfl⟩⟩
abbrev c_M_isRisk : ByteArray := prog_7_method_5_code
def y_M_isRisk : MethodName := ⟨"ReinsuranceDeskModel", "isRisk", "(I)Z"⟩
def x_M_isRisk : rd_X := (y_M_isRisk, c_M_isRisk, 2, some .boolean, [], 1, 25, 0, none)
theorem ok_M_isRisk : rd_ok x_M_isRisk := ⟨rfl, by decide +kernel, rd_m 6 (by decide +kernel), Or.inl ⟨rd_m 730 (by decide +kernel), rfl⟩⟩
abbrev c_M_isTreaty : ByteArray := prog_7_method_7_code
def y_M_isTreaty : MethodName := ⟨"ReinsuranceDeskModel", "isTreaty", "(I)Z"⟩
def x_M_isTreaty : rd_X := (y_M_isTreaty, c_M_isTreaty, 2, some .boolean, [], 1, 25, 0, none)
theorem ok_M_isTreaty : rd_ok x_M_isTreaty := ⟨rfl, by decide +kernel, rd_m 6 (by decide +kernel), Or.inl ⟨rd_m 749 (by decide +kernel), rfl⟩⟩
abbrev c_M_partOf : ByteArray := prog_7_method_22_code
def y_M_partOf : MethodName := ⟨"ReinsuranceDeskModel", "partOf", "(II)J"⟩
def x_M_partOf : rd_X := (y_M_partOf, c_M_partOf, 7, some .long, [], 1, 21, 0, none)
theorem ok_M_partOf : rd_ok x_M_partOf := ⟨rfl, by decide +kernel, rd_m 6 (by decide +kernel), Or.inl ⟨rd_m 807 (by decide +kernel), rfl⟩⟩
abbrev c_M_ratio : ByteArray := prog_7_method_36_code
def y_M_ratio : MethodName := ⟨"ReinsuranceDeskModel", "ratio", "(I)J"⟩
def x_M_ratio : rd_X := (y_M_ratio, c_M_ratio, 4, some .long, [], 1, 21, 0, none)
theorem ok_M_ratio : rd_ok x_M_ratio := ⟨rfl, by decide +kernel, rd_m 6 (by decide +kernel), Or.inl ⟨rd_m 855 (by decide +kernel), rfl⟩⟩
abbrev c_M_reinstatement : ByteArray := prog_7_method_40_code
def y_M_reinstatement : MethodName := ⟨"ReinsuranceDeskModel", "reinstatement", "(II)J"⟩
def x_M_reinstatement : rd_X := (y_M_reinstatement, c_M_reinstatement, 7, some .long, [], 1, 24, 0, none)
theorem ok_M_reinstatement : rd_ok x_M_reinstatement := ⟨rfl, by decide +kernel, rd_m 6 (by decide +kernel), Or.inl ⟨rd_m 874 (by decide +kernel), rfl⟩⟩
abbrev c_M_risk : ByteArray := prog_7_method_11_code
def y_M_risk : MethodName := ⟨"ReinsuranceDeskModel", "risk", "(III)V"⟩
def x_M_risk : rd_X := (y_M_risk, c_M_risk, 5, none, [], 1, 25, 0, none)
theorem ok_M_risk : rd_ok x_M_risk := ⟨rfl, by decide +kernel, rd_m 6 (by decide +kernel), Or.inl ⟨rd_m 712 (by decide +kernel), rfl⟩⟩
abbrev c_M_spread : ByteArray := prog_7_method_26_code
def y_M_spread : MethodName := ⟨"ReinsuranceDeskModel", "spread", "(IJJ)V"⟩
def x_M_spread : rd_X := (y_M_spread, c_M_spread, 11, none, [], 1, 24, 0, none)
theorem ok_M_spread : rd_ok x_M_spread := ⟨rfl, by decide +kernel, rd_m 6 (by decide +kernel), Or.inl ⟨rd_m 834 (by decide +kernel), rfl⟩⟩
abbrev c_M_year : ByteArray := prog_7_method_20_code
def y_M_year : MethodName := ⟨"ReinsuranceDeskModel", "year", "(IZ)V"⟩
def x_M_year : rd_X := (y_M_year, c_M_year, 4, none, [], 1, 25, 0, none)
theorem ok_M_year : rd_ok x_M_year := ⟨rfl, by decide +kernel, rd_m 6 (by decide +kernel), Or.inl ⟨rd_m 783 (by decide +kernel), rfl⟩⟩
abbrev c_S_begin : ByteArray := prog_2_method_4_code
def y_S_begin : MethodName := ⟨"ReinsuranceDesk$Cession", "begin", "(I)V"⟩
def x_S_begin : rd_X := (y_S_begin, c_S_begin, 3, none, [], 1, 24, 0, none)
theorem ok_S_begin : rd_ok x_S_begin := ⟨rfl, by decide +kernel, rd_m 5 (by decide +kernel), Or.inl ⟨rd_m 414 (by decide +kernel), rfl⟩⟩
abbrev c_S_ratioOf : ByteArray := prog_2_method_19_code
def y_S_ratioOf : MethodName := ⟨"ReinsuranceDesk$Cession", "ratioOf", "(I)J"⟩
def x_S_ratioOf : rd_X := (y_S_ratioOf, c_S_ratioOf, 2, some .long, [], 1, 23, 0, none)
theorem ok_S_ratioOf : rd_ok x_S_ratioOf := ⟨rfl, by decide +kernel, rd_m 5 (by decide +kernel), Or.inl ⟨rd_m 542 (by decide +kernel), rfl⟩⟩
abbrev c_S_reinstatementOf : ByteArray := prog_2_method_21_code
def y_S_reinstatementOf : MethodName := ⟨"ReinsuranceDesk$Cession", "reinstatementOf", "(I)J"⟩
def x_S_reinstatementOf : rd_X := (y_S_reinstatementOf, c_S_reinstatementOf, 6, some .long, [], 1, 23, 0, none)
theorem ok_S_reinstatementOf : rd_ok x_S_reinstatementOf := ⟨rfl, by decide +kernel, rd_m 5 (by decide +kernel), Or.inl ⟨rd_m 569 (by decide +kernel), rfl⟩⟩
abbrev c_S_startOfWindow : ByteArray := prog_2_method_15_code
def y_S_startOfWindow : MethodName := ⟨"ReinsuranceDesk$Cession", "startOfWindow", "()I"⟩
def x_S_startOfWindow : rd_X := (y_S_startOfWindow, c_S_startOfWindow, 8, some .int, [], 1, 25, 0, none)
theorem ok_S_startOfWindow : rd_ok x_S_startOfWindow := ⟨rfl, by decide +kernel, rd_m 5 (by decide +kernel), Or.inl ⟨rd_m 480 (by decide +kernel), rfl⟩⟩
abbrev c_S_takeByParts : ByteArray := prog_2_method_17_code
def y_S_takeByParts : MethodName := ⟨"ReinsuranceDesk$Cession", "takeByParts", "(IJJ)V"⟩
def x_S_takeByParts : rd_X := (y_S_takeByParts, c_S_takeByParts, 11, none, [], 1, 24, 0, none)
theorem ok_S_takeByParts : rd_ok x_S_takeByParts := ⟨rfl, by decide +kernel, rd_m 5 (by decide +kernel), Or.inl ⟨rd_m 493 (by decide +kernel), rfl⟩⟩
abbrev c_T_layerOf : ByteArray := prog_5_method_8_code
def y_T_layerOf : MethodName := ⟨"ReinsuranceDesk$Treaties", "layerOf", "(IJ)J"⟩
def x_T_layerOf : rd_X := (y_T_layerOf, c_T_layerOf, 4, some .long, [], 1, 23, 0, none)
theorem ok_T_layerOf : rd_ok x_T_layerOf := ⟨rfl, by decide +kernel, rd_m 4 (by decide +kernel), Or.inl ⟨rd_m 460 (by decide +kernel), rfl⟩⟩
abbrev c_T_partOfRisk : ByteArray := prog_5_method_7_code
def y_T_partOfRisk : MethodName := ⟨"ReinsuranceDesk$Treaties", "partOfRisk", "(IJ)J"⟩
def x_T_partOfRisk : rd_X := (y_T_partOfRisk, c_T_partOfRisk, 6, some .long, [], 1, 23, 0, none)
theorem ok_T_partOfRisk : rd_ok x_T_partOfRisk := ⟨rfl, by decide +kernel, rd_m 4 (by decide +kernel), Or.inl ⟨rd_m 436 (by decide +kernel), rfl⟩⟩
abbrev c_T_takenOfLayers : ByteArray := prog_5_method_10_code
def y_T_takenOfLayers : MethodName := ⟨"ReinsuranceDesk$Treaties", "takenOfLayers", "(IJ)J"⟩
def x_T_takenOfLayers : rd_X := (y_T_takenOfLayers, c_T_takenOfLayers, 4, some .long, [], 1, 23, 0, none)
theorem ok_T_takenOfLayers : rd_ok x_T_takenOfLayers := ⟨rfl, by decide +kernel, rd_m 4 (by decide +kernel), Or.inl ⟨rd_m 464 (by decide +kernel), rfl⟩⟩
abbrev c_M_claim : ByteArray := prog_7_method_16_code
def y_M_claim : MethodName := ⟨"ReinsuranceDeskModel", "claim", "(III)I"⟩
def x_M_claim : rd_X := (y_M_claim, c_M_claim, 5, some .int, [], 2, 46, 0, none)
theorem ok_M_claim : rd_ok x_M_claim := ⟨rfl, by decide +kernel, rd_m 6 (by decide +kernel), Or.inl ⟨rd_m 757 (by decide +kernel), rfl⟩⟩
abbrev c_M_commission : ByteArray := prog_7_method_37_code
def y_M_commission : MethodName := ⟨"ReinsuranceDeskModel", "commission", "(I)J"⟩
def x_M_commission : rd_X := (y_M_commission, c_M_commission, 6, some .long, [], 2, 44, 0, none)
theorem ok_M_commission : rd_ok x_M_commission := ⟨rfl, by decide +kernel, rd_m 6 (by decide +kernel), Or.inl ⟨rd_m 860 (by decide +kernel), rfl⟩⟩
abbrev c_M_estimate : ByteArray := prog_7_method_17_code
def y_M_estimate : MethodName := ⟨"ReinsuranceDeskModel", "estimate", "(II)V"⟩
def x_M_estimate : rd_X := (y_M_estimate, c_M_estimate, 4, none, [], 2, 46, 0, none)
theorem ok_M_estimate : rd_ok x_M_estimate := ⟨rfl, by decide +kernel, rd_m 6 (by decide +kernel), Or.inl ⟨rd_m 763 (by decide +kernel), rfl⟩⟩
abbrev c_M_excessOfRisks : ByteArray := prog_7_method_27_code
def y_M_excessOfRisks : MethodName := ⟨"ReinsuranceDeskModel", "excessOfRisks", "(I)V"⟩
def x_M_excessOfRisks : rd_X := (y_M_excessOfRisks, c_M_excessOfRisks, 4, none, [], 2, 43, 0, none)
theorem ok_M_excessOfRisks : rd_ok x_M_excessOfRisks := ⟨rfl, by decide +kernel, rd_m 6 (by decide +kernel), Or.inl ⟨rd_m 815 (by decide +kernel), rfl⟩⟩
abbrev c_M_inWindow : ByteArray := prog_7_method_28_code
def y_M_inWindow : MethodName := ⟨"ReinsuranceDeskModel", "inWindow", "(III)J"⟩
def x_M_inWindow : rd_X := (y_M_inWindow, c_M_inWindow, 7, some .long, [], 2, 43, 0, none)
theorem ok_M_inWindow : rd_ok x_M_inWindow := ⟨rfl, by decide +kernel, rd_m 6 (by decide +kernel), Or.inl ⟨rd_m 830 (by decide +kernel), rfl⟩⟩
abbrev c_M_premium : ByteArray := prog_7_method_12_code
def y_M_premium : MethodName := ⟨"ReinsuranceDeskModel", "premium", "(II)V"⟩
def x_M_premium : rd_X := (y_M_premium, c_M_premium, 4, none, [], 2, 46, 0, none)
theorem ok_M_premium : rd_ok x_M_premium := ⟨rfl, by decide +kernel, rd_m 6 (by decide +kernel), Or.inl ⟨rd_m 726 (by decide +kernel), rfl⟩⟩
abbrev c_M_share : ByteArray := prog_7_method_15_code
def y_M_share : MethodName := ⟨"ReinsuranceDeskModel", "share", "(III)V"⟩
def x_M_share : rd_X := (y_M_share, c_M_share, 8, none, [], 2, 46, 0, none)
theorem ok_M_share : rd_ok x_M_share := ⟨rfl, by decide +kernel, rd_m 6 (by decide +kernel), Or.inl ⟨rd_m 745 (by decide +kernel), rfl⟩⟩
abbrev c_M_strike : ByteArray := prog_7_method_18_code
def y_M_strike : MethodName := ⟨"ReinsuranceDeskModel", "strike", "(I)V"⟩
def x_M_strike : rd_X := (y_M_strike, c_M_strike, 3, none, [], 2, 46, 0, none)
theorem ok_M_strike : rd_ok x_M_strike := ⟨rfl, by decide +kernel, rd_m 6 (by decide +kernel), Or.inl ⟨rd_m 775 (by decide +kernel), rfl⟩⟩
abbrev c_M_treaty : ByteArray := prog_7_method_14_code
def y_M_treaty : MethodName := ⟨"ReinsuranceDeskModel", "treaty", "(IIIII)I"⟩
def x_M_treaty : rd_X := (y_M_treaty, c_M_treaty, 7, some .int, [], 2, 49, 0, none)
theorem ok_M_treaty : rd_ok x_M_treaty := ⟨rfl, by decide +kernel, rd_m 6 (by decide +kernel), Or.inl ⟨rd_m 734 (by decide +kernel), rfl⟩⟩
abbrev c_S_cedeExcessOfEachClaim : ByteArray := prog_2_method_10_code
def y_S_cedeExcessOfEachClaim : MethodName := ⟨"ReinsuranceDesk$Cession", "cedeExcessOfEachClaim", "(I)V"⟩
def x_S_cedeExcessOfEachClaim : rd_X := (y_S_cedeExcessOfEachClaim, c_S_cedeExcessOfEachClaim, 6, none, [], 2, 46, 0, none)
theorem ok_S_cedeExcessOfEachClaim : rd_ok x_S_cedeExcessOfEachClaim := ⟨rfl, by decide +kernel, rd_m 5 (by decide +kernel), Or.inl ⟨rd_m 456 (by decide +kernel), rfl⟩⟩
abbrev c_S_cedeExcessOfEachEvent : ByteArray := prog_2_method_11_code
def y_S_cedeExcessOfEachEvent : MethodName := ⟨"ReinsuranceDesk$Cession", "cedeExcessOfEachEvent", "(I)V"⟩
def x_S_cedeExcessOfEachEvent : rd_X := (y_S_cedeExcessOfEachEvent, c_S_cedeExcessOfEachEvent, 6, none, [], 2, 54, 0, none)
theorem ok_S_cedeExcessOfEachEvent : rd_ok x_S_cedeExcessOfEachEvent := ⟨rfl, by decide +kernel, rd_m 5 (by decide +kernel), Or.inl ⟨rd_m 472 (by decide +kernel), rfl⟩⟩
abbrev c_S_cedePartOfEachClaim : ByteArray := prog_2_method_9_code
def y_S_cedePartOfEachClaim : MethodName := ⟨"ReinsuranceDesk$Cession", "cedePartOfEachClaim", "(I)V"⟩
def x_S_cedePartOfEachClaim : rd_X := (y_S_cedePartOfEachClaim, c_S_cedePartOfEachClaim, 5, none, [], 2, 48, 0, none)
theorem ok_S_cedePartOfEachClaim : rd_ok x_S_cedePartOfEachClaim := ⟨rfl, by decide +kernel, rd_m 5 (by decide +kernel), Or.inl ⟨rd_m 448 (by decide +kernel), rfl⟩⟩
abbrev c_S_cedePremiums : ByteArray := prog_2_method_8_code
def y_S_cedePremiums : MethodName := ⟨"ReinsuranceDesk$Cession", "cedePremiums", "(I)V"⟩
def x_S_cedePremiums : rd_X := (y_S_cedePremiums, c_S_cedePremiums, 5, none, [], 2, 48, 0, none)
theorem ok_S_cedePremiums : rd_ok x_S_cedePremiums := ⟨rfl, by decide +kernel, rd_m 5 (by decide +kernel), Or.inl ⟨rd_m 432 (by decide +kernel), rfl⟩⟩
abbrev c_S_cedeStopLoss : ByteArray := prog_2_method_12_code
def y_S_cedeStopLoss : MethodName := ⟨"ReinsuranceDesk$Cession", "cedeStopLoss", "(I)V"⟩
def x_S_cedeStopLoss : rd_X := (y_S_cedeStopLoss, c_S_cedeStopLoss, 5, none, [], 2, 54, 0, none)
theorem ok_S_cedeStopLoss : rd_ok x_S_cedeStopLoss := ⟨rfl, by decide +kernel, rd_m 5 (by decide +kernel), Or.inl ⟨rd_m 501 (by decide +kernel), rfl⟩⟩
abbrev c_S_commissionOf : ByteArray := prog_2_method_20_code
def y_S_commissionOf : MethodName := ⟨"ReinsuranceDesk$Cession", "commissionOf", "(I)J"⟩
def x_S_commissionOf : rd_X := (y_S_commissionOf, c_S_commissionOf, 6, some .long, [], 2, 44, 0, none)
theorem ok_S_commissionOf : rd_ok x_S_commissionOf := ⟨rfl, by decide +kernel, rd_m 5 (by decide +kernel), Or.inl ⟨rd_m 548 (by decide +kernel), rfl⟩⟩
abbrev c_M_excessOfEvents : ByteArray := prog_7_method_29_code
def y_M_excessOfEvents : MethodName := ⟨"ReinsuranceDeskModel", "excessOfEvents", "(I)V"⟩
def x_M_excessOfEvents : rd_X := (y_M_excessOfEvents, c_M_excessOfEvents, 8, none, [], 3, 69, 0, none)
theorem ok_M_excessOfEvents : rd_ok x_M_excessOfEvents := ⟨rfl, by decide +kernel, rd_m 6 (by decide +kernel), Or.inl ⟨rd_m 826 (by decide +kernel), rfl⟩⟩
abbrev c_S_cedeTo : ByteArray := prog_2_method_6_code
def y_S_cedeTo : MethodName := ⟨"ReinsuranceDesk$Cession", "cedeTo", "(I)V"⟩
def x_S_cedeTo : rd_X := (y_S_cedeTo, c_S_cedeTo, 2, none, [], 3, 79, 0, none)
theorem ok_S_cedeTo : rd_ok x_S_cedeTo := ⟨rfl, by decide +kernel, rd_m 5 (by decide +kernel), Or.inl ⟨rd_m 428 (by decide +kernel), rfl⟩⟩
abbrev c_S_owedBy : ByteArray := prog_2_method_22_code
def y_S_owedBy : MethodName := ⟨"ReinsuranceDesk$Cession", "owedBy", "(II)J"⟩
def x_S_owedBy : rd_X := (y_S_owedBy, c_S_owedBy, 6, some .long, [], 3, 69, 0, none)
theorem ok_S_owedBy : rd_ok x_S_owedBy := ⟨rfl, by decide +kernel, rd_m 5 (by decide +kernel), Or.inl ⟨rd_m 595 (by decide +kernel), rfl⟩⟩
abbrev c_M_apply : ByteArray := prog_7_method_30_code
def y_M_apply : MethodName := ⟨"ReinsuranceDeskModel", "apply", "(I)V"⟩
def x_M_apply : rd_X := (y_M_apply, c_M_apply, 6, none, [], 4, 96, 0, none)
theorem ok_M_apply : rd_ok x_M_apply := ⟨rfl, by decide +kernel, rd_m 6 (by decide +kernel), Or.inl ⟨rd_m 799 (by decide +kernel), rfl⟩⟩
abbrev c_S_cedeYear : ByteArray := prog_2_method_5_code
def y_S_cedeYear : MethodName := ⟨"ReinsuranceDesk$Cession", "cedeYear", "(I)V"⟩
def x_S_cedeYear : rd_X := (y_S_cedeYear, c_S_cedeYear, 4, none, [], 4, 100, 0, none)
theorem ok_S_cedeYear : rd_ok x_S_cedeYear := ⟨rfl, by decide +kernel, rd_m 5 (by decide +kernel), Or.inl ⟨rd_m 424 (by decide +kernel), rfl⟩⟩
abbrev c_M_reckon : ByteArray := prog_7_method_31_code
def y_M_reckon : MethodName := ⟨"ReinsuranceDeskModel", "reckon", "()V"⟩
def x_M_reckon : rd_X := (y_M_reckon, c_M_reckon, 3, none, [], 5, 121, 0, none)
theorem ok_M_reckon : rd_ok x_M_reckon := ⟨rfl, by decide +kernel, rd_m 6 (by decide +kernel), Or.inl ⟨rd_m 791 (by decide +kernel), rfl⟩⟩
abbrev c_S_workOut : ByteArray := prog_2_method_2_code
def y_S_workOut : MethodName := ⟨"ReinsuranceDesk$Cession", "workOut", "(I)V"⟩
def x_S_workOut : rd_X := (y_S_workOut, c_S_workOut, 2, none, [], 5, 123, 0, none)
theorem ok_S_workOut : rd_ok x_S_workOut := ⟨rfl, by decide +kernel, rd_m 5 (by decide +kernel), Or.inl ⟨rd_m 410 (by decide +kernel), rfl⟩⟩
abbrev c_S_workOutSupposing : ByteArray := prog_2_method_3_code
def y_S_workOutSupposing : MethodName := ⟨"ReinsuranceDesk$Cession", "workOutSupposing", "(III)V"⟩
def x_S_workOutSupposing : rd_X := (y_S_workOutSupposing, c_S_workOutSupposing, 4, none, [], 5, 123, 0, none)
theorem ok_S_workOutSupposing : rd_ok x_S_workOutSupposing := ⟨rfl, by decide +kernel, rd_m 5 (by decide +kernel), Or.inl ⟨rd_m 583 (by decide +kernel), rfl⟩⟩
abbrev c_D_bill : ByteArray := prog_1_method_17_code
def y_D_bill : MethodName := ⟨"ReinsuranceDesk", "bill", "(I)J"⟩
def x_D_bill : rd_X := (y_D_bill, c_D_bill, 6, some .long, [], 6, 144, 1, none)
theorem ok_D_bill : rd_ok x_D_bill := ⟨rfl, by decide +kernel, rd_m 1 (by decide +kernel), Or.inl ⟨rd_m 590 (by decide +kernel), rfl⟩⟩
abbrev c_D_ceded : ByteArray := prog_1_method_11_code
def y_D_ceded : MethodName := ⟨"ReinsuranceDesk", "ceded", "(II)I"⟩
def x_D_ceded : rd_X := (y_D_ceded, c_D_ceded, 3, some .int, [], 6, 144, 1, none)
theorem ok_D_ceded : rd_ok x_D_ceded := ⟨rfl, by decide +kernel, rd_m 1 (by decide +kernel), Or.inl ⟨rd_m 508 (by decide +kernel), rfl⟩⟩
abbrev c_D_claim : ByteArray := prog_1_method_6_code
def y_D_claim : MethodName := ⟨"ReinsuranceDesk", "claim", "(III)I"⟩
def x_D_claim : rd_X := (y_D_claim, c_D_claim, 4, some .int, [], 6, 100, 1, none)
theorem ok_D_claim : rd_ok x_D_claim := ⟨rfl, by decide +kernel, rd_m 1 (by decide +kernel), Or.inl ⟨rd_m 355 (by decide +kernel), rfl⟩⟩
abbrev c_D_dissolve : ByteArray := prog_1_method_9_code
def y_D_dissolve : MethodName := ⟨"ReinsuranceDesk", "dissolve", "(II)I"⟩
def x_D_dissolve : rd_X := (y_D_dissolve, c_D_dissolve, 5, some .int, [], 6, 100, 1, none)
theorem ok_D_dissolve : rd_ok x_D_dissolve := ⟨rfl, by decide +kernel, rd_m 1 (by decide +kernel), Or.inl ⟨rd_m 398 (by decide +kernel), rfl⟩⟩
abbrev c_D_due : ByteArray := prog_1_method_15_code
def y_D_due : MethodName := ⟨"ReinsuranceDesk", "due", "(III)J"⟩
def x_D_due : rd_X := (y_D_due, c_D_due, 4, some .long, [], 6, 144, 1, none)
theorem ok_D_due : rd_ok x_D_due := ⟨rfl, by decide +kernel, rd_m 1 (by decide +kernel), Or.inl ⟨rd_m 560 (by decide +kernel), rfl⟩⟩
abbrev c_D_estimate : ByteArray := prog_1_method_7_code
def y_D_estimate : MethodName := ⟨"ReinsuranceDesk", "estimate", "(II)V"⟩
def x_D_estimate : rd_X := (y_D_estimate, c_D_estimate, 3, none, [], 6, 100, 1, none)
theorem ok_D_estimate : rd_ok x_D_estimate := ⟨rfl, by decide +kernel, rd_m 1 (by decide +kernel), Or.inl ⟨rd_m 373 (by decide +kernel), rfl⟩⟩
abbrev c_D_kept : ByteArray := prog_1_method_10_code
def y_D_kept : MethodName := ⟨"ReinsuranceDesk", "kept", "(I)I"⟩
def x_D_kept : rd_X := (y_D_kept, c_D_kept, 2, some .int, [], 6, 144, 1, none)
theorem ok_D_kept : rd_ok x_D_kept := ⟨rfl, by decide +kernel, rd_m 1 (by decide +kernel), Or.inl ⟨rd_m 406 (by decide +kernel), rfl⟩⟩
abbrev c_D_left : ByteArray := prog_1_method_12_code
def y_D_left : MethodName := ⟨"ReinsuranceDesk", "left", "(I)J"⟩
def x_D_left : rd_X := (y_D_left, c_D_left, 2, some .long, [], 6, 144, 1, none)
theorem ok_D_left : rd_ok x_D_left := ⟨rfl, by decide +kernel, rd_m 1 (by decide +kernel), Or.inl ⟨rd_m 516 (by decide +kernel), rfl⟩⟩
abbrev c_D_premium : ByteArray := prog_1_method_3_code
def y_D_premium : MethodName := ⟨"ReinsuranceDesk", "premium", "(II)V"⟩
def x_D_premium : rd_X := (y_D_premium, c_D_premium, 3, none, [], 6, 100, 1, none)
theorem ok_D_premium : rd_ok x_D_premium := ⟨rfl, by decide +kernel, rd_m 1 (by decide +kernel), Or.inl ⟨rd_m 306 (by decide +kernel), rfl⟩⟩
abbrev c_D_risk : ByteArray := prog_1_method_2_code
def y_D_risk : MethodName := ⟨"ReinsuranceDesk", "risk", "(III)V"⟩
def x_D_risk : rd_X := (y_D_risk, c_D_risk, 4, none, [], 6, 100, 1, none)
theorem ok_D_risk : rd_ok x_D_risk := ⟨rfl, by decide +kernel, rd_m 1 (by decide +kernel), Or.inl ⟨rd_m 205 (by decide +kernel), rfl⟩⟩
abbrev c_D_share : ByteArray := prog_1_method_5_code
def y_D_share : MethodName := ⟨"ReinsuranceDesk", "share", "(III)V"⟩
def x_D_share : rd_X := (y_D_share, c_D_share, 4, none, [], 6, 100, 1, none)
theorem ok_D_share : rd_ok x_D_share := ⟨rfl, by decide +kernel, rd_m 1 (by decide +kernel), Or.inl ⟨rd_m 338 (by decide +kernel), rfl⟩⟩
abbrev c_D_strike : ByteArray := prog_1_method_8_code
def y_D_strike : MethodName := ⟨"ReinsuranceDesk", "strike", "(I)V"⟩
def x_D_strike : rd_X := (y_D_strike, c_D_strike, 2, none, [], 6, 100, 1, none)
theorem ok_D_strike : rd_ok x_D_strike := ⟨rfl, by decide +kernel, rd_m 1 (by decide +kernel), Or.inl ⟨rd_m 390 (by decide +kernel), rfl⟩⟩
abbrev c_D_total : ByteArray := prog_1_method_14_code
def y_D_total : MethodName := ⟨"ReinsuranceDesk", "total", "(II)J"⟩
def x_D_total : rd_X := (y_D_total, c_D_total, 3, some .long, [], 6, 144, 1, none)
theorem ok_D_total : rd_ok x_D_total := ⟨rfl, by decide +kernel, rd_m 1 (by decide +kernel), Or.inl ⟨rd_m 537 (by decide +kernel), rfl⟩⟩
abbrev c_D_treaty : ByteArray := prog_1_method_4_code
def y_D_treaty : MethodName := ⟨"ReinsuranceDesk", "treaty", "(IIIII)I"⟩
def x_D_treaty : rd_X := (y_D_treaty, c_D_treaty, 6, some .int, [], 6, 100, 1, none)
theorem ok_D_treaty : rd_ok x_D_treaty := ⟨rfl, by decide +kernel, rd_m 1 (by decide +kernel), Or.inl ⟨rd_m 318 (by decide +kernel), rfl⟩⟩
abbrev c_D_whatIf : ByteArray := prog_1_method_16_code
def y_D_whatIf : MethodName := ⟨"ReinsuranceDesk", "whatIf", "(III)I"⟩
def x_D_whatIf : rd_X := (y_D_whatIf, c_D_whatIf, 4, some .int, [], 6, 146, 1, none)
theorem ok_D_whatIf : rd_ok x_D_whatIf := ⟨rfl, by decide +kernel, rd_m 1 (by decide +kernel), Or.inl ⟨rd_m 577 (by decide +kernel), rfl⟩⟩
abbrev c_D_window : ByteArray := prog_1_method_13_code
def y_D_window : MethodName := ⟨"ReinsuranceDesk", "window", "(II)I"⟩
def x_D_window : rd_X := (y_D_window, c_D_window, 3, some .int, [], 6, 144, 1, none)
theorem ok_D_window : rd_ok x_D_window := ⟨rfl, by decide +kernel, rd_m 1 (by decide +kernel), Or.inl ⟨rd_m 529 (by decide +kernel), rfl⟩⟩
abbrev c_D_year : ByteArray := prog_1_method_18_code
def y_D_year : MethodName := ⟨"ReinsuranceDesk", "year", "(IZ)V"⟩
def x_D_year : rd_X := (y_D_year, c_D_year, 3, none, [], 6, 100, 1, none)
theorem ok_D_year : rd_ok x_D_year := ⟨rfl, by decide +kernel, rd_m 1 (by decide +kernel), Or.inl ⟨rd_m 605 (by decide +kernel), rfl⟩⟩
abbrev c_M_bill : ByteArray := prog_7_method_43_code
def y_M_bill : MethodName := ⟨"ReinsuranceDeskModel", "bill", "(I)J"⟩
def x_M_bill : rd_X := (y_M_bill, c_M_bill, 6, some .long, [], 6, 143, 0, none)
theorem ok_M_bill : rd_ok x_M_bill := ⟨rfl, by decide +kernel, rd_m 6 (by decide +kernel), Or.inl ⟨rd_m 882 (by decide +kernel), rfl⟩⟩
abbrev c_M_ceded : ByteArray := prog_7_method_33_code
def y_M_ceded : MethodName := ⟨"ReinsuranceDeskModel", "ceded", "(II)I"⟩
def x_M_ceded : rd_X := (y_M_ceded, c_M_ceded, 3, some .int, [], 6, 143, 0, none)
theorem ok_M_ceded : rd_ok x_M_ceded := ⟨rfl, by decide +kernel, rd_m 6 (by decide +kernel), Or.inl ⟨rd_m 839 (by decide +kernel), rfl⟩⟩
abbrev c_M_due : ByteArray := prog_7_method_41_code
def y_M_due : MethodName := ⟨"ReinsuranceDeskModel", "due", "(III)J"⟩
def x_M_due : rd_X := (y_M_due, c_M_due, 4, some .long, [], 6, 143, 0, none)
theorem ok_M_due : rd_ok x_M_due := ⟨rfl, by decide +kernel, rd_m 6 (by decide +kernel), Or.inl ⟨rd_m 866 (by decide +kernel), rfl⟩⟩
abbrev c_M_kept : ByteArray := prog_7_method_32_code
def y_M_kept : MethodName := ⟨"ReinsuranceDeskModel", "kept", "(I)I"⟩
def x_M_kept : rd_X := (y_M_kept, c_M_kept, 2, some .int, [], 6, 143, 0, none)
theorem ok_M_kept : rd_ok x_M_kept := ⟨rfl, by decide +kernel, rd_m 6 (by decide +kernel), Or.inl ⟨rd_m 787 (by decide +kernel), rfl⟩⟩
abbrev c_M_left : ByteArray := prog_7_method_34_code
def y_M_left : MethodName := ⟨"ReinsuranceDeskModel", "left", "(I)J"⟩
def x_M_left : rd_X := (y_M_left, c_M_left, 2, some .long, [], 6, 143, 0, none)
theorem ok_M_left : rd_ok x_M_left := ⟨rfl, by decide +kernel, rd_m 6 (by decide +kernel), Or.inl ⟨rd_m 843 (by decide +kernel), rfl⟩⟩
abbrev c_M_total : ByteArray := prog_7_method_38_code
def y_M_total : MethodName := ⟨"ReinsuranceDeskModel", "total", "(II)J"⟩
def x_M_total : rd_X := (y_M_total, c_M_total, 3, some .long, [], 6, 143, 0, none)
theorem ok_M_total : rd_ok x_M_total := ⟨rfl, by decide +kernel, rd_m 6 (by decide +kernel), Or.inl ⟨rd_m 851 (by decide +kernel), rfl⟩⟩
abbrev c_M_whatIf : ByteArray := prog_7_method_42_code
def y_M_whatIf : MethodName := ⟨"ReinsuranceDeskModel", "whatIf", "(III)I"⟩
def x_M_whatIf : rd_X := (y_M_whatIf, c_M_whatIf, 6, some .int, [], 6, 143, 0, none)
theorem ok_M_whatIf : rd_ok x_M_whatIf := ⟨rfl, by decide +kernel, rd_m 6 (by decide +kernel), Or.inl ⟨rd_m 878 (by decide +kernel), rfl⟩⟩
abbrev c_M_window : ByteArray := prog_7_method_35_code
def y_M_window : MethodName := ⟨"ReinsuranceDeskModel", "window", "(II)I"⟩
def x_M_window : rd_X := (y_M_window, c_M_window, 3, some .int, [], 6, 143, 0, none)
theorem ok_M_window : rd_ok x_M_window := ⟨rfl, by decide +kernel, rd_m 6 (by decide +kernel), Or.inl ⟨rd_m 847 (by decide +kernel), rfl⟩⟩
abbrev c_L_bill : ByteArray := method_18_code
def y_L_bill : MethodName := ⟨"ReinsuranceDeskLaw", "bill", "(LReinsuranceDesk;I[J)I"⟩
def x_L_bill : rd_X := (y_L_bill, c_L_bill, 4, some .int, [(0, 8, 11, 13)], 7, 169, 1, none)
theorem ok_L_bill : rd_ok x_L_bill := ⟨rfl, by decide +kernel, rd_m 0 (by decide +kernel), Or.inr (rd_m 586 (by decide +kernel))⟩
abbrev c_L_ceded : ByteArray := method_12_code
def y_L_ceded : MethodName := ⟨"ReinsuranceDeskLaw", "ceded", "(LReinsuranceDesk;II[J)I"⟩
def x_L_ceded : rd_X := (y_L_ceded, c_L_ceded, 5, some .int, [(0, 10, 13, 13)], 7, 166, 1, none)
theorem ok_L_ceded : rd_ok x_L_ceded := ⟨rfl, by decide +kernel, rd_m 0 (by decide +kernel), Or.inr (rd_m 504 (by decide +kernel))⟩
abbrev c_L_claim : ByteArray := method_7_code
def y_L_claim : MethodName := ⟨"ReinsuranceDeskLaw", "claim", "(LReinsuranceDesk;III[J)I"⟩
def x_L_claim : rd_X := (y_L_claim, c_L_claim, 6, some .int, [(0, 12, 15, 13), (0, 12, 19, 15)], 7, 123, 1, none)
theorem ok_L_claim : rd_ok x_L_claim := ⟨rfl, by decide +kernel, rd_m 0 (by decide +kernel), Or.inr (rd_m 351 (by decide +kernel))⟩
abbrev c_L_dissolve : ByteArray := method_10_code
def y_L_dissolve : MethodName := ⟨"ReinsuranceDeskLaw", "dissolve", "(LReinsuranceDesk;II[J)I"⟩
def x_L_dissolve : rd_X := (y_L_dissolve, c_L_dissolve, 5, some .int, [(0, 10, 13, 13), (0, 10, 17, 15)], 7, 124, 1, none)
theorem ok_L_dissolve : rd_ok x_L_dissolve := ⟨rfl, by decide +kernel, rd_m 0 (by decide +kernel), Or.inr (rd_m 394 (by decide +kernel))⟩
abbrev c_L_due : ByteArray := method_16_code
def y_L_due : MethodName := ⟨"ReinsuranceDeskLaw", "due", "(LReinsuranceDesk;III[J)I"⟩
def x_L_due : rd_X := (y_L_due, c_L_due, 6, some .int, [(0, 11, 14, 13)], 7, 167, 1, none)
theorem ok_L_due : rd_ok x_L_due := ⟨rfl, by decide +kernel, rd_m 0 (by decide +kernel), Or.inr (rd_m 556 (by decide +kernel))⟩
abbrev c_L_estimate : ByteArray := method_8_code
def y_L_estimate : MethodName := ⟨"ReinsuranceDeskLaw", "estimate", "(LReinsuranceDesk;II)I"⟩
def x_L_estimate : rd_X := (y_L_estimate, c_L_estimate, 4, some .int, [(0, 6, 9, 13), (0, 6, 12, 15)], 7, 122, 1, none)
theorem ok_L_estimate : rd_ok x_L_estimate := ⟨rfl, by decide +kernel, rd_m 0 (by decide +kernel), Or.inr (rd_m 369 (by decide +kernel))⟩
abbrev c_L_kept : ByteArray := method_11_code
def y_L_kept : MethodName := ⟨"ReinsuranceDeskLaw", "kept", "(LReinsuranceDesk;I[J)I"⟩
def x_L_kept : rd_X := (y_L_kept, c_L_kept, 4, some .int, [(0, 9, 12, 13)], 7, 165, 1, none)
theorem ok_L_kept : rd_ok x_L_kept := ⟨rfl, by decide +kernel, rd_m 0 (by decide +kernel), Or.inr (rd_m 402 (by decide +kernel))⟩
abbrev c_L_left : ByteArray := method_13_code
def y_L_left : MethodName := ⟨"ReinsuranceDeskLaw", "left", "(LReinsuranceDesk;I[J)I"⟩
def x_L_left : rd_X := (y_L_left, c_L_left, 4, some .int, [(0, 8, 11, 13)], 7, 165, 1, none)
theorem ok_L_left : rd_ok x_L_left := ⟨rfl, by decide +kernel, rd_m 0 (by decide +kernel), Or.inr (rd_m 512 (by decide +kernel))⟩
abbrev c_L_premium : ByteArray := method_4_code
def y_L_premium : MethodName := ⟨"ReinsuranceDeskLaw", "premium", "(LReinsuranceDesk;II)I"⟩
def x_L_premium : rd_X := (y_L_premium, c_L_premium, 4, some .int, [(0, 6, 9, 13), (0, 6, 12, 15)], 7, 122, 1, none)
theorem ok_L_premium : rd_ok x_L_premium := ⟨rfl, by decide +kernel, rd_m 0 (by decide +kernel), Or.inr (rd_m 302 (by decide +kernel))⟩
abbrev c_L_risk : ByteArray := method_3_code
def y_L_risk : MethodName := ⟨"ReinsuranceDeskLaw", "risk", "(LReinsuranceDesk;III)I"⟩
def x_L_risk : rd_X := (y_L_risk, c_L_risk, 5, some .int, [(0, 7, 10, 13), (0, 7, 14, 15)], 7, 123, 1, none)
theorem ok_L_risk : rd_ok x_L_risk := ⟨rfl, by decide +kernel, rd_m 0 (by decide +kernel), Or.inr (rd_m 199 (by decide +kernel))⟩
abbrev c_L_share : ByteArray := method_6_code
def y_L_share : MethodName := ⟨"ReinsuranceDeskLaw", "share", "(LReinsuranceDesk;III)I"⟩
def x_L_share : rd_X := (y_L_share, c_L_share, 5, some .int, [(0, 7, 10, 13), (0, 7, 14, 15)], 7, 123, 1, none)
theorem ok_L_share : rd_ok x_L_share := ⟨rfl, by decide +kernel, rd_m 0 (by decide +kernel), Or.inr (rd_m 334 (by decide +kernel))⟩
abbrev c_L_strike : ByteArray := method_9_code
def y_L_strike : MethodName := ⟨"ReinsuranceDeskLaw", "strike", "(LReinsuranceDesk;I)I"⟩
def x_L_strike : rd_X := (y_L_strike, c_L_strike, 3, some .int, [(0, 5, 8, 13), (0, 5, 11, 15)], 7, 121, 1, none)
theorem ok_L_strike : rd_ok x_L_strike := ⟨rfl, by decide +kernel, rd_m 0 (by decide +kernel), Or.inr (rd_m 386 (by decide +kernel))⟩
abbrev c_L_total : ByteArray := method_15_code
def y_L_total : MethodName := ⟨"ReinsuranceDeskLaw", "total", "(LReinsuranceDesk;II[J)I"⟩
def x_L_total : rd_X := (y_L_total, c_L_total, 5, some .int, [(0, 9, 12, 13)], 7, 166, 1, none)
theorem ok_L_total : rd_ok x_L_total := ⟨rfl, by decide +kernel, rd_m 0 (by decide +kernel), Or.inr (rd_m 533 (by decide +kernel))⟩
abbrev c_L_treaty : ByteArray := method_5_code
def y_L_treaty : MethodName := ⟨"ReinsuranceDeskLaw", "treaty", "(LReinsuranceDesk;IIIII[J)I"⟩
def x_L_treaty : rd_X := (y_L_treaty, c_L_treaty, 8, some .int, [(0, 16, 19, 13), (0, 16, 23, 15)], 7, 125, 1, none)
theorem ok_L_treaty : rd_ok x_L_treaty := ⟨rfl, by decide +kernel, rd_m 0 (by decide +kernel), Or.inr (rd_m 314 (by decide +kernel))⟩
abbrev c_L_whatIf : ByteArray := method_17_code
def y_L_whatIf : MethodName := ⟨"ReinsuranceDeskLaw", "whatIf", "(LReinsuranceDesk;III[J)I"⟩
def x_L_whatIf : rd_X := (y_L_whatIf, c_L_whatIf, 6, some .int, [(0, 12, 15, 13), (0, 12, 19, 15)], 7, 169, 1, none)
theorem ok_L_whatIf : rd_ok x_L_whatIf := ⟨rfl, by decide +kernel, rd_m 0 (by decide +kernel), Or.inr (rd_m 573 (by decide +kernel))⟩
abbrev c_L_window : ByteArray := method_14_code
def y_L_window : MethodName := ⟨"ReinsuranceDeskLaw", "window", "(LReinsuranceDesk;II[J)I"⟩
def x_L_window : rd_X := (y_L_window, c_L_window, 5, some .int, [(0, 10, 13, 13)], 7, 166, 1, none)
theorem ok_L_window : rd_ok x_L_window := ⟨rfl, by decide +kernel, rd_m 0 (by decide +kernel), Or.inr (rd_m 525 (by decide +kernel))⟩
abbrev c_L_year : ByteArray := method_19_code
def y_L_year : MethodName := ⟨"ReinsuranceDeskLaw", "year", "(LReinsuranceDesk;IZ)I"⟩
def x_L_year : rd_X := (y_L_year, c_L_year, 4, some .int, [(0, 6, 9, 13), (0, 6, 12, 15)], 7, 122, 1, none)
theorem ok_L_year : rd_ok x_L_year := ⟨rfl, by decide +kernel, rd_m 0 (by decide +kernel), Or.inr (rd_m 601 (by decide +kernel))⟩
abbrev c_L_law : ByteArray := code
def y_L_law : MethodName := ⟨"ReinsuranceDeskLaw", "law", "([I)Z"⟩
end
section
/-! entries of the constant pools -/
theorem fl_C_31 : rd_fl "ReinsuranceDesk$Claims" 31 1 0 := ⟨_, _, _, rfl, by decide, rd_u1, rd_m 51 (by decide +kernel)⟩
theorem fl_C_18 : rd_fl "ReinsuranceDesk$Claims" 18 1 3 := ⟨_, _, _, rfl, by decide, rd_u1, rd_m 60 (by decide +kernel)⟩
theorem fl_C_28 : rd_fl "ReinsuranceDesk$Claims" 28 1 6 := ⟨_, _, _, rfl, by decide, rd_u1, rd_m 68 (by decide +kernel)⟩
theorem kc_D_51 : Cond.constant "ReinsuranceDesk" 51 (Int32.ofInt 1000000000) ∈ rd_ws := rd_m 209 (by decide +kernel)
theorem fl_D_10 : rd_fl "ReinsuranceDesk" 10 4 0 := ⟨_, _, _, rfl, by decide, rd_u4, rd_m 178 (by decide +kernel)⟩
theorem fl_D_75 : rd_fl "ReinsuranceDesk" 75 2 2 := ⟨_, _, _, rfl, by decide, rd_u2, rd_m 35 (by decide +kernel)⟩
theorem fl_D_19 : rd_fl "ReinsuranceDesk" 19 4 1 := ⟨_, _, _, rfl, by decide, rd_u4, rd_m 179 (by decide +kernel)⟩
theorem fl_D_224 : rd_fl "ReinsuranceDesk" 224 1 1 := ⟨_, _, _, rfl, by decide, rd_u1, rd_m 56 (by decide +kernel)⟩
theorem fl_M_47 : rd_fl "ReinsuranceDeskModel" 47 5 14 := ⟨_, _, _, rfl, by decide, rd_u5, rd_m 628 (by decide +kernel)⟩
theorem fl_M_147 : rd_fl "ReinsuranceDeskModel" 147 5 28 := ⟨_, _, _, rfl, by decide, rd_u5, rd_m 642 (by decide +kernel)⟩
theorem fl_M_41 : rd_fl "ReinsuranceDeskModel" 41 5 12 := ⟨_, _, _, rfl, by decide, rd_u5, rd_m 626 (by decide +kernel)⟩
theorem fl_M_44 : rd_fl "ReinsuranceDeskModel" 44 5 13 := ⟨_, _, _, rfl, by decide, rd_u5, rd_m 627 (by decide +kernel)⟩
theorem fl_M_151 : rd_fl "ReinsuranceDeskModel" 151 5 29 := ⟨_, _, _, rfl, by decide, rd_u5, rd_m 643 (by decide +kernel)⟩
theorem fl_M_16 : rd_fl "ReinsuranceDeskModel" 16 5 3 := ⟨_, _, _, rfl, by decide, rd_u5, rd_m 617 (by decide +kernel)⟩
theorem fl_M_19 : rd_fl "ReinsuranceDeskModel" 19 5 4 := ⟨_, _, _, rfl, by decide, rd_u5, rd_m 618 (by decide +kernel)⟩
theorem fl_M_35 : rd_fl "ReinsuranceDeskModel" 35 5 10 := ⟨_, _, _, rfl, by decide, rd_u5, rd_m 624 (by decide +kernel)⟩
theorem fl_M_50 : rd_fl "ReinsuranceDeskModel" 50 5 16 := ⟨_, _, _, rfl, by decide, rd_u5, rd_m 630 (by decide +kernel)⟩
theorem kl_M_115 : Cond.constantLong "ReinsuranceDeskModel" 115 (Int64.ofInt 1000000) ∈ rd_ws := rd_m 739 (by decide +kernel)
theorem fl_M_63 : rd_fl "ReinsuranceDeskModel" 63 5 20 := ⟨_, _, _, rfl, by decide, rd_u5, rd_m 634 (by decide +kernel)⟩
theorem fl_M_66 : rd_fl "ReinsuranceDeskModel" 66 5 21 := ⟨_, _, _, rfl, by decide, rd_u5, rd_m 635 (by decide +kernel)⟩
theorem fl_M_60 : rd_fl "ReinsuranceDeskModel" 60 5 19 := ⟨_, _, _, rfl, by decide, rd_u5, rd_m 633 (by decide +kernel)⟩
theorem fl_M_87 : rd_fl "ReinsuranceDeskModel" 87 5 0 := ⟨_, _, _, rfl, by decide, rd_u5, rd_m 614 (by decide +kernel)⟩
theorem fp_5_0 : rd_fp 5 0 .int := ⟨_, _, _, rd_t5, rfl, by decide, rd_tt5, rd_nn5, rfl, by decide +kernel⟩
theorem fl_R_9 : rd_fl "ReinsuranceDesk$Risks" 9 2 0 := ⟨_, _, _, rfl, by decide, rd_u2, rd_m 28 (by decide +kernel)⟩
theorem fl_S_142 : rd_fl "ReinsuranceDesk$Cession" 142 0 11 := ⟨_, _, _, rfl, by decide, rd_u0, rd_m 149 (by decide +kernel)⟩
theorem fl_S_15 : rd_fl "ReinsuranceDesk$Cession" 15 0 1 := ⟨_, _, _, rfl, by decide, rd_u0, rd_m 134 (by decide +kernel)⟩
theorem fl_S_163 : rd_fl "ReinsuranceDesk$Cession" 163 1 3 := ⟨_, _, _, rfl, by decide, rd_u1, rd_m 61 (by decide +kernel)⟩
theorem fl_S_47 : rd_fl "ReinsuranceDesk$Cession" 47 0 10 := ⟨_, _, _, rfl, by decide, rd_u0, rd_m 148 (by decide +kernel)⟩
theorem fl_S_69 : rd_fl "ReinsuranceDesk$Cession" 69 1 0 := ⟨_, _, _, rfl, by decide, rd_u1, rd_m 52 (by decide +kernel)⟩
theorem fl_S_23 : rd_fl "ReinsuranceDesk$Cession" 23 0 3 := ⟨_, _, _, rfl, by decide, rd_u0, rd_m 136 (by decide +kernel)⟩
theorem fl_S_160 : rd_fl "ReinsuranceDesk$Cession" 160 1 2 := ⟨_, _, _, rfl, by decide, rd_u1, rd_m 59 (by decide +kernel)⟩
theorem fl_S_50 : rd_fl "ReinsuranceDesk$Cession" 50 0 12 := ⟨_, _, _, rfl, by decide, rd_u0, rd_m 150 (by decide +kernel)⟩
theorem fl_S_27 : rd_fl "ReinsuranceDesk$Cession" 27 0 4 := ⟨_, _, _, rfl, by decide, rd_u0, rd_m 137 (by decide +kernel)⟩
theorem fl_S_31 : rd_fl "ReinsuranceDesk$Cession" 31 0 5 := ⟨_, _, _, rfl, by decide, rd_u0, rd_m 139 (by decide +kernel)⟩
theorem fl_S_34 : rd_fl "ReinsuranceDesk$Cession" 34 0 6 := ⟨_, _, _, rfl, by decide, rd_u0, rd_m 141 (by decide +kernel)⟩
theorem fl_T_34 : rd_fl "ReinsuranceDesk$Treaties" 34 3 0 := ⟨_, _, _, rfl, by decide, rd_u3, rd_m 92 (by decide +kernel)⟩
theorem fl_T_9 : rd_fl "ReinsuranceDesk$Treaties" 9 3 1 := ⟨_, _, _, rfl, by decide, rd_u3, rd_m 95 (by decide +kernel)⟩
theorem fl_T_15 : rd_fl "ReinsuranceDesk$Treaties" 15 3 2 := ⟨_, _, _, rfl, by decide, rd_u3, rd_m 98 (by decide +kernel)⟩
theorem fl_T_18 : rd_fl "ReinsuranceDesk$Treaties" 18 3 3 := ⟨_, _, _, rfl, by decide, rd_u3, rd_m 101 (by decide +kernel)⟩
theorem fl_T_22 : rd_fl "ReinsuranceDesk$Treaties" 22 3 4 := ⟨_, _, _, rfl, by decide, rd_u3, rd_m 102 (by decide +kernel)⟩
theorem fl_T_25 : rd_fl "ReinsuranceDesk$Treaties" 25 3 5 := ⟨_, _, _, rfl, by decide, rd_u3, rd_m 104 (by decide +kernel)⟩
theorem fl_T_28 : rd_fl "ReinsuranceDesk$Treaties" 28 3 6 := ⟨_, _, _, rfl, by decide, rd_u3, rd_m 106 (by decide +kernel)⟩
theorem fl_T_31 : rd_fl "ReinsuranceDesk$Treaties" 31 3 7 := ⟨_, _, _, rfl, by decide, rd_u3, rd_m 107 (by decide +kernel)⟩
theorem kl_T_38 : Cond.constantLong "ReinsuranceDesk$Treaties" 38 (Int64.ofInt 1000000) ∈ rd_ws := rd_m 440 (by decide +kernel)
theorem fl_C_9 : rd_fl "ReinsuranceDesk$Claims" 9 1 1 := ⟨_, _, _, rfl, by decide, rd_u1, rd_m 54 (by decide +kernel)⟩
theorem fl_C_15 : rd_fl "ReinsuranceDesk$Claims" 15 1 2 := ⟨_, _, _, rfl, by decide, rd_u1, rd_m 57 (by decide +kernel)⟩
theorem ml_C_35 : rd_lV "ReinsuranceDesk$Claims" 35 x_C_placeByHour 1 1 := ⟨ok_C_placeByHour, rd_m 363 (by decide +kernel), rd_m 365 (by decide +kernel), by decide +kernel, by decide +kernel, _, _, _, rfl, rd_ms (by decide +kernel)⟩
theorem kc_D_110 : Cond.constant "ReinsuranceDesk" 110 (Int32.ofInt 1000000) ∈ rd_ws := rd_m 325 (by decide +kernel)
theorem ml_D_52 : rd_lS "ReinsuranceDesk" 52 x_D_isFromOne 2 := ⟨ok_D_isFromOne, rd_m 210 (by decide +kernel), rd_m 211 (by decide +kernel), by decide +kernel, by decide +kernel⟩
theorem ml_D_78 : rd_lS "ReinsuranceDesk" 78 x_D_isAmount 1 := ⟨ok_D_isAmount, rd_m 307 (by decide +kernel), rd_m 308 (by decide +kernel), by decide +kernel, by decide +kernel⟩
theorem ml_D_47 : rd_lS "ReinsuranceDesk" 47 x_D_isBelow 2 := ⟨ok_D_isBelow, rd_m 206 (by decide +kernel), rd_m 207 (by decide +kernel), by decide +kernel, by decide +kernel⟩
theorem ml_M_93 : rd_lS "ReinsuranceDeskModel" 93 x_M_in 3 := ⟨ok_M_in, rd_m 714 (by decide +kernel), rd_m 715 (by decide +kernel), by decide +kernel, by decide +kernel⟩
theorem kl_M_103 : Cond.constantLong "ReinsuranceDeskModel" 103 (Int64.ofInt 1000000000) ∈ rd_ws := rd_m 717 (by decide +kernel)
theorem kl_M_117 : Cond.constantLong "ReinsuranceDeskModel" 117 (Int64.ofInt 20) ∈ rd_ws := rd_m 740 (by decide +kernel)
theorem kl_M_119 : Cond.constantLong "ReinsuranceDeskModel" 119 (Int64.ofInt 5) ∈ rd_ws := rd_m 741 (by decide +kernel)
theorem fl_M_31 : rd_fl "ReinsuranceDeskModel" 31 5 8 := ⟨_, _, _, rfl, by decide, rd_u5, rd_m 622 (by decide +kernel)⟩
theorem ml_M_141 : rd_lV "ReinsuranceDeskModel" 141 x_M_claimYear 1 5 := ⟨ok_M_claimYear, rd_m 768 (by decide +kernel), rd_m 770 (by decide +kernel), by decide +kernel, by decide +kernel, _, _, _, rfl, rd_ms (by decide +kernel)⟩
theorem kl_M_134 : Cond.constantLong "ReinsuranceDeskModel" 134 (Int64.ofInt 9) ∈ rd_ws := rd_m 758 (by decide +kernel)
theorem kl_M_105 : Cond.constantLong "ReinsuranceDeskModel" 105 (Int64.ofInt 3) ∈ rd_ws := rd_m 718 (by decide +kernel)
theorem fl_M_57 : rd_fl "ReinsuranceDeskModel" 57 5 18 := ⟨_, _, _, rfl, by decide, rd_u5, rd_m 632 (by decide +kernel)⟩
theorem ml_M_107 : rd_lV "ReinsuranceDeskModel" 107 x_M_throwing 2 5 := ⟨ok_M_throwing, rd_m 719 (by decide +kernel), rd_m 721 (by decide +kernel), by decide +kernel, by decide +kernel, _, _, _, rfl, rd_ms (by decide +kernel)⟩
theorem fl_M_97 : rd_fl "ReinsuranceDeskModel" 97 5 9 := ⟨_, _, _, rfl, by decide, rd_u5, rd_m 623 (by decide +kernel)⟩
theorem fl_M_22 : rd_fl "ReinsuranceDeskModel" 22 5 5 := ⟨_, _, _, rfl, by decide, rd_u5, rd_m 619 (by decide +kernel)⟩
theorem kl_M_91 : Cond.constantLong "ReinsuranceDeskModel" 91 (Int64.ofInt 11) ∈ rd_ws := rd_m 713 (by decide +kernel)
theorem fl_M_7 : rd_fl "ReinsuranceDeskModel" 7 5 1 := ⟨_, _, _, rfl, by decide, rd_u5, rd_m 615 (by decide +kernel)⟩
theorem fl_M_100 : rd_fl "ReinsuranceDeskModel" 100 5 15 := ⟨_, _, _, rfl, by decide, rd_u5, rd_m 629 (by decide +kernel)⟩
theorem ml_M_144 : rd_lV "ReinsuranceDeskModel" 144 x_M_kindOf 1 5 := ⟨ok_M_kindOf, rd_m 792 (by decide +kernel), rd_m 794 (by decide +kernel), by decide +kernel, by decide +kernel, _, _, _, rfl, rd_ms (by decide +kernel)⟩
theorem fl_M_38 : rd_fl "ReinsuranceDeskModel" 38 5 11 := ⟨_, _, _, rfl, by decide, rd_u5, rd_m 625 (by decide +kernel)⟩
theorem fl_M_69 : rd_fl "ReinsuranceDeskModel" 69 5 22 := ⟨_, _, _, rfl, by decide, rd_u5, rd_m 636 (by decide +kernel)⟩
theorem kl_M_197 : Cond.constantLong "ReinsuranceDeskModel" 197 (Int64.ofInt 9000000) ∈ rd_ws := rd_m 856 (by decide +kernel)
theorem kl_M_136 : Cond.constantLong "ReinsuranceDeskModel" 136 (Int64.ofInt 100000) ∈ rd_ws := rd_m 759 (by decide +kernel)
theorem ml_M_210 : rd_lV "ReinsuranceDeskModel" 210 x_M_shareOf 3 5 := ⟨ok_M_shareOf, rd_m 867 (by decide +kernel), rd_m 869 (by decide +kernel), by decide +kernel, by decide +kernel, _, _, _, rfl, rd_ms (by decide +kernel)⟩
theorem fl_M_81 : rd_fl "ReinsuranceDeskModel" 81 5 26 := ⟨_, _, _, rfl, by decide, rd_u5, rd_m 640 (by decide +kernel)⟩
theorem fl_M_78 : rd_fl "ReinsuranceDeskModel" 78 5 25 := ⟨_, _, _, rfl, by decide, rd_u5, rd_m 639 (by decide +kernel)⟩
theorem kl_M_154 : Cond.constantLong "ReinsuranceDeskModel" 154 (Int64.ofInt -1) ∈ rd_ws := rd_m 835 (by decide +kernel)
theorem fl_M_84 : rd_fl "ReinsuranceDeskModel" 84 5 27 := ⟨_, _, _, rfl, by decide, rd_u5, rd_m 641 (by decide +kernel)⟩
theorem ml_M_156 : rd_lV "ReinsuranceDeskModel" 156 x_M_take 3 5 := ⟨ok_M_take, rd_m 808 (by decide +kernel), rd_m 810 (by decide +kernel), by decide +kernel, by decide +kernel, _, _, _, rfl, rd_ms (by decide +kernel)⟩
theorem ml_S_60 : rd_lS "ReinsuranceDesk$Cession" 60 x_J_fillI 2 := ⟨ok_J_fillI, rd_m 415 (by decide +kernel), rd_m 416 (by decide +kernel), by decide +kernel, by decide +kernel⟩
theorem ml_S_66 : rd_lS "ReinsuranceDesk$Cession" 66 x_J_fillJ 2 := ⟨ok_J_fillJ, rd_m 418 (by decide +kernel), rd_m 419 (by decide +kernel), by decide +kernel, by decide +kernel⟩
theorem fl_S_44 : rd_fl "ReinsuranceDesk$Cession" 44 0 9 := ⟨_, _, _, rfl, by decide, rd_u0, rd_m 146 (by decide +kernel)⟩
theorem fl_S_38 : rd_fl "ReinsuranceDesk$Cession" 38 0 7 := ⟨_, _, _, rfl, by decide, rd_u0, rd_m 143 (by decide +kernel)⟩
theorem fl_S_75 : rd_fl "ReinsuranceDesk$Cession" 75 1 5 := ⟨_, _, _, rfl, by decide, rd_u1, rd_m 66 (by decide +kernel)⟩
theorem fl_S_9 : rd_fl "ReinsuranceDesk$Cession" 9 0 0 := ⟨_, _, _, rfl, by decide, rd_u0, rd_m 133 (by decide +kernel)⟩
theorem fl_S_78 : rd_fl "ReinsuranceDesk$Cession" 78 2 2 := ⟨_, _, _, rfl, by decide, rd_u2, rd_m 36 (by decide +kernel)⟩
theorem fl_S_83 : rd_fl "ReinsuranceDesk$Cession" 83 1 1 := ⟨_, _, _, rfl, by decide, rd_u1, rd_m 55 (by decide +kernel)⟩
theorem fl_S_86 : rd_fl "ReinsuranceDesk$Cession" 86 1 4 := ⟨_, _, _, rfl, by decide, rd_u1, rd_m 63 (by decide +kernel)⟩
theorem fl_S_41 : rd_fl "ReinsuranceDesk$Cession" 41 0 8 := ⟨_, _, _, rfl, by decide, rd_u0, rd_m 145 (by decide +kernel)⟩
theorem fl_S_89 : rd_fl "ReinsuranceDesk$Cession" 89 2 1 := ⟨_, _, _, rfl, by decide, rd_u2, rd_m 33 (by decide +kernel)⟩
theorem kl_S_124 : Cond.constantLong "ReinsuranceDesk$Cession" 124 (Int64.ofInt 1000000) ∈ rd_ws := rd_m 444 (by decide +kernel)
theorem kl_S_171 : Cond.constantLong "ReinsuranceDesk$Cession" 171 (Int64.ofInt 9000000) ∈ rd_ws := rd_m 543 (by decide +kernel)
theorem ml_S_173 : rd_lS "ReinsuranceDesk$Cession" 173 x_J_min 2 := ⟨ok_J_min, rd_m 544 (by decide +kernel), rd_m 442 (by decide +kernel), by decide +kernel, by decide +kernel⟩
theorem fl_S_19 : rd_fl "ReinsuranceDesk$Cession" 19 0 2 := ⟨_, _, _, rfl, by decide, rd_u0, rd_m 135 (by decide +kernel)⟩
theorem fl_S_191 : rd_fl "ReinsuranceDesk$Cession" 191 3 4 := ⟨_, _, _, rfl, by decide, rd_u3, rd_m 103 (by decide +kernel)⟩
theorem ml_S_194 : rd_lV "ReinsuranceDesk$Cession" 194 x_T_isExcess 1 3 := ⟨ok_T_isExcess, rd_m 570 (by decide +kernel), rd_m 518 (by decide +kernel), by decide +kernel, by decide +kernel, _, _, _, rfl, rd_m 519 (by decide +kernel)⟩
theorem kl_S_189 : Cond.constantLong "ReinsuranceDesk$Cession" 189 (Int64.ofInt 100000) ∈ rd_ws := rd_m 553 (by decide +kernel)
theorem fl_S_198 : rd_fl "ReinsuranceDesk$Cession" 198 3 5 := ⟨_, _, _, rfl, by decide, rd_u3, rd_m 105 (by decide +kernel)⟩
theorem kl_S_166 : Cond.constantLong "ReinsuranceDesk$Cession" 166 (Int64.ofInt -1) ∈ rd_ws := rd_m 481 (by decide +kernel)
theorem ml_S_152 : rd_lV "ReinsuranceDesk$Cession" 152 x_S_keptFrom 1 0 := ⟨ok_S_keptFrom, rd_m 482 (by decide +kernel), rd_m 484 (by decide +kernel), by decide +kernel, by decide +kernel, _, _, _, rfl, rd_ms (by decide +kernel)⟩
theorem ml_S_126 : rd_lV "ReinsuranceDesk$Cession" 126 x_S_take 3 0 := ⟨ok_S_take, rd_m 449 (by decide +kernel), rd_m 451 (by decide +kernel), by decide +kernel, by decide +kernel, _, _, _, rfl, rd_ms (by decide +kernel)⟩
theorem ml_S_168 : rd_lV "ReinsuranceDesk$Cession" 168 x_S_greatestRemainder 0 0 := ⟨ok_S_greatestRemainder, rd_m 494 (by decide +kernel), rd_m 496 (by decide +kernel), by decide +kernel, by decide +kernel, _, _, _, rfl, rd_ms (by decide +kernel)⟩
theorem ml_T_40 : rd_lS "ReinsuranceDesk$Treaties" 40 x_J_max 2 := ⟨ok_J_max, rd_m 437 (by decide +kernel), rd_m 438 (by decide +kernel), by decide +kernel, by decide +kernel⟩
theorem ml_T_46 : rd_lS "ReinsuranceDesk$Treaties" 46 x_J_min 2 := ⟨ok_J_min, rd_m 441 (by decide +kernel), rd_m 442 (by decide +kernel), by decide +kernel, by decide +kernel⟩
theorem ml_T_49 : rd_lV "ReinsuranceDesk$Treaties" 49 x_T_limitOf 1 3 := ⟨ok_T_limitOf, rd_m 465 (by decide +kernel), rd_m 466 (by decide +kernel), by decide +kernel, by decide +kernel, _, _, _, rfl, rd_m 467 (by decide +kernel)⟩
theorem ml_M_111 : rd_lV "ReinsuranceDeskModel" 111 x_M_isRisk 1 5 := ⟨ok_M_isRisk, rd_m 727 (by decide +kernel), rd_m 729 (by decide +kernel), by decide +kernel, by decide +kernel, _, _, _, rfl, rd_ms (by decide +kernel)⟩
theorem fl_M_25 : rd_fl "ReinsuranceDeskModel" 25 5 6 := ⟨_, _, _, rfl, by decide, rd_u5, rd_m 620 (by decide +kernel)⟩
theorem ml_M_199 : rd_lV "ReinsuranceDeskModel" 199 x_M_ratio 1 5 := ⟨ok_M_ratio, rd_m 852 (by decide +kernel), rd_m 854 (by decide +kernel), by decide +kernel, by decide +kernel, _, _, _, rfl, rd_ms (by decide +kernel)⟩
theorem kl_M_203 : Cond.constantLong "ReinsuranceDeskModel" 203 (Int64.ofInt 400000) ∈ rd_ws := rd_m 861 (by decide +kernel)
theorem kl_M_205 : Cond.constantLong "ReinsuranceDeskModel" 205 (Int64.ofInt 300000) ∈ rd_ws := rd_m 862 (by decide +kernel)
theorem ml_M_138 : rd_lV "ReinsuranceDeskModel" 138 x_M_isClaim 1 5 := ⟨ok_M_isClaim, rd_m 764 (by decide +kernel), rd_m 766 (by decide +kernel), by decide +kernel, by decide +kernel, _, _, _, rfl, rd_ms (by decide +kernel)⟩
theorem fl_M_28 : rd_fl "ReinsuranceDeskModel" 28 5 7 := ⟨_, _, _, rfl, by decide, rd_u5, rd_m 621 (by decide +kernel)⟩
theorem ml_M_130 : rd_lV "ReinsuranceDeskModel" 130 x_M_treatyYear 1 5 := ⟨ok_M_treatyYear, rd_m 750 (by decide +kernel), rd_m 752 (by decide +kernel), by decide +kernel, by decide +kernel, _, _, _, rfl, rd_ms (by decide +kernel)⟩
theorem ml_M_160 : rd_lV "ReinsuranceDeskModel" 160 x_M_counts 2 5 := ⟨ok_M_counts, rd_m 800 (by decide +kernel), rd_m 802 (by decide +kernel), by decide +kernel, by decide +kernel, _, _, _, rfl, rd_ms (by decide +kernel)⟩
theorem ml_M_164 : rd_lS "ReinsuranceDeskModel" 164 x_M_layer 3 := ⟨ok_M_layer, rd_m 816 (by decide +kernel), rd_m 817 (by decide +kernel), by decide +kernel, by decide +kernel⟩
theorem ml_M_168 : rd_lV "ReinsuranceDeskModel" 168 x_M_allowed 2 5 := ⟨ok_M_allowed, rd_m 819 (by decide +kernel), rd_m 821 (by decide +kernel), by decide +kernel, by decide +kernel, _, _, _, rfl, rd_ms (by decide +kernel)⟩
theorem fl_M_13 : rd_fl "ReinsuranceDeskModel" 13 5 2 := ⟨_, _, _, rfl, by decide, rd_u5, rd_m 616 (by decide +kernel)⟩
theorem ml_M_127 : rd_lV "ReinsuranceDeskModel" 127 x_M_isTreaty 1 5 := ⟨ok_M_isTreaty, rd_m 746 (by decide +kernel), rd_m 748 (by decide +kernel), by decide +kernel, by decide +kernel, _, _, _, rfl, rd_ms (by decide +kernel)⟩
theorem kl_M_121 : Cond.constantLong "ReinsuranceDeskModel" 121 (Int64.ofInt 43) ∈ rd_ws := rd_m 735 (by decide +kernel)
theorem ml_M_123 : rd_lS "ReinsuranceDeskModel" 123 x_M_areSo 5 := ⟨ok_M_areSo, rd_m 736 (by decide +kernel), rd_m 737 (by decide +kernel), by decide +kernel, by decide +kernel⟩
theorem fl_S_130 : rd_fl "ReinsuranceDesk$Cession" 130 1 6 := ⟨_, _, _, rfl, by decide, rd_u1, rd_m 69 (by decide +kernel)⟩
theorem ml_S_133 : rd_lV "ReinsuranceDesk$Cession" 133 x_T_layerOf 2 3 := ⟨ok_T_layerOf, rd_m 457 (by decide +kernel), rd_m 458 (by decide +kernel), by decide +kernel, by decide +kernel, _, _, _, rfl, rd_m 459 (by decide +kernel)⟩
theorem ml_S_136 : rd_lV "ReinsuranceDesk$Cession" 136 x_T_takenOfLayers 2 3 := ⟨ok_T_takenOfLayers, rd_m 461 (by decide +kernel), rd_m 462 (by decide +kernel), by decide +kernel, by decide +kernel, _, _, _, rfl, rd_m 463 (by decide +kernel)⟩
theorem ml_S_139 : rd_lV "ReinsuranceDesk$Cession" 139 x_S_gatherEvent 1 0 := ⟨ok_S_gatherEvent, rd_m 473 (by decide +kernel), rd_m 475 (by decide +kernel), by decide +kernel, by decide +kernel, _, _, _, rfl, rd_ms (by decide +kernel)⟩
theorem ml_S_145 : rd_lV "ReinsuranceDesk$Cession" 145 x_S_startOfWindow 0 0 := ⟨ok_S_startOfWindow, rd_m 477 (by decide +kernel), rd_m 479 (by decide +kernel), by decide +kernel, by decide +kernel, _, _, _, rfl, rd_ms (by decide +kernel)⟩
theorem ml_S_149 : rd_lV "ReinsuranceDesk$Cession" 149 x_S_dropOutside 1 0 := ⟨ok_S_dropOutside, rd_m 486 (by decide +kernel), rd_m 488 (by decide +kernel), by decide +kernel, by decide +kernel, _, _, _, rfl, rd_ms (by decide +kernel)⟩
theorem ml_S_156 : rd_lV "ReinsuranceDesk$Cession" 156 x_S_takeByParts 3 0 := ⟨ok_S_takeByParts, rd_m 490 (by decide +kernel), rd_m 492 (by decide +kernel), by decide +kernel, by decide +kernel, _, _, _, rfl, rd_ms (by decide +kernel)⟩
theorem fl_S_117 : rd_fl "ReinsuranceDesk$Cession" 117 2 0 := ⟨_, _, _, rfl, by decide, rd_u2, rd_m 30 (by decide +kernel)⟩
theorem ml_S_120 : rd_lV "ReinsuranceDesk$Cession" 120 x_T_partOfRisk 2 3 := ⟨ok_T_partOfRisk, rd_m 433 (by decide +kernel), rd_m 434 (by decide +kernel), by decide +kernel, by decide +kernel, _, _, _, rfl, rd_m 435 (by decide +kernel)⟩
theorem ml_S_179 : rd_lV "ReinsuranceDesk$Cession" 179 x_S_ratioOf 1 0 := ⟨ok_S_ratioOf, rd_m 549 (by decide +kernel), rd_m 540 (by decide +kernel), by decide +kernel, by decide +kernel, _, _, _, rfl, rd_m 541 (by decide +kernel)⟩
theorem kl_S_182 : Cond.constantLong "ReinsuranceDesk$Cession" 182 (Int64.ofInt 400000) ∈ rd_ws := rd_m 550 (by decide +kernel)
theorem ml_S_184 : rd_lS "ReinsuranceDesk$Cession" 184 x_J_max 2 := ⟨ok_J_max, rd_m 551 (by decide +kernel), rd_m 438 (by decide +kernel), by decide +kernel, by decide +kernel⟩
theorem kl_S_187 : Cond.constantLong "ReinsuranceDesk$Cession" 187 (Int64.ofInt 300000) ∈ rd_ws := rd_m 552 (by decide +kernel)
theorem ml_M_172 : rd_lV "ReinsuranceDeskModel" 172 x_M_inWindow 3 5 := ⟨ok_M_inWindow, rd_m 827 (by decide +kernel), rd_m 829 (by decide +kernel), by decide +kernel, by decide +kernel, _, _, _, rfl, rd_ms (by decide +kernel)⟩
theorem fl_M_72 : rd_fl "ReinsuranceDeskModel" 72 5 23 := ⟨_, _, _, rfl, by decide, rd_u5, rd_m 637 (by decide +kernel)⟩
theorem ml_M_176 : rd_lV "ReinsuranceDeskModel" 176 x_M_spread 3 5 := ⟨ok_M_spread, rd_m 831 (by decide +kernel), rd_m 833 (by decide +kernel), by decide +kernel, by decide +kernel, _, _, _, rfl, rd_ms (by decide +kernel)⟩
theorem fl_S_95 : rd_fl "ReinsuranceDesk$Cession" 95 3 1 := ⟨_, _, _, rfl, by decide, rd_u3, rd_m 96 (by decide +kernel)⟩
theorem ml_S_102 : rd_lV "ReinsuranceDesk$Cession" 102 x_S_cedePremiums 1 0 := ⟨ok_S_cedePremiums, rd_m 429 (by decide +kernel), rd_m 431 (by decide +kernel), by decide +kernel, by decide +kernel, _, _, _, rfl, rd_ms (by decide +kernel)⟩
theorem ml_S_105 : rd_lV "ReinsuranceDesk$Cession" 105 x_S_cedePartOfEachClaim 1 0 := ⟨ok_S_cedePartOfEachClaim, rd_m 445 (by decide +kernel), rd_m 447 (by decide +kernel), by decide +kernel, by decide +kernel, _, _, _, rfl, rd_ms (by decide +kernel)⟩
theorem ml_S_108 : rd_lV "ReinsuranceDesk$Cession" 108 x_S_cedeExcessOfEachClaim 1 0 := ⟨ok_S_cedeExcessOfEachClaim, rd_m 453 (by decide +kernel), rd_m 455 (by decide +kernel), by decide +kernel, by decide +kernel, _, _, _, rfl, rd_ms (by decide +kernel)⟩
theorem ml_S_111 : rd_lV "ReinsuranceDesk$Cession" 111 x_S_cedeExcessOfEachEvent 1 0 := ⟨ok_S_cedeExcessOfEachEvent, rd_m 469 (by decide +kernel), rd_m 471 (by decide +kernel), by decide +kernel, by decide +kernel, _, _, _, rfl, rd_ms (by decide +kernel)⟩
theorem ml_S_114 : rd_lV "ReinsuranceDesk$Cession" 114 x_S_cedeStopLoss 1 0 := ⟨ok_S_cedeStopLoss, rd_m 498 (by decide +kernel), rd_m 500 (by decide +kernel), by decide +kernel, by decide +kernel, _, _, _, rfl, rd_ms (by decide +kernel)⟩
theorem fl_S_92 : rd_fl "ReinsuranceDesk$Cession" 92 3 0 := ⟨_, _, _, rfl, by decide, rd_u3, rd_m 94 (by decide +kernel)⟩
theorem fl_S_98 : rd_fl "ReinsuranceDesk$Cession" 98 3 2 := ⟨_, _, _, rfl, by decide, rd_u3, rd_m 99 (by decide +kernel)⟩
theorem ml_S_201 : rd_lV "ReinsuranceDesk$Cession" 201 x_T_partOf 3 3 := ⟨ok_T_partOf, rd_m 596 (by decide +kernel), rd_m 563 (by decide +kernel), by decide +kernel, by decide +kernel, _, _, _, rfl, rd_m 564 (by decide +kernel)⟩
theorem ml_S_205 : rd_lV "ReinsuranceDesk$Cession" 205 x_S_commissionOf 1 0 := ⟨ok_S_commissionOf, rd_m 597 (by decide +kernel), rd_m 546 (by decide +kernel), by decide +kernel, by decide +kernel, _, _, _, rfl, rd_m 547 (by decide +kernel)⟩
theorem ml_S_208 : rd_lV "ReinsuranceDesk$Cession" 208 x_S_reinstatementOf 1 0 := ⟨ok_S_reinstatementOf, rd_m 598 (by decide +kernel), rd_m 567 (by decide +kernel), by decide +kernel, by decide +kernel, _, _, _, rfl, rd_m 568 (by decide +kernel)⟩
theorem ml_M_180 : rd_lV "ReinsuranceDeskModel" 180 x_M_partOf 2 5 := ⟨ok_M_partOf, rd_m 804 (by decide +kernel), rd_m 806 (by decide +kernel), by decide +kernel, by decide +kernel, _, _, _, rfl, rd_ms (by decide +kernel)⟩
theorem fl_M_75 : rd_fl "ReinsuranceDeskModel" 75 5 24 := ⟨_, _, _, rfl, by decide, rd_u5, rd_m 638 (by decide +kernel)⟩
theorem ml_M_184 : rd_lV "ReinsuranceDeskModel" 184 x_M_excessOfRisks 1 5 := ⟨ok_M_excessOfRisks, rd_m 812 (by decide +kernel), rd_m 814 (by decide +kernel), by decide +kernel, by decide +kernel, _, _, _, rfl, rd_ms (by decide +kernel)⟩
theorem ml_M_188 : rd_lV "ReinsuranceDeskModel" 188 x_M_excessOfEvents 1 5 := ⟨ok_M_excessOfEvents, rd_m 823 (by decide +kernel), rd_m 825 (by decide +kernel), by decide +kernel, by decide +kernel, _, _, _, rfl, rd_ms (by decide +kernel)⟩
theorem ml_S_99 : rd_lV "ReinsuranceDesk$Cession" 99 x_S_cedeTo 1 0 := ⟨ok_S_cedeTo, rd_m 425 (by decide +kernel), rd_m 427 (by decide +kernel), by decide +kernel, by decide +kernel, _, _, _, rfl, rd_ms (by decide +kernel)⟩
theorem ml_M_191 : rd_lV "ReinsuranceDeskModel" 191 x_M_apply 1 5 := ⟨ok_M_apply, rd_m 796 (by decide +kernel), rd_m 798 (by decide +kernel), by decide +kernel, by decide +kernel, _, _, _, rfl, rd_ms (by decide +kernel)⟩
theorem ml_S_53 : rd_lV "ReinsuranceDesk$Cession" 53 x_S_begin 1 0 := ⟨ok_S_begin, rd_m 411 (by decide +kernel), rd_m 413 (by decide +kernel), by decide +kernel, by decide +kernel, _, _, _, rfl, rd_ms (by decide +kernel)⟩
theorem ml_S_57 : rd_lV "ReinsuranceDesk$Cession" 57 x_S_cedeYear 1 0 := ⟨ok_S_cedeYear, rd_m 421 (by decide +kernel), rd_m 423 (by decide +kernel), by decide +kernel, by decide +kernel, _, _, _, rfl, rd_ms (by decide +kernel)⟩
theorem fl_D_39 : rd_fl "ReinsuranceDesk" 39 4 4 := ⟨_, _, _, rfl, by decide, rd_u4, rd_m 182 (by decide +kernel)⟩
theorem fl_D_35 : rd_fl "ReinsuranceDesk" 35 4 3 := ⟨_, _, _, rfl, by decide, rd_u4, rd_m 181 (by decide +kernel)⟩
theorem ml_D_154 : rd_lV "ReinsuranceDesk" 154 x_S_workOut 1 0 := ⟨ok_S_workOut, rd_m 407 (by decide +kernel), rd_m 408 (by decide +kernel), by decide +kernel, by decide +kernel, _, _, _, rfl, rd_m 409 (by decide +kernel)⟩
theorem ml_D_216 : rd_lV "ReinsuranceDesk" 216 x_S_owedBy 2 0 := ⟨ok_S_owedBy, rd_m 592 (by decide +kernel), rd_m 593 (by decide +kernel), by decide +kernel, by decide +kernel, _, _, _, rfl, rd_m 594 (by decide +kernel)⟩
theorem fl_D_43 : rd_fl "ReinsuranceDesk" 43 4 5 := ⟨_, _, _, rfl, by decide, rd_u4, rd_m 183 (by decide +kernel)⟩
theorem ml_D_132 : rd_lV "ReinsuranceDesk" 132 x_C_has 1 1 := ⟨ok_C_has, rd_m 374 (by decide +kernel), rd_m 375 (by decide +kernel), by decide +kernel, by decide +kernel, _, _, _, rfl, rd_m 376 (by decide +kernel)⟩
theorem fl_D_26 : rd_fl "ReinsuranceDesk" 26 4 2 := ⟨_, _, _, rfl, by decide, rd_u4, rd_m 180 (by decide +kernel)⟩
theorem ml_D_107 : rd_lV "ReinsuranceDesk" 107 x_T_has 1 3 := ⟨ok_T_has, rd_m 339 (by decide +kernel), rd_m 340 (by decide +kernel), by decide +kernel, by decide +kernel, _, _, _, rfl, rd_m 341 (by decide +kernel)⟩
theorem ml_D_138 : rd_lV "ReinsuranceDesk" 138 x_D_yearOfClaim 1 4 := ⟨ok_D_yearOfClaim, rd_m 379 (by decide +kernel), rd_m 381 (by decide +kernel), by decide +kernel, by decide +kernel, _, _, _, rfl, rd_ms (by decide +kernel)⟩
theorem fl_D_163 : rd_fl "ReinsuranceDesk" 163 0 5 := ⟨_, _, _, rfl, by decide, rd_u0, rd_m 140 (by decide +kernel)⟩
theorem ml_D_62 : rd_lV "ReinsuranceDesk" 62 x_R_isTold 1 2 := ⟨ok_R_isTold, rd_m 280 (by decide +kernel), rd_m 281 (by decide +kernel), by decide +kernel, by decide +kernel, _, _, _, rfl, rd_m 282 (by decide +kernel)⟩
theorem kc_D_123 : Cond.constant "ReinsuranceDesk" 123 (Int32.ofInt 100000) ∈ rd_ws := rd_m 356 (by decide +kernel)
theorem fl_D_126 : rd_fl "ReinsuranceDesk" 126 1 0 := ⟨_, _, _, rfl, by decide, rd_u1, rd_m 53 (by decide +kernel)⟩
theorem ml_D_129 : rd_lV "ReinsuranceDesk" 129 x_C_add 3 1 := ⟨ok_C_add, rd_m 359 (by decide +kernel), rd_m 360 (by decide +kernel), by decide +kernel, by decide +kernel, _, _, _, rfl, rd_m 361 (by decide +kernel)⟩
theorem fl_D_151 : rd_fl "ReinsuranceDesk" 151 1 2 := ⟨_, _, _, rfl, by decide, rd_u1, rd_m 58 (by decide +kernel)⟩
theorem fl_D_135 : rd_fl "ReinsuranceDesk" 135 1 5 := ⟨_, _, _, rfl, by decide, rd_u1, rd_m 67 (by decide +kernel)⟩
theorem fl_D_113 : rd_fl "ReinsuranceDesk" 113 3 2 := ⟨_, _, _, rfl, by decide, rd_u3, rd_m 100 (by decide +kernel)⟩
theorem fl_D_175 : rd_fl "ReinsuranceDesk" 175 0 6 := ⟨_, _, _, rfl, by decide, rd_u0, rd_m 142 (by decide +kernel)⟩
theorem ml_D_199 : rd_lV "ReinsuranceDesk" 199 x_T_partOf 3 3 := ⟨ok_T_partOf, rd_m 562 (by decide +kernel), rd_m 563 (by decide +kernel), by decide +kernel, by decide +kernel, _, _, _, rfl, rd_m 564 (by decide +kernel)⟩
theorem ml_D_203 : rd_lV "ReinsuranceDesk" 203 x_S_reinstatementOf 1 0 := ⟨ok_S_reinstatementOf, rd_m 566 (by decide +kernel), rd_m 567 (by decide +kernel), by decide +kernel, by decide +kernel, _, _, _, rfl, rd_m 568 (by decide +kernel)⟩
theorem fl_D_144 : rd_fl "ReinsuranceDesk" 144 1 4 := ⟨_, _, _, rfl, by decide, rd_u1, rd_m 64 (by decide +kernel)⟩
theorem fl_D_158 : rd_fl "ReinsuranceDesk" 158 0 4 := ⟨_, _, _, rfl, by decide, rd_u0, rd_m 138 (by decide +kernel)⟩
theorem ml_D_166 : rd_lV "ReinsuranceDesk" 166 x_T_isExcess 1 3 := ⟨ok_T_isExcess, rd_m 517 (by decide +kernel), rd_m 518 (by decide +kernel), by decide +kernel, by decide +kernel, _, _, _, rfl, rd_m 519 (by decide +kernel)⟩
theorem ml_D_171 : rd_lV "ReinsuranceDesk" 171 x_T_limitOf 1 3 := ⟨ok_T_limitOf, rd_m 522 (by decide +kernel), rd_m 466 (by decide +kernel), by decide +kernel, by decide +kernel, _, _, _, rfl, rd_m 467 (by decide +kernel)⟩
theorem fl_D_85 : rd_fl "ReinsuranceDesk" 85 2 1 := ⟨_, _, _, rfl, by decide, rd_u2, rd_m 32 (by decide +kernel)⟩
theorem fl_D_71 : rd_fl "ReinsuranceDesk" 71 2 0 := ⟨_, _, _, rfl, by decide, rd_u2, rd_m 29 (by decide +kernel)⟩
theorem ml_D_114 : rd_lV "ReinsuranceDesk" 114 x_T_partsOfOthers 2 3 := ⟨ok_T_partsOfOthers, rd_m 344 (by decide +kernel), rd_m 345 (by decide +kernel), by decide +kernel, by decide +kernel, _, _, _, rfl, rd_m 346 (by decide +kernel)⟩
theorem fl_D_120 : rd_fl "ReinsuranceDesk" 120 3 7 := ⟨_, _, _, rfl, by decide, rd_u3, rd_m 108 (by decide +kernel)⟩
theorem fl_D_188 : rd_fl "ReinsuranceDesk" 188 0 9 := ⟨_, _, _, rfl, by decide, rd_u0, rd_m 147 (by decide +kernel)⟩
theorem ml_D_191 : rd_lV "ReinsuranceDesk" 191 x_S_ratioOf 1 0 := ⟨ok_S_ratioOf, rd_m 539 (by decide +kernel), rd_m 540 (by decide +kernel), by decide +kernel, by decide +kernel, _, _, _, rfl, rd_m 541 (by decide +kernel)⟩
theorem ml_D_194 : rd_lV "ReinsuranceDesk" 194 x_S_commissionOf 1 0 := ⟨ok_S_commissionOf, rd_m 545 (by decide +kernel), rd_m 546 (by decide +kernel), by decide +kernel, by decide +kernel, _, _, _, rfl, rd_m 547 (by decide +kernel)⟩
theorem ml_D_88 : rd_lS "ReinsuranceDesk" 88 x_D_isShape 1 := ⟨ok_D_isShape, rd_m 319 (by decide +kernel), rd_m 320 (by decide +kernel), by decide +kernel, by decide +kernel⟩
theorem ml_D_91 : rd_lS "ReinsuranceDesk" 91 x_D_areTerms 5 := ⟨ok_D_areTerms, rd_m 322 (by decide +kernel), rd_m 323 (by decide +kernel), by decide +kernel, by decide +kernel⟩
theorem fl_D_97 : rd_fl "ReinsuranceDesk" 97 3 0 := ⟨_, _, _, rfl, by decide, rd_u3, rd_m 93 (by decide +kernel)⟩
theorem ml_D_103 : rd_lV "ReinsuranceDesk" 103 x_T_add 5 3 := ⟨ok_T_add, rd_m 328 (by decide +kernel), rd_m 329 (by decide +kernel), by decide +kernel, by decide +kernel, _, _, _, rfl, rd_m 330 (by decide +kernel)⟩
theorem ml_D_210 : rd_lV "ReinsuranceDesk" 210 x_S_workOutSupposing 3 0 := ⟨ok_S_workOutSupposing, rd_m 580 (by decide +kernel), rd_m 581 (by decide +kernel), by decide +kernel, by decide +kernel, _, _, _, rfl, rd_m 582 (by decide +kernel)⟩
theorem fl_D_178 : rd_fl "ReinsuranceDesk" 178 3 1 := ⟨_, _, _, rfl, by decide, rd_u3, rd_m 97 (by decide +kernel)⟩
theorem fl_D_183 : rd_fl "ReinsuranceDesk" 183 0 7 := ⟨_, _, _, rfl, by decide, rd_u0, rd_m 144 (by decide +kernel)⟩
theorem ml_M_194 : rd_lV "ReinsuranceDeskModel" 194 x_M_reckon 0 5 := ⟨ok_M_reckon, rd_m 788 (by decide +kernel), rd_m 790 (by decide +kernel), by decide +kernel, by decide +kernel, _, _, _, rfl, rd_ms (by decide +kernel)⟩
theorem ml_M_207 : rd_lV "ReinsuranceDeskModel" 207 x_M_commission 1 5 := ⟨ok_M_commission, rd_m 857 (by decide +kernel), rd_m 859 (by decide +kernel), by decide +kernel, by decide +kernel, _, _, _, rfl, rd_ms (by decide +kernel)⟩
theorem ml_M_214 : rd_lV "ReinsuranceDeskModel" 214 x_M_reinstatement 2 5 := ⟨ok_M_reinstatement, rd_m 871 (by decide +kernel), rd_m 873 (by decide +kernel), by decide +kernel, by decide +kernel, _, _, _, rfl, rd_ms (by decide +kernel)⟩
theorem fl_M_53 : rd_fl "ReinsuranceDeskModel" 53 5 17 := ⟨_, _, _, rfl, by decide, rd_u5, rd_m 631 (by decide +kernel)⟩
theorem ml_L_68 : rd_lV "ReinsuranceDeskLaw" 68 x_D_bill 1 4 := ⟨ok_D_bill, rd_m 587 (by decide +kernel), rd_m 588 (by decide +kernel), by decide +kernel, by decide +kernel, _, _, _, rfl, rd_m 589 (by decide +kernel)⟩
theorem ml_L_47 : rd_lV "ReinsuranceDeskLaw" 47 x_D_ceded 2 4 := ⟨ok_D_ceded, rd_m 505 (by decide +kernel), rd_m 506 (by decide +kernel), by decide +kernel, by decide +kernel, _, _, _, rfl, rd_m 507 (by decide +kernel)⟩
theorem ml_L_28 : rd_lV "ReinsuranceDeskLaw" 28 x_D_claim 3 4 := ⟨ok_D_claim, rd_m 352 (by decide +kernel), rd_m 353 (by decide +kernel), by decide +kernel, by decide +kernel, _, _, _, rfl, rd_m 354 (by decide +kernel)⟩
theorem ml_L_39 : rd_lV "ReinsuranceDeskLaw" 39 x_D_dissolve 2 4 := ⟨ok_D_dissolve, rd_m 395 (by decide +kernel), rd_m 396 (by decide +kernel), by decide +kernel, by decide +kernel, _, _, _, rfl, rd_m 397 (by decide +kernel)⟩
theorem ml_L_61 : rd_lV "ReinsuranceDeskLaw" 61 x_D_due 3 4 := ⟨ok_D_due, rd_m 557 (by decide +kernel), rd_m 558 (by decide +kernel), by decide +kernel, by decide +kernel, _, _, _, rfl, rd_m 559 (by decide +kernel)⟩
theorem ml_L_32 : rd_lV "ReinsuranceDeskLaw" 32 x_D_estimate 2 4 := ⟨ok_D_estimate, rd_m 370 (by decide +kernel), rd_m 371 (by decide +kernel), by decide +kernel, by decide +kernel, _, _, _, rfl, rd_m 372 (by decide +kernel)⟩
theorem ml_L_43 : rd_lV "ReinsuranceDeskLaw" 43 x_D_kept 1 4 := ⟨ok_D_kept, rd_m 403 (by decide +kernel), rd_m 404 (by decide +kernel), by decide +kernel, by decide +kernel, _, _, _, rfl, rd_m 405 (by decide +kernel)⟩
theorem ml_L_50 : rd_lV "ReinsuranceDeskLaw" 50 x_D_left 1 4 := ⟨ok_D_left, rd_m 513 (by decide +kernel), rd_m 514 (by decide +kernel), by decide +kernel, by decide +kernel, _, _, _, rfl, rd_m 515 (by decide +kernel)⟩
theorem ml_L_17 : rd_lV "ReinsuranceDeskLaw" 17 x_D_premium 2 4 := ⟨ok_D_premium, rd_m 303 (by decide +kernel), rd_m 304 (by decide +kernel), by decide +kernel, by decide +kernel, _, _, _, rfl, rd_m 305 (by decide +kernel)⟩
theorem ml_L_7 : rd_lV "ReinsuranceDeskLaw" 7 x_D_risk 3 4 := ⟨ok_D_risk, rd_m 202 (by decide +kernel), rd_m 203 (by decide +kernel), by decide +kernel, by decide +kernel, _, _, _, rfl, rd_m 204 (by decide +kernel)⟩
theorem ml_L_25 : rd_lV "ReinsuranceDeskLaw" 25 x_D_share 3 4 := ⟨ok_D_share, rd_m 335 (by decide +kernel), rd_m 336 (by decide +kernel), by decide +kernel, by decide +kernel, _, _, _, rfl, rd_m 337 (by decide +kernel)⟩
theorem ml_L_35 : rd_lV "ReinsuranceDeskLaw" 35 x_D_strike 1 4 := ⟨ok_D_strike, rd_m 387 (by decide +kernel), rd_m 388 (by decide +kernel), by decide +kernel, by decide +kernel, _, _, _, rfl, rd_m 389 (by decide +kernel)⟩
theorem ml_L_57 : rd_lV "ReinsuranceDeskLaw" 57 x_D_total 2 4 := ⟨ok_D_total, rd_m 534 (by decide +kernel), rd_m 535 (by decide +kernel), by decide +kernel, by decide +kernel, _, _, _, rfl, rd_m 536 (by decide +kernel)⟩
theorem ml_L_21 : rd_lV "ReinsuranceDeskLaw" 21 x_D_treaty 5 4 := ⟨ok_D_treaty, rd_m 315 (by decide +kernel), rd_m 316 (by decide +kernel), by decide +kernel, by decide +kernel, _, _, _, rfl, rd_m 317 (by decide +kernel)⟩
theorem ml_L_65 : rd_lV "ReinsuranceDeskLaw" 65 x_D_whatIf 3 4 := ⟨ok_D_whatIf, rd_m 574 (by decide +kernel), rd_m 575 (by decide +kernel), by decide +kernel, by decide +kernel, _, _, _, rfl, rd_m 576 (by decide +kernel)⟩
theorem ml_L_54 : rd_lV "ReinsuranceDeskLaw" 54 x_D_window 2 4 := ⟨ok_D_window, rd_m 526 (by decide +kernel), rd_m 527 (by decide +kernel), by decide +kernel, by decide +kernel, _, _, _, rfl, rd_m 528 (by decide +kernel)⟩
theorem ml_L_71 : rd_lV "ReinsuranceDeskLaw" 71 x_D_year 2 4 := ⟨ok_D_year, rd_m 602 (by decide +kernel), rd_m 603 (by decide +kernel), by decide +kernel, by decide +kernel, _, _, _, rfl, rd_m 604 (by decide +kernel)⟩
theorem ml_L_79 : rd_lS "ReinsuranceDeskLaw" 79 x_L_risk 4 := ⟨ok_L_risk, rd_m 197 (by decide +kernel), rd_m 198 (by decide +kernel), by decide +kernel, by decide +kernel⟩
theorem ml_L_84 : rd_lV "ReinsuranceDeskLaw" 84 x_M_risk 3 5 := ⟨ok_M_risk, rd_m 709 (by decide +kernel), rd_m 710 (by decide +kernel), by decide +kernel, by decide +kernel, _, _, _, rfl, rd_m 711 (by decide +kernel)⟩
theorem ml_L_85 : rd_lV "ReinsuranceDeskLaw" 85 x_M_thrown 0 5 := ⟨ok_M_thrown, rd_m 705 (by decide +kernel), rd_m 706 (by decide +kernel), by decide +kernel, by decide +kernel, _, _, _, rfl, rd_m 707 (by decide +kernel)⟩
theorem ml_L_89 : rd_lS "ReinsuranceDeskLaw" 89 x_L_premium 3 := ⟨ok_L_premium, rd_m 300 (by decide +kernel), rd_m 301 (by decide +kernel), by decide +kernel, by decide +kernel⟩
theorem ml_L_92 : rd_lV "ReinsuranceDeskLaw" 92 x_M_premium 2 5 := ⟨ok_M_premium, rd_m 723 (by decide +kernel), rd_m 724 (by decide +kernel), by decide +kernel, by decide +kernel, _, _, _, rfl, rd_m 725 (by decide +kernel)⟩
theorem ml_L_93 : rd_lS "ReinsuranceDeskLaw" 93 x_L_treaty 7 := ⟨ok_L_treaty, rd_m 312 (by decide +kernel), rd_m 313 (by decide +kernel), by decide +kernel, by decide +kernel⟩
theorem ml_L_96 : rd_lV "ReinsuranceDeskLaw" 96 x_M_treaty 5 5 := ⟨ok_M_treaty, rd_m 731 (by decide +kernel), rd_m 732 (by decide +kernel), by decide +kernel, by decide +kernel, _, _, _, rfl, rd_m 733 (by decide +kernel)⟩
theorem ml_L_97 : rd_lS "ReinsuranceDeskLaw" 97 x_L_share 4 := ⟨ok_L_share, rd_m 332 (by decide +kernel), rd_m 333 (by decide +kernel), by decide +kernel, by decide +kernel⟩
theorem ml_L_99 : rd_lV "ReinsuranceDeskLaw" 99 x_M_share 3 5 := ⟨ok_M_share, rd_m 742 (by decide +kernel), rd_m 743 (by decide +kernel), by decide +kernel, by decide +kernel, _, _, _, rfl, rd_m 744 (by decide +kernel)⟩
theorem ml_L_100 : rd_lS "ReinsuranceDeskLaw" 100 x_L_claim 5 := ⟨ok_L_claim, rd_m 349 (by decide +kernel), rd_m 350 (by decide +kernel), by decide +kernel, by decide +kernel⟩
theorem ml_L_103 : rd_lV "ReinsuranceDeskLaw" 103 x_M_claim 3 5 := ⟨ok_M_claim, rd_m 754 (by decide +kernel), rd_m 755 (by decide +kernel), by decide +kernel, by decide +kernel, _, _, _, rfl, rd_m 756 (by decide +kernel)⟩
theorem ml_L_104 : rd_lS "ReinsuranceDeskLaw" 104 x_L_estimate 3 := ⟨ok_L_estimate, rd_m 367 (by decide +kernel), rd_m 368 (by decide +kernel), by decide +kernel, by decide +kernel⟩
theorem ml_L_106 : rd_lV "ReinsuranceDeskLaw" 106 x_M_estimate 2 5 := ⟨ok_M_estimate, rd_m 760 (by decide +kernel), rd_m 761 (by decide +kernel), by decide +kernel, by decide +kernel, _, _, _, rfl, rd_m 762 (by decide +kernel)⟩
theorem ml_L_107 : rd_lS "ReinsuranceDeskLaw" 107 x_L_strike 2 := ⟨ok_L_strike, rd_m 384 (by decide +kernel), rd_m 385 (by decide +kernel), by decide +kernel, by decide +kernel⟩
theorem ml_L_110 : rd_lV "ReinsuranceDeskLaw" 110 x_M_strike 1 5 := ⟨ok_M_strike, rd_m 772 (by decide +kernel), rd_m 773 (by decide +kernel), by decide +kernel, by decide +kernel, _, _, _, rfl, rd_m 774 (by decide +kernel)⟩
theorem ml_L_111 : rd_lS "ReinsuranceDeskLaw" 111 x_L_dissolve 4 := ⟨ok_L_dissolve, rd_m 392 (by decide +kernel), rd_m 393 (by decide +kernel), by decide +kernel, by decide +kernel⟩
theorem ml_L_114 : rd_lV "ReinsuranceDeskLaw" 114 x_M_dissolve 2 5 := ⟨ok_M_dissolve, rd_m 776 (by decide +kernel), rd_m 777 (by decide +kernel), by decide +kernel, by decide +kernel, _, _, _, rfl, rd_m 778 (by decide +kernel)⟩
theorem ml_L_115 : rd_lS "ReinsuranceDeskLaw" 115 x_L_kept 3 := ⟨ok_L_kept, rd_m 400 (by decide +kernel), rd_m 401 (by decide +kernel), by decide +kernel, by decide +kernel⟩
theorem ml_L_118 : rd_lV "ReinsuranceDeskLaw" 118 x_M_kept 1 5 := ⟨ok_M_kept, rd_m 784 (by decide +kernel), rd_m 785 (by decide +kernel), by decide +kernel, by decide +kernel, _, _, _, rfl, rd_m 786 (by decide +kernel)⟩
theorem ml_L_119 : rd_lS "ReinsuranceDeskLaw" 119 x_L_ceded 4 := ⟨ok_L_ceded, rd_m 502 (by decide +kernel), rd_m 503 (by decide +kernel), by decide +kernel, by decide +kernel⟩
theorem ml_L_121 : rd_lV "ReinsuranceDeskLaw" 121 x_M_ceded 2 5 := ⟨ok_M_ceded, rd_m 836 (by decide +kernel), rd_m 837 (by decide +kernel), by decide +kernel, by decide +kernel, _, _, _, rfl, rd_m 838 (by decide +kernel)⟩
theorem ml_L_122 : rd_lS "ReinsuranceDeskLaw" 122 x_L_left 3 := ⟨ok_L_left, rd_m 510 (by decide +kernel), rd_m 511 (by decide +kernel), by decide +kernel, by decide +kernel⟩
theorem ml_L_124 : rd_lV "ReinsuranceDeskLaw" 124 x_M_left 1 5 := ⟨ok_M_left, rd_m 840 (by decide +kernel), rd_m 841 (by decide +kernel), by decide +kernel, by decide +kernel, _, _, _, rfl, rd_m 842 (by decide +kernel)⟩
theorem ml_L_125 : rd_lS "ReinsuranceDeskLaw" 125 x_L_window 4 := ⟨ok_L_window, rd_m 523 (by decide +kernel), rd_m 524 (by decide +kernel), by decide +kernel, by decide +kernel⟩
theorem ml_L_127 : rd_lV "ReinsuranceDeskLaw" 127 x_M_window 2 5 := ⟨ok_M_window, rd_m 844 (by decide +kernel), rd_m 845 (by decide +kernel), by decide +kernel, by decide +kernel, _, _, _, rfl, rd_m 846 (by decide +kernel)⟩
theorem ml_L_128 : rd_lS "ReinsuranceDeskLaw" 128 x_L_total 4 := ⟨ok_L_total, rd_m 531 (by decide +kernel), rd_m 532 (by decide +kernel), by decide +kernel, by decide +kernel⟩
theorem ml_L_130 : rd_lV "ReinsuranceDeskLaw" 130 x_M_total 2 5 := ⟨ok_M_total, rd_m 848 (by decide +kernel), rd_m 849 (by decide +kernel), by decide +kernel, by decide +kernel, _, _, _, rfl, rd_m 850 (by decide +kernel)⟩
theorem ml_L_131 : rd_lS "ReinsuranceDeskLaw" 131 x_L_due 5 := ⟨ok_L_due, rd_m 554 (by decide +kernel), rd_m 555 (by decide +kernel), by decide +kernel, by decide +kernel⟩
theorem ml_L_133 : rd_lV "ReinsuranceDeskLaw" 133 x_M_due 3 5 := ⟨ok_M_due, rd_m 863 (by decide +kernel), rd_m 864 (by decide +kernel), by decide +kernel, by decide +kernel, _, _, _, rfl, rd_m 865 (by decide +kernel)⟩
theorem ml_L_134 : rd_lS "ReinsuranceDeskLaw" 134 x_L_whatIf 5 := ⟨ok_L_whatIf, rd_m 571 (by decide +kernel), rd_m 572 (by decide +kernel), by decide +kernel, by decide +kernel⟩
theorem ml_L_136 : rd_lV "ReinsuranceDeskLaw" 136 x_M_whatIf 3 5 := ⟨ok_M_whatIf, rd_m 875 (by decide +kernel), rd_m 876 (by decide +kernel), by decide +kernel, by decide +kernel, _, _, _, rfl, rd_m 877 (by decide +kernel)⟩
theorem ml_L_137 : rd_lS "ReinsuranceDeskLaw" 137 x_L_bill 3 := ⟨ok_L_bill, rd_m 584 (by decide +kernel), rd_m 585 (by decide +kernel), by decide +kernel, by decide +kernel⟩
theorem ml_L_139 : rd_lV "ReinsuranceDeskLaw" 139 x_M_bill 1 5 := ⟨ok_M_bill, rd_m 879 (by decide +kernel), rd_m 880 (by decide +kernel), by decide +kernel, by decide +kernel, _, _, _, rfl, rd_m 881 (by decide +kernel)⟩
theorem ml_L_140 : rd_lS "ReinsuranceDeskLaw" 140 x_L_year 3 := ⟨ok_L_year, rd_m 599 (by decide +kernel), rd_m 600 (by decide +kernel), by decide +kernel, by decide +kernel⟩
theorem ml_L_143 : rd_lV "ReinsuranceDeskLaw" 143 x_M_year 2 5 := ⟨ok_M_year, rd_m 780 (by decide +kernel), rd_m 781 (by decide +kernel), by decide +kernel, by decide +kernel, _, _, _, rfl, rd_m 782 (by decide +kernel)⟩
end
section
/-! what the bytes say -/
theorem d_C_has_0 : decode c_C_has 0 = .ok (.iload_n 1, 1) := by decide +kernel
theorem d_C_has_1 : decode c_C_has 1 = .ok (.ifCond .lt 15, 3) := by decide +kernel
theorem d_C_has_4 : decode c_C_has 4 = .ok (.iload_n 1, 1) := by decide +kernel
theorem d_C_has_5 : decode c_C_has 5 = .ok (.aload_n 0, 1) := by decide +kernel
theorem d_C_has_6 : decode c_C_has 6 = .ok (.getfield 31, 3) := by decide +kernel
theorem d_C_has_9 : decode c_C_has 9 = .ok (.if_icmp .ge 7, 3) := by decide +kernel
theorem d_C_has_12 : decode c_C_has 12 = .ok (.iconst 1, 1) := by decide +kernel
theorem d_C_has_13 : decode c_C_has 13 = .ok (.goto 4, 3) := by decide +kernel
theorem d_C_has_16 : decode c_C_has 16 = .ok (.iconst 0, 1) := by decide +kernel
theorem d_C_has_17 : decode c_C_has 17 = .ok (.ireturn, 1) := by decide +kernel
theorem d_C_placeByHour_0 : decode c_C_placeByHour 0 = .ok (.iload_n 1, 1) := by decide +kernel
theorem d_C_placeByHour_1 : decode c_C_placeByHour 1 = .ok (.istore_n 2, 1) := by decide +kernel
theorem d_C_placeByHour_2 : decode c_C_placeByHour 2 = .ok (.iload_n 2, 1) := by decide +kernel
theorem d_C_placeByHour_3 : decode c_C_placeByHour 3 = .ok (.ifCond .le 45, 3) := by decide +kernel
theorem d_C_placeByHour_6 : decode c_C_placeByHour 6 = .ok (.aload_n 0, 1) := by decide +kernel
theorem d_C_placeByHour_7 : decode c_C_placeByHour 7 = .ok (.getfield 18, 3) := by decide +kernel
theorem d_C_placeByHour_10 : decode c_C_placeByHour 10 = .ok (.aload_n 0, 1) := by decide +kernel
theorem d_C_placeByHour_11 : decode c_C_placeByHour 11 = .ok (.getfield 28, 3) := by decide +kernel
theorem d_C_placeByHour_14 : decode c_C_placeByHour 14 = .ok (.iload_n 2, 1) := by decide +kernel
theorem d_C_placeByHour_15 : decode c_C_placeByHour 15 = .ok (.iconst 1, 1) := by decide +kernel
theorem d_C_placeByHour_16 : decode c_C_placeByHour 16 = .ok (.isub, 1) := by decide +kernel
theorem d_C_placeByHour_17 : decode c_C_placeByHour 17 = .ok (.iaload, 1) := by decide +kernel
theorem d_C_placeByHour_18 : decode c_C_placeByHour 18 = .ok (.iaload, 1) := by decide +kernel
theorem d_C_placeByHour_19 : decode c_C_placeByHour 19 = .ok (.aload_n 0, 1) := by decide +kernel
theorem d_C_placeByHour_20 : decode c_C_placeByHour 20 = .ok (.getfield 18, 3) := by decide +kernel
theorem d_C_placeByHour_23 : decode c_C_placeByHour 23 = .ok (.iload_n 1, 1) := by decide +kernel
theorem d_C_placeByHour_24 : decode c_C_placeByHour 24 = .ok (.iaload, 1) := by decide +kernel
theorem d_C_placeByHour_25 : decode c_C_placeByHour 25 = .ok (.if_icmp .le 23, 3) := by decide +kernel
theorem d_C_placeByHour_28 : decode c_C_placeByHour 28 = .ok (.aload_n 0, 1) := by decide +kernel
theorem d_C_placeByHour_29 : decode c_C_placeByHour 29 = .ok (.getfield 28, 3) := by decide +kernel
theorem d_C_placeByHour_32 : decode c_C_placeByHour 32 = .ok (.iload_n 2, 1) := by decide +kernel
theorem d_C_placeByHour_33 : decode c_C_placeByHour 33 = .ok (.aload_n 0, 1) := by decide +kernel
theorem d_C_placeByHour_34 : decode c_C_placeByHour 34 = .ok (.getfield 28, 3) := by decide +kernel
theorem d_C_placeByHour_37 : decode c_C_placeByHour 37 = .ok (.iload_n 2, 1) := by decide +kernel
theorem d_C_placeByHour_38 : decode c_C_placeByHour 38 = .ok (.iconst 1, 1) := by decide +kernel
theorem d_C_placeByHour_39 : decode c_C_placeByHour 39 = .ok (.isub, 1) := by decide +kernel
theorem d_C_placeByHour_40 : decode c_C_placeByHour 40 = .ok (.iaload, 1) := by decide +kernel
theorem d_C_placeByHour_41 : decode c_C_placeByHour 41 = .ok (.iastore, 1) := by decide +kernel
theorem d_C_placeByHour_42 : decode c_C_placeByHour 42 = .ok (.iinc 2 (-1), 3) := by decide +kernel
theorem d_C_placeByHour_45 : decode c_C_placeByHour 45 = .ok (.goto (-43), 3) := by decide +kernel
theorem d_C_placeByHour_48 : decode c_C_placeByHour 48 = .ok (.aload_n 0, 1) := by decide +kernel
theorem d_C_placeByHour_49 : decode c_C_placeByHour 49 = .ok (.getfield 28, 3) := by decide +kernel
theorem d_C_placeByHour_52 : decode c_C_placeByHour 52 = .ok (.iload_n 2, 1) := by decide +kernel
theorem d_C_placeByHour_53 : decode c_C_placeByHour 53 = .ok (.iload_n 1, 1) := by decide +kernel
theorem d_C_placeByHour_54 : decode c_C_placeByHour 54 = .ok (.iastore, 1) := by decide +kernel
theorem d_C_placeByHour_55 : decode c_C_placeByHour 55 = .ok (.return_, 1) := by decide +kernel
theorem d_J_fillI_0 : decode c_J_fillI 0 = .ok (.iconst 0, 1) := by decide +kernel
theorem d_J_fillI_1 : decode c_J_fillI 1 = .ok (.istore_n 2, 1) := by decide +kernel
theorem d_J_fillI_2 : decode c_J_fillI 2 = .ok (.aload_n 0, 1) := by decide +kernel
theorem d_J_fillI_3 : decode c_J_fillI 3 = .ok (.arraylength, 1) := by decide +kernel
theorem d_J_fillI_4 : decode c_J_fillI 4 = .ok (.istore_n 3, 1) := by decide +kernel
theorem d_J_fillI_5 : decode c_J_fillI 5 = .ok (.iload_n 2, 1) := by decide +kernel
theorem d_J_fillI_6 : decode c_J_fillI 6 = .ok (.iload_n 3, 1) := by decide +kernel
theorem d_J_fillI_7 : decode c_J_fillI 7 = .ok (.if_icmp .ge 13, 3) := by decide +kernel
theorem d_J_fillI_10 : decode c_J_fillI 10 = .ok (.aload_n 0, 1) := by decide +kernel
theorem d_J_fillI_11 : decode c_J_fillI 11 = .ok (.iload_n 2, 1) := by decide +kernel
theorem d_J_fillI_12 : decode c_J_fillI 12 = .ok (.iload_n 1, 1) := by decide +kernel
theorem d_J_fillI_13 : decode c_J_fillI 13 = .ok (.iastore, 1) := by decide +kernel
theorem d_J_fillI_14 : decode c_J_fillI 14 = .ok (.iinc 2 1, 3) := by decide +kernel
theorem d_J_fillI_17 : decode c_J_fillI 17 = .ok (.goto (-12), 3) := by decide +kernel
theorem d_J_fillI_20 : decode c_J_fillI 20 = .ok (.return_, 1) := by decide +kernel
theorem d_J_fillJ_0 : decode c_J_fillJ 0 = .ok (.iconst 0, 1) := by decide +kernel
theorem d_J_fillJ_1 : decode c_J_fillJ 1 = .ok (.istore_n 3, 1) := by decide +kernel
theorem d_J_fillJ_2 : decode c_J_fillJ 2 = .ok (.aload_n 0, 1) := by decide +kernel
theorem d_J_fillJ_3 : decode c_J_fillJ 3 = .ok (.arraylength, 1) := by decide +kernel
theorem d_J_fillJ_4 : decode c_J_fillJ 4 = .ok (.istore 4, 2) := by decide +kernel
theorem d_J_fillJ_6 : decode c_J_fillJ 6 = .ok (.iload_n 3, 1) := by decide +kernel
theorem d_J_fillJ_7 : decode c_J_fillJ 7 = .ok (.iload 4, 2) := by decide +kernel
theorem d_J_fillJ_9 : decode c_J_fillJ 9 = .ok (.if_icmp .ge 13, 3) := by decide +kernel
theorem d_J_fillJ_12 : decode c_J_fillJ 12 = .ok (.aload_n 0, 1) := by decide +kernel
theorem d_J_fillJ_13 : decode c_J_fillJ 13 = .ok (.iload_n 3, 1) := by decide +kernel
theorem d_J_fillJ_14 : decode c_J_fillJ 14 = .ok (.lload_n 1, 1) := by decide +kernel
theorem d_J_fillJ_15 : decode c_J_fillJ 15 = .ok (.lastore, 1) := by decide +kernel
theorem d_J_fillJ_16 : decode c_J_fillJ 16 = .ok (.iinc 3 1, 3) := by decide +kernel
theorem d_J_fillJ_19 : decode c_J_fillJ 19 = .ok (.goto (-13), 3) := by decide +kernel
theorem d_J_fillJ_22 : decode c_J_fillJ 22 = .ok (.return_, 1) := by decide +kernel
theorem d_J_max_0 : decode c_J_max 0 = .ok (.lload_n 0, 1) := by decide +kernel
theorem d_J_max_1 : decode c_J_max 1 = .ok (.lload_n 2, 1) := by decide +kernel
theorem d_J_max_2 : decode c_J_max 2 = .ok (.lcmp, 1) := by decide +kernel
theorem d_J_max_3 : decode c_J_max 3 = .ok (.ifCond .lt 7, 3) := by decide +kernel
theorem d_J_max_6 : decode c_J_max 6 = .ok (.lload_n 0, 1) := by decide +kernel
theorem d_J_max_7 : decode c_J_max 7 = .ok (.goto 4, 3) := by decide +kernel
theorem d_J_max_10 : decode c_J_max 10 = .ok (.lload_n 2, 1) := by decide +kernel
theorem d_J_max_11 : decode c_J_max 11 = .ok (.lreturn, 1) := by decide +kernel
theorem d_J_min_0 : decode c_J_min 0 = .ok (.lload_n 0, 1) := by decide +kernel
theorem d_J_min_1 : decode c_J_min 1 = .ok (.lload_n 2, 1) := by decide +kernel
theorem d_J_min_2 : decode c_J_min 2 = .ok (.lcmp, 1) := by decide +kernel
theorem d_J_min_3 : decode c_J_min 3 = .ok (.ifCond .gt 7, 3) := by decide +kernel
theorem d_J_min_6 : decode c_J_min 6 = .ok (.lload_n 0, 1) := by decide +kernel
theorem d_J_min_7 : decode c_J_min 7 = .ok (.goto 4, 3) := by decide +kernel
theorem d_J_min_10 : decode c_J_min 10 = .ok (.lload_n 2, 1) := by decide +kernel
theorem d_J_min_11 : decode c_J_min 11 = .ok (.lreturn, 1) := by decide +kernel
theorem d_R_isTold_0 : decode c_R_isTold 0 = .ok (.iload_n 1, 1) := by decide +kernel
theorem d_R_isTold_1 : decode c_R_isTold 1 = .ok (.ifCond .lt 22, 3) := by decide +kernel
theorem d_R_isTold_4 : decode c_R_isTold 4 = .ok (.iload_n 1, 1) := by decide +kernel
theorem d_R_isTold_5 : decode c_R_isTold 5 = .ok (.bipush 12, 2) := by decide +kernel
theorem d_R_isTold_7 : decode c_R_isTold 7 = .ok (.if_icmp .ge 16, 3) := by decide +kernel
theorem d_R_isTold_10 : decode c_R_isTold 10 = .ok (.aload_n 0, 1) := by decide +kernel
theorem d_R_isTold_11 : decode c_R_isTold 11 = .ok (.getfield 9, 3) := by decide +kernel
theorem d_R_isTold_14 : decode c_R_isTold 14 = .ok (.iload_n 1, 1) := by decide +kernel
theorem d_R_isTold_15 : decode c_R_isTold 15 = .ok (.iaload, 1) := by decide +kernel
theorem d_R_isTold_16 : decode c_R_isTold 16 = .ok (.ifCond .le 7, 3) := by decide +kernel
theorem d_R_isTold_19 : decode c_R_isTold 19 = .ok (.iconst 1, 1) := by decide +kernel
theorem d_R_isTold_20 : decode c_R_isTold 20 = .ok (.goto 4, 3) := by decide +kernel
theorem d_R_isTold_23 : decode c_R_isTold 23 = .ok (.iconst 0, 1) := by decide +kernel
theorem d_R_isTold_24 : decode c_R_isTold 24 = .ok (.ireturn, 1) := by decide +kernel
theorem d_T_add_0 : decode c_T_add 0 = .ok (.aload_n 0, 1) := by decide +kernel
theorem d_T_add_1 : decode c_T_add 1 = .ok (.getfield 34, 3) := by decide +kernel
theorem d_T_add_4 : decode c_T_add 4 = .ok (.istore 6, 2) := by decide +kernel
theorem d_T_add_6 : decode c_T_add 6 = .ok (.aload_n 0, 1) := by decide +kernel
theorem d_T_add_7 : decode c_T_add 7 = .ok (.getfield 9, 3) := by decide +kernel
theorem d_T_add_10 : decode c_T_add 10 = .ok (.iload 6, 2) := by decide +kernel
theorem d_T_add_12 : decode c_T_add 12 = .ok (.iload_n 1, 1) := by decide +kernel
theorem d_T_add_13 : decode c_T_add 13 = .ok (.bipush 10, 2) := by decide +kernel
theorem d_T_add_15 : decode c_T_add 15 = .ok (.idiv, 1) := by decide +kernel
theorem d_T_add_16 : decode c_T_add 16 = .ok (.iastore, 1) := by decide +kernel
theorem d_T_add_17 : decode c_T_add 17 = .ok (.aload_n 0, 1) := by decide +kernel
theorem d_T_add_18 : decode c_T_add 18 = .ok (.getfield 15, 3) := by decide +kernel
theorem d_T_add_21 : decode c_T_add 21 = .ok (.iload 6, 2) := by decide +kernel
theorem d_T_add_23 : decode c_T_add 23 = .ok (.iload_n 1, 1) := by decide +kernel
theorem d_T_add_24 : decode c_T_add 24 = .ok (.bipush 10, 2) := by decide +kernel
theorem d_T_add_26 : decode c_T_add 26 = .ok (.irem, 1) := by decide +kernel
theorem d_T_add_27 : decode c_T_add 27 = .ok (.iastore, 1) := by decide +kernel
theorem d_T_add_28 : decode c_T_add 28 = .ok (.aload_n 0, 1) := by decide +kernel
theorem d_T_add_29 : decode c_T_add 29 = .ok (.getfield 18, 3) := by decide +kernel
theorem d_T_add_32 : decode c_T_add 32 = .ok (.iload 6, 2) := by decide +kernel
theorem d_T_add_34 : decode c_T_add 34 = .ok (.iload_n 2, 1) := by decide +kernel
theorem d_T_add_35 : decode c_T_add 35 = .ok (.i2l, 1) := by decide +kernel
theorem d_T_add_36 : decode c_T_add 36 = .ok (.lastore, 1) := by decide +kernel
theorem d_T_add_37 : decode c_T_add 37 = .ok (.aload_n 0, 1) := by decide +kernel
theorem d_T_add_38 : decode c_T_add 38 = .ok (.getfield 22, 3) := by decide +kernel
theorem d_T_add_41 : decode c_T_add 41 = .ok (.iload 6, 2) := by decide +kernel
theorem d_T_add_43 : decode c_T_add 43 = .ok (.iload_n 3, 1) := by decide +kernel
theorem d_T_add_44 : decode c_T_add 44 = .ok (.i2l, 1) := by decide +kernel
theorem d_T_add_45 : decode c_T_add 45 = .ok (.lastore, 1) := by decide +kernel
theorem d_T_add_46 : decode c_T_add 46 = .ok (.aload_n 0, 1) := by decide +kernel
theorem d_T_add_47 : decode c_T_add 47 = .ok (.getfield 25, 3) := by decide +kernel
theorem d_T_add_50 : decode c_T_add 50 = .ok (.iload 6, 2) := by decide +kernel
theorem d_T_add_52 : decode c_T_add 52 = .ok (.iload 4, 2) := by decide +kernel
theorem d_T_add_54 : decode c_T_add 54 = .ok (.i2l, 1) := by decide +kernel
theorem d_T_add_55 : decode c_T_add 55 = .ok (.lastore, 1) := by decide +kernel
theorem d_T_add_56 : decode c_T_add 56 = .ok (.aload_n 0, 1) := by decide +kernel
theorem d_T_add_57 : decode c_T_add 57 = .ok (.getfield 28, 3) := by decide +kernel
theorem d_T_add_60 : decode c_T_add 60 = .ok (.iload 6, 2) := by decide +kernel
theorem d_T_add_62 : decode c_T_add 62 = .ok (.iload 5, 2) := by decide +kernel
theorem d_T_add_64 : decode c_T_add 64 = .ok (.i2l, 1) := by decide +kernel
theorem d_T_add_65 : decode c_T_add 65 = .ok (.lastore, 1) := by decide +kernel
theorem d_T_add_66 : decode c_T_add 66 = .ok (.aload_n 0, 1) := by decide +kernel
theorem d_T_add_67 : decode c_T_add 67 = .ok (.iload 6, 2) := by decide +kernel
theorem d_T_add_69 : decode c_T_add 69 = .ok (.iconst 1, 1) := by decide +kernel
theorem d_T_add_70 : decode c_T_add 70 = .ok (.iadd, 1) := by decide +kernel
theorem d_T_add_71 : decode c_T_add 71 = .ok (.putfield 34, 3) := by decide +kernel
theorem d_T_add_74 : decode c_T_add 74 = .ok (.iload 6, 2) := by decide +kernel
theorem d_T_add_76 : decode c_T_add 76 = .ok (.ireturn, 1) := by decide +kernel
theorem d_T_has_0 : decode c_T_has 0 = .ok (.iload_n 1, 1) := by decide +kernel
theorem d_T_has_1 : decode c_T_has 1 = .ok (.ifCond .lt 15, 3) := by decide +kernel
theorem d_T_has_4 : decode c_T_has 4 = .ok (.iload_n 1, 1) := by decide +kernel
theorem d_T_has_5 : decode c_T_has 5 = .ok (.aload_n 0, 1) := by decide +kernel
theorem d_T_has_6 : decode c_T_has 6 = .ok (.getfield 34, 3) := by decide +kernel
theorem d_T_has_9 : decode c_T_has 9 = .ok (.if_icmp .ge 7, 3) := by decide +kernel
theorem d_T_has_12 : decode c_T_has 12 = .ok (.iconst 1, 1) := by decide +kernel
theorem d_T_has_13 : decode c_T_has 13 = .ok (.goto 4, 3) := by decide +kernel
theorem d_T_has_16 : decode c_T_has 16 = .ok (.iconst 0, 1) := by decide +kernel
theorem d_T_has_17 : decode c_T_has 17 = .ok (.ireturn, 1) := by decide +kernel
theorem d_T_isExcess_0 : decode c_T_isExcess 0 = .ok (.aload_n 0, 1) := by decide +kernel
theorem d_T_isExcess_1 : decode c_T_isExcess 1 = .ok (.getfield 9, 3) := by decide +kernel
theorem d_T_isExcess_4 : decode c_T_isExcess 4 = .ok (.iload_n 1, 1) := by decide +kernel
theorem d_T_isExcess_5 : decode c_T_isExcess 5 = .ok (.iaload, 1) := by decide +kernel
theorem d_T_isExcess_6 : decode c_T_isExcess 6 = .ok (.iconst 2, 1) := by decide +kernel
theorem d_T_isExcess_7 : decode c_T_isExcess 7 = .ok (.if_icmp .eq 13, 3) := by decide +kernel
theorem d_T_isExcess_10 : decode c_T_isExcess 10 = .ok (.aload_n 0, 1) := by decide +kernel
theorem d_T_isExcess_11 : decode c_T_isExcess 11 = .ok (.getfield 9, 3) := by decide +kernel
theorem d_T_isExcess_14 : decode c_T_isExcess 14 = .ok (.iload_n 1, 1) := by decide +kernel
theorem d_T_isExcess_15 : decode c_T_isExcess 15 = .ok (.iaload, 1) := by decide +kernel
theorem d_T_isExcess_16 : decode c_T_isExcess 16 = .ok (.iconst 3, 1) := by decide +kernel
theorem d_T_isExcess_17 : decode c_T_isExcess 17 = .ok (.if_icmp .ne 7, 3) := by decide +kernel
theorem d_T_isExcess_20 : decode c_T_isExcess 20 = .ok (.iconst 1, 1) := by decide +kernel
theorem d_T_isExcess_21 : decode c_T_isExcess 21 = .ok (.goto 4, 3) := by decide +kernel
theorem d_T_isExcess_24 : decode c_T_isExcess 24 = .ok (.iconst 0, 1) := by decide +kernel
theorem d_T_isExcess_25 : decode c_T_isExcess 25 = .ok (.ireturn, 1) := by decide +kernel
theorem d_T_limitOf_0 : decode c_T_limitOf 0 = .ok (.aload_n 0, 1) := by decide +kernel
theorem d_T_limitOf_1 : decode c_T_limitOf 1 = .ok (.getfield 22, 3) := by decide +kernel
theorem d_T_limitOf_4 : decode c_T_limitOf 4 = .ok (.iload_n 1, 1) := by decide +kernel
theorem d_T_limitOf_5 : decode c_T_limitOf 5 = .ok (.laload, 1) := by decide +kernel
theorem d_T_limitOf_6 : decode c_T_limitOf 6 = .ok (.lconst 1, 1) := by decide +kernel
theorem d_T_limitOf_7 : decode c_T_limitOf 7 = .ok (.aload_n 0, 1) := by decide +kernel
theorem d_T_limitOf_8 : decode c_T_limitOf 8 = .ok (.getfield 25, 3) := by decide +kernel
theorem d_T_limitOf_11 : decode c_T_limitOf 11 = .ok (.iload_n 1, 1) := by decide +kernel
theorem d_T_limitOf_12 : decode c_T_limitOf 12 = .ok (.laload, 1) := by decide +kernel
theorem d_T_limitOf_13 : decode c_T_limitOf 13 = .ok (.ladd, 1) := by decide +kernel
theorem d_T_limitOf_14 : decode c_T_limitOf 14 = .ok (.lmul, 1) := by decide +kernel
theorem d_T_limitOf_15 : decode c_T_limitOf 15 = .ok (.lreturn, 1) := by decide +kernel
theorem d_T_partOf_0 : decode c_T_partOf 0 = .ok (.lload_n 1, 1) := by decide +kernel
theorem d_T_partOf_1 : decode c_T_partOf 1 = .ok (.aload_n 0, 1) := by decide +kernel
theorem d_T_partOf_2 : decode c_T_partOf 2 = .ok (.getfield 31, 3) := by decide +kernel
theorem d_T_partOf_5 : decode c_T_partOf 5 = .ok (.iload_n 3, 1) := by decide +kernel
theorem d_T_partOf_6 : decode c_T_partOf 6 = .ok (.bipush 6, 2) := by decide +kernel
theorem d_T_partOf_8 : decode c_T_partOf 8 = .ok (.imul, 1) := by decide +kernel
theorem d_T_partOf_9 : decode c_T_partOf 9 = .ok (.iload 4, 2) := by decide +kernel
theorem d_T_partOf_11 : decode c_T_partOf 11 = .ok (.iadd, 1) := by decide +kernel
theorem d_T_partOf_12 : decode c_T_partOf 12 = .ok (.iaload, 1) := by decide +kernel
theorem d_T_partOf_13 : decode c_T_partOf 13 = .ok (.i2l, 1) := by decide +kernel
theorem d_T_partOf_14 : decode c_T_partOf 14 = .ok (.lmul, 1) := by decide +kernel
theorem d_T_partOf_15 : decode c_T_partOf 15 = .ok (.ldc2_w 38, 3) := by decide +kernel
theorem d_T_partOf_18 : decode c_T_partOf 18 = .ok (.ldiv, 1) := by decide +kernel
theorem d_T_partOf_19 : decode c_T_partOf 19 = .ok (.lreturn, 1) := by decide +kernel
theorem d_T_partsOfOthers_0 : decode c_T_partsOfOthers 0 = .ok (.iconst 0, 1) := by decide +kernel
theorem d_T_partsOfOthers_1 : decode c_T_partsOfOthers 1 = .ok (.istore_n 3, 1) := by decide +kernel
theorem d_T_partsOfOthers_2 : decode c_T_partsOfOthers 2 = .ok (.iconst 0, 1) := by decide +kernel
theorem d_T_partsOfOthers_3 : decode c_T_partsOfOthers 3 = .ok (.istore 4, 2) := by decide +kernel
theorem d_T_partsOfOthers_5 : decode c_T_partsOfOthers 5 = .ok (.iload 4, 2) := by decide +kernel
theorem d_T_partsOfOthers_7 : decode c_T_partsOfOthers 7 = .ok (.bipush 6, 2) := by decide +kernel
theorem d_T_partsOfOthers_9 : decode c_T_partsOfOthers 9 = .ok (.if_icmp .ge 30, 3) := by decide +kernel
theorem d_T_partsOfOthers_12 : decode c_T_partsOfOthers 12 = .ok (.iload 4, 2) := by decide +kernel
theorem d_T_partsOfOthers_14 : decode c_T_partsOfOthers 14 = .ok (.iload_n 2, 1) := by decide +kernel
theorem d_T_partsOfOthers_15 : decode c_T_partsOfOthers 15 = .ok (.if_icmp .eq 18, 3) := by decide +kernel
theorem d_T_partsOfOthers_18 : decode c_T_partsOfOthers 18 = .ok (.iload_n 3, 1) := by decide +kernel
theorem d_T_partsOfOthers_19 : decode c_T_partsOfOthers 19 = .ok (.aload_n 0, 1) := by decide +kernel
theorem d_T_partsOfOthers_20 : decode c_T_partsOfOthers 20 = .ok (.getfield 31, 3) := by decide +kernel
theorem d_T_partsOfOthers_23 : decode c_T_partsOfOthers 23 = .ok (.iload_n 1, 1) := by decide +kernel
theorem d_T_partsOfOthers_24 : decode c_T_partsOfOthers 24 = .ok (.bipush 6, 2) := by decide +kernel
theorem d_T_partsOfOthers_26 : decode c_T_partsOfOthers 26 = .ok (.imul, 1) := by decide +kernel
theorem d_T_partsOfOthers_27 : decode c_T_partsOfOthers 27 = .ok (.iload 4, 2) := by decide +kernel
theorem d_T_partsOfOthers_29 : decode c_T_partsOfOthers 29 = .ok (.iadd, 1) := by decide +kernel
theorem d_T_partsOfOthers_30 : decode c_T_partsOfOthers 30 = .ok (.iaload, 1) := by decide +kernel
theorem d_T_partsOfOthers_31 : decode c_T_partsOfOthers 31 = .ok (.iadd, 1) := by decide +kernel
theorem d_T_partsOfOthers_32 : decode c_T_partsOfOthers 32 = .ok (.istore_n 3, 1) := by decide +kernel
theorem d_T_partsOfOthers_33 : decode c_T_partsOfOthers 33 = .ok (.iinc 4 1, 3) := by decide +kernel
theorem d_T_partsOfOthers_36 : decode c_T_partsOfOthers 36 = .ok (.goto (-31), 3) := by decide +kernel
theorem d_T_partsOfOthers_39 : decode c_T_partsOfOthers 39 = .ok (.iload_n 3, 1) := by decide +kernel
theorem d_T_partsOfOthers_40 : decode c_T_partsOfOthers 40 = .ok (.ireturn, 1) := by decide +kernel
theorem d_C_add_0 : decode c_C_add 0 = .ok (.aload_n 0, 1) := by decide +kernel
theorem d_C_add_1 : decode c_C_add 1 = .ok (.getfield 31, 3) := by decide +kernel
theorem d_C_add_4 : decode c_C_add 4 = .ok (.istore 4, 2) := by decide +kernel
theorem d_C_add_6 : decode c_C_add 6 = .ok (.aload_n 0, 1) := by decide +kernel
theorem d_C_add_7 : decode c_C_add 7 = .ok (.getfield 9, 3) := by decide +kernel
theorem d_C_add_10 : decode c_C_add 10 = .ok (.iload 4, 2) := by decide +kernel
theorem d_C_add_12 : decode c_C_add 12 = .ok (.iload_n 1, 1) := by decide +kernel
theorem d_C_add_13 : decode c_C_add 13 = .ok (.iastore, 1) := by decide +kernel
theorem d_C_add_14 : decode c_C_add 14 = .ok (.aload_n 0, 1) := by decide +kernel
theorem d_C_add_15 : decode c_C_add 15 = .ok (.getfield 15, 3) := by decide +kernel
theorem d_C_add_18 : decode c_C_add 18 = .ok (.iload 4, 2) := by decide +kernel
theorem d_C_add_20 : decode c_C_add 20 = .ok (.iload_n 2, 1) := by decide +kernel
theorem d_C_add_21 : decode c_C_add 21 = .ok (.iastore, 1) := by decide +kernel
theorem d_C_add_22 : decode c_C_add 22 = .ok (.aload_n 0, 1) := by decide +kernel
theorem d_C_add_23 : decode c_C_add 23 = .ok (.getfield 18, 3) := by decide +kernel
theorem d_C_add_26 : decode c_C_add 26 = .ok (.iload 4, 2) := by decide +kernel
theorem d_C_add_28 : decode c_C_add 28 = .ok (.iload_n 3, 1) := by decide +kernel
theorem d_C_add_29 : decode c_C_add 29 = .ok (.iastore, 1) := by decide +kernel
theorem d_C_add_30 : decode c_C_add 30 = .ok (.aload_n 0, 1) := by decide +kernel
theorem d_C_add_31 : decode c_C_add 31 = .ok (.iload 4, 2) := by decide +kernel
theorem d_C_add_33 : decode c_C_add 33 = .ok (.invokevirtual 35, 3) := by decide +kernel
theorem d_C_add_36 : decode c_C_add 36 = .ok (.aload_n 0, 1) := by decide +kernel
theorem d_C_add_37 : decode c_C_add 37 = .ok (.iload 4, 2) := by decide +kernel
theorem d_C_add_39 : decode c_C_add 39 = .ok (.iconst 1, 1) := by decide +kernel
theorem d_C_add_40 : decode c_C_add 40 = .ok (.iadd, 1) := by decide +kernel
theorem d_C_add_41 : decode c_C_add 41 = .ok (.putfield 31, 3) := by decide +kernel
theorem d_C_add_44 : decode c_C_add 44 = .ok (.iload 4, 2) := by decide +kernel
theorem d_C_add_46 : decode c_C_add 46 = .ok (.ireturn, 1) := by decide +kernel
theorem d_T_layerOf_0 : decode c_T_layerOf 0 = .ok (.lload_n 2, 1) := by decide +kernel
theorem d_T_layerOf_1 : decode c_T_layerOf 1 = .ok (.aload_n 0, 1) := by decide +kernel
theorem d_T_layerOf_2 : decode c_T_layerOf 2 = .ok (.getfield 18, 3) := by decide +kernel
theorem d_T_layerOf_5 : decode c_T_layerOf 5 = .ok (.iload_n 1, 1) := by decide +kernel
theorem d_T_layerOf_6 : decode c_T_layerOf 6 = .ok (.laload, 1) := by decide +kernel
theorem d_T_layerOf_7 : decode c_T_layerOf 7 = .ok (.lsub, 1) := by decide +kernel
theorem d_T_layerOf_8 : decode c_T_layerOf 8 = .ok (.lconst 0, 1) := by decide +kernel
theorem d_T_layerOf_9 : decode c_T_layerOf 9 = .ok (.invokestatic 40, 3) := by decide +kernel
theorem d_T_layerOf_12 : decode c_T_layerOf 12 = .ok (.aload_n 0, 1) := by decide +kernel
theorem d_T_layerOf_13 : decode c_T_layerOf 13 = .ok (.getfield 22, 3) := by decide +kernel
theorem d_T_layerOf_16 : decode c_T_layerOf 16 = .ok (.iload_n 1, 1) := by decide +kernel
theorem d_T_layerOf_17 : decode c_T_layerOf 17 = .ok (.laload, 1) := by decide +kernel
theorem d_T_layerOf_18 : decode c_T_layerOf 18 = .ok (.invokestatic 46, 3) := by decide +kernel
theorem d_T_layerOf_21 : decode c_T_layerOf 21 = .ok (.lreturn, 1) := by decide +kernel
theorem d_T_partOfRisk_0 : decode c_T_partOfRisk 0 = .ok (.lload_n 2, 1) := by decide +kernel
theorem d_T_partOfRisk_1 : decode c_T_partOfRisk 1 = .ok (.lconst 0, 1) := by decide +kernel
theorem d_T_partOfRisk_2 : decode c_T_partOfRisk 2 = .ok (.lcmp, 1) := by decide +kernel
theorem d_T_partOfRisk_3 : decode c_T_partOfRisk 3 = .ok (.ifCond .gt 5, 3) := by decide +kernel
theorem d_T_partOfRisk_6 : decode c_T_partOfRisk 6 = .ok (.lconst 0, 1) := by decide +kernel
theorem d_T_partOfRisk_7 : decode c_T_partOfRisk 7 = .ok (.lreturn, 1) := by decide +kernel
theorem d_T_partOfRisk_8 : decode c_T_partOfRisk 8 = .ok (.aload_n 0, 1) := by decide +kernel
theorem d_T_partOfRisk_9 : decode c_T_partOfRisk 9 = .ok (.getfield 9, 3) := by decide +kernel
theorem d_T_partOfRisk_12 : decode c_T_partOfRisk 12 = .ok (.iload_n 1, 1) := by decide +kernel
theorem d_T_partOfRisk_13 : decode c_T_partOfRisk 13 = .ok (.iaload, 1) := by decide +kernel
theorem d_T_partOfRisk_14 : decode c_T_partOfRisk 14 = .ok (.ifCond .ne 39, 3) := by decide +kernel
theorem d_T_partOfRisk_17 : decode c_T_partOfRisk 17 = .ok (.lload_n 2, 1) := by decide +kernel
theorem d_T_partOfRisk_18 : decode c_T_partOfRisk 18 = .ok (.aload_n 0, 1) := by decide +kernel
theorem d_T_partOfRisk_19 : decode c_T_partOfRisk 19 = .ok (.getfield 22, 3) := by decide +kernel
theorem d_T_partOfRisk_22 : decode c_T_partOfRisk 22 = .ok (.iload_n 1, 1) := by decide +kernel
theorem d_T_partOfRisk_23 : decode c_T_partOfRisk 23 = .ok (.laload, 1) := by decide +kernel
theorem d_T_partOfRisk_24 : decode c_T_partOfRisk 24 = .ok (.lcmp, 1) := by decide +kernel
theorem d_T_partOfRisk_25 : decode c_T_partOfRisk 25 = .ok (.ifCond .gt 12, 3) := by decide +kernel
theorem d_T_partOfRisk_28 : decode c_T_partOfRisk 28 = .ok (.aload_n 0, 1) := by decide +kernel
theorem d_T_partOfRisk_29 : decode c_T_partOfRisk 29 = .ok (.getfield 18, 3) := by decide +kernel
theorem d_T_partOfRisk_32 : decode c_T_partOfRisk 32 = .ok (.iload_n 1, 1) := by decide +kernel
theorem d_T_partOfRisk_33 : decode c_T_partOfRisk 33 = .ok (.laload, 1) := by decide +kernel
theorem d_T_partOfRisk_34 : decode c_T_partOfRisk 34 = .ok (.goto 18, 3) := by decide +kernel
theorem d_T_partOfRisk_37 : decode c_T_partOfRisk 37 = .ok (.aload_n 0, 1) := by decide +kernel
theorem d_T_partOfRisk_38 : decode c_T_partOfRisk 38 = .ok (.getfield 18, 3) := by decide +kernel
theorem d_T_partOfRisk_41 : decode c_T_partOfRisk 41 = .ok (.iload_n 1, 1) := by decide +kernel
theorem d_T_partOfRisk_42 : decode c_T_partOfRisk 42 = .ok (.laload, 1) := by decide +kernel
theorem d_T_partOfRisk_43 : decode c_T_partOfRisk 43 = .ok (.aload_n 0, 1) := by decide +kernel
theorem d_T_partOfRisk_44 : decode c_T_partOfRisk 44 = .ok (.getfield 22, 3) := by decide +kernel
theorem d_T_partOfRisk_47 : decode c_T_partOfRisk 47 = .ok (.iload_n 1, 1) := by decide +kernel
theorem d_T_partOfRisk_48 : decode c_T_partOfRisk 48 = .ok (.laload, 1) := by decide +kernel
theorem d_T_partOfRisk_49 : decode c_T_partOfRisk 49 = .ok (.lmul, 1) := by decide +kernel
theorem d_T_partOfRisk_50 : decode c_T_partOfRisk 50 = .ok (.lload_n 2, 1) := by decide +kernel
theorem d_T_partOfRisk_51 : decode c_T_partOfRisk 51 = .ok (.ldiv, 1) := by decide +kernel
theorem d_T_partOfRisk_52 : decode c_T_partOfRisk 52 = .ok (.lreturn, 1) := by decide +kernel
theorem d_T_partOfRisk_53 : decode c_T_partOfRisk 53 = .ok (.lload_n 2, 1) := by decide +kernel
theorem d_T_partOfRisk_54 : decode c_T_partOfRisk 54 = .ok (.aload_n 0, 1) := by decide +kernel
theorem d_T_partOfRisk_55 : decode c_T_partOfRisk 55 = .ok (.getfield 18, 3) := by decide +kernel
theorem d_T_partOfRisk_58 : decode c_T_partOfRisk 58 = .ok (.iload_n 1, 1) := by decide +kernel
theorem d_T_partOfRisk_59 : decode c_T_partOfRisk 59 = .ok (.laload, 1) := by decide +kernel
theorem d_T_partOfRisk_60 : decode c_T_partOfRisk 60 = .ok (.lsub, 1) := by decide +kernel
theorem d_T_partOfRisk_61 : decode c_T_partOfRisk 61 = .ok (.lconst 0, 1) := by decide +kernel
theorem d_T_partOfRisk_62 : decode c_T_partOfRisk 62 = .ok (.invokestatic 40, 3) := by decide +kernel
theorem d_T_partOfRisk_65 : decode c_T_partOfRisk 65 = .ok (.lstore 4, 2) := by decide +kernel
theorem d_T_partOfRisk_67 : decode c_T_partOfRisk 67 = .ok (.ldc2_w 38, 3) := by decide +kernel
theorem d_T_partOfRisk_70 : decode c_T_partOfRisk 70 = .ok (.lload 4, 2) := by decide +kernel
theorem d_T_partOfRisk_72 : decode c_T_partOfRisk 72 = .ok (.aload_n 0, 1) := by decide +kernel
theorem d_T_partOfRisk_73 : decode c_T_partOfRisk 73 = .ok (.getfield 18, 3) := by decide +kernel
theorem d_T_partOfRisk_76 : decode c_T_partOfRisk 76 = .ok (.iload_n 1, 1) := by decide +kernel
theorem d_T_partOfRisk_77 : decode c_T_partOfRisk 77 = .ok (.laload, 1) := by decide +kernel
theorem d_T_partOfRisk_78 : decode c_T_partOfRisk 78 = .ok (.aload_n 0, 1) := by decide +kernel
theorem d_T_partOfRisk_79 : decode c_T_partOfRisk 79 = .ok (.getfield 22, 3) := by decide +kernel
theorem d_T_partOfRisk_82 : decode c_T_partOfRisk 82 = .ok (.iload_n 1, 1) := by decide +kernel
theorem d_T_partOfRisk_83 : decode c_T_partOfRisk 83 = .ok (.laload, 1) := by decide +kernel
theorem d_T_partOfRisk_84 : decode c_T_partOfRisk 84 = .ok (.lmul, 1) := by decide +kernel
theorem d_T_partOfRisk_85 : decode c_T_partOfRisk 85 = .ok (.invokestatic 46, 3) := by decide +kernel
theorem d_T_partOfRisk_88 : decode c_T_partOfRisk 88 = .ok (.lmul, 1) := by decide +kernel
theorem d_T_partOfRisk_89 : decode c_T_partOfRisk 89 = .ok (.lload_n 2, 1) := by decide +kernel
theorem d_T_partOfRisk_90 : decode c_T_partOfRisk 90 = .ok (.ldiv, 1) := by decide +kernel
theorem d_T_partOfRisk_91 : decode c_T_partOfRisk 91 = .ok (.lreturn, 1) := by decide +kernel
theorem d_T_takenOfLayers_0 : decode c_T_takenOfLayers 0 = .ok (.lload_n 2, 1) := by decide +kernel
theorem d_T_takenOfLayers_1 : decode c_T_takenOfLayers 1 = .ok (.aload_n 0, 1) := by decide +kernel
theorem d_T_takenOfLayers_2 : decode c_T_takenOfLayers 2 = .ok (.getfield 28, 3) := by decide +kernel
theorem d_T_takenOfLayers_5 : decode c_T_takenOfLayers 5 = .ok (.iload_n 1, 1) := by decide +kernel
theorem d_T_takenOfLayers_6 : decode c_T_takenOfLayers 6 = .ok (.laload, 1) := by decide +kernel
theorem d_T_takenOfLayers_7 : decode c_T_takenOfLayers 7 = .ok (.lsub, 1) := by decide +kernel
theorem d_T_takenOfLayers_8 : decode c_T_takenOfLayers 8 = .ok (.lconst 0, 1) := by decide +kernel
theorem d_T_takenOfLayers_9 : decode c_T_takenOfLayers 9 = .ok (.invokestatic 40, 3) := by decide +kernel
theorem d_T_takenOfLayers_12 : decode c_T_takenOfLayers 12 = .ok (.aload_n 0, 1) := by decide +kernel
theorem d_T_takenOfLayers_13 : decode c_T_takenOfLayers 13 = .ok (.iload_n 1, 1) := by decide +kernel
theorem d_T_takenOfLayers_14 : decode c_T_takenOfLayers 14 = .ok (.invokevirtual 49, 3) := by decide +kernel
theorem d_T_takenOfLayers_17 : decode c_T_takenOfLayers 17 = .ok (.invokestatic 46, 3) := by decide +kernel
theorem d_T_takenOfLayers_20 : decode c_T_takenOfLayers 20 = .ok (.lreturn, 1) := by decide +kernel
end

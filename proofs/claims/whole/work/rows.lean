section
-- ===== PART A: goes FIRST, ahead of the names: the tables' words, and 'selects' of the private methods out of them =====
/-- a private method of a class that the tables say can be made, by its rows of tables_1 -/
def lw_okq (q : MethodName × Nat) : Prop := (q.1.cls ≠ "java/lang/invoke/MethodHandle" ∧ q.1.cls ≠ "java/lang/invoke/VarHandle") ∧ Cond.instantiable q.1.cls q.2 ∈ tables_1 ∧ Cond.privateMethod q.1 ∈ tables_1 ∧ Cond.instanceMethod q.1 ∈ tables_1
theorem lw_p0 : lw_okq (⟨"java/lang/Throwable", "fillInStackTrace", "(I)Ljava/lang/Throwable;"⟩, 6) := ⟨⟨by decide +kernel, by decide +kernel⟩, List.mem_of_getElem? (i := 251) (by decide +kernel), List.mem_of_getElem? (i := 249) (by decide +kernel), List.mem_of_getElem? (i := 250) (by decide +kernel)⟩
theorem lw_p1 : lw_okq (⟨"ReinsuranceDesk$Claims", "placeByHour", "(I)V"⟩, 7) := ⟨⟨by decide +kernel, by decide +kernel⟩, List.mem_of_getElem? (i := 46) (by decide +kernel), List.mem_of_getElem? (i := 364) (by decide +kernel), List.mem_of_getElem? (i := 365) (by decide +kernel)⟩
theorem lw_p2 : lw_okq (⟨"ReinsuranceDesk", "yearOfClaim", "(I)I"⟩, 6) := ⟨⟨by decide +kernel, by decide +kernel⟩, List.mem_of_getElem? (i := 15) (by decide +kernel), List.mem_of_getElem? (i := 380) (by decide +kernel), List.mem_of_getElem? (i := 381) (by decide +kernel)⟩
theorem lw_p3 : lw_okq (⟨"ReinsuranceDesk$Cession", "begin", "(I)V"⟩, 13) := ⟨⟨by decide +kernel, by decide +kernel⟩, List.mem_of_getElem? (i := 128) (by decide +kernel), List.mem_of_getElem? (i := 412) (by decide +kernel), List.mem_of_getElem? (i := 413) (by decide +kernel)⟩
theorem lw_p4 : lw_okq (⟨"ReinsuranceDesk$Cession", "cedeYear", "(I)V"⟩, 13) := ⟨⟨by decide +kernel, by decide +kernel⟩, List.mem_of_getElem? (i := 128) (by decide +kernel), List.mem_of_getElem? (i := 422) (by decide +kernel), List.mem_of_getElem? (i := 423) (by decide +kernel)⟩
theorem lw_p5 : lw_okq (⟨"ReinsuranceDesk$Cession", "cedeTo", "(I)V"⟩, 13) := ⟨⟨by decide +kernel, by decide +kernel⟩, List.mem_of_getElem? (i := 128) (by decide +kernel), List.mem_of_getElem? (i := 426) (by decide +kernel), List.mem_of_getElem? (i := 427) (by decide +kernel)⟩
theorem lw_p6 : lw_okq (⟨"ReinsuranceDesk$Cession", "cedePremiums", "(I)V"⟩, 13) := ⟨⟨by decide +kernel, by decide +kernel⟩, List.mem_of_getElem? (i := 128) (by decide +kernel), List.mem_of_getElem? (i := 430) (by decide +kernel), List.mem_of_getElem? (i := 431) (by decide +kernel)⟩
theorem lw_p7 : lw_okq (⟨"ReinsuranceDesk$Cession", "cedePartOfEachClaim", "(I)V"⟩, 13) := ⟨⟨by decide +kernel, by decide +kernel⟩, List.mem_of_getElem? (i := 128) (by decide +kernel), List.mem_of_getElem? (i := 446) (by decide +kernel), List.mem_of_getElem? (i := 447) (by decide +kernel)⟩
theorem lw_p8 : lw_okq (⟨"ReinsuranceDesk$Cession", "take", "(IIJ)V"⟩, 13) := ⟨⟨by decide +kernel, by decide +kernel⟩, List.mem_of_getElem? (i := 128) (by decide +kernel), List.mem_of_getElem? (i := 450) (by decide +kernel), List.mem_of_getElem? (i := 451) (by decide +kernel)⟩
theorem lw_p9 : lw_okq (⟨"ReinsuranceDesk$Cession", "cedeExcessOfEachClaim", "(I)V"⟩, 13) := ⟨⟨by decide +kernel, by decide +kernel⟩, List.mem_of_getElem? (i := 128) (by decide +kernel), List.mem_of_getElem? (i := 454) (by decide +kernel), List.mem_of_getElem? (i := 455) (by decide +kernel)⟩
theorem lw_p10 : lw_okq (⟨"ReinsuranceDesk$Cession", "cedeExcessOfEachEvent", "(I)V"⟩, 13) := ⟨⟨by decide +kernel, by decide +kernel⟩, List.mem_of_getElem? (i := 128) (by decide +kernel), List.mem_of_getElem? (i := 470) (by decide +kernel), List.mem_of_getElem? (i := 471) (by decide +kernel)⟩
theorem lw_p11 : lw_okq (⟨"ReinsuranceDesk$Cession", "gatherEvent", "(I)V"⟩, 13) := ⟨⟨by decide +kernel, by decide +kernel⟩, List.mem_of_getElem? (i := 128) (by decide +kernel), List.mem_of_getElem? (i := 474) (by decide +kernel), List.mem_of_getElem? (i := 475) (by decide +kernel)⟩
theorem lw_p12 : lw_okq (⟨"ReinsuranceDesk$Cession", "startOfWindow", "()I"⟩, 13) := ⟨⟨by decide +kernel, by decide +kernel⟩, List.mem_of_getElem? (i := 128) (by decide +kernel), List.mem_of_getElem? (i := 478) (by decide +kernel), List.mem_of_getElem? (i := 479) (by decide +kernel)⟩
theorem lw_p13 : lw_okq (⟨"ReinsuranceDesk$Cession", "keptFrom", "(I)J"⟩, 13) := ⟨⟨by decide +kernel, by decide +kernel⟩, List.mem_of_getElem? (i := 128) (by decide +kernel), List.mem_of_getElem? (i := 483) (by decide +kernel), List.mem_of_getElem? (i := 484) (by decide +kernel)⟩
theorem lw_p14 : lw_okq (⟨"ReinsuranceDesk$Cession", "dropOutside", "(I)V"⟩, 13) := ⟨⟨by decide +kernel, by decide +kernel⟩, List.mem_of_getElem? (i := 128) (by decide +kernel), List.mem_of_getElem? (i := 487) (by decide +kernel), List.mem_of_getElem? (i := 488) (by decide +kernel)⟩
theorem lw_p15 : lw_okq (⟨"ReinsuranceDesk$Cession", "takeByParts", "(IJJ)V"⟩, 13) := ⟨⟨by decide +kernel, by decide +kernel⟩, List.mem_of_getElem? (i := 128) (by decide +kernel), List.mem_of_getElem? (i := 491) (by decide +kernel), List.mem_of_getElem? (i := 492) (by decide +kernel)⟩
def lw_privs_1 : List (MethodName × Nat) := [(⟨"java/lang/Throwable", "fillInStackTrace", "(I)Ljava/lang/Throwable;"⟩, 6), (⟨"ReinsuranceDesk$Claims", "placeByHour", "(I)V"⟩, 7), (⟨"ReinsuranceDesk", "yearOfClaim", "(I)I"⟩, 6), (⟨"ReinsuranceDesk$Cession", "begin", "(I)V"⟩, 13), (⟨"ReinsuranceDesk$Cession", "cedeYear", "(I)V"⟩, 13), (⟨"ReinsuranceDesk$Cession", "cedeTo", "(I)V"⟩, 13), (⟨"ReinsuranceDesk$Cession", "cedePremiums", "(I)V"⟩, 13), (⟨"ReinsuranceDesk$Cession", "cedePartOfEachClaim", "(I)V"⟩, 13), (⟨"ReinsuranceDesk$Cession", "take", "(IIJ)V"⟩, 13), (⟨"ReinsuranceDesk$Cession", "cedeExcessOfEachClaim", "(I)V"⟩, 13), (⟨"ReinsuranceDesk$Cession", "cedeExcessOfEachEvent", "(I)V"⟩, 13), (⟨"ReinsuranceDesk$Cession", "gatherEvent", "(I)V"⟩, 13), (⟨"ReinsuranceDesk$Cession", "startOfWindow", "()I"⟩, 13), (⟨"ReinsuranceDesk$Cession", "keptFrom", "(I)J"⟩, 13), (⟨"ReinsuranceDesk$Cession", "dropOutside", "(I)V"⟩, 13), (⟨"ReinsuranceDesk$Cession", "takeByParts", "(IJJ)V"⟩, 13)]
theorem lw_r1 : ∀ q ∈ lw_privs_1, lw_okq q := List.forall_mem_cons.mpr ⟨lw_p0, List.forall_mem_cons.mpr ⟨lw_p1, List.forall_mem_cons.mpr ⟨lw_p2, List.forall_mem_cons.mpr ⟨lw_p3, List.forall_mem_cons.mpr ⟨lw_p4, List.forall_mem_cons.mpr ⟨lw_p5, List.forall_mem_cons.mpr ⟨lw_p6, List.forall_mem_cons.mpr ⟨lw_p7, List.forall_mem_cons.mpr ⟨lw_p8, List.forall_mem_cons.mpr ⟨lw_p9, List.forall_mem_cons.mpr ⟨lw_p10, List.forall_mem_cons.mpr ⟨lw_p11, List.forall_mem_cons.mpr ⟨lw_p12, List.forall_mem_cons.mpr ⟨lw_p13, List.forall_mem_cons.mpr ⟨lw_p14, List.forall_mem_cons.mpr ⟨lw_p15, fun _ h => absurd h List.not_mem_nil⟩⟩⟩⟩⟩⟩⟩⟩⟩⟩⟩⟩⟩⟩⟩⟩
theorem lw_p16 : lw_okq (⟨"ReinsuranceDesk$Cession", "greatestRemainder", "()I"⟩, 13) := ⟨⟨by decide +kernel, by decide +kernel⟩, List.mem_of_getElem? (i := 128) (by decide +kernel), List.mem_of_getElem? (i := 495) (by decide +kernel), List.mem_of_getElem? (i := 496) (by decide +kernel)⟩
theorem lw_p17 : lw_okq (⟨"ReinsuranceDesk$Cession", "cedeStopLoss", "(I)V"⟩, 13) := ⟨⟨by decide +kernel, by decide +kernel⟩, List.mem_of_getElem? (i := 128) (by decide +kernel), List.mem_of_getElem? (i := 499) (by decide +kernel), List.mem_of_getElem? (i := 500) (by decide +kernel)⟩
theorem lw_p18 : lw_okq (⟨"ReinsuranceDeskModel", "throwing", "(ZZ)Z"⟩, 30) := ⟨⟨by decide +kernel, by decide +kernel⟩, List.mem_of_getElem? (i := 609) (by decide +kernel), List.mem_of_getElem? (i := 720) (by decide +kernel), List.mem_of_getElem? (i := 721) (by decide +kernel)⟩
theorem lw_p19 : lw_okq (⟨"ReinsuranceDeskModel", "isRisk", "(I)Z"⟩, 30) := ⟨⟨by decide +kernel, by decide +kernel⟩, List.mem_of_getElem? (i := 609) (by decide +kernel), List.mem_of_getElem? (i := 728) (by decide +kernel), List.mem_of_getElem? (i := 729) (by decide +kernel)⟩
theorem lw_p20 : lw_okq (⟨"ReinsuranceDeskModel", "isTreaty", "(I)Z"⟩, 30) := ⟨⟨by decide +kernel, by decide +kernel⟩, List.mem_of_getElem? (i := 609) (by decide +kernel), List.mem_of_getElem? (i := 747) (by decide +kernel), List.mem_of_getElem? (i := 748) (by decide +kernel)⟩
theorem lw_p21 : lw_okq (⟨"ReinsuranceDeskModel", "treatyYear", "(I)I"⟩, 30) := ⟨⟨by decide +kernel, by decide +kernel⟩, List.mem_of_getElem? (i := 609) (by decide +kernel), List.mem_of_getElem? (i := 751) (by decide +kernel), List.mem_of_getElem? (i := 752) (by decide +kernel)⟩
theorem lw_p22 : lw_okq (⟨"ReinsuranceDeskModel", "isClaim", "(I)Z"⟩, 30) := ⟨⟨by decide +kernel, by decide +kernel⟩, List.mem_of_getElem? (i := 609) (by decide +kernel), List.mem_of_getElem? (i := 765) (by decide +kernel), List.mem_of_getElem? (i := 766) (by decide +kernel)⟩
theorem lw_p23 : lw_okq (⟨"ReinsuranceDeskModel", "claimYear", "(I)I"⟩, 30) := ⟨⟨by decide +kernel, by decide +kernel⟩, List.mem_of_getElem? (i := 609) (by decide +kernel), List.mem_of_getElem? (i := 769) (by decide +kernel), List.mem_of_getElem? (i := 770) (by decide +kernel)⟩
theorem lw_p24 : lw_okq (⟨"ReinsuranceDeskModel", "reckon", "()V"⟩, 30) := ⟨⟨by decide +kernel, by decide +kernel⟩, List.mem_of_getElem? (i := 609) (by decide +kernel), List.mem_of_getElem? (i := 789) (by decide +kernel), List.mem_of_getElem? (i := 790) (by decide +kernel)⟩
theorem lw_p25 : lw_okq (⟨"ReinsuranceDeskModel", "kindOf", "(I)I"⟩, 30) := ⟨⟨by decide +kernel, by decide +kernel⟩, List.mem_of_getElem? (i := 609) (by decide +kernel), List.mem_of_getElem? (i := 793) (by decide +kernel), List.mem_of_getElem? (i := 794) (by decide +kernel)⟩
theorem lw_p26 : lw_okq (⟨"ReinsuranceDeskModel", "apply", "(I)V"⟩, 30) := ⟨⟨by decide +kernel, by decide +kernel⟩, List.mem_of_getElem? (i := 609) (by decide +kernel), List.mem_of_getElem? (i := 797) (by decide +kernel), List.mem_of_getElem? (i := 798) (by decide +kernel)⟩
theorem lw_p27 : lw_okq (⟨"ReinsuranceDeskModel", "counts", "(II)Z"⟩, 30) := ⟨⟨by decide +kernel, by decide +kernel⟩, List.mem_of_getElem? (i := 609) (by decide +kernel), List.mem_of_getElem? (i := 801) (by decide +kernel), List.mem_of_getElem? (i := 802) (by decide +kernel)⟩
theorem lw_p28 : lw_okq (⟨"ReinsuranceDeskModel", "partOf", "(II)J"⟩, 30) := ⟨⟨by decide +kernel, by decide +kernel⟩, List.mem_of_getElem? (i := 609) (by decide +kernel), List.mem_of_getElem? (i := 805) (by decide +kernel), List.mem_of_getElem? (i := 806) (by decide +kernel)⟩
theorem lw_p29 : lw_okq (⟨"ReinsuranceDeskModel", "take", "(IIJ)V"⟩, 30) := ⟨⟨by decide +kernel, by decide +kernel⟩, List.mem_of_getElem? (i := 609) (by decide +kernel), List.mem_of_getElem? (i := 809) (by decide +kernel), List.mem_of_getElem? (i := 810) (by decide +kernel)⟩
theorem lw_p30 : lw_okq (⟨"ReinsuranceDeskModel", "excessOfRisks", "(I)V"⟩, 30) := ⟨⟨by decide +kernel, by decide +kernel⟩, List.mem_of_getElem? (i := 609) (by decide +kernel), List.mem_of_getElem? (i := 813) (by decide +kernel), List.mem_of_getElem? (i := 814) (by decide +kernel)⟩
theorem lw_p31 : lw_okq (⟨"ReinsuranceDeskModel", "allowed", "(IJ)J"⟩, 30) := ⟨⟨by decide +kernel, by decide +kernel⟩, List.mem_of_getElem? (i := 609) (by decide +kernel), List.mem_of_getElem? (i := 820) (by decide +kernel), List.mem_of_getElem? (i := 821) (by decide +kernel)⟩
def lw_privs_2 : List (MethodName × Nat) := [(⟨"ReinsuranceDesk$Cession", "greatestRemainder", "()I"⟩, 13), (⟨"ReinsuranceDesk$Cession", "cedeStopLoss", "(I)V"⟩, 13), (⟨"ReinsuranceDeskModel", "throwing", "(ZZ)Z"⟩, 30), (⟨"ReinsuranceDeskModel", "isRisk", "(I)Z"⟩, 30), (⟨"ReinsuranceDeskModel", "isTreaty", "(I)Z"⟩, 30), (⟨"ReinsuranceDeskModel", "treatyYear", "(I)I"⟩, 30), (⟨"ReinsuranceDeskModel", "isClaim", "(I)Z"⟩, 30), (⟨"ReinsuranceDeskModel", "claimYear", "(I)I"⟩, 30), (⟨"ReinsuranceDeskModel", "reckon", "()V"⟩, 30), (⟨"ReinsuranceDeskModel", "kindOf", "(I)I"⟩, 30), (⟨"ReinsuranceDeskModel", "apply", "(I)V"⟩, 30), (⟨"ReinsuranceDeskModel", "counts", "(II)Z"⟩, 30), (⟨"ReinsuranceDeskModel", "partOf", "(II)J"⟩, 30), (⟨"ReinsuranceDeskModel", "take", "(IIJ)V"⟩, 30), (⟨"ReinsuranceDeskModel", "excessOfRisks", "(I)V"⟩, 30), (⟨"ReinsuranceDeskModel", "allowed", "(IJ)J"⟩, 30)]
theorem lw_r2 : ∀ q ∈ lw_privs_2, lw_okq q := List.forall_mem_cons.mpr ⟨lw_p16, List.forall_mem_cons.mpr ⟨lw_p17, List.forall_mem_cons.mpr ⟨lw_p18, List.forall_mem_cons.mpr ⟨lw_p19, List.forall_mem_cons.mpr ⟨lw_p20, List.forall_mem_cons.mpr ⟨lw_p21, List.forall_mem_cons.mpr ⟨lw_p22, List.forall_mem_cons.mpr ⟨lw_p23, List.forall_mem_cons.mpr ⟨lw_p24, List.forall_mem_cons.mpr ⟨lw_p25, List.forall_mem_cons.mpr ⟨lw_p26, List.forall_mem_cons.mpr ⟨lw_p27, List.forall_mem_cons.mpr ⟨lw_p28, List.forall_mem_cons.mpr ⟨lw_p29, List.forall_mem_cons.mpr ⟨lw_p30, List.forall_mem_cons.mpr ⟨lw_p31, fun _ h => absurd h List.not_mem_nil⟩⟩⟩⟩⟩⟩⟩⟩⟩⟩⟩⟩⟩⟩⟩⟩
theorem lw_p32 : lw_okq (⟨"ReinsuranceDeskModel", "excessOfEvents", "(I)V"⟩, 30) := ⟨⟨by decide +kernel, by decide +kernel⟩, List.mem_of_getElem? (i := 609) (by decide +kernel), List.mem_of_getElem? (i := 824) (by decide +kernel), List.mem_of_getElem? (i := 825) (by decide +kernel)⟩
theorem lw_p33 : lw_okq (⟨"ReinsuranceDeskModel", "inWindow", "(III)J"⟩, 30) := ⟨⟨by decide +kernel, by decide +kernel⟩, List.mem_of_getElem? (i := 609) (by decide +kernel), List.mem_of_getElem? (i := 828) (by decide +kernel), List.mem_of_getElem? (i := 829) (by decide +kernel)⟩
theorem lw_p34 : lw_okq (⟨"ReinsuranceDeskModel", "spread", "(IJJ)V"⟩, 30) := ⟨⟨by decide +kernel, by decide +kernel⟩, List.mem_of_getElem? (i := 609) (by decide +kernel), List.mem_of_getElem? (i := 832) (by decide +kernel), List.mem_of_getElem? (i := 833) (by decide +kernel)⟩
theorem lw_p35 : lw_okq (⟨"ReinsuranceDeskModel", "ratio", "(I)J"⟩, 30) := ⟨⟨by decide +kernel, by decide +kernel⟩, List.mem_of_getElem? (i := 609) (by decide +kernel), List.mem_of_getElem? (i := 853) (by decide +kernel), List.mem_of_getElem? (i := 854) (by decide +kernel)⟩
theorem lw_p36 : lw_okq (⟨"ReinsuranceDeskModel", "commission", "(I)J"⟩, 30) := ⟨⟨by decide +kernel, by decide +kernel⟩, List.mem_of_getElem? (i := 609) (by decide +kernel), List.mem_of_getElem? (i := 858) (by decide +kernel), List.mem_of_getElem? (i := 859) (by decide +kernel)⟩
theorem lw_p37 : lw_okq (⟨"ReinsuranceDeskModel", "shareOf", "(IIJ)J"⟩, 30) := ⟨⟨by decide +kernel, by decide +kernel⟩, List.mem_of_getElem? (i := 609) (by decide +kernel), List.mem_of_getElem? (i := 868) (by decide +kernel), List.mem_of_getElem? (i := 869) (by decide +kernel)⟩
theorem lw_p38 : lw_okq (⟨"ReinsuranceDeskModel", "reinstatement", "(II)J"⟩, 30) := ⟨⟨by decide +kernel, by decide +kernel⟩, List.mem_of_getElem? (i := 609) (by decide +kernel), List.mem_of_getElem? (i := 872) (by decide +kernel), List.mem_of_getElem? (i := 873) (by decide +kernel)⟩
def lw_privs_3 : List (MethodName × Nat) := [(⟨"ReinsuranceDeskModel", "excessOfEvents", "(I)V"⟩, 30), (⟨"ReinsuranceDeskModel", "inWindow", "(III)J"⟩, 30), (⟨"ReinsuranceDeskModel", "spread", "(IJJ)V"⟩, 30), (⟨"ReinsuranceDeskModel", "ratio", "(I)J"⟩, 30), (⟨"ReinsuranceDeskModel", "commission", "(I)J"⟩, 30), (⟨"ReinsuranceDeskModel", "shareOf", "(IIJ)J"⟩, 30), (⟨"ReinsuranceDeskModel", "reinstatement", "(II)J"⟩, 30)]
theorem lw_r3 : ∀ q ∈ lw_privs_3, lw_okq q := List.forall_mem_cons.mpr ⟨lw_p32, List.forall_mem_cons.mpr ⟨lw_p33, List.forall_mem_cons.mpr ⟨lw_p34, List.forall_mem_cons.mpr ⟨lw_p35, List.forall_mem_cons.mpr ⟨lw_p36, List.forall_mem_cons.mpr ⟨lw_p37, List.forall_mem_cons.mpr ⟨lw_p38, fun _ h => absurd h List.not_mem_nil⟩⟩⟩⟩⟩⟩⟩
def lw_privs : List (MethodName × Nat) := lw_privs_1 ++ (lw_privs_2 ++ (lw_privs_3))
def lw_tbl : List Cond := k2_sels lw_privs ++ tables_1
theorem lw_privs_ok : ∀ q ∈ lw_privs, lw_okq q := by
  show ∀ q ∈ lw_privs_1 ++ (lw_privs_2 ++ (lw_privs_3)), lw_okq q
  exact List.forall_mem_append.mpr ⟨lw_r1, List.forall_mem_append.mpr ⟨lw_r2, lw_r3⟩⟩
end
section
/-! names: classes and their fields, the world's shape, methods -/
def rd_T0 : u_T := fun k => match k with
  | 0 => ("ReinsuranceDesk$Cession", "risks", "LReinsuranceDesk$Risks;", true)
  | 1 => ("ReinsuranceDesk$Cession", "claims", "LReinsuranceDesk$Claims;", true)
  | 2 => ("ReinsuranceDesk$Cession", "treaties", "LReinsuranceDesk$Treaties;", true)
  | 3 => ("ReinsuranceDesk$Cession", "counts", "[Z", true)
  | 4 => ("ReinsuranceDesk$Cession", "keptOf", "[I", true)
  | 5 => ("ReinsuranceDesk$Cession", "cededOf", "[I", true)
  | 6 => ("ReinsuranceDesk$Cession", "taken", "[J", true)
  | 7 => ("ReinsuranceDesk$Cession", "windowOf", "[I", true)
  | 8 => ("ReinsuranceDesk$Cession", "premiumLeft", "[J", true)
  | 9 => ("ReinsuranceDesk$Cession", "premiumTo", "[J", true)
  | 10 => ("ReinsuranceDesk$Cession", "group", "[I", true)
  | 11 => ("ReinsuranceDesk$Cession", "groupSize", "I", false)
  | _ => ("ReinsuranceDesk$Cession", "remainder", "[J", true)
def rd_t0 : Nat → FieldType := fun k => match k with
  | 0 => .object "ReinsuranceDesk$Risks"
  | 1 => .object "ReinsuranceDesk$Claims"
  | 2 => .object "ReinsuranceDesk$Treaties"
  | 3 => .array .boolean
  | 4 => .array .int
  | 5 => .array .int
  | 6 => .array .long
  | 7 => .array .int
  | 8 => .array .long
  | 9 => .array .long
  | 10 => .array .int
  | 11 => .int
  | _ => .array .long
theorem rd_nn0 : ∀ a, a < 13 → ∀ b, b < 13 → a ≠ b → (rd_T0 a).2.1 ≠ (rd_T0 b).2.1 := by decide +kernel
theorem rd_tt0 : ∀ k, k < 13 → parseFieldDescriptor (rd_T0 k).2.2.1 = some (rd_t0 k) := by decide +kernel
def rd_T1 : u_T := fun k => match k with
  | 0 => ("ReinsuranceDesk$Claims", "count", "I", false)
  | 1 => ("ReinsuranceDesk$Claims", "riskOf", "[I", true)
  | 2 => ("ReinsuranceDesk$Claims", "event", "[I", true)
  | 3 => ("ReinsuranceDesk$Claims", "hour", "[I", true)
  | 4 => ("ReinsuranceDesk$Claims", "amount", "[I", true)
  | 5 => ("ReinsuranceDesk$Claims", "struck", "[Z", true)
  | _ => ("ReinsuranceDesk$Claims", "byHour", "[I", true)
def rd_t1 : Nat → FieldType := fun k => match k with
  | 0 => .int
  | 1 => .array .int
  | 2 => .array .int
  | 3 => .array .int
  | 4 => .array .int
  | 5 => .array .boolean
  | _ => .array .int
theorem rd_nn1 : ∀ a, a < 7 → ∀ b, b < 7 → a ≠ b → (rd_T1 a).2.1 ≠ (rd_T1 b).2.1 := by decide +kernel
theorem rd_tt1 : ∀ k, k < 7 → parseFieldDescriptor (rd_T1 k).2.2.1 = some (rd_t1 k) := by decide +kernel
def rd_T2 : u_T := fun k => match k with
  | 0 => ("ReinsuranceDesk$Risks", "sum", "[I", true)
  | 1 => ("ReinsuranceDesk$Risks", "premiumOf", "[I", true)
  | _ => ("ReinsuranceDesk$Risks", "yearOf", "[I", true)
def rd_t2 : Nat → FieldType := fun k => match k with
  | 0 => .array .int
  | 1 => .array .int
  | _ => .array .int
theorem rd_nn2 : ∀ a, a < 3 → ∀ b, b < 3 → a ≠ b → (rd_T2 a).2.1 ≠ (rd_T2 b).2.1 := by decide +kernel
theorem rd_tt2 : ∀ k, k < 3 → parseFieldDescriptor (rd_T2 k).2.2.1 = some (rd_t2 k) := by decide +kernel
def rd_T3 : u_T := fun k => match k with
  | 0 => ("ReinsuranceDesk$Treaties", "count", "I", false)
  | 1 => ("ReinsuranceDesk$Treaties", "kind", "[I", true)
  | 2 => ("ReinsuranceDesk$Treaties", "yearOf", "[I", true)
  | 3 => ("ReinsuranceDesk$Treaties", "a", "[J", true)
  | 4 => ("ReinsuranceDesk$Treaties", "b", "[J", true)
  | 5 => ("ReinsuranceDesk$Treaties", "c", "[J", true)
  | 6 => ("ReinsuranceDesk$Treaties", "d", "[J", true)
  | _ => ("ReinsuranceDesk$Treaties", "part", "[I", true)
def rd_t3 : Nat → FieldType := fun k => match k with
  | 0 => .int
  | 1 => .array .int
  | 2 => .array .int
  | 3 => .array .long
  | 4 => .array .long
  | 5 => .array .long
  | 6 => .array .long
  | _ => .array .int
theorem rd_nn3 : ∀ a, a < 8 → ∀ b, b < 8 → a ≠ b → (rd_T3 a).2.1 ≠ (rd_T3 b).2.1 := by decide +kernel
theorem rd_tt3 : ∀ k, k < 8 → parseFieldDescriptor (rd_T3 k).2.2.1 = some (rd_t3 k) := by decide +kernel
def rd_T4 : u_T := fun k => match k with
  | 0 => ("ReinsuranceDesk", "risks", "LReinsuranceDesk$Risks;", true)
  | 1 => ("ReinsuranceDesk", "claims", "LReinsuranceDesk$Claims;", true)
  | 2 => ("ReinsuranceDesk", "treaties", "LReinsuranceDesk$Treaties;", true)
  | 3 => ("ReinsuranceDesk", "cession", "LReinsuranceDesk$Cession;", true)
  | 4 => ("ReinsuranceDesk", "closed", "[Z", true)
  | _ => ("ReinsuranceDesk", "billed", "[J", true)
def rd_t4 : Nat → FieldType := fun k => match k with
  | 0 => .object "ReinsuranceDesk$Risks"
  | 1 => .object "ReinsuranceDesk$Claims"
  | 2 => .object "ReinsuranceDesk$Treaties"
  | 3 => .object "ReinsuranceDesk$Cession"
  | 4 => .array .boolean
  | _ => .array .long
theorem rd_nn4 : ∀ a, a < 6 → ∀ b, b < 6 → a ≠ b → (rd_T4 a).2.1 ≠ (rd_T4 b).2.1 := by decide +kernel
theorem rd_tt4 : ∀ k, k < 6 → parseFieldDescriptor (rd_T4 k).2.2.1 = some (rd_t4 k) := by decide +kernel
def rd_T5 : u_T := fun k => match k with
  | 0 => ("ReinsuranceDeskModel", "thrown", "I", false)
  | 1 => ("ReinsuranceDeskModel", "sum", "[I", true)
  | 2 => ("ReinsuranceDeskModel", "premium", "[I", true)
  | 3 => ("ReinsuranceDeskModel", "yearOf", "[I", true)
  | 4 => ("ReinsuranceDeskModel", "risk", "[I", true)
  | 5 => ("ReinsuranceDeskModel", "event", "[I", true)
  | 6 => ("ReinsuranceDeskModel", "hour", "[I", true)
  | 7 => ("ReinsuranceDeskModel", "estimate", "[I", true)
  | 8 => ("ReinsuranceDeskModel", "struck", "[Z", true)
  | 9 => ("ReinsuranceDeskModel", "claims", "I", false)
  | 10 => ("ReinsuranceDeskModel", "shape", "[I", true)
  | 11 => ("ReinsuranceDeskModel", "a", "[I", true)
  | 12 => ("ReinsuranceDeskModel", "b", "[I", true)
  | 13 => ("ReinsuranceDeskModel", "c", "[I", true)
  | 14 => ("ReinsuranceDeskModel", "d", "[I", true)
  | 15 => ("ReinsuranceDeskModel", "treaties", "I", false)
  | 16 => ("ReinsuranceDeskModel", "shares", "[I", true)
  | 17 => ("ReinsuranceDeskModel", "billed", "[J", true)
  | 18 => ("ReinsuranceDeskModel", "closed", "[Z", true)
  | 19 => ("ReinsuranceDeskModel", "kept", "[J", true)
  | 20 => ("ReinsuranceDeskModel", "taken", "[J", true)
  | 21 => ("ReinsuranceDeskModel", "total", "[J", true)
  | 22 => ("ReinsuranceDeskModel", "earned", "[J", true)
  | 23 => ("ReinsuranceDeskModel", "window", "[I", true)
  | 24 => ("ReinsuranceDeskModel", "left", "[J", true)
  | 25 => ("ReinsuranceDeskModel", "inside", "[Z", true)
  | 26 => ("ReinsuranceDeskModel", "rest", "[J", true)
  | 27 => ("ReinsuranceDeskModel", "more", "[I", true)
  | 28 => ("ReinsuranceDeskModel", "passed", "J", false)
  | _ => ("ReinsuranceDeskModel", "used", "J", false)
def rd_t5 : Nat → FieldType := fun k => match k with
  | 0 => .int
  | 1 => .array .int
  | 2 => .array .int
  | 3 => .array .int
  | 4 => .array .int
  | 5 => .array .int
  | 6 => .array .int
  | 7 => .array .int
  | 8 => .array .boolean
  | 9 => .int
  | 10 => .array .int
  | 11 => .array .int
  | 12 => .array .int
  | 13 => .array .int
  | 14 => .array .int
  | 15 => .int
  | 16 => .array .int
  | 17 => .array .long
  | 18 => .array .boolean
  | 19 => .array .long
  | 20 => .array .long
  | 21 => .array .long
  | 22 => .array .long
  | 23 => .array .int
  | 24 => .array .long
  | 25 => .array .boolean
  | 26 => .array .long
  | 27 => .array .int
  | 28 => .long
  | _ => .long
theorem rd_nn5 : ∀ a, a < 30 → ∀ b, b < 30 → a ≠ b → (rd_T5 a).2.1 ≠ (rd_T5 b).2.1 := by decide +kernel
theorem rd_tt5 : ∀ k, k < 30 → parseFieldDescriptor (rd_T5 k).2.2.1 = some (rd_t5 k) := by decide +kernel
abbrev rd_CL : List vw_C := [("ReinsuranceDesk$Cession", rd_T0, 13), ("ReinsuranceDesk$Claims", rd_T1, 7), ("ReinsuranceDesk$Risks", rd_T2, 3), ("ReinsuranceDesk$Treaties", rd_T3, 8), ("ReinsuranceDesk", rd_T4, 6), ("ReinsuranceDeskModel", rd_T5, 30)]
/-- the world: arrays (kind of element, length), objects (class, fields: a place, or a number) -/
def rd_SH : List ((Nat × Nat) ⊕ (Nat × List (Nat ⊕ Nat))) := [
  .inr (4, [.inl 1, .inl 2, .inl 3, .inl 4, .inl 5, .inl 6]),
  .inr (2, [.inl 7, .inl 8, .inl 9]),
  .inr (1, [.inr 0, .inl 10, .inl 11, .inl 12, .inl 13, .inl 14, .inl 15]),
  .inr (3, [.inr 0, .inl 16, .inl 17, .inl 18, .inl 19, .inl 20, .inl 21, .inl 22]),
  .inr (0, [.inl 1, .inl 2, .inl 3, .inl 23, .inl 24, .inl 25, .inl 26, .inl 27, .inl 28, .inl 29, .inl 30, .inr 0, .inl 31]),
  .inl (2, 4),
  .inl (1, 6),
  .inl (0, 12),
  .inl (0, 12),
  .inl (0, 12),
  .inl (0, 40),
  .inl (0, 40),
  .inl (0, 40),
  .inl (0, 40),
  .inl (2, 40),
  .inl (0, 40),
  .inl (0, 10),
  .inl (0, 10),
  .inl (1, 10),
  .inl (1, 10),
  .inl (1, 10),
  .inl (1, 10),
  .inl (0, 60),
  .inl (2, 40),
  .inl (0, 40),
  .inl (0, 400),
  .inl (1, 10),
  .inl (0, 100),
  .inl (1, 12),
  .inl (1, 10),
  .inl (0, 40),
  .inl (1, 40),
  .inr (5, [.inr 0, .inl 33, .inl 34, .inl 35, .inl 36, .inl 37, .inl 38, .inl 39, .inl 40, .inr 0, .inl 41, .inl 42, .inl 43, .inl 44, .inl 45, .inr 0, .inl 46, .inl 47, .inl 48, .inl 49, .inl 50, .inl 51, .inl 52, .inl 53, .inl 54, .inl 55, .inl 56, .inl 57, .inr 1, .inr 1]),
  .inl (0, 12),
  .inl (0, 12),
  .inl (0, 12),
  .inl (0, 40),
  .inl (0, 40),
  .inl (0, 40),
  .inl (0, 40),
  .inl (2, 40),
  .inl (0, 10),
  .inl (0, 10),
  .inl (0, 10),
  .inl (0, 10),
  .inl (0, 10),
  .inl (0, 60),
  .inl (1, 6),
  .inl (2, 4),
  .inl (1, 40),
  .inl (1, 400),
  .inl (1, 10),
  .inl (1, 10),
  .inl (0, 100),
  .inl (1, 12),
  .inl (2, 40),
  .inl (1, 40),
  .inl (0, 40),
  .inl (1, 1)]
/-- words that stay when the tables warm -/
def rd_gd (w : Cond) : Bool := goodWord w || (match w with | .castable _ _ => true | .declares _ => true | _ => false)
theorem rd_w_at {args a9 : Array Value} {s U : State} {w : Cond} (hW : s.WarmedH U.vm) (hok : w.warmOk s) (hon : w.onTables = true) (h : w.before args s = true) : w.before a9 U = true := by
  have h1 := Cond.before_warmed (args := args) hW w hok h
  rw [Cond.onTables_vm (A' := a9) (U' := U) U.vm w hon] at h1
  rwa [State.setVm_self] at h1
theorem rd_gd_at {args a9 : Array Value} {s U : State} {w : Cond} (hW : s.WarmedH U.vm) (hg : rd_gd w = true) (h : w.before args s = true) : w.before a9 U = true := by
  unfold rd_gd at hg
  rw [Bool.or_eq_true] at hg
  rcases hg with hg | hg
  · exact word_at hW (good_of_word hg) h
  · cases w with
    | castable a b => exact rd_w_at hW trivial rfl h
    | declares y => exact rd_w_at hW trivial rfl h
    | _ => simp at hg
def rd_ws : List Cond := lw_tbl.filter rd_gd
def rd_KC : Nat := 1
def rd_KS : Nat := 6
def rd_xn (k : Nat) : String := match k with
  | 0 => "java/lang/IllegalArgumentException"
  | _ => "java/lang/IllegalStateException"
theorem rd_m {w : Cond} (i : Nat) (h : tables_1[i]? = some w) (g : rd_gd w = true := by rfl) : w ∈ rd_ws := List.mem_filter.mpr ⟨List.mem_append_right _ (List.mem_of_getElem? h), g⟩
theorem rd_ms {w : Cond} (h : w ∈ k2_sels lw_privs) (g : rd_gd w = true := by rfl) : w ∈ rd_ws := List.mem_filter.mpr ⟨List.mem_append_left _ h, g⟩
set_option maxRecDepth 100000 in
theorem rd_good : ∀ w ∈ rd_ws, rd_gd w = true := fun w h => (List.mem_filter.mp h).2
set_option maxRecDepth 100000 in
theorem rd_u0 : ∀ w ∈ u_ws "ReinsuranceDesk$Cession" rd_T0 13, w ∈ rd_ws := fun w h => of_decide_eq_true (List.all_eq_true.mp (by decide +kernel : (u_ws "ReinsuranceDesk$Cession" rd_T0 13).all (fun w => decide (w ∈ rd_ws)) = true) w h)
set_option maxRecDepth 100000 in
theorem rd_u1 : ∀ w ∈ u_ws "ReinsuranceDesk$Claims" rd_T1 7, w ∈ rd_ws := fun w h => of_decide_eq_true (List.all_eq_true.mp (by decide +kernel : (u_ws "ReinsuranceDesk$Claims" rd_T1 7).all (fun w => decide (w ∈ rd_ws)) = true) w h)
set_option maxRecDepth 100000 in
theorem rd_u2 : ∀ w ∈ u_ws "ReinsuranceDesk$Risks" rd_T2 3, w ∈ rd_ws := fun w h => of_decide_eq_true (List.all_eq_true.mp (by decide +kernel : (u_ws "ReinsuranceDesk$Risks" rd_T2 3).all (fun w => decide (w ∈ rd_ws)) = true) w h)
set_option maxRecDepth 100000 in
theorem rd_u3 : ∀ w ∈ u_ws "ReinsuranceDesk$Treaties" rd_T3 8, w ∈ rd_ws := fun w h => of_decide_eq_true (List.all_eq_true.mp (by decide +kernel : (u_ws "ReinsuranceDesk$Treaties" rd_T3 8).all (fun w => decide (w ∈ rd_ws)) = true) w h)
set_option maxRecDepth 100000 in
theorem rd_u4 : ∀ w ∈ u_ws "ReinsuranceDesk" rd_T4 6, w ∈ rd_ws := fun w h => of_decide_eq_true (List.all_eq_true.mp (by decide +kernel : (u_ws "ReinsuranceDesk" rd_T4 6).all (fun w => decide (w ∈ rd_ws)) = true) w h)
set_option maxRecDepth 100000 in
theorem rd_u5 : ∀ w ∈ u_ws "ReinsuranceDeskModel" rd_T5 30, w ∈ rd_ws := fun w h => of_decide_eq_true (List.all_eq_true.mp (by decide +kernel : (u_ws "ReinsuranceDeskModel" rd_T5 30).all (fun w => decide (w ∈ rd_ws)) = true) w h)
end
section
/-! numbers: a machine word as an integer -/
abbrev rd_I (x : Int) : Prop := -2147483648 ≤ x ∧ x ≤ 2147483647
abbrev rd_J (x : Int) : Prop := -9223372036854775808 ≤ x ∧ x ≤ 9223372036854775807
theorem rd_i32 {x : Int} (h : rd_I x) : (Int32.ofInt x).toInt = x := Int32.toInt_ofInt_of_le (by have := h.1; omega) (by have := h.2; omega)
theorem rd_i64 {x : Int} (h : rd_J x) : (Int64.ofInt x).toInt = x := Int64.toInt_ofInt_of_le (by have := h.1; omega) (by have := h.2; omega)
theorem rd_lt32 {x y : Int} (hx : rd_I x) (hy : rd_I y) : Int32.ofInt x < Int32.ofInt y ↔ x < y := by rw [Int32.lt_iff_toInt_lt, rd_i32 hx, rd_i32 hy]
theorem rd_le32 {x y : Int} (hx : rd_I x) (hy : rd_I y) : Int32.ofInt x ≤ Int32.ofInt y ↔ x ≤ y := by rw [Int32.le_iff_toInt_le, rd_i32 hx, rd_i32 hy]
theorem rd_eq32 {x y : Int} (hx : rd_I x) (hy : rd_I y) : Int32.ofInt x = Int32.ofInt y ↔ x = y := by rw [← Int32.toInt_inj, rd_i32 hx, rd_i32 hy]
theorem rd_lt64 {x y : Int} (hx : rd_J x) (hy : rd_J y) : Int64.ofInt x < Int64.ofInt y ↔ x < y := by rw [Int64.lt_iff_toInt_lt, rd_i64 hx, rd_i64 hy]
theorem rd_eq64 {x y : Int} (hx : rd_J x) (hy : rd_J y) : Int64.ofInt x = Int64.ofInt y ↔ x = y := by rw [← Int64.toInt_inj, rd_i64 hx, rd_i64 hy]
theorem rd_I0 : rd_I 0 := by constructor <;> decide
theorem rd_zero32 : (0 : Int32) = Int32.ofInt 0 := lit0.symm
theorem rd_ne0_32 {y : Int} (hy : rd_I y) (h : y ≠ 0) : ¬ Int32.ofInt y = 0 := by rw [rd_zero32, rd_eq32 hy rd_I0]; exact h
theorem rd_ne0_64 {y : Int} (hy : rd_J y) (h : y ≠ 0) : ¬ Int64.ofInt y = 0 := by
  rw [← Int64.toInt_inj, rd_i64 hy]; simpa using h
theorem rd_div32 {x y : Int} (hx : rd_I x) (hy : rd_I y) : Int32.ofInt x / Int32.ofInt y = Int32.ofInt (x.tdiv y) := (Int32.ofInt_tdiv hx.1 hx.2 hy.1 hy.2).symm
theorem rd_mod32 {x y : Int} (hx : rd_I x) (hy : rd_I y) : Int32.ofInt x % Int32.ofInt y = Int32.ofInt (x.tmod y) := (Int32.ofInt_tmod hx.1 hx.2 hy.1 hy.2).symm
theorem rd_div64 {x y : Int} (hx : rd_J x) (hy : rd_J y) : Int64.ofInt x / Int64.ofInt y = Int64.ofInt (x.tdiv y) := (Int64.ofInt_tdiv hx.1 hx.2 hy.1 hy.2).symm
theorem rd_mod64 {x y : Int} (hx : rd_J x) (hy : rd_J y) : Int64.ofInt x % Int64.ofInt y = Int64.ofInt (x.tmod y) := (Int64.ofInt_tmod hx.1 hx.2 hy.1 hy.2).symm
theorem rd_ci2l {x : Int} (hx : rd_I x) : (Int32.ofInt x).toInt64 = Int64.ofInt x := Int32.toInt64_ofInt hx.1 hx.2
theorem rd_cl2i {x : Int} : (Int64.ofInt x).toInt32 = Int32.ofInt x := Int64.toInt32_ofInt
theorem rd_clamp {i : Int} (h0 : 0 ≤ i) (h1 : i ≤ 2147483647) : (Int32.ofInt i).toNatClampNeg = i.toNat := Int32.toNatClampNeg_ofInt_of_le (by omega) (by omega)
theorem rd_in {i : Int} {n : Nat} (h0 : 0 ≤ i) (h1 : i < n) (hn : n ≤ 2147483647) : vp_in (Int32.ofInt i) n := by
  have hi : rd_I i := ⟨by omega, by omega⟩
  intro h
  rcases h with h | h
  · rw [rd_zero32, rd_lt32 hi rd_I0] at h; omega
  · rw [rd_clamp h0 (by omega)] at h; omega
/-! the memory: a place's contents at an index; a method; the shape of the world -/
abbrev rd_M : Type := Nat → Int → Int
abbrev rd_i (x : Int) : Value := .int (Int32.ofInt x)
abbrev rd_l (x : Int) : Value := .long (Int64.ofInt x)
/-- name, code, locals, answer's type, handlers, depth of its calls, words that they take, exceptions that it may make, the script if it reads one -/
abbrev rd_X : Type := MethodName × ByteArray × Nat × Option FieldType × List (Nat × Nat × Nat × Nat) × Nat × Nat × Nat × Option (Nat × (Int → Int))
abbrev rd_nm (x : rd_X) : MethodName := x.1
abbrev rd_cd (x : rd_X) : ByteArray := x.2.1
abbrev rd_ml (x : rd_X) : Nat := x.2.2.1
abbrev rd_rt (x : rd_X) : Option FieldType := x.2.2.2.1
abbrev rd_hs (x : rd_X) : List (Nat × Nat × Nat × Nat) := x.2.2.2.2.1
abbrev rd_dp (x : rd_X) : Nat := x.2.2.2.2.2.1
abbrev rd_lb (x : rd_X) : Nat := x.2.2.2.2.2.2.1
abbrev rd_cp (x : rd_X) : Nat := x.2.2.2.2.2.2.2.1
abbrev rd_sc (x : rd_X) : Option (Nat × (Int → Int)) := x.2.2.2.2.2.2.2.2
/-- an answer, or which exception -/
abbrev rd_R : Type := Option Value ⊕ Nat
def rd_pv (σ : Nat → Nat) : Value → Value
  | .ref q => .ref (σ q)
  | v => v
def rd_fv (σ : Nat → Nat) (m : Int → Int) (k : Nat) : Nat ⊕ Nat → Value
  | .inl q => .ref (σ q)
  | .inr 0 => rd_i (m k)
  | .inr _ => rd_l (m k)
def rd_cell (σ : Nat → Nat) (cA : Nat → ClassId) (m : Int → Int) : (Nat × Nat) ⊕ (Nat × List (Nat ⊕ Nat)) → va_E
  | .inl (0, n) => .inl (cA 0, n, .inl (fun j => Int32.ofInt (m j)))
  | .inl (1, n) => .inl (cA 1, n, .inr (.inl (fun j => Int64.ofInt (m j))))
  | .inl (_, n) => .inl (cA 2, n, .inl (fun j => Int32.ofInt (m j)))
  | .inr (k, fs) => .inr (k, fs.mapIdx (fun j f => rd_fv σ m j f))
def rd_wd (σ : Nat → Nat) (cA : Nat → ClassId) (M : rd_M) : va_W := rd_SH.mapIdx (fun i c => (σ i, rd_cell σ cA (M i) c))
abbrev rd_ty (cA : Nat → ClassId) : List (ClassId × FieldType) := [(cA 0, .int), (cA 1, .long), (cA 2, .boolean)]
def rd_up (M : rd_M) (p : Nat) (i v : Int) : rd_M := fun q j => if q = p ∧ j = i then v else M q j
theorem rd_up_ne {M : rd_M} {p q : Nat} {i v : Int} (h : q ≠ p) : rd_up M p i v q = M q := by
  funext j; simp [rd_up, h]
theorem rd_up_same {M : rd_M} {p : Nat} {i v j : Int} : rd_up M p i v p j = if j = i then v else M p j := by simp [rd_up]
theorem rd_wd_at {σ : Nat → Nat} {cA : Nat → ClassId} {M : rd_M} {p : Nat} {c : (Nat × Nat) ⊕ (Nat × List (Nat ⊕ Nat))} (h : rd_SH[p]? = some c) : (rd_wd σ cA M)[p]? = some (σ p, rd_cell σ cA (M p) c) := by
  simp [rd_wd, List.getElem?_mapIdx, h]
theorem rd_wd_set {σ : Nat → Nat} {cA : Nat → ClassId} {M : rd_M} {p : Nat} {c : (Nat × Nat) ⊕ (Nat × List (Nat ⊕ Nat))} {i v : Int} {e : va_E} (h : rd_SH[p]? = some c) (he : rd_cell σ cA (rd_up M p i v p) c = e) : (rd_wd σ cA M).set p (σ p, e) = rd_wd σ cA (rd_up M p i v) := by
  apply List.ext_getElem?
  intro k
  by_cases hk : k = p
  · subst hk
    have hl : k < (rd_wd σ cA M).length := (List.getElem?_eq_some_iff.mp (rd_wd_at (M := M) h)).1
    rw [List.getElem?_set_self hl, rd_wd_at h, he]
  · rw [List.getElem?_set_ne (Ne.symm hk)]
    simp only [rd_wd, List.getElem?_mapIdx, rd_up_ne hk]
def rd_inj (σ : Nat → Nat) : Prop := ∀ i j, i < rd_SH.length → j < rd_SH.length → σ i = σ j → i = j
theorem rd_wd_len {σ : Nat → Nat} {cA : Nat → ClassId} {M : rd_M} : (rd_wd σ cA M).length = rd_SH.length := by simp [rd_wd]
theorem rd_wd_ad {σ : Nat → Nat} {cA : Nat → ClassId} {M : rd_M} {k : Nat} {q : Nat × va_E} (h : (rd_wd σ cA M)[k]? = some q) : k < rd_SH.length ∧ q.1 = σ k := by
  have hl := (List.getElem?_eq_some_iff.mp h).1
  rw [rd_wd_len] at hl
  refine ⟨hl, ?_⟩
  simp only [rd_wd, List.getElem?_mapIdx] at h
  cases hc : rd_SH[k]? with
  | none => rw [hc] at h; cases h
  | some c => rw [hc] at h; cases h; rfl
theorem rd_D {σ : Nat → Nat} {cA : Nat → ClassId} {M : rd_M} {A : Nat → Prop} (hj : rd_inj σ) (hA : ∀ i, i < rd_SH.length → A (σ i)) : va_D A (rd_wd σ cA M) := by
  refine ⟨fun i j p q hi hj' he => ?_, fun k q hk => ?_⟩
  · obtain ⟨a1, a2⟩ := rd_wd_ad hi
    obtain ⟨b1, b2⟩ := rd_wd_ad hj'
    exact hj i j a1 b1 (by rw [← a2, ← b2]; exact he)
  · obtain ⟨a1, a2⟩ := rd_wd_ad hk
    rw [a2]; exact hA k a1
/-- the locals: what is known of them -/
def rd_L (σ : Nat → Nat) (ls : Array Slot) (nL : Nat) (L : List (Option Value)) : Prop := ls.size = nL ∧ lv_wf ls ∧ L.length ≤ nL ∧ ∀ (i : Nat) (v : Value), L[i]? = some (some v) → ls[i]? = some (.val (rd_pv σ v))
def rd_al (σ : Nat → Nat) : Nat → List (Option Value) → List (Nat × Value)
  | _, [] => []
  | i, none :: r => rd_al σ (i + 1) r
  | i, some v :: r => (i, rd_pv σ v) :: rd_al σ (i + 1) r
theorem rd_al_mem {σ : Nat → Nat} : ∀ (L : List (Option Value)) (i j : Nat) (w : Value), L[j]? = some (some w) → (i + j, rd_pv σ w) ∈ rd_al σ i L
  | [], i, j, w, h => by simp at h
  | o :: r, i, 0, w, h => by
    have h : o = some w := by simpa using h
    subst h
    exact List.mem_cons_self
  | o :: r, i, j + 1, w, h => by
    have h : r[j]? = some (some w) := by simpa using h
    have h1 := rd_al_mem (σ := σ) r (i + 1) j w h
    rw [show i + 1 + j = i + (j + 1) by omega] at h1
    cases o with
    | none => exact h1
    | some v => exact List.mem_cons_of_mem _ h1
theorem rd_al_of {σ : Nat → Nat} : ∀ (L : List (Option Value)) (i : Nat) (q : Nat × Value), q ∈ rd_al σ i L → ∃ (j : Nat) (w : Value), L[j]? = some (some w) ∧ q = (i + j, rd_pv σ w)
  | [], i, q, h => by simp [rd_al] at h
  | none :: r, i, q, h => by
    obtain ⟨j, w, h1, h2⟩ := rd_al_of r (i + 1) q h
    exact ⟨j + 1, w, by simpa using h1, by rw [h2]; congr 1; omega⟩
  | some v :: r, i, q, h => by
    rcases List.mem_cons.mp h with rfl | h
    · exact ⟨0, v, by simp, rfl⟩
    · obtain ⟨j, w, h1, h2⟩ := rd_al_of r (i + 1) q h
      exact ⟨j + 1, w, by simpa using h1, by rw [h2]; congr 1; omega⟩
theorem rd_L.al {σ : Nat → Nat} {ls : Array Slot} {nL : Nat} {L : List (Option Value)} (h : rd_L σ ls nL L) : lv_has ls nL (rd_al σ 0 L) :=
  ⟨h.1, h.2.1, fun q hq => by
    obtain ⟨j, w, h1, rfl⟩ := rd_al_of L 0 q hq
    show ls[0 + j]? = _
    rw [Nat.zero_add]
    exact h.2.2.2 j w h1⟩
/-- whether a value takes two locals -/
def rd_two : Option Value → Bool
  | some (.long _) => true
  | some (.double _) => true
  | _ => false
def rd_okp (pre : List (Option Value)) : Bool := match pre.getLast? with
  | some o => !rd_two o
  | none => true
theorem rd_cat {σ : Nat → Nat} {v : Value} : (rd_pv σ v).category = v.category := by cases v <;> rfl
theorem rd_okp_last {pre : List (Option Value)} {j : Nat} {w : Value} (hp : rd_okp pre = true) (hj : pre[j]? = some (some w)) (h1 : j + 1 = pre.length) (h2 : w.category = 2) : False := by
  have h3 : pre.getLast? = some (some w) := by rw [List.getLast?_eq_getElem?, show pre.length - 1 = j by omega]; exact hj
  unfold rd_okp at hp
  rw [h3] at hp
  cases w <;> simp [Value.category] at h2 <;> simp [rd_two] at hp
theorem rd_L.st1 {σ : Nat → Nat} {ls ls' : Array Slot} {nL : Nat} {pre r : List (Option Value)} {old : Option Value} {v : Value} (h : rd_L σ ls nL (pre ++ old :: r)) (hp : rd_okp pre = true)
    (h' : lv_has ls' nL ((pre.length, rd_pv σ v) :: (rd_al σ 0 (pre ++ old :: r)).filter (fun q => !(q.1 == pre.length) && !(q.1 + 1 == pre.length && q.2.category == 2)))) : rd_L σ ls' nL (pre ++ some v :: r) := by
  refine ⟨h'.1, h'.2.1, by simpa using h.2.2.1, fun j w hj => h'.2.2 (j, rd_pv σ w) ?_⟩
  rcases Nat.lt_trichotomy j pre.length with hlt | heq | hgt
  · rw [List.getElem?_append_left hlt] at hj
    have hL : (pre ++ old :: r)[j]? = some (some w) := by rw [List.getElem?_append_left hlt]; exact hj
    have hm := rd_al_mem (σ := σ) _ 0 j w hL
    rw [Nat.zero_add] at hm
    refine List.mem_cons_of_mem _ (List.mem_filter.mpr ⟨hm, ?_⟩)
    have hne : ¬ j = pre.length := by omega
    by_cases hz : j + 1 = pre.length
    · have hc : ¬ w.category = 2 := fun q => rd_okp_last hp hj hz q
      simp [hne, rd_cat, hc]
    · simp [hne, hz]
  · subst heq
    rw [List.getElem?_append_right (Nat.le_refl _), Nat.sub_self] at hj
    cases hj
    exact List.mem_cons_self
  · rw [List.getElem?_append_right (by omega)] at hj
    obtain ⟨d, hd⟩ : ∃ d, j - pre.length = d + 1 := ⟨j - pre.length - 1, by omega⟩
    rw [hd, List.getElem?_cons_succ] at hj
    have hL : (pre ++ old :: r)[j]? = some (some w) := by rw [List.getElem?_append_right (by omega), hd, List.getElem?_cons_succ]; exact hj
    have hm := rd_al_mem (σ := σ) _ 0 j w hL
    rw [Nat.zero_add] at hm
    refine List.mem_cons_of_mem _ (List.mem_filter.mpr ⟨hm, ?_⟩)
    have hne : ¬ j = pre.length := by omega
    have hz : ¬ j + 1 = pre.length := by omega
    simp [hne, hz]
theorem rd_L.st2 {σ : Nat → Nat} {ls ls' : Array Slot} {nL : Nat} {pre r : List (Option Value)} {old old2 : Option Value} {v : Value} (h : rd_L σ ls nL (pre ++ old :: old2 :: r)) (hp : rd_okp pre = true)
    (h' : lv_has ls' nL ((pre.length, rd_pv σ v) :: (rd_al σ 0 (pre ++ old :: old2 :: r)).filter (fun q => !(q.1 == pre.length) && (!(q.1 == pre.length + 1) && !(q.1 + 1 == pre.length && q.2.category == 2))))) : rd_L σ ls' nL (pre ++ some v :: none :: r) := by
  refine ⟨h'.1, h'.2.1, by simpa using h.2.2.1, fun j w hj => h'.2.2 (j, rd_pv σ w) ?_⟩
  rcases Nat.lt_trichotomy j pre.length with hlt | heq | hgt
  · rw [List.getElem?_append_left hlt] at hj
    have hL : (pre ++ old :: old2 :: r)[j]? = some (some w) := by rw [List.getElem?_append_left hlt]; exact hj
    have hm := rd_al_mem (σ := σ) _ 0 j w hL
    rw [Nat.zero_add] at hm
    refine List.mem_cons_of_mem _ (List.mem_filter.mpr ⟨hm, ?_⟩)
    have hne : ¬ j = pre.length := by omega
    have hne2 : ¬ j = pre.length + 1 := by omega
    by_cases hz : j + 1 = pre.length
    · have hc : ¬ w.category = 2 := fun q => rd_okp_last hp hj hz q
      simp [hne, hne2, rd_cat, hc]
    · simp [hne, hne2, hz]
  · subst heq
    rw [List.getElem?_append_right (Nat.le_refl _), Nat.sub_self] at hj
    cases hj
    exact List.mem_cons_self
  · rw [List.getElem?_append_right (by omega)] at hj
    obtain ⟨d, hd⟩ : ∃ d, j - pre.length = d + 1 := ⟨j - pre.length - 1, by omega⟩
    rw [hd, List.getElem?_cons_succ] at hj
    cases d with
    | zero => simp at hj
    | succ d =>
      rw [List.getElem?_cons_succ] at hj
      have hL : (pre ++ old :: old2 :: r)[j]? = some (some w) := by rw [List.getElem?_append_right (by omega), hd, List.getElem?_cons_succ, List.getElem?_cons_succ]; exact hj
      have hm := rd_al_mem (σ := σ) _ 0 j w hL
      rw [Nat.zero_add] at hm
      refine List.mem_cons_of_mem _ (List.mem_filter.mpr ⟨hm, ?_⟩)
      have hne : ¬ j = pre.length := by omega
      have hne2 : ¬ j = pre.length + 1 := by omega
      have hz : ¬ j + 1 = pre.length := by omega
      simp [hne, hne2, hz]
/-- fewer known -/
def rd_le : List (Option Value) → List (Option Value) → Prop
  | [], _ => True
  | none :: r, _ :: r' => rd_le r r'
  | some v :: r, some w :: r' => v = w ∧ rd_le r r'
  | _, _ => False
theorem rd_le_at : ∀ (L L' : List (Option Value)), rd_le L L' → L.length ≤ L'.length ∧ ∀ (i : Nat) (v : Value), L[i]? = some (some v) → L'[i]? = some (some v)
  | [], L', _ => ⟨Nat.zero_le _, fun i v h => by simp at h⟩
  | none :: r, [], h => h.elim
  | some v :: r, [], h => h.elim
  | some v :: r, none :: r', h => h.elim
  | none :: r, o :: r', h => by
    obtain ⟨h1, h2⟩ := rd_le_at r r' h
    refine ⟨by simpa using h1, fun i v hi => ?_⟩
    cases i with
    | zero => simp at hi
    | succ i => simpa using h2 i v (by simpa using hi)
  | some v :: r, some w :: r', h => by
    obtain ⟨h1, h2⟩ := rd_le_at r r' h.2
    refine ⟨by simpa using h1, fun i u hi => ?_⟩
    cases i with
    | zero =>
      have hz : v = u := by simpa using hi
      rw [← hz, h.1]; simp
    | succ i => simpa using h2 i u (by simpa using hi)
theorem rd_L.le {σ : Nat → Nat} {ls : Array Slot} {nL : Nat} {L L' : List (Option Value)} (h : rd_L σ ls nL L') (hl : rd_le L L') : rd_L σ ls nL L :=
  ⟨h.1, h.2.1, Nat.le_trans (rd_le_at L L' hl).1 h.2.2.1, fun i v hi => h.2.2.2 i v ((rd_le_at L L' hl).2 i v hi)⟩
end
section
/-- where a method has thrown q: the class by its name, the cell, what was written, the world -/
def vx_T (XC : String → State → State → Prop) (st : State) (q : Addr) (t : State) (mc ms : Nat) (free : Addr → Prop) : Prop :=
  ∃ (E : String) (ce : Cell) (L : List Loc), XC E st t ∧ t.heap[q]? = some ce ∧ ce.vm = .none ∧ st.vm.findClass E = some ce.cls ∧ st.WarmedH t.vm ∧ st.sameButNew ({ t with vm := st.vm } : State) L mc ms ∧ ∀ z ∈ L, free z.base
def vx_Q (Qc : Array Value → State → Outcome → State → Prop) (XC : String → State → State → Prop) (mc ms : Nat) (free : Addr → Prop) : Array Value → State → Outcome → State → Prop := fun a st o t =>
  (Qc a st o t ∧ ∃ L, FrameEnd st o t L mc ms ∧ ∀ q ∈ L, free q.base) ∨ ∃ q, o = .threw q ∧ vx_T XC st q t mc ms free
/-- the method's frame g, with q thrown over it -/
def vx_W (p : Program) (l : Launch) (e : Env) (R : Room) (s : State) (m : MethodId) (args : Array Value) (below : List Frame) (meth : Method) (c : Code) (H : Heap) (locs : List Loc) (cells slots : Nat) (Q : State → Prop) (g : JFrame) (q : Addr) : Prop :=
  ∀ T : State, T.heap = H → Stand p l e R s m args below meth c T locs cells slots → ∃ t, Steps p.tables e below ((T.setTop g).pushFrame (.throwing q)) t ∧ Q t
section Rows
variable {p : Program} {l : Launch} {e : Env} {R : Room} {s : State} {m : MethodId} {args : Array Value} {below : List Frame} {meth : Method} {c : Code} {H : Heap} {locs : List Loc} {cells slots : Nat} {Q : State → Prop}
variable {mc ms : Nat} {free : Addr → Prop} {A0 A1 : Nat → Prop} {H0 : Heap} {a : Array Value} {pc : Nat} {ls : Array Slot} {st0 rest : List Value}
/-- caught by the row x of this method's table; the rows ahead don't take it -/
theorem vx_catch {own name : String} {E : String} {ce : Cell} {q : Addr} (hown : s.vm.findClass own = some m.cls) (pre : List ExceptionTableEntry) (x : ExceptionTableEntry) (suf : List ExceptionTableEntry) (hsplit : c.exceptionTable.toList = pre ++ x :: suf)
    (hpass : ∀ z ∈ pre, covers z pc = false ∨ (z.catchType ≠ 0 ∧ ∃ nm : String, (Cond.classLink own z.catchType nm).before args s = true ∧ va_Nc E nm s)) (hx : covers x pc = true) (h0 : x.catchType ≠ 0)
    (hlink : (Cond.classLink own x.catchType name).before args s = true) (hcast : (Cond.castable E name).before args s = true) (hcell : H[q]? = some ce) (hv : ce.vm = .none) (hcl : s.vm.findClass E = some ce.cls)
    (kk : W p l e R s m args below meth c H locs cells slots Q (F0 m x.handlerPc ls [.ref q])) : vx_W p l e R s m args below meth c H locs cells slots Q (F0 m pc ls rest) q := by
  intro T hT X
  have hpl : e.platform.magicAccessors = ({} : Platform).magicAccessors := by rw [X.admits.platform]
  obtain ⟨c3, c4, hc3, hc4, hasg⟩ := Cond.castable_spec hcast
  cases Option.some.inj (hc3.symm.trans hcl)
  obtain ⟨c5, hc5, hcl5⟩ := Cond.classLink_spec hown hlink e.platform hpl
  cases Option.some.inj (hc4.symm.trans hc5)
  obtain ⟨vm', X', st⟩ := X.thenCaughtThrough q (g := F0 m pc ls rest) rfl (Steps.refl _) (by rw [hT]; exact hcell) (by rw [hv]; rfl) (by obtain ⟨k9, h9, -⟩ := Vm.findClass_spec hcl; exact ⟨k9, h9⟩) pre x suf hsplit
    (fun z hz => by
      rcases hpass z hz with h | ⟨hz0, nm, hl1, hn1⟩
      · exact Or.inl h
      · obtain ⟨c6, hc6, hcl6⟩ := Cond.classLink_spec hown hl1 e.platform hpl
        obtain ⟨a8, b8, h1, h2, h3⟩ := hn1
        cases Option.some.inj (h1.symm.trans hcl)
        cases Option.some.inj (h2.symm.trans hc6)
        exact Or.inr ⟨hz0, _, hcl6, h3⟩) hx (Or.inr ⟨h0, c4, hcl5, hasg⟩)
  obtain ⟨t, a1, b1⟩ := kk (T.setVm vm') hT X'
  exact ⟨t, st.trans a1, b1⟩
end Rows
section Ends
variable {p : Program} {l : Launch} {e : Env} {R : Room} {s : State} {m : MethodId} {args : Array Value} {below : List Frame} {meth : Method} {c : Code} {H : Heap} {locs : List Loc} {cells slots : Nat} {Q : State → Prop}
variable {mc ms : Nat} {free : Addr → Prop} {A0 A1 : Nat → Prop} {H0 : Heap} {a : Array Value} {ls : Array Slot} {st0 rest : List Value}
variable {Qc : Array Value → State → Outcome → State → Prop} {XC : String → State → State → Prop}
/-- what a body that may throw owes at its end -/
def vx_MQ (below : List Frame) (Qc : Array Value → State → Outcome → State → Prop) (XC : String → State → State → Prop) (a : Array Value) (s : State) (mc ms : Nat) (free : Addr → Prop) : State → Prop := fun t =>
  ∃ o, t.status = .running ∧ Ended t below o ∧ vx_Q Qc XC mc ms free a s o t
theorem vx_frame {U : State} {k n : Nat} (h : s.sameButNew ({ U with vm := s.vm } : State) locs k n) : s.heap.size ≤ U.heap.size ∧ ∀ q : Nat, q < s.heap.size → (∀ z ∈ locs, z.base ≠ q) → U.heap[q]? = s.heap[q]? := by
  obtain ⟨-, h2, -, -, -, h6⟩ := h
  refine ⟨h2, fun q hq hz => ?_⟩
  obtain ⟨c9, e1, e2, e3, e4⟩ := h6 q _ (Array.getElem?_eq_getElem hq)
  have hs : c9.slots = (s.heap[q]).slots := Array.ext_getElem? fun i => e4 i fun hm => hz _ hm rfl
  have h9 : c9 = s.heap[q] := by
    rw [hs] at e2
    exact e2
  have e5 : U.heap[q]? = some c9 := e1
  rw [e5, h9, Array.getElem?_eq_getElem hq]
/-- the words of a throw but the four that speak of the heap -/
def vx_no (w : Cond) : Bool := decide (w ≠ .isRef (.static Bundle.tN "UNASSIGNED_STACK" Bundle.steD)) && decide (w ≠ .isRef (.static Bundle.tN "SUPPRESSED_SENTINEL" Bundle.listD)) && decide (w ≠ .laysStatic Bundle.tN "UNASSIGNED_STACK" Bundle.steD) && decide (w ≠ .laysStatic Bundle.tN "SUPPRESSED_SENTINEL" Bundle.listD)
def vx_atS (own : String) (ic : Nat) (X : String) (names : List String) : List Cond := (Bundle.ownAtoms own ic X names).filter vx_no
/-- a word that the tables alone decide, or a good one -/
def vx_ot (w : Cond) : Bool := w.onTables || goodWord w
theorem vx_ot_at {args a' : Array Value} {s U : State} {w : Cond} (hW : s.WarmedH U.vm) (hvm : s.vm = U.vm) (hg : vx_ot w = true) (h : w.before args s = true) : w.before a' U = true := by
  simp only [vx_ot, Bool.or_eq_true] at hg
  rcases hg with hg | hg
  · exact va_tabs hg hvm h
  · exact word_at hW (good_of_word hg) h
theorem vx_own {args : Array Value} {s : State} {L : List Cond} (h1 : ∀ w ∈ L.filter vx_no, w.before args s = true)
    (hU : (Cond.isRef (.static Bundle.tN "UNASSIGNED_STACK" Bundle.steD)).before args s = true) (hN : (Cond.isRef (.static Bundle.tN "SUPPRESSED_SENTINEL" Bundle.listD)).before args s = true)
    (lU : (Cond.laysStatic Bundle.tN "UNASSIGNED_STACK" Bundle.steD).before args s = true) (lN : (Cond.laysStatic Bundle.tN "SUPPRESSED_SENTINEL" Bundle.listD).before args s = true) : ∀ w ∈ L, w.before args s = true := by
  intro w hw
  by_cases e1 : w = .isRef (.static Bundle.tN "UNASSIGNED_STACK" Bundle.steD)
  · rw [e1]; exact hU
  · by_cases e2 : w = .isRef (.static Bundle.tN "SUPPRESSED_SENTINEL" Bundle.listD)
    · rw [e2]; exact hN
    · by_cases e3 : w = .laysStatic Bundle.tN "UNASSIGNED_STACK" Bundle.steD
      · rw [e3]; exact lU
      · by_cases e4 : w = .laysStatic Bundle.tN "SUPPRESSED_SENTINEL" Bundle.listD
        · rw [e4]; exact lN
        · exact h1 w (List.mem_filter.mpr ⟨hw, by unfold vx_no; rw [decide_eq_true e1, decide_eq_true e2, decide_eq_true e3, decide_eq_true e4]; rfl⟩)
/-- where a static field lies, its class's statics cell in H -/
def vx_L (C n d : String) (A : Nat → Prop) (U : State) (H : Heap) : Prop := ∃ (c : ClassId) (k : Class) (i : Nat) (f : Field) (a : Nat) (cell : Cell), U.vm.findClass C = some c ∧ U.fieldFound? C n d = some (c, k, i, f) ∧ f.isStatic = true ∧ k.statics = some a ∧ H[a]? = some cell ∧ cell.vm.isStatics = true ∧ cell.cls = c ∧ f.slot < cell.slots.size ∧ k.staticTypes[f.slot]? = some f.type ∧ ¬ A a
theorem vx_L.moved {C n d : String} {A : Nat → Prop} {u U : State} {H : Heap} (hvm : u.vm.Alike U.vm) (h : vx_L C n d A u H) : vx_L C n d A U H := by
  obtain ⟨c, k, i, f, a, cell, h1, h2, h3, h4, h5, h6, h7, h8, h9, h10⟩ := h
  obtain ⟨k', hi', he⟩ := State.fieldFound?_setVm hvm h2
  exact ⟨c, k', i, f, a, cell, by rw [hvm.findClass]; exact h1, hi', h3, by rw [he]; exact h4, h5, h6, h7, h8, by rw [he]; exact h9, h10⟩
theorem vx_L.kept {C n d : String} {A : Nat → Prop} {U : State} {H H1 : Heap} (h : vx_L C n d A U H) (hq : ∀ a : Nat, a < H.size → ¬ A a → H1[a]? = H[a]?) : vx_L C n d A U H1 := by
  obtain ⟨c, k, i, f, a, cell, h1, h2, h3, h4, h5, h6, h7, h8, h9, h10⟩ := h
  exact ⟨c, k, i, f, a, cell, h1, h2, h3, h4, by rw [hq a (Array.getElem?_eq_some_iff.mp h5).1 h10]; exact h5, h6, h7, h8, h9, h10⟩
theorem vx_L.narrow {C n d : String} {A B : Nat → Prop} {U : State} {H : Heap} (h : vx_L C n d A U H) (hAB : ∀ q, B q → A q) : vx_L C n d B U H := by
  obtain ⟨c, k, i, f, a, cell, h1, h2, h3, h4, h5, h6, h7, h8, h9, h10⟩ := h
  exact ⟨c, k, i, f, a, cell, h1, h2, h3, h4, h5, h6, h7, h8, h9, fun z => h10 (hAB _ z)⟩
theorem vx_L.word {C n d : String} {A : Nat → Prop} {s : State} {args : Array Value} (h : vx_L C n d A s s.heap) : (Cond.laysStatic C n d).before args s = true := by
  obtain ⟨c, k, i, f, a, cell, h1, h2, h3, h4, h5, h6, h7, h8, h9, -⟩ := h
  show (Cond.laysStatic C n d).holds args s none s [] = true
  exact Cond.laysStatic_of h1 h2 h3 h4 h5 h6 h7 h8 h9
/-- .. and what it holds: null or some reference -/
def vx_Zq (C n d : String) (A : Nat → Prop) (U : State) (H : Heap) : Prop := va_Zq C n d A U H ∧ vx_L C n d A U H
theorem vx_Zq.moved {C n d : String} {A : Nat → Prop} {u U : State} {H : Heap} (hvm : u.vm.Alike U.vm) (h : vx_Zq C n d A u H) : vx_Zq C n d A U H := ⟨va_Zq.moved hvm h.1, vx_L.moved hvm h.2⟩
theorem vx_Zq.kept {C n d : String} {A : Nat → Prop} {U : State} {H H1 : Heap} (h : vx_Zq C n d A U H) (hq : ∀ a : Nat, a < H.size → ¬ A a → H1[a]? = H[a]?) : vx_Zq C n d A U H1 := ⟨va_Zq.kept h.1 hq, vx_L.kept h.2 hq⟩
theorem vx_Zq.narrow {C n d : String} {A B : Nat → Prop} {U : State} {H : Heap} (h : vx_Zq C n d A U H) (hAB : ∀ q, B q → A q) : vx_Zq C n d B U H := ⟨va_Zq.narrow h.1 hAB, vx_L.narrow h.2 hAB⟩
theorem vx_Zqof {args : Array Value} {s : State} {C n d : String} {A : Nat → Prop} (hl : (Cond.laysStatic C n d).before args s = true) (hini : (Cond.initialized C).before args s = true) (h : (Cond.isRef (.static C n d)).before args s = true) (hA : ∀ a : Nat, a < s.heap.size → ¬ A a) : vx_Zq C n d A s s.heap := by
  refine ⟨va_Zqof hl hini h hA, ?_⟩
  obtain ⟨c, k, i, f, a, cell, h1, h2, h3, h4, h5, h6, h7, h8, h9⟩ := Cond.laysStatic_spec hl
  exact ⟨c, k, i, f, a, cell, h1, h2, h3, h4, h5, h6, h7, h8, h9, hA a (Array.getElem?_eq_some_iff.mp h5).1⟩
theorem vx_isRef {C n d : String} {v : Value} {A : Nat → Prop} {s : State} {args : Array Value} (h : va_Z C n d v A s s.heap) (hv : v.isRef = true) : (Cond.isRef (.static C n d)).before args s = true := by
  obtain ⟨cf, kf, fi, f, a, cell, h1, h2, h3, h4, h5, h6, h7, -⟩ := h
  have he : (Term.static C n d).eval args s none [] s = some v := by
    simp [Term.eval, State.fieldNamed?, h1, h2, h4, h5, h6, h7]
  simp only [Cond.before, Cond.holds, Cond.value, he]
  cases v <;> simp_all [Value.isRef]
theorem vx_isRefq {C n d : String} {A : Nat → Prop} {s : State} {args : Array Value} (h : va_Zq C n d A s s.heap) : (Cond.isRef (.static C n d)).before args s = true := by
  rcases h with h | ⟨t, h⟩
  · exact vx_isRef h rfl
  · exact vx_isRef h rfl
/-- the same frame, seen from here: as if the method were called anew in this heap -/
theorem vx_rebase {T : State} (X : Stand p l e R s m args below meth c T locs cells slots) {R' : Room} (hf : R'.frames ≤ R.frames) (hl : R'.locals ≤ R.locals) (hc : cells + R'.cells ≤ R.cells) (hs : slots + R'.slots ≤ R.slots) :
    Stand p l e R' ((T.setVm s.vm).setFrames (.invoking m args :: below)) m args below meth c T [] 0 0 := by
  have htop : (T.setVm s.vm).topJava?.isSome := X.here.top
  have hF : ((T.setVm s.vm).setFrames (.invoking m args :: below)).frames = .invoking m args :: below := State.frames_setFrames _ (State.cur_lt_of_top htop)
  obtain ⟨g₀, hg0⟩ := Option.isSome_iff_exists.mp htop
  obtain ⟨r, hr⟩ := State.topJava?_eq_some.mp hg0
  have hl9 : e.platform.stackLimits (T.setVm s.vm).me = e.platform.stackLimits s.me := X.limits
  have hb9 : (T.setVm s.vm).me.stackBytes = s.me.stackBytes := X.bytes
  refine ⟨X.admits, X.cas, X.clock, hF, ?_, X.hears, X.method, X.code, X.here, X.tail, X.warmed, ?_, ?_, ?_⟩
  · have h := X.room
    have hU : ((T.setVm s.vm).setFrames (.invoking m args :: below)).localsInUse = s.localsInUse := by
      rw [State.localsInUse_invoking hF (meth := meth) (c := c) X.method X.code, State.localsInUse_invoking X.frames X.method X.code]
    simp only [State.hasRoom, Bool.and_eq_true, decide_eq_true_eq] at h ⊢
    obtain ⟨⟨⟨⟨h1, h2, h3, h4, h5, h6⟩, h7⟩, h8⟩, h9⟩ := h
    rw [X.frames, List.length_cons] at h2 h3
    have q1 := X.heapSize
    have q2 := X.used
    simp only [hF, hU, List.length_cons, State.stackLimits_setFrames, State.stackBytes_setFrames, hl9, hb9]
    refine ⟨⟨⟨⟨by omega, by omega, by omega, by omega, by omega, h6⟩, ?_⟩, ?_⟩, X.book⟩
    · show T.heap.size + R'.cells ≤ e.platform.maxCells
      omega
    · show T.slotsUsed + R'.slots ≤ e.platform.maxSlots
      omega
  · rw [State.stackLimits_setFrames]; rfl
  · rw [State.stackBytes_setFrames]; rfl
  · refine ⟨?_, Nat.le_refl _, Nat.le_refl _, ?_, ?_, fun a c9 h9 => ⟨c9, h9, rfl, rfl, fun _ _ => rfl⟩⟩
    · obtain ⟨t, ht, -⟩ := State.frames_cons hr
      show T.setVm s.vm = { ((T.setVm s.vm).setFrames (.invoking m args :: below)).setFrames (T.setVm s.vm).frames with heap := T.heap, slotsUsed := T.slotsUsed }
      rw [State.setFrames_setFrames, State.setFrames_self ht]
      rfl
    · show T.slotsUsed = T.slotsUsed + ((T.heap.toList.drop T.heap.size).map (·.slots.size)).sum
      rw [List.drop_eq_nil_of_le (Nat.le_of_eq Array.length_toList)]
      rfl
    · show ((T.heap.toList.drop T.heap.size).map (·.slots.size)).sum ≤ 0
      rw [List.drop_eq_nil_of_le (Nat.le_of_eq Array.length_toList)]
      exact Nat.le_refl _
/-- 'throw new E("text")': new; dup; ldc; invokespecial; athrow -/
theorem vx_throwS {cc : ByteArray} {pc : Nat} (hexec : p.tables.exec = Jvm.exec) (hb : c.code = cc) (hl : l.stackTraces = false) {own cls text : String} {names : List String} {ik is ic mc ms sa : Nat} {A : Nat → Prop}
    (hown : s.vm.findClass own = some m.cls) (hcls : Bundle.fit cls = true) (hnames : ∀ n ∈ names, Bundle.fit n = true)
    (hk : (Cond.classLink own ik cls).before args s = true) (hini : (Cond.initialized cls).before args s = true) (hstr : vk_R own is text sa s) (hat : ∀ w ∈ vx_atS own ic cls names, w.before args s = true)
    (hgood : ∀ w ∈ Cond.classLink own ik cls :: Cond.initialized cls :: vx_atS own ic cls names, vx_ot w = true)
    (hU : vx_Zq Bundle.tN "UNASSIGNED_STACK" Bundle.steD A s s.heap) (hN : vx_Zq Bundle.tN "SUPPRESSED_SENTINEL" Bundle.listD A s s.heap) (hS : va_S A s.heap H locs) (hsize : ls.size = c.maxLocals)
    (d0 : decode cc pc = .ok (.new ik, 3)) (d3 : decode cc (pc + 3) = .ok (.dup, 1)) (d4 : decode cc (pc + 4) = .ok (.ldc is, 2)) (d6 : decode cc (pc + 6) = .ok (.invokespecial ic, 3)) (d9 : decode cc (pc + 9) = .ok (.athrow, 1))
    (hout : ∀ x ∈ c.exceptionTable.toList, covers x (pc + 9) = false)
    (hRframes : names.length + 3 < R.frames) (hRlocals : (rest.map fun v => v.category).sum + (13 * (names.length + 1) + 43) ≤ R.locals) (hRcells : cells + 1 ≤ R.cells) (hRslots : slots + 6 ≤ R.slots) (hlocks : meth.locks = false)
    (hx : ∀ t : State, s.vm.Alike t.vm → H.size ≤ t.heap.size → (∀ q : Nat, q < H.size → t.heap[q]? = H[q]?) → XC cls s t)
    (hf : ∀ z ∈ locs, free z.base) (hc : cells + 1 ≤ mc) (hs : slots + 6 ≤ ms) :
    W p l e R s m args below meth c H locs cells slots (vx_MQ below Qc XC args s mc ms free) (F0 m pc ls rest) := by
  intro T hT X
  have htr : e.platform.stackTraces = false := (show e.platform.stackTraces = l.stackTraces by rw [X.admits.platform]).trans hl
  have Y := vx_rebase X (R' := { frames := R.frames, locals := R.locals, cells := 1, slots := 6 }) (Nat.le_refl _) (Nat.le_refl _) hRcells hRslots
  obtain ⟨s', hA⟩ : ∃ z, z = (T.setVm s.vm).setFrames (.invoking m args :: below) := ⟨_, rfl⟩
  rw [← hA] at Y
  have hvm : s'.vm = s.vm := by rw [hA]; rfl
  have hhp : s'.heap = H := by rw [hA]; exact hT
  have hW0 : s.WarmedH s'.vm := by rw [hvm]; exact State.WarmedH.refl s
  have hat' : ∀ w ∈ vx_atS own ic cls names, w.before args s' = true := fun w hw => vx_ot_at hW0 hvm.symm (hgood w (List.mem_cons_of_mem _ (List.mem_cons_of_mem _ hw))) (hat w hw)
  have hk' : (Cond.classLink own ik cls).before args s' = true := vx_ot_at hW0 hvm.symm (hgood _ List.mem_cons_self) hk
  have hini' : (Cond.initialized cls).before args s' = true := vx_ot_at hW0 hvm.symm (hgood _ (List.mem_cons_of_mem _ List.mem_cons_self)) hini
  have hU' : vx_Zq Bundle.tN "UNASSIGNED_STACK" Bundle.steD A s' s'.heap := by rw [hhp]; exact vx_Zq.moved hW0.alike (hU.kept hS.2.1)
  have hN' : vx_Zq Bundle.tN "SUPPRESSED_SENTINEL" Bundle.listD A s' s'.heap := by rw [hhp]; exact vx_Zq.moved hW0.alike (hN.kept hS.2.1)
  have h : ∀ w ∈ Bundle.ownAtoms own ic cls names, w.before args s' = true := vx_own hat' (vx_isRefq hU'.1) (vx_isRefq hN'.1) hU'.2.word hN'.2.word
  have hown' : s'.vm.findClass own = some m.cls := by rw [hvm]; exact hown
  have hins : (Cond.instantiable cls 6).before args s' = true := h _ (by simp [Bundle.ownAtoms])
  obtain ⟨vm₁, cX, kX, hfX, hkX, -, -, X₁, st1⟩ := Y.newCold hexec (own := own) (C := cls) (index := ik) (n := 6) hown' hk' hins hini'
    (g := F0 m pc ls rest) rfl (by rw [hb]; exact d0) (Nat.le_refl _) (Nat.le_refl _)
  generalize hT1 : (T.setVm vm₁).pushCell { cls := cX, slots := kX.instanceTypes.map defaultValue, vm := .none } = T1 at X₁ st1
  have hcat : (Value.ref T.heap.size).category = 1 := rfl
  have hcellA : T1.heap[T.heap.size]? = some (freshCell cX kX) := by rw [← hT1]; exact State.heap_pushCell_size _ _
  have d3' : decode c.code (pc + 3) = .ok (.dup, 1) := by rw [hb]; exact d3
  have d4' : decode c.code (pc + 4) = .ok (.ldc is, 2) := by rw [hb]; exact d4
  have hstr' : vk_R own is text sa s' := vk_R.warm hW0 hstr
  obtain ⟨U, hsteps, hrun, hend, hW, hsame, ce, hce, hO⟩ := X₁.ctorThrowS hexec htr (own := own) (cls := cls) (names := names) (ic := ic) hown' hcls hnames h (fun x hx => nomatch hx) hfX hkX hcellA (by rw [hhp, hT]; exact Nat.le_refl _) (msg := .ref sa) rfl
    (g := { method := m, pc := pc + 6, locals := ls, stack := .ref sa :: .ref T.heap.size :: .ref T.heap.size :: rest, locked := none }) rfl hsize rfl rfl (rest := rest) rfl
    (by rw [hb]; exact d6) (by rw [hb]; exact d9) hout hRframes (by simp only [List.map_cons, List.sum_cons, hcat]; omega) hlocks
  obtain ⟨f1, f2⟩ := vx_frame hsame
  rw [hhp] at f1 f2
  have hWs : s.WarmedH U.vm := State.WarmedH.trans hW0 hW
  have hcl : s.vm.findClass cls = some ce.cls := by
    have h9 := hO.cls
    rw [hvm] at h9
    exact h9
  have hall : s.sameButNew ({ U with vm := s.vm } : State) locs mc ms := by
    subst hA
    obtain ⟨e1, e2⟩ := hsame
    rw [State.setFrames_setFrames] at e1
    have h2 : (T.setVm s.vm).sameButNew ({ U with vm := s.vm } : State) [] (0 + 1) (0 + 6) := ⟨e1, e2⟩
    have h3 := X.same.trans h2
    rw [List.append_nil] at h3
    exact h3.mono hc hs
  refine ⟨U, ?_, .threw T.heap.size, hrun, hend, Or.inr ⟨T.heap.size, rfl, cls, ce, locs, hx U hWs.alike f1 (fun q hq => f2 q hq (fun z hz => nomatch hz)), hce, hO.vm, hcl, hWs, hall, hf⟩⟩
  refine st1 _ ?_
  show Steps p.tables e below (T1.setTop { method := m, pc := pc + 3, locals := ls, stack := .ref T.heap.size :: rest, locked := none }) _
  jvm_step X₁.here [X₁.here.top, hexec, d3', Value.category]
  exact X₁.ldcString hexec (own := own) (text := text) (index := is) (a := sa) hown' hstr'.1 hstr'.2
    (g := { method := m, pc := pc + 4, locals := ls, stack := .ref T.heap.size :: .ref T.heap.size :: rest, locked := none }) rfl d4' _ hsteps
end Ends
/-- the texts of exceptions -/
def rd_ss : List (String × Nat × String) := [("ReinsuranceDesk", 57, "no such risk, sum or year"), ("ReinsuranceDesk", 68, "the risk is told, or the year is closed"), ("ReinsuranceDesk", 81, "no such risk or amount"), ("ReinsuranceDesk", 83, "the year is closed"), ("ReinsuranceDesk", 95, "no such treaty"), ("ReinsuranceDesk", 101, "there are no more treaties, or the year is closed"), ("ReinsuranceDesk", 111, "no such treaty, reinsurer or part"), ("ReinsuranceDesk", 118, "the shares would be too much, or the year is closed"), ("ReinsuranceDesk", 124, "no such risk, event or hour"), ("ReinsuranceDesk", 127, "there are no more claims, or the year is closed"), ("ReinsuranceDesk", 133, "no such claim or amount"), ("ReinsuranceDesk", 142, "the claim is struck, or the year is closed"), ("ReinsuranceDesk", 147, "no such claim"), ("ReinsuranceDesk", 149, "no such event or year"), ("ReinsuranceDesk", 161, "no such claim or treaty"), ("ReinsuranceDesk", 169, "no such excess"), ("ReinsuranceDesk", 181, "no such excess or event"), ("ReinsuranceDesk", 186, "no such treaty or what"), ("ReinsuranceDesk", 197, "no such treaty, reinsurer or what"), ("ReinsuranceDesk", 206, "no such claim, amount or treaty"), ("ReinsuranceDesk", 208, "the claim is struck"), ("ReinsuranceDesk", 214, "no such reinsurer"), ("ReinsuranceDesk", 220, "no such year"), ("ReinsuranceDesk", 222, "the year is so")]
/-- what throwing stands on: a launch without stack traces; two static fields; texts; no cell that may be changed is a holder of static fields -/
def rd_XF (l : Launch) (s : State) (A : Nat → Prop) : Prop :=
  l.stackTraces = false ∧ vx_Zq Bundle.tN "UNASSIGNED_STACK" Bundle.steD A s s.heap ∧ vx_Zq Bundle.tN "SUPPRESSED_SENTINEL" Bundle.listD A s s.heap ∧ (∀ (a : Nat) (ce : Cell), s.heap[a]? = some ce → ce.vm.isStatics = true → ¬ A a) ∧ (∀ q ∈ rd_ss, ∃ sa, vk_R q.1 q.2.1 q.2.2 sa s) ∧ va_Nc (rd_xn 1) (rd_xn 0) s
end
section
/-! what a walk is -/
/-- what a method's walk stands on -/
def rd_Cx (x : rd_X) (p : Program) (l : Launch) (e : Env) (R : Room) (s : State) (m : MethodId) (args : Array Value) (meth : Method) (c : Code) (σ : Nat → Nat) (D : va_G) (cA : Nat → ClassId) (A : Nat → Prop) : Prop :=
  p.tables.exec = Jvm.exec ∧ c.code = rd_cd x ∧ c.maxLocals = rd_ml x ∧ s.vm.findClass (rd_nm x).cls = some m.cls ∧ (∀ w ∈ rd_ws, w.before args s = true) ∧ va_K D rd_CL (rd_ty cA) s ∧ rd_inj σ ∧ (∀ i, i < rd_SH.length → A (σ i)) ∧ (∀ q, s.heap.size ≤ q → A q) ∧
  (rd_dp x ≤ R.frames ∧ rd_lb x ≤ R.locals ∧ rd_cp x * rd_KC ≤ R.cells ∧ rd_cp x * rd_KS ≤ R.slots) ∧ meth.sig.returnType = rd_rt x ∧ meth.locks = false ∧ c.exceptionTable.toList = tableOf (rd_hs x) ∧ rd_XF l s A ∧ ∀ (Ls : Nat) (xs : Int → Int), rd_sc x = some (Ls, xs) → va_X (σ 999) Ls (fun j => Int32.ofInt (xs j)) s s.heap ∧ σ 999 < s.heap.size ∧ ¬ A (σ 999) ∧ Ls ≤ 2147483647
/-- an answer as the machine has it -/
def rd_O (σ : Nat → Nat) : rd_R → Outcome → State → Prop
  | .inl v, o, _ => o = .returned (v.map (rd_pv σ))
  | .inr k, o, t => ∃ (a : Addr) (ce : Cell), o = .threw a ∧ t.heap[a]? = some ce ∧ ce.vm = .none ∧ t.vm.findClass (rd_xn k) = some ce.cls
/-- a method's end -/
def rd_E (x : rd_X) (below : List Frame) (s : State) (σ : Nat → Nat) (D : va_G) (cA : Nat → ClassId) (A : Nat → Prop) (Q : rd_R → rd_M → Prop) (t : State) : Prop :=
  ∃ (o : Outcome) (r : rd_R) (M' : rd_M), t.status = .running ∧ Ended t below o ∧ rd_O σ r o t ∧ Q r M' ∧ va_P D rd_CL (rd_wd σ cA M') t.heap ∧
    ∃ Lc : List Loc, s.WarmedH t.vm ∧ s.sameButNew ({ t with vm := s.vm } : State) Lc (rd_cp x * rd_KC) (rd_cp x * rd_KS) ∧ (∀ q ∈ Lc, A q.base) ∧ va_F A s t
/-- from this place of this method, with these locals, stack and memory, n exceptions paid: it ends, and so -/
def rd_G (x : rd_X) (pc : Nat) (L : List (Option Value)) (st : List Value) (M : rd_M) (n : Nat) (Q : rd_R → rd_M → Prop) : Prop :=
  ∀ (p : Program) (l : Launch) (e : Env) (R : Room) (s : State) (m : MethodId) (args : Array Value) (below : List Frame) (meth : Method) (c : Code) (σ : Nat → Nat) (D : va_G) (cA : Nat → ClassId) (A : Nat → Prop),
    rd_Cx x p l e R s m args meth c σ D cA A → ∀ (H : Heap) (locs : List Loc) (ls : Array Slot) (cells slots : Nat), cells ≤ n * rd_KC → slots ≤ n * rd_KS → va_P D rd_CL (rd_wd σ cA M) H → va_S A s.heap H locs → rd_L σ ls (rd_ml x) L →
    W p l e R s m args below meth c H locs cells slots (rd_E x below s σ D cA A Q) (F0 m pc ls (st.map (rd_pv σ)))
theorem rd_le64 {x y : Int} (hx : rd_J x) (hy : rd_J y) : Int64.ofInt x ≤ Int64.ofInt y ↔ x ≤ y := by rw [Int64.le_iff_toInt_le, rd_i64 hx, rd_i64 hy]
theorem rd_len {q ety len : Nat} (h : rd_SH[q]? = some (.inl (ety, len))) : len ≤ 2147483647 := by
  have hm := List.mem_of_getElem? h
  have ha : ∀ c ∈ rd_SH, (match c with | .inl z => decide (z.2 ≤ 2147483647) | .inr _ => true) = true := List.all_eq_true.mp (by decide +kernel)
  have h1 := ha _ hm
  simpa using h1
section RdRules
variable {x : rd_X} {pc : Nat} {L : List (Option Value)} {st : List Value} {M : rd_M} {n : Nat} {Q : rd_R → rd_M → Prop}
theorem rd_top {v v' : Value} (h : v = v') (k : rd_G x pc L (v :: st) M n Q) : rd_G x pc L (v' :: st) M n Q := h ▸ k
theorem rd_weak {L' : List (Option Value)} (h : rd_le L' L) (k : rd_G x pc L' st M n Q) : rd_G x pc L st M n Q := by
  intro p l e R s m args below meth c σ D cA A C H locs ls cells slots hc hs hP hS hl
  exact k p l e R s m args below meth c σ D cA A C H locs ls cells slots hc hs hP hS (hl.le h)
theorem rd_mono {Q' : rd_R → rd_M → Prop} (h : ∀ r M', Q r M' → Q' r M') (k : rd_G x pc L st M n Q) : rd_G x pc L st M n Q' := by
  intro p l e R s m args below meth c σ D cA A C H locs ls cells slots hc hs hP hS hl
  intro T hT X
  obtain ⟨t, a1, o, r, M', b1, b2, b3, b4, b5⟩ := k p l e R s m args below meth c σ D cA A C H locs ls cells slots hc hs hP hS hl T hT X
  exact ⟨t, a1, o, r, M', b1, b2, b3, h r M' b4, b5⟩
theorem rd_iconst {v : Int} (hd : decode (rd_cd x) pc = .ok (.iconst v, 1)) (k : rd_G x (pc + 1) L (rd_i v :: st) M n Q) : rd_G x pc L (st) M n Q := by
  intro p l e R s m args below meth c σ D cA A C H locs ls cells slots hc hs hP hS hl
  exact lv_iconst (v := Int32.ofInt v) (rest := st.map (rd_pv σ)) C.1 C.2.1 hd rfl (k p l e R s m args below meth c σ D cA A C H locs ls cells slots hc hs hP hS hl)
theorem rd_bipush {v : Int} (hd : decode (rd_cd x) pc = .ok (.bipush v, 2)) (hv : (Int8.ofInt v).toInt32 = Int32.ofInt v) (k : rd_G x (pc + 2) L (rd_i v :: st) M n Q) : rd_G x pc L (st) M n Q := by
  intro p l e R s m args below meth c σ D cA A C H locs ls cells slots hc hs hP hS hl
  exact lv_bipush (v := Int32.ofInt v) (rest := st.map (rd_pv σ)) C.1 C.2.1 hd hv (k p l e R s m args below meth c σ D cA A C H locs ls cells slots hc hs hP hS hl)
theorem rd_sipush {v : Int} (hd : decode (rd_cd x) pc = .ok (.sipush v, 3)) (hv : (Int16.ofInt v).toInt32 = Int32.ofInt v) (k : rd_G x (pc + 3) L (rd_i v :: st) M n Q) : rd_G x pc L (st) M n Q := by
  intro p l e R s m args below meth c σ D cA A C H locs ls cells slots hc hs hP hS hl
  exact lv_sipush (v := Int32.ofInt v) (rest := st.map (rd_pv σ)) C.1 C.2.1 hd hv (k p l e R s m args below meth c σ D cA A C H locs ls cells slots hc hs hP hS hl)
theorem rd_lconst {f : Fin 2} {v : Int} (hd : decode (rd_cd x) pc = .ok (.lconst f, 1)) (hv : Int64.ofNat (f : Nat) = Int64.ofInt v) (k : rd_G x (pc + 1) L (rd_l v :: st) M n Q) : rd_G x pc L (st) M n Q := by
  intro p l e R s m args below meth c σ D cA A C H locs ls cells slots hc hs hP hS hl
  exact lv_lconst (v := Int64.ofInt v) (rest := st.map (rd_pv σ)) C.1 C.2.1 hd hv (k p l e R s m args below meth c σ D cA A C H locs ls cells slots hc hs hP hS hl)
theorem rd_ldc {v : Int} {ix : Nat} (hd : decode (rd_cd x) pc = .ok (.ldc ix, 2)) (hw : Cond.constant (rd_nm x).cls ix (Int32.ofInt v) ∈ rd_ws) (k : rd_G x (pc + 2) L (rd_i v :: st) M n Q) : rd_G x pc L (st) M n Q := by
  intro p l e R s m args below meth c σ D cA A C H locs ls cells slots hc hs hP hS hl
  exact lv_ldc (v := Int32.ofInt v) (rest := st.map (rd_pv σ)) C.1 C.2.1 C.2.2.2.1 (C.2.2.2.2.1 _ hw) hd (k p l e R s m args below meth c σ D cA A C H locs ls cells slots hc hs hP hS hl)
theorem rd_ldc2 {v : Int} {ix : Nat} (hd : decode (rd_cd x) pc = .ok (.ldc2_w ix, 3)) (hw : Cond.constantLong (rd_nm x).cls ix (Int64.ofInt v) ∈ rd_ws) (k : rd_G x (pc + 3) L (rd_l v :: st) M n Q) : rd_G x pc L (st) M n Q := by
  intro p l e R s m args below meth c σ D cA A C H locs ls cells slots hc hs hP hS hl
  exact lv_ldc2 (v := Int64.ofInt v) (rest := st.map (rd_pv σ)) C.1 C.2.1 C.2.2.2.1 (C.2.2.2.2.1 _ hw) hd (k p l e R s m args below meth c σ D cA A C H locs ls cells slots hc hs hP hS hl)
theorem rd_ildn {f : Fin 4} {v : Int} (hd : decode (rd_cd x) pc = .ok (.iload_n f, 1)) (hv : L[(f : Nat)]? = some (some (rd_i v))) (k : rd_G x (pc + 1) L (rd_i v :: st) M n Q) : rd_G x pc L (st) M n Q := by
  intro p l e R s m args below meth c σ D cA A C H locs ls cells slots hc hs hP hS hl
  exact lv_iload_n (x := Int32.ofInt v) (rest := st.map (rd_pv σ)) C.1 C.2.1 hd rfl (hl.2.2.2 _ _ hv) (k p l e R s m args below meth c σ D cA A C H locs ls cells slots hc hs hP hS hl)
theorem rd_ild {i : Nat} {v : Int} (hd : decode (rd_cd x) pc = .ok (.iload i, 2)) (hv : L[i]? = some (some (rd_i v))) (k : rd_G x (pc + 2) L (rd_i v :: st) M n Q) : rd_G x pc L (st) M n Q := by
  intro p l e R s m args below meth c σ D cA A C H locs ls cells slots hc hs hP hS hl
  exact lv_iload (x := Int32.ofInt v) (rest := st.map (rd_pv σ)) C.1 C.2.1 hd (hl.2.2.2 _ _ hv) (k p l e R s m args below meth c σ D cA A C H locs ls cells slots hc hs hP hS hl)
theorem rd_lldn {f : Fin 4} {v : Int} (hd : decode (rd_cd x) pc = .ok (.lload_n f, 1)) (hv : L[(f : Nat)]? = some (some (rd_l v))) (k : rd_G x (pc + 1) L (rd_l v :: st) M n Q) : rd_G x pc L (st) M n Q := by
  intro p l e R s m args below meth c σ D cA A C H locs ls cells slots hc hs hP hS hl
  exact lv_lload_n (x := Int64.ofInt v) (rest := st.map (rd_pv σ)) C.1 C.2.1 hd rfl (hl.2.2.2 _ _ hv) (k p l e R s m args below meth c σ D cA A C H locs ls cells slots hc hs hP hS hl)
theorem rd_lld {i : Nat} {v : Int} (hd : decode (rd_cd x) pc = .ok (.lload i, 2)) (hv : L[i]? = some (some (rd_l v))) (k : rd_G x (pc + 2) L (rd_l v :: st) M n Q) : rd_G x pc L (st) M n Q := by
  intro p l e R s m args below meth c σ D cA A C H locs ls cells slots hc hs hP hS hl
  exact lv_lload (x := Int64.ofInt v) (rest := st.map (rd_pv σ)) C.1 C.2.1 hd (hl.2.2.2 _ _ hv) (k p l e R s m args below meth c σ D cA A C H locs ls cells slots hc hs hP hS hl)
theorem rd_aldn {f : Fin 4} {q : Nat} (hd : decode (rd_cd x) pc = .ok (.aload_n f, 1)) (hv : L[(f : Nat)]? = some (some (.ref q))) (k : rd_G x (pc + 1) L (.ref q :: st) M n Q) : rd_G x pc L (st) M n Q := by
  intro p l e R s m args below meth c σ D cA A C H locs ls cells slots hc hs hP hS hl
  exact lv_aload_n (x := σ q) (rest := st.map (rd_pv σ)) C.1 C.2.1 hd rfl (hl.2.2.2 _ _ hv) (k p l e R s m args below meth c σ D cA A C H locs ls cells slots hc hs hP hS hl)
theorem rd_ald {i : Nat} {q : Nat} (hd : decode (rd_cd x) pc = .ok (.aload i, 2)) (hv : L[i]? = some (some (.ref q))) (k : rd_G x (pc + 2) L (.ref q :: st) M n Q) : rd_G x pc L (st) M n Q := by
  intro p l e R s m args below meth c σ D cA A C H locs ls cells slots hc hs hP hS hl
  exact lv_aload (x := σ q) (rest := st.map (rd_pv σ)) C.1 C.2.1 hd (hl.2.2.2 _ _ hv) (k p l e R s m args below meth c σ D cA A C H locs ls cells slots hc hs hP hS hl)
theorem rd_istgn {f : Fin 4} {v : Int} {pre r : List (Option Value)} {old : Option Value} (hd : decode (rd_cd x) pc = .ok (.istore_n f, 1)) (hf : (f : Nat) = pre.length) (hp : rd_okp pre = true) (k : rd_G x (pc + 1) (pre ++ some (rd_i v) :: r) st M n Q) : rd_G x pc (pre ++ old :: r) (rd_i v :: st) M n Q := by
  intro p l e R s m args below meth c σ D cA A C H locs ls cells slots hc hs hP hS hl
  exact lv_istore_n (x := Int32.ofInt v) (rest := st.map (rd_pv σ)) C.1 C.2.1 hd hf hl.al (Nat.lt_of_lt_of_le (by simp) hl.2.2.1) rfl (fun ls' h' => k p l e R s m args below meth c σ D cA A C H locs ls' cells slots hc hs hP hS (hl.st1 hp h'))
theorem rd_istg {i : Nat} {v : Int} {pre r : List (Option Value)} {old : Option Value} (hd : decode (rd_cd x) pc = .ok (.istore i, 2)) (hf : i = pre.length) (hp : rd_okp pre = true) (k : rd_G x (pc + 2) (pre ++ some (rd_i v) :: r) st M n Q) : rd_G x pc (pre ++ old :: r) (rd_i v :: st) M n Q := by
  subst hf
  intro p l e R s m args below meth c σ D cA A C H locs ls cells slots hc hs hP hS hl
  exact lv_istore (x := Int32.ofInt v) (rest := st.map (rd_pv σ)) C.1 C.2.1 hd hl.al (Nat.lt_of_lt_of_le (by simp) hl.2.2.1) rfl (fun ls' h' => k p l e R s m args below meth c σ D cA A C H locs ls' cells slots hc hs hP hS (hl.st1 hp h'))
theorem rd_astgn {f : Fin 4} {v : Nat} {pre r : List (Option Value)} {old : Option Value} (hd : decode (rd_cd x) pc = .ok (.astore_n f, 1)) (hf : (f : Nat) = pre.length) (hp : rd_okp pre = true) (k : rd_G x (pc + 1) (pre ++ some (.ref v) :: r) st M n Q) : rd_G x pc (pre ++ old :: r) (.ref v :: st) M n Q := by
  intro p l e R s m args below meth c σ D cA A C H locs ls cells slots hc hs hP hS hl
  exact lv_astore_n (x := σ v) (rest := st.map (rd_pv σ)) C.1 C.2.1 hd hf hl.al (Nat.lt_of_lt_of_le (by simp) hl.2.2.1) rfl (fun ls' h' => k p l e R s m args below meth c σ D cA A C H locs ls' cells slots hc hs hP hS (hl.st1 hp h'))
theorem rd_astg {i : Nat} {v : Nat} {pre r : List (Option Value)} {old : Option Value} (hd : decode (rd_cd x) pc = .ok (.astore i, 2)) (hf : i = pre.length) (hp : rd_okp pre = true) (k : rd_G x (pc + 2) (pre ++ some (.ref v) :: r) st M n Q) : rd_G x pc (pre ++ old :: r) (.ref v :: st) M n Q := by
  subst hf
  intro p l e R s m args below meth c σ D cA A C H locs ls cells slots hc hs hP hS hl
  exact lv_astore (x := σ v) (rest := st.map (rd_pv σ)) C.1 C.2.1 hd hl.al (Nat.lt_of_lt_of_le (by simp) hl.2.2.1) rfl (fun ls' h' => k p l e R s m args below meth c σ D cA A C H locs ls' cells slots hc hs hP hS (hl.st1 hp h'))
theorem rd_lstgn {f : Fin 4} {v : Int} {pre r : List (Option Value)} {old old2 : Option Value} (hd : decode (rd_cd x) pc = .ok (.lstore_n f, 1)) (hf : (f : Nat) = pre.length) (hp : rd_okp pre = true) (k : rd_G x (pc + 1) (pre ++ some (rd_l v) :: none :: r) st M n Q) : rd_G x pc (pre ++ old :: old2 :: r) (rd_l v :: st) M n Q := by
  intro p l e R s m args below meth c σ D cA A C H locs ls cells slots hc hs hP hS hl
  exact lv_lstore_n (x := Int64.ofInt v) (rest := st.map (rd_pv σ)) C.1 C.2.1 hd hf hl.al (Nat.lt_of_lt_of_le (by simp) hl.2.2.1) rfl (fun ls' h' => k p l e R s m args below meth c σ D cA A C H locs ls' cells slots hc hs hP hS (hl.st2 hp h'))
theorem rd_lstg {i : Nat} {v : Int} {pre r : List (Option Value)} {old old2 : Option Value} (hd : decode (rd_cd x) pc = .ok (.lstore i, 2)) (hf : i = pre.length) (hp : rd_okp pre = true) (k : rd_G x (pc + 2) (pre ++ some (rd_l v) :: none :: r) st M n Q) : rd_G x pc (pre ++ old :: old2 :: r) (rd_l v :: st) M n Q := by
  subst hf
  intro p l e R s m args below meth c σ D cA A C H locs ls cells slots hc hs hP hS hl
  exact lv_lstore (x := Int64.ofInt v) (rest := st.map (rd_pv σ)) C.1 C.2.1 hd hl.al (Nat.lt_of_lt_of_le (by simp) hl.2.2.1) rfl (fun ls' h' => k p l e R s m args below meth c σ D cA A C H locs ls' cells slots hc hs hP hS (hl.st2 hp h'))
theorem rd_iincg {i : Nat} {d v : Int} {pre r : List (Option Value)} (hd : decode (rd_cd x) pc = .ok (.iinc i d, 3)) (hf : i = pre.length) (hp : rd_okp pre = true) (k : rd_G x (pc + 3) (pre ++ some (rd_i (v + d)) :: r) st M n Q) : rd_G x pc (pre ++ some (rd_i v) :: r) st M n Q := by
  subst hf
  intro p l e R s m args below meth c σ D cA A C H locs ls cells slots hc hs hP hS hl
  have hat : (pre ++ some (rd_i v) :: r)[pre.length]? = some (some (rd_i v)) := by rw [List.getElem?_append_right (Nat.le_refl _), Nat.sub_self]; rfl
  have hm := rd_al_mem (σ := σ) _ 0 _ _ hat
  rw [Nat.zero_add] at hm
  obtain ⟨kq, hkq⟩ := List.getElem?_of_mem hm
  refine lv_iinc (x := Int32.ofInt v) (v := Int32.ofInt (v + d)) (rest := st.map (rd_pv σ)) C.1 C.2.1 hd hl.al hkq (by rw [Int32.ofInt_add]) (Nat.lt_of_lt_of_le (by simp) hl.2.2.1) rfl (fun ls' h' => ?_)
  exact k p l e R s m args below meth c σ D cA A C H locs ls' cells slots hc hs hP hS (hl.st1 (v := rd_i (v + d)) hp h')
theorem rd_ist0 {v : Int} {old : Option Value} {r : List (Option Value)} (hd : decode (rd_cd x) pc = .ok (.istore_n 0, 1)) (k : rd_G x (pc + 1) (some (rd_i v) :: r) st M n Q) : rd_G x pc (old :: r) (rd_i v :: st) M n Q := rd_istgn (pre := []) (f := 0) hd rfl rfl k
theorem rd_ast0 {v : Nat} {old : Option Value} {r : List (Option Value)} (hd : decode (rd_cd x) pc = .ok (.astore_n 0, 1)) (k : rd_G x (pc + 1) (some (.ref v) :: r) st M n Q) : rd_G x pc (old :: r) (.ref v :: st) M n Q := rd_astgn (pre := []) (f := 0) hd rfl rfl k
theorem rd_lst0 {v : Int} {old old2 : Option Value} {r : List (Option Value)} (hd : decode (rd_cd x) pc = .ok (.lstore_n 0, 1)) (k : rd_G x (pc + 1) (some (rd_l v) :: none :: r) st M n Q) : rd_G x pc (old :: old2 :: r) (rd_l v :: st) M n Q := rd_lstgn (pre := []) (f := 0) hd rfl rfl k
theorem rd_iinc0 {d v : Int} {r : List (Option Value)} (hd : decode (rd_cd x) pc = .ok (.iinc 0 d, 3)) (k : rd_G x (pc + 3) (some (rd_i (v + d)) :: r) st M n Q) : rd_G x pc (some (rd_i v) :: r) st M n Q := rd_iincg (pre := []) hd rfl rfl k
theorem rd_ist1 {v : Int} {a0 old : Option Value} {r : List (Option Value)} (hd : decode (rd_cd x) pc = .ok (.istore_n 1, 1)) (hp : rd_two a0 = false) (k : rd_G x (pc + 1) (a0 :: some (rd_i v) :: r) st M n Q) : rd_G x pc (a0 :: old :: r) (rd_i v :: st) M n Q := rd_istgn (pre := [a0]) (f := 1) hd rfl (by simp [rd_okp, hp]) k
theorem rd_ast1 {v : Nat} {a0 old : Option Value} {r : List (Option Value)} (hd : decode (rd_cd x) pc = .ok (.astore_n 1, 1)) (hp : rd_two a0 = false) (k : rd_G x (pc + 1) (a0 :: some (.ref v) :: r) st M n Q) : rd_G x pc (a0 :: old :: r) (.ref v :: st) M n Q := rd_astgn (pre := [a0]) (f := 1) hd rfl (by simp [rd_okp, hp]) k
theorem rd_lst1 {v : Int} {a0 old old2 : Option Value} {r : List (Option Value)} (hd : decode (rd_cd x) pc = .ok (.lstore_n 1, 1)) (hp : rd_two a0 = false) (k : rd_G x (pc + 1) (a0 :: some (rd_l v) :: none :: r) st M n Q) : rd_G x pc (a0 :: old :: old2 :: r) (rd_l v :: st) M n Q := rd_lstgn (pre := [a0]) (f := 1) hd rfl (by simp [rd_okp, hp]) k
theorem rd_iinc1 {d v : Int} {a0 : Option Value} {r : List (Option Value)} (hd : decode (rd_cd x) pc = .ok (.iinc 1 d, 3)) (hp : rd_two a0 = false) (k : rd_G x (pc + 3) (a0 :: some (rd_i (v + d)) :: r) st M n Q) : rd_G x pc (a0 :: some (rd_i v) :: r) st M n Q := rd_iincg (pre := [a0]) hd rfl (by simp [rd_okp, hp]) k
theorem rd_ist2 {v : Int} {a0 a1 old : Option Value} {r : List (Option Value)} (hd : decode (rd_cd x) pc = .ok (.istore_n 2, 1)) (hp : rd_two a1 = false) (k : rd_G x (pc + 1) (a0 :: a1 :: some (rd_i v) :: r) st M n Q) : rd_G x pc (a0 :: a1 :: old :: r) (rd_i v :: st) M n Q := rd_istgn (pre := [a0, a1]) (f := 2) hd rfl (by simp [rd_okp, hp]) k
theorem rd_ast2 {v : Nat} {a0 a1 old : Option Value} {r : List (Option Value)} (hd : decode (rd_cd x) pc = .ok (.astore_n 2, 1)) (hp : rd_two a1 = false) (k : rd_G x (pc + 1) (a0 :: a1 :: some (.ref v) :: r) st M n Q) : rd_G x pc (a0 :: a1 :: old :: r) (.ref v :: st) M n Q := rd_astgn (pre := [a0, a1]) (f := 2) hd rfl (by simp [rd_okp, hp]) k
theorem rd_lst2 {v : Int} {a0 a1 old old2 : Option Value} {r : List (Option Value)} (hd : decode (rd_cd x) pc = .ok (.lstore_n 2, 1)) (hp : rd_two a1 = false) (k : rd_G x (pc + 1) (a0 :: a1 :: some (rd_l v) :: none :: r) st M n Q) : rd_G x pc (a0 :: a1 :: old :: old2 :: r) (rd_l v :: st) M n Q := rd_lstgn (pre := [a0, a1]) (f := 2) hd rfl (by simp [rd_okp, hp]) k
theorem rd_iinc2 {d v : Int} {a0 a1 : Option Value} {r : List (Option Value)} (hd : decode (rd_cd x) pc = .ok (.iinc 2 d, 3)) (hp : rd_two a1 = false) (k : rd_G x (pc + 3) (a0 :: a1 :: some (rd_i (v + d)) :: r) st M n Q) : rd_G x pc (a0 :: a1 :: some (rd_i v) :: r) st M n Q := rd_iincg (pre := [a0, a1]) hd rfl (by simp [rd_okp, hp]) k
theorem rd_ist3 {v : Int} {a0 a1 a2 old : Option Value} {r : List (Option Value)} (hd : decode (rd_cd x) pc = .ok (.istore_n 3, 1)) (hp : rd_two a2 = false) (k : rd_G x (pc + 1) (a0 :: a1 :: a2 :: some (rd_i v) :: r) st M n Q) : rd_G x pc (a0 :: a1 :: a2 :: old :: r) (rd_i v :: st) M n Q := rd_istgn (pre := [a0, a1, a2]) (f := 3) hd rfl (by simp [rd_okp, hp]) k
theorem rd_ast3 {v : Nat} {a0 a1 a2 old : Option Value} {r : List (Option Value)} (hd : decode (rd_cd x) pc = .ok (.astore_n 3, 1)) (hp : rd_two a2 = false) (k : rd_G x (pc + 1) (a0 :: a1 :: a2 :: some (.ref v) :: r) st M n Q) : rd_G x pc (a0 :: a1 :: a2 :: old :: r) (.ref v :: st) M n Q := rd_astgn (pre := [a0, a1, a2]) (f := 3) hd rfl (by simp [rd_okp, hp]) k
theorem rd_lst3 {v : Int} {a0 a1 a2 old old2 : Option Value} {r : List (Option Value)} (hd : decode (rd_cd x) pc = .ok (.lstore_n 3, 1)) (hp : rd_two a2 = false) (k : rd_G x (pc + 1) (a0 :: a1 :: a2 :: some (rd_l v) :: none :: r) st M n Q) : rd_G x pc (a0 :: a1 :: a2 :: old :: old2 :: r) (rd_l v :: st) M n Q := rd_lstgn (pre := [a0, a1, a2]) (f := 3) hd rfl (by simp [rd_okp, hp]) k
theorem rd_iinc3 {d v : Int} {a0 a1 a2 : Option Value} {r : List (Option Value)} (hd : decode (rd_cd x) pc = .ok (.iinc 3 d, 3)) (hp : rd_two a2 = false) (k : rd_G x (pc + 3) (a0 :: a1 :: a2 :: some (rd_i (v + d)) :: r) st M n Q) : rd_G x pc (a0 :: a1 :: a2 :: some (rd_i v) :: r) st M n Q := rd_iincg (pre := [a0, a1, a2]) hd rfl (by simp [rd_okp, hp]) k
theorem rd_ist4 {v : Int} {a0 a1 a2 a3 old : Option Value} {r : List (Option Value)} (hd : decode (rd_cd x) pc = .ok (.istore 4, 2)) (hp : rd_two a3 = false) (k : rd_G x (pc + 2) (a0 :: a1 :: a2 :: a3 :: some (rd_i v) :: r) st M n Q) : rd_G x pc (a0 :: a1 :: a2 :: a3 :: old :: r) (rd_i v :: st) M n Q := rd_istg (pre := [a0, a1, a2, a3]) hd rfl (by simp [rd_okp, hp]) k
theorem rd_ast4 {v : Nat} {a0 a1 a2 a3 old : Option Value} {r : List (Option Value)} (hd : decode (rd_cd x) pc = .ok (.astore 4, 2)) (hp : rd_two a3 = false) (k : rd_G x (pc + 2) (a0 :: a1 :: a2 :: a3 :: some (.ref v) :: r) st M n Q) : rd_G x pc (a0 :: a1 :: a2 :: a3 :: old :: r) (.ref v :: st) M n Q := rd_astg (pre := [a0, a1, a2, a3]) hd rfl (by simp [rd_okp, hp]) k
theorem rd_lst4 {v : Int} {a0 a1 a2 a3 old old2 : Option Value} {r : List (Option Value)} (hd : decode (rd_cd x) pc = .ok (.lstore 4, 2)) (hp : rd_two a3 = false) (k : rd_G x (pc + 2) (a0 :: a1 :: a2 :: a3 :: some (rd_l v) :: none :: r) st M n Q) : rd_G x pc (a0 :: a1 :: a2 :: a3 :: old :: old2 :: r) (rd_l v :: st) M n Q := rd_lstg (pre := [a0, a1, a2, a3]) hd rfl (by simp [rd_okp, hp]) k
theorem rd_iinc4 {d v : Int} {a0 a1 a2 a3 : Option Value} {r : List (Option Value)} (hd : decode (rd_cd x) pc = .ok (.iinc 4 d, 3)) (hp : rd_two a3 = false) (k : rd_G x (pc + 3) (a0 :: a1 :: a2 :: a3 :: some (rd_i (v + d)) :: r) st M n Q) : rd_G x pc (a0 :: a1 :: a2 :: a3 :: some (rd_i v) :: r) st M n Q := rd_iincg (pre := [a0, a1, a2, a3]) hd rfl (by simp [rd_okp, hp]) k
theorem rd_ist5 {v : Int} {a0 a1 a2 a3 a4 old : Option Value} {r : List (Option Value)} (hd : decode (rd_cd x) pc = .ok (.istore 5, 2)) (hp : rd_two a4 = false) (k : rd_G x (pc + 2) (a0 :: a1 :: a2 :: a3 :: a4 :: some (rd_i v) :: r) st M n Q) : rd_G x pc (a0 :: a1 :: a2 :: a3 :: a4 :: old :: r) (rd_i v :: st) M n Q := rd_istg (pre := [a0, a1, a2, a3, a4]) hd rfl (by simp [rd_okp, hp]) k
theorem rd_ast5 {v : Nat} {a0 a1 a2 a3 a4 old : Option Value} {r : List (Option Value)} (hd : decode (rd_cd x) pc = .ok (.astore 5, 2)) (hp : rd_two a4 = false) (k : rd_G x (pc + 2) (a0 :: a1 :: a2 :: a3 :: a4 :: some (.ref v) :: r) st M n Q) : rd_G x pc (a0 :: a1 :: a2 :: a3 :: a4 :: old :: r) (.ref v :: st) M n Q := rd_astg (pre := [a0, a1, a2, a3, a4]) hd rfl (by simp [rd_okp, hp]) k
theorem rd_lst5 {v : Int} {a0 a1 a2 a3 a4 old old2 : Option Value} {r : List (Option Value)} (hd : decode (rd_cd x) pc = .ok (.lstore 5, 2)) (hp : rd_two a4 = false) (k : rd_G x (pc + 2) (a0 :: a1 :: a2 :: a3 :: a4 :: some (rd_l v) :: none :: r) st M n Q) : rd_G x pc (a0 :: a1 :: a2 :: a3 :: a4 :: old :: old2 :: r) (rd_l v :: st) M n Q := rd_lstg (pre := [a0, a1, a2, a3, a4]) hd rfl (by simp [rd_okp, hp]) k
theorem rd_iinc5 {d v : Int} {a0 a1 a2 a3 a4 : Option Value} {r : List (Option Value)} (hd : decode (rd_cd x) pc = .ok (.iinc 5 d, 3)) (hp : rd_two a4 = false) (k : rd_G x (pc + 3) (a0 :: a1 :: a2 :: a3 :: a4 :: some (rd_i (v + d)) :: r) st M n Q) : rd_G x pc (a0 :: a1 :: a2 :: a3 :: a4 :: some (rd_i v) :: r) st M n Q := rd_iincg (pre := [a0, a1, a2, a3, a4]) hd rfl (by simp [rd_okp, hp]) k
theorem rd_ist6 {v : Int} {a0 a1 a2 a3 a4 a5 old : Option Value} {r : List (Option Value)} (hd : decode (rd_cd x) pc = .ok (.istore 6, 2)) (hp : rd_two a5 = false) (k : rd_G x (pc + 2) (a0 :: a1 :: a2 :: a3 :: a4 :: a5 :: some (rd_i v) :: r) st M n Q) : rd_G x pc (a0 :: a1 :: a2 :: a3 :: a4 :: a5 :: old :: r) (rd_i v :: st) M n Q := rd_istg (pre := [a0, a1, a2, a3, a4, a5]) hd rfl (by simp [rd_okp, hp]) k
theorem rd_ast6 {v : Nat} {a0 a1 a2 a3 a4 a5 old : Option Value} {r : List (Option Value)} (hd : decode (rd_cd x) pc = .ok (.astore 6, 2)) (hp : rd_two a5 = false) (k : rd_G x (pc + 2) (a0 :: a1 :: a2 :: a3 :: a4 :: a5 :: some (.ref v) :: r) st M n Q) : rd_G x pc (a0 :: a1 :: a2 :: a3 :: a4 :: a5 :: old :: r) (.ref v :: st) M n Q := rd_astg (pre := [a0, a1, a2, a3, a4, a5]) hd rfl (by simp [rd_okp, hp]) k
theorem rd_lst6 {v : Int} {a0 a1 a2 a3 a4 a5 old old2 : Option Value} {r : List (Option Value)} (hd : decode (rd_cd x) pc = .ok (.lstore 6, 2)) (hp : rd_two a5 = false) (k : rd_G x (pc + 2) (a0 :: a1 :: a2 :: a3 :: a4 :: a5 :: some (rd_l v) :: none :: r) st M n Q) : rd_G x pc (a0 :: a1 :: a2 :: a3 :: a4 :: a5 :: old :: old2 :: r) (rd_l v :: st) M n Q := rd_lstg (pre := [a0, a1, a2, a3, a4, a5]) hd rfl (by simp [rd_okp, hp]) k
theorem rd_iinc6 {d v : Int} {a0 a1 a2 a3 a4 a5 : Option Value} {r : List (Option Value)} (hd : decode (rd_cd x) pc = .ok (.iinc 6 d, 3)) (hp : rd_two a5 = false) (k : rd_G x (pc + 3) (a0 :: a1 :: a2 :: a3 :: a4 :: a5 :: some (rd_i (v + d)) :: r) st M n Q) : rd_G x pc (a0 :: a1 :: a2 :: a3 :: a4 :: a5 :: some (rd_i v) :: r) st M n Q := rd_iincg (pre := [a0, a1, a2, a3, a4, a5]) hd rfl (by simp [rd_okp, hp]) k
theorem rd_ist7 {v : Int} {a0 a1 a2 a3 a4 a5 a6 old : Option Value} {r : List (Option Value)} (hd : decode (rd_cd x) pc = .ok (.istore 7, 2)) (hp : rd_two a6 = false) (k : rd_G x (pc + 2) (a0 :: a1 :: a2 :: a3 :: a4 :: a5 :: a6 :: some (rd_i v) :: r) st M n Q) : rd_G x pc (a0 :: a1 :: a2 :: a3 :: a4 :: a5 :: a6 :: old :: r) (rd_i v :: st) M n Q := rd_istg (pre := [a0, a1, a2, a3, a4, a5, a6]) hd rfl (by simp [rd_okp, hp]) k
theorem rd_ast7 {v : Nat} {a0 a1 a2 a3 a4 a5 a6 old : Option Value} {r : List (Option Value)} (hd : decode (rd_cd x) pc = .ok (.astore 7, 2)) (hp : rd_two a6 = false) (k : rd_G x (pc + 2) (a0 :: a1 :: a2 :: a3 :: a4 :: a5 :: a6 :: some (.ref v) :: r) st M n Q) : rd_G x pc (a0 :: a1 :: a2 :: a3 :: a4 :: a5 :: a6 :: old :: r) (.ref v :: st) M n Q := rd_astg (pre := [a0, a1, a2, a3, a4, a5, a6]) hd rfl (by simp [rd_okp, hp]) k
theorem rd_lst7 {v : Int} {a0 a1 a2 a3 a4 a5 a6 old old2 : Option Value} {r : List (Option Value)} (hd : decode (rd_cd x) pc = .ok (.lstore 7, 2)) (hp : rd_two a6 = false) (k : rd_G x (pc + 2) (a0 :: a1 :: a2 :: a3 :: a4 :: a5 :: a6 :: some (rd_l v) :: none :: r) st M n Q) : rd_G x pc (a0 :: a1 :: a2 :: a3 :: a4 :: a5 :: a6 :: old :: old2 :: r) (rd_l v :: st) M n Q := rd_lstg (pre := [a0, a1, a2, a3, a4, a5, a6]) hd rfl (by simp [rd_okp, hp]) k
theorem rd_iinc7 {d v : Int} {a0 a1 a2 a3 a4 a5 a6 : Option Value} {r : List (Option Value)} (hd : decode (rd_cd x) pc = .ok (.iinc 7 d, 3)) (hp : rd_two a6 = false) (k : rd_G x (pc + 3) (a0 :: a1 :: a2 :: a3 :: a4 :: a5 :: a6 :: some (rd_i (v + d)) :: r) st M n Q) : rd_G x pc (a0 :: a1 :: a2 :: a3 :: a4 :: a5 :: a6 :: some (rd_i v) :: r) st M n Q := rd_iincg (pre := [a0, a1, a2, a3, a4, a5, a6]) hd rfl (by simp [rd_okp, hp]) k
theorem rd_ist8 {v : Int} {a0 a1 a2 a3 a4 a5 a6 a7 old : Option Value} {r : List (Option Value)} (hd : decode (rd_cd x) pc = .ok (.istore 8, 2)) (hp : rd_two a7 = false) (k : rd_G x (pc + 2) (a0 :: a1 :: a2 :: a3 :: a4 :: a5 :: a6 :: a7 :: some (rd_i v) :: r) st M n Q) : rd_G x pc (a0 :: a1 :: a2 :: a3 :: a4 :: a5 :: a6 :: a7 :: old :: r) (rd_i v :: st) M n Q := rd_istg (pre := [a0, a1, a2, a3, a4, a5, a6, a7]) hd rfl (by simp [rd_okp, hp]) k
theorem rd_ast8 {v : Nat} {a0 a1 a2 a3 a4 a5 a6 a7 old : Option Value} {r : List (Option Value)} (hd : decode (rd_cd x) pc = .ok (.astore 8, 2)) (hp : rd_two a7 = false) (k : rd_G x (pc + 2) (a0 :: a1 :: a2 :: a3 :: a4 :: a5 :: a6 :: a7 :: some (.ref v) :: r) st M n Q) : rd_G x pc (a0 :: a1 :: a2 :: a3 :: a4 :: a5 :: a6 :: a7 :: old :: r) (.ref v :: st) M n Q := rd_astg (pre := [a0, a1, a2, a3, a4, a5, a6, a7]) hd rfl (by simp [rd_okp, hp]) k
theorem rd_lst8 {v : Int} {a0 a1 a2 a3 a4 a5 a6 a7 old old2 : Option Value} {r : List (Option Value)} (hd : decode (rd_cd x) pc = .ok (.lstore 8, 2)) (hp : rd_two a7 = false) (k : rd_G x (pc + 2) (a0 :: a1 :: a2 :: a3 :: a4 :: a5 :: a6 :: a7 :: some (rd_l v) :: none :: r) st M n Q) : rd_G x pc (a0 :: a1 :: a2 :: a3 :: a4 :: a5 :: a6 :: a7 :: old :: old2 :: r) (rd_l v :: st) M n Q := rd_lstg (pre := [a0, a1, a2, a3, a4, a5, a6, a7]) hd rfl (by simp [rd_okp, hp]) k
theorem rd_iinc8 {d v : Int} {a0 a1 a2 a3 a4 a5 a6 a7 : Option Value} {r : List (Option Value)} (hd : decode (rd_cd x) pc = .ok (.iinc 8 d, 3)) (hp : rd_two a7 = false) (k : rd_G x (pc + 3) (a0 :: a1 :: a2 :: a3 :: a4 :: a5 :: a6 :: a7 :: some (rd_i (v + d)) :: r) st M n Q) : rd_G x pc (a0 :: a1 :: a2 :: a3 :: a4 :: a5 :: a6 :: a7 :: some (rd_i v) :: r) st M n Q := rd_iincg (pre := [a0, a1, a2, a3, a4, a5, a6, a7]) hd rfl (by simp [rd_okp, hp]) k
theorem rd_ist9 {v : Int} {a0 a1 a2 a3 a4 a5 a6 a7 a8 old : Option Value} {r : List (Option Value)} (hd : decode (rd_cd x) pc = .ok (.istore 9, 2)) (hp : rd_two a8 = false) (k : rd_G x (pc + 2) (a0 :: a1 :: a2 :: a3 :: a4 :: a5 :: a6 :: a7 :: a8 :: some (rd_i v) :: r) st M n Q) : rd_G x pc (a0 :: a1 :: a2 :: a3 :: a4 :: a5 :: a6 :: a7 :: a8 :: old :: r) (rd_i v :: st) M n Q := rd_istg (pre := [a0, a1, a2, a3, a4, a5, a6, a7, a8]) hd rfl (by simp [rd_okp, hp]) k
theorem rd_ast9 {v : Nat} {a0 a1 a2 a3 a4 a5 a6 a7 a8 old : Option Value} {r : List (Option Value)} (hd : decode (rd_cd x) pc = .ok (.astore 9, 2)) (hp : rd_two a8 = false) (k : rd_G x (pc + 2) (a0 :: a1 :: a2 :: a3 :: a4 :: a5 :: a6 :: a7 :: a8 :: some (.ref v) :: r) st M n Q) : rd_G x pc (a0 :: a1 :: a2 :: a3 :: a4 :: a5 :: a6 :: a7 :: a8 :: old :: r) (.ref v :: st) M n Q := rd_astg (pre := [a0, a1, a2, a3, a4, a5, a6, a7, a8]) hd rfl (by simp [rd_okp, hp]) k
theorem rd_lst9 {v : Int} {a0 a1 a2 a3 a4 a5 a6 a7 a8 old old2 : Option Value} {r : List (Option Value)} (hd : decode (rd_cd x) pc = .ok (.lstore 9, 2)) (hp : rd_two a8 = false) (k : rd_G x (pc + 2) (a0 :: a1 :: a2 :: a3 :: a4 :: a5 :: a6 :: a7 :: a8 :: some (rd_l v) :: none :: r) st M n Q) : rd_G x pc (a0 :: a1 :: a2 :: a3 :: a4 :: a5 :: a6 :: a7 :: a8 :: old :: old2 :: r) (rd_l v :: st) M n Q := rd_lstg (pre := [a0, a1, a2, a3, a4, a5, a6, a7, a8]) hd rfl (by simp [rd_okp, hp]) k
theorem rd_iinc9 {d v : Int} {a0 a1 a2 a3 a4 a5 a6 a7 a8 : Option Value} {r : List (Option Value)} (hd : decode (rd_cd x) pc = .ok (.iinc 9 d, 3)) (hp : rd_two a8 = false) (k : rd_G x (pc + 3) (a0 :: a1 :: a2 :: a3 :: a4 :: a5 :: a6 :: a7 :: a8 :: some (rd_i (v + d)) :: r) st M n Q) : rd_G x pc (a0 :: a1 :: a2 :: a3 :: a4 :: a5 :: a6 :: a7 :: a8 :: some (rd_i v) :: r) st M n Q := rd_iincg (pre := [a0, a1, a2, a3, a4, a5, a6, a7, a8]) hd rfl (by simp [rd_okp, hp]) k
theorem rd_ist10 {v : Int} {a0 a1 a2 a3 a4 a5 a6 a7 a8 a9 old : Option Value} {r : List (Option Value)} (hd : decode (rd_cd x) pc = .ok (.istore 10, 2)) (hp : rd_two a9 = false) (k : rd_G x (pc + 2) (a0 :: a1 :: a2 :: a3 :: a4 :: a5 :: a6 :: a7 :: a8 :: a9 :: some (rd_i v) :: r) st M n Q) : rd_G x pc (a0 :: a1 :: a2 :: a3 :: a4 :: a5 :: a6 :: a7 :: a8 :: a9 :: old :: r) (rd_i v :: st) M n Q := rd_istg (pre := [a0, a1, a2, a3, a4, a5, a6, a7, a8, a9]) hd rfl (by simp [rd_okp, hp]) k
theorem rd_ast10 {v : Nat} {a0 a1 a2 a3 a4 a5 a6 a7 a8 a9 old : Option Value} {r : List (Option Value)} (hd : decode (rd_cd x) pc = .ok (.astore 10, 2)) (hp : rd_two a9 = false) (k : rd_G x (pc + 2) (a0 :: a1 :: a2 :: a3 :: a4 :: a5 :: a6 :: a7 :: a8 :: a9 :: some (.ref v) :: r) st M n Q) : rd_G x pc (a0 :: a1 :: a2 :: a3 :: a4 :: a5 :: a6 :: a7 :: a8 :: a9 :: old :: r) (.ref v :: st) M n Q := rd_astg (pre := [a0, a1, a2, a3, a4, a5, a6, a7, a8, a9]) hd rfl (by simp [rd_okp, hp]) k
theorem rd_lst10 {v : Int} {a0 a1 a2 a3 a4 a5 a6 a7 a8 a9 old old2 : Option Value} {r : List (Option Value)} (hd : decode (rd_cd x) pc = .ok (.lstore 10, 2)) (hp : rd_two a9 = false) (k : rd_G x (pc + 2) (a0 :: a1 :: a2 :: a3 :: a4 :: a5 :: a6 :: a7 :: a8 :: a9 :: some (rd_l v) :: none :: r) st M n Q) : rd_G x pc (a0 :: a1 :: a2 :: a3 :: a4 :: a5 :: a6 :: a7 :: a8 :: a9 :: old :: old2 :: r) (rd_l v :: st) M n Q := rd_lstg (pre := [a0, a1, a2, a3, a4, a5, a6, a7, a8, a9]) hd rfl (by simp [rd_okp, hp]) k
theorem rd_iinc10 {d v : Int} {a0 a1 a2 a3 a4 a5 a6 a7 a8 a9 : Option Value} {r : List (Option Value)} (hd : decode (rd_cd x) pc = .ok (.iinc 10 d, 3)) (hp : rd_two a9 = false) (k : rd_G x (pc + 3) (a0 :: a1 :: a2 :: a3 :: a4 :: a5 :: a6 :: a7 :: a8 :: a9 :: some (rd_i (v + d)) :: r) st M n Q) : rd_G x pc (a0 :: a1 :: a2 :: a3 :: a4 :: a5 :: a6 :: a7 :: a8 :: a9 :: some (rd_i v) :: r) st M n Q := rd_iincg (pre := [a0, a1, a2, a3, a4, a5, a6, a7, a8, a9]) hd rfl (by simp [rd_okp, hp]) k
theorem rd_ist11 {v : Int} {a0 a1 a2 a3 a4 a5 a6 a7 a8 a9 a10 old : Option Value} {r : List (Option Value)} (hd : decode (rd_cd x) pc = .ok (.istore 11, 2)) (hp : rd_two a10 = false) (k : rd_G x (pc + 2) (a0 :: a1 :: a2 :: a3 :: a4 :: a5 :: a6 :: a7 :: a8 :: a9 :: a10 :: some (rd_i v) :: r) st M n Q) : rd_G x pc (a0 :: a1 :: a2 :: a3 :: a4 :: a5 :: a6 :: a7 :: a8 :: a9 :: a10 :: old :: r) (rd_i v :: st) M n Q := rd_istg (pre := [a0, a1, a2, a3, a4, a5, a6, a7, a8, a9, a10]) hd rfl (by simp [rd_okp, hp]) k
theorem rd_ast11 {v : Nat} {a0 a1 a2 a3 a4 a5 a6 a7 a8 a9 a10 old : Option Value} {r : List (Option Value)} (hd : decode (rd_cd x) pc = .ok (.astore 11, 2)) (hp : rd_two a10 = false) (k : rd_G x (pc + 2) (a0 :: a1 :: a2 :: a3 :: a4 :: a5 :: a6 :: a7 :: a8 :: a9 :: a10 :: some (.ref v) :: r) st M n Q) : rd_G x pc (a0 :: a1 :: a2 :: a3 :: a4 :: a5 :: a6 :: a7 :: a8 :: a9 :: a10 :: old :: r) (.ref v :: st) M n Q := rd_astg (pre := [a0, a1, a2, a3, a4, a5, a6, a7, a8, a9, a10]) hd rfl (by simp [rd_okp, hp]) k
theorem rd_lst11 {v : Int} {a0 a1 a2 a3 a4 a5 a6 a7 a8 a9 a10 old old2 : Option Value} {r : List (Option Value)} (hd : decode (rd_cd x) pc = .ok (.lstore 11, 2)) (hp : rd_two a10 = false) (k : rd_G x (pc + 2) (a0 :: a1 :: a2 :: a3 :: a4 :: a5 :: a6 :: a7 :: a8 :: a9 :: a10 :: some (rd_l v) :: none :: r) st M n Q) : rd_G x pc (a0 :: a1 :: a2 :: a3 :: a4 :: a5 :: a6 :: a7 :: a8 :: a9 :: a10 :: old :: old2 :: r) (rd_l v :: st) M n Q := rd_lstg (pre := [a0, a1, a2, a3, a4, a5, a6, a7, a8, a9, a10]) hd rfl (by simp [rd_okp, hp]) k
theorem rd_iinc11 {d v : Int} {a0 a1 a2 a3 a4 a5 a6 a7 a8 a9 a10 : Option Value} {r : List (Option Value)} (hd : decode (rd_cd x) pc = .ok (.iinc 11 d, 3)) (hp : rd_two a10 = false) (k : rd_G x (pc + 3) (a0 :: a1 :: a2 :: a3 :: a4 :: a5 :: a6 :: a7 :: a8 :: a9 :: a10 :: some (rd_i (v + d)) :: r) st M n Q) : rd_G x pc (a0 :: a1 :: a2 :: a3 :: a4 :: a5 :: a6 :: a7 :: a8 :: a9 :: a10 :: some (rd_i v) :: r) st M n Q := rd_iincg (pre := [a0, a1, a2, a3, a4, a5, a6, a7, a8, a9, a10]) hd rfl (by simp [rd_okp, hp]) k
theorem rd_ist12 {v : Int} {a0 a1 a2 a3 a4 a5 a6 a7 a8 a9 a10 a11 old : Option Value} {r : List (Option Value)} (hd : decode (rd_cd x) pc = .ok (.istore 12, 2)) (hp : rd_two a11 = false) (k : rd_G x (pc + 2) (a0 :: a1 :: a2 :: a3 :: a4 :: a5 :: a6 :: a7 :: a8 :: a9 :: a10 :: a11 :: some (rd_i v) :: r) st M n Q) : rd_G x pc (a0 :: a1 :: a2 :: a3 :: a4 :: a5 :: a6 :: a7 :: a8 :: a9 :: a10 :: a11 :: old :: r) (rd_i v :: st) M n Q := rd_istg (pre := [a0, a1, a2, a3, a4, a5, a6, a7, a8, a9, a10, a11]) hd rfl (by simp [rd_okp, hp]) k
theorem rd_ast12 {v : Nat} {a0 a1 a2 a3 a4 a5 a6 a7 a8 a9 a10 a11 old : Option Value} {r : List (Option Value)} (hd : decode (rd_cd x) pc = .ok (.astore 12, 2)) (hp : rd_two a11 = false) (k : rd_G x (pc + 2) (a0 :: a1 :: a2 :: a3 :: a4 :: a5 :: a6 :: a7 :: a8 :: a9 :: a10 :: a11 :: some (.ref v) :: r) st M n Q) : rd_G x pc (a0 :: a1 :: a2 :: a3 :: a4 :: a5 :: a6 :: a7 :: a8 :: a9 :: a10 :: a11 :: old :: r) (.ref v :: st) M n Q := rd_astg (pre := [a0, a1, a2, a3, a4, a5, a6, a7, a8, a9, a10, a11]) hd rfl (by simp [rd_okp, hp]) k
theorem rd_lst12 {v : Int} {a0 a1 a2 a3 a4 a5 a6 a7 a8 a9 a10 a11 old old2 : Option Value} {r : List (Option Value)} (hd : decode (rd_cd x) pc = .ok (.lstore 12, 2)) (hp : rd_two a11 = false) (k : rd_G x (pc + 2) (a0 :: a1 :: a2 :: a3 :: a4 :: a5 :: a6 :: a7 :: a8 :: a9 :: a10 :: a11 :: some (rd_l v) :: none :: r) st M n Q) : rd_G x pc (a0 :: a1 :: a2 :: a3 :: a4 :: a5 :: a6 :: a7 :: a8 :: a9 :: a10 :: a11 :: old :: old2 :: r) (rd_l v :: st) M n Q := rd_lstg (pre := [a0, a1, a2, a3, a4, a5, a6, a7, a8, a9, a10, a11]) hd rfl (by simp [rd_okp, hp]) k
theorem rd_iinc12 {d v : Int} {a0 a1 a2 a3 a4 a5 a6 a7 a8 a9 a10 a11 : Option Value} {r : List (Option Value)} (hd : decode (rd_cd x) pc = .ok (.iinc 12 d, 3)) (hp : rd_two a11 = false) (k : rd_G x (pc + 3) (a0 :: a1 :: a2 :: a3 :: a4 :: a5 :: a6 :: a7 :: a8 :: a9 :: a10 :: a11 :: some (rd_i (v + d)) :: r) st M n Q) : rd_G x pc (a0 :: a1 :: a2 :: a3 :: a4 :: a5 :: a6 :: a7 :: a8 :: a9 :: a10 :: a11 :: some (rd_i v) :: r) st M n Q := rd_iincg (pre := [a0, a1, a2, a3, a4, a5, a6, a7, a8, a9, a10, a11]) hd rfl (by simp [rd_okp, hp]) k
theorem rd_ist13 {v : Int} {a0 a1 a2 a3 a4 a5 a6 a7 a8 a9 a10 a11 a12 old : Option Value} {r : List (Option Value)} (hd : decode (rd_cd x) pc = .ok (.istore 13, 2)) (hp : rd_two a12 = false) (k : rd_G x (pc + 2) (a0 :: a1 :: a2 :: a3 :: a4 :: a5 :: a6 :: a7 :: a8 :: a9 :: a10 :: a11 :: a12 :: some (rd_i v) :: r) st M n Q) : rd_G x pc (a0 :: a1 :: a2 :: a3 :: a4 :: a5 :: a6 :: a7 :: a8 :: a9 :: a10 :: a11 :: a12 :: old :: r) (rd_i v :: st) M n Q := rd_istg (pre := [a0, a1, a2, a3, a4, a5, a6, a7, a8, a9, a10, a11, a12]) hd rfl (by simp [rd_okp, hp]) k
theorem rd_ast13 {v : Nat} {a0 a1 a2 a3 a4 a5 a6 a7 a8 a9 a10 a11 a12 old : Option Value} {r : List (Option Value)} (hd : decode (rd_cd x) pc = .ok (.astore 13, 2)) (hp : rd_two a12 = false) (k : rd_G x (pc + 2) (a0 :: a1 :: a2 :: a3 :: a4 :: a5 :: a6 :: a7 :: a8 :: a9 :: a10 :: a11 :: a12 :: some (.ref v) :: r) st M n Q) : rd_G x pc (a0 :: a1 :: a2 :: a3 :: a4 :: a5 :: a6 :: a7 :: a8 :: a9 :: a10 :: a11 :: a12 :: old :: r) (.ref v :: st) M n Q := rd_astg (pre := [a0, a1, a2, a3, a4, a5, a6, a7, a8, a9, a10, a11, a12]) hd rfl (by simp [rd_okp, hp]) k
theorem rd_lst13 {v : Int} {a0 a1 a2 a3 a4 a5 a6 a7 a8 a9 a10 a11 a12 old old2 : Option Value} {r : List (Option Value)} (hd : decode (rd_cd x) pc = .ok (.lstore 13, 2)) (hp : rd_two a12 = false) (k : rd_G x (pc + 2) (a0 :: a1 :: a2 :: a3 :: a4 :: a5 :: a6 :: a7 :: a8 :: a9 :: a10 :: a11 :: a12 :: some (rd_l v) :: none :: r) st M n Q) : rd_G x pc (a0 :: a1 :: a2 :: a3 :: a4 :: a5 :: a6 :: a7 :: a8 :: a9 :: a10 :: a11 :: a12 :: old :: old2 :: r) (rd_l v :: st) M n Q := rd_lstg (pre := [a0, a1, a2, a3, a4, a5, a6, a7, a8, a9, a10, a11, a12]) hd rfl (by simp [rd_okp, hp]) k
theorem rd_iinc13 {d v : Int} {a0 a1 a2 a3 a4 a5 a6 a7 a8 a9 a10 a11 a12 : Option Value} {r : List (Option Value)} (hd : decode (rd_cd x) pc = .ok (.iinc 13 d, 3)) (hp : rd_two a12 = false) (k : rd_G x (pc + 3) (a0 :: a1 :: a2 :: a3 :: a4 :: a5 :: a6 :: a7 :: a8 :: a9 :: a10 :: a11 :: a12 :: some (rd_i (v + d)) :: r) st M n Q) : rd_G x pc (a0 :: a1 :: a2 :: a3 :: a4 :: a5 :: a6 :: a7 :: a8 :: a9 :: a10 :: a11 :: a12 :: some (rd_i v) :: r) st M n Q := rd_iincg (pre := [a0, a1, a2, a3, a4, a5, a6, a7, a8, a9, a10, a11, a12]) hd rfl (by simp [rd_okp, hp]) k
theorem rd_ist14 {v : Int} {a0 a1 a2 a3 a4 a5 a6 a7 a8 a9 a10 a11 a12 a13 old : Option Value} {r : List (Option Value)} (hd : decode (rd_cd x) pc = .ok (.istore 14, 2)) (hp : rd_two a13 = false) (k : rd_G x (pc + 2) (a0 :: a1 :: a2 :: a3 :: a4 :: a5 :: a6 :: a7 :: a8 :: a9 :: a10 :: a11 :: a12 :: a13 :: some (rd_i v) :: r) st M n Q) : rd_G x pc (a0 :: a1 :: a2 :: a3 :: a4 :: a5 :: a6 :: a7 :: a8 :: a9 :: a10 :: a11 :: a12 :: a13 :: old :: r) (rd_i v :: st) M n Q := rd_istg (pre := [a0, a1, a2, a3, a4, a5, a6, a7, a8, a9, a10, a11, a12, a13]) hd rfl (by simp [rd_okp, hp]) k
theorem rd_ast14 {v : Nat} {a0 a1 a2 a3 a4 a5 a6 a7 a8 a9 a10 a11 a12 a13 old : Option Value} {r : List (Option Value)} (hd : decode (rd_cd x) pc = .ok (.astore 14, 2)) (hp : rd_two a13 = false) (k : rd_G x (pc + 2) (a0 :: a1 :: a2 :: a3 :: a4 :: a5 :: a6 :: a7 :: a8 :: a9 :: a10 :: a11 :: a12 :: a13 :: some (.ref v) :: r) st M n Q) : rd_G x pc (a0 :: a1 :: a2 :: a3 :: a4 :: a5 :: a6 :: a7 :: a8 :: a9 :: a10 :: a11 :: a12 :: a13 :: old :: r) (.ref v :: st) M n Q := rd_astg (pre := [a0, a1, a2, a3, a4, a5, a6, a7, a8, a9, a10, a11, a12, a13]) hd rfl (by simp [rd_okp, hp]) k
theorem rd_lst14 {v : Int} {a0 a1 a2 a3 a4 a5 a6 a7 a8 a9 a10 a11 a12 a13 old old2 : Option Value} {r : List (Option Value)} (hd : decode (rd_cd x) pc = .ok (.lstore 14, 2)) (hp : rd_two a13 = false) (k : rd_G x (pc + 2) (a0 :: a1 :: a2 :: a3 :: a4 :: a5 :: a6 :: a7 :: a8 :: a9 :: a10 :: a11 :: a12 :: a13 :: some (rd_l v) :: none :: r) st M n Q) : rd_G x pc (a0 :: a1 :: a2 :: a3 :: a4 :: a5 :: a6 :: a7 :: a8 :: a9 :: a10 :: a11 :: a12 :: a13 :: old :: old2 :: r) (rd_l v :: st) M n Q := rd_lstg (pre := [a0, a1, a2, a3, a4, a5, a6, a7, a8, a9, a10, a11, a12, a13]) hd rfl (by simp [rd_okp, hp]) k
theorem rd_iinc14 {d v : Int} {a0 a1 a2 a3 a4 a5 a6 a7 a8 a9 a10 a11 a12 a13 : Option Value} {r : List (Option Value)} (hd : decode (rd_cd x) pc = .ok (.iinc 14 d, 3)) (hp : rd_two a13 = false) (k : rd_G x (pc + 3) (a0 :: a1 :: a2 :: a3 :: a4 :: a5 :: a6 :: a7 :: a8 :: a9 :: a10 :: a11 :: a12 :: a13 :: some (rd_i (v + d)) :: r) st M n Q) : rd_G x pc (a0 :: a1 :: a2 :: a3 :: a4 :: a5 :: a6 :: a7 :: a8 :: a9 :: a10 :: a11 :: a12 :: a13 :: some (rd_i v) :: r) st M n Q := rd_iincg (pre := [a0, a1, a2, a3, a4, a5, a6, a7, a8, a9, a10, a11, a12, a13]) hd rfl (by simp [rd_okp, hp]) k
theorem rd_ist15 {v : Int} {a0 a1 a2 a3 a4 a5 a6 a7 a8 a9 a10 a11 a12 a13 a14 old : Option Value} {r : List (Option Value)} (hd : decode (rd_cd x) pc = .ok (.istore 15, 2)) (hp : rd_two a14 = false) (k : rd_G x (pc + 2) (a0 :: a1 :: a2 :: a3 :: a4 :: a5 :: a6 :: a7 :: a8 :: a9 :: a10 :: a11 :: a12 :: a13 :: a14 :: some (rd_i v) :: r) st M n Q) : rd_G x pc (a0 :: a1 :: a2 :: a3 :: a4 :: a5 :: a6 :: a7 :: a8 :: a9 :: a10 :: a11 :: a12 :: a13 :: a14 :: old :: r) (rd_i v :: st) M n Q := rd_istg (pre := [a0, a1, a2, a3, a4, a5, a6, a7, a8, a9, a10, a11, a12, a13, a14]) hd rfl (by simp [rd_okp, hp]) k
theorem rd_ast15 {v : Nat} {a0 a1 a2 a3 a4 a5 a6 a7 a8 a9 a10 a11 a12 a13 a14 old : Option Value} {r : List (Option Value)} (hd : decode (rd_cd x) pc = .ok (.astore 15, 2)) (hp : rd_two a14 = false) (k : rd_G x (pc + 2) (a0 :: a1 :: a2 :: a3 :: a4 :: a5 :: a6 :: a7 :: a8 :: a9 :: a10 :: a11 :: a12 :: a13 :: a14 :: some (.ref v) :: r) st M n Q) : rd_G x pc (a0 :: a1 :: a2 :: a3 :: a4 :: a5 :: a6 :: a7 :: a8 :: a9 :: a10 :: a11 :: a12 :: a13 :: a14 :: old :: r) (.ref v :: st) M n Q := rd_astg (pre := [a0, a1, a2, a3, a4, a5, a6, a7, a8, a9, a10, a11, a12, a13, a14]) hd rfl (by simp [rd_okp, hp]) k
theorem rd_lst15 {v : Int} {a0 a1 a2 a3 a4 a5 a6 a7 a8 a9 a10 a11 a12 a13 a14 old old2 : Option Value} {r : List (Option Value)} (hd : decode (rd_cd x) pc = .ok (.lstore 15, 2)) (hp : rd_two a14 = false) (k : rd_G x (pc + 2) (a0 :: a1 :: a2 :: a3 :: a4 :: a5 :: a6 :: a7 :: a8 :: a9 :: a10 :: a11 :: a12 :: a13 :: a14 :: some (rd_l v) :: none :: r) st M n Q) : rd_G x pc (a0 :: a1 :: a2 :: a3 :: a4 :: a5 :: a6 :: a7 :: a8 :: a9 :: a10 :: a11 :: a12 :: a13 :: a14 :: old :: old2 :: r) (rd_l v :: st) M n Q := rd_lstg (pre := [a0, a1, a2, a3, a4, a5, a6, a7, a8, a9, a10, a11, a12, a13, a14]) hd rfl (by simp [rd_okp, hp]) k
theorem rd_iinc15 {d v : Int} {a0 a1 a2 a3 a4 a5 a6 a7 a8 a9 a10 a11 a12 a13 a14 : Option Value} {r : List (Option Value)} (hd : decode (rd_cd x) pc = .ok (.iinc 15 d, 3)) (hp : rd_two a14 = false) (k : rd_G x (pc + 3) (a0 :: a1 :: a2 :: a3 :: a4 :: a5 :: a6 :: a7 :: a8 :: a9 :: a10 :: a11 :: a12 :: a13 :: a14 :: some (rd_i (v + d)) :: r) st M n Q) : rd_G x pc (a0 :: a1 :: a2 :: a3 :: a4 :: a5 :: a6 :: a7 :: a8 :: a9 :: a10 :: a11 :: a12 :: a13 :: a14 :: some (rd_i v) :: r) st M n Q := rd_iincg (pre := [a0, a1, a2, a3, a4, a5, a6, a7, a8, a9, a10, a11, a12, a13, a14]) hd rfl (by simp [rd_okp, hp]) k
theorem rd_ist16 {v : Int} {a0 a1 a2 a3 a4 a5 a6 a7 a8 a9 a10 a11 a12 a13 a14 a15 old : Option Value} {r : List (Option Value)} (hd : decode (rd_cd x) pc = .ok (.istore 16, 2)) (hp : rd_two a15 = false) (k : rd_G x (pc + 2) (a0 :: a1 :: a2 :: a3 :: a4 :: a5 :: a6 :: a7 :: a8 :: a9 :: a10 :: a11 :: a12 :: a13 :: a14 :: a15 :: some (rd_i v) :: r) st M n Q) : rd_G x pc (a0 :: a1 :: a2 :: a3 :: a4 :: a5 :: a6 :: a7 :: a8 :: a9 :: a10 :: a11 :: a12 :: a13 :: a14 :: a15 :: old :: r) (rd_i v :: st) M n Q := rd_istg (pre := [a0, a1, a2, a3, a4, a5, a6, a7, a8, a9, a10, a11, a12, a13, a14, a15]) hd rfl (by simp [rd_okp, hp]) k
theorem rd_ast16 {v : Nat} {a0 a1 a2 a3 a4 a5 a6 a7 a8 a9 a10 a11 a12 a13 a14 a15 old : Option Value} {r : List (Option Value)} (hd : decode (rd_cd x) pc = .ok (.astore 16, 2)) (hp : rd_two a15 = false) (k : rd_G x (pc + 2) (a0 :: a1 :: a2 :: a3 :: a4 :: a5 :: a6 :: a7 :: a8 :: a9 :: a10 :: a11 :: a12 :: a13 :: a14 :: a15 :: some (.ref v) :: r) st M n Q) : rd_G x pc (a0 :: a1 :: a2 :: a3 :: a4 :: a5 :: a6 :: a7 :: a8 :: a9 :: a10 :: a11 :: a12 :: a13 :: a14 :: a15 :: old :: r) (.ref v :: st) M n Q := rd_astg (pre := [a0, a1, a2, a3, a4, a5, a6, a7, a8, a9, a10, a11, a12, a13, a14, a15]) hd rfl (by simp [rd_okp, hp]) k
theorem rd_lst16 {v : Int} {a0 a1 a2 a3 a4 a5 a6 a7 a8 a9 a10 a11 a12 a13 a14 a15 old old2 : Option Value} {r : List (Option Value)} (hd : decode (rd_cd x) pc = .ok (.lstore 16, 2)) (hp : rd_two a15 = false) (k : rd_G x (pc + 2) (a0 :: a1 :: a2 :: a3 :: a4 :: a5 :: a6 :: a7 :: a8 :: a9 :: a10 :: a11 :: a12 :: a13 :: a14 :: a15 :: some (rd_l v) :: none :: r) st M n Q) : rd_G x pc (a0 :: a1 :: a2 :: a3 :: a4 :: a5 :: a6 :: a7 :: a8 :: a9 :: a10 :: a11 :: a12 :: a13 :: a14 :: a15 :: old :: old2 :: r) (rd_l v :: st) M n Q := rd_lstg (pre := [a0, a1, a2, a3, a4, a5, a6, a7, a8, a9, a10, a11, a12, a13, a14, a15]) hd rfl (by simp [rd_okp, hp]) k
theorem rd_iinc16 {d v : Int} {a0 a1 a2 a3 a4 a5 a6 a7 a8 a9 a10 a11 a12 a13 a14 a15 : Option Value} {r : List (Option Value)} (hd : decode (rd_cd x) pc = .ok (.iinc 16 d, 3)) (hp : rd_two a15 = false) (k : rd_G x (pc + 3) (a0 :: a1 :: a2 :: a3 :: a4 :: a5 :: a6 :: a7 :: a8 :: a9 :: a10 :: a11 :: a12 :: a13 :: a14 :: a15 :: some (rd_i (v + d)) :: r) st M n Q) : rd_G x pc (a0 :: a1 :: a2 :: a3 :: a4 :: a5 :: a6 :: a7 :: a8 :: a9 :: a10 :: a11 :: a12 :: a13 :: a14 :: a15 :: some (rd_i v) :: r) st M n Q := rd_iincg (pre := [a0, a1, a2, a3, a4, a5, a6, a7, a8, a9, a10, a11, a12, a13, a14, a15]) hd rfl (by simp [rd_okp, hp]) k
theorem rd_ist17 {v : Int} {a0 a1 a2 a3 a4 a5 a6 a7 a8 a9 a10 a11 a12 a13 a14 a15 a16 old : Option Value} {r : List (Option Value)} (hd : decode (rd_cd x) pc = .ok (.istore 17, 2)) (hp : rd_two a16 = false) (k : rd_G x (pc + 2) (a0 :: a1 :: a2 :: a3 :: a4 :: a5 :: a6 :: a7 :: a8 :: a9 :: a10 :: a11 :: a12 :: a13 :: a14 :: a15 :: a16 :: some (rd_i v) :: r) st M n Q) : rd_G x pc (a0 :: a1 :: a2 :: a3 :: a4 :: a5 :: a6 :: a7 :: a8 :: a9 :: a10 :: a11 :: a12 :: a13 :: a14 :: a15 :: a16 :: old :: r) (rd_i v :: st) M n Q := rd_istg (pre := [a0, a1, a2, a3, a4, a5, a6, a7, a8, a9, a10, a11, a12, a13, a14, a15, a16]) hd rfl (by simp [rd_okp, hp]) k
theorem rd_ast17 {v : Nat} {a0 a1 a2 a3 a4 a5 a6 a7 a8 a9 a10 a11 a12 a13 a14 a15 a16 old : Option Value} {r : List (Option Value)} (hd : decode (rd_cd x) pc = .ok (.astore 17, 2)) (hp : rd_two a16 = false) (k : rd_G x (pc + 2) (a0 :: a1 :: a2 :: a3 :: a4 :: a5 :: a6 :: a7 :: a8 :: a9 :: a10 :: a11 :: a12 :: a13 :: a14 :: a15 :: a16 :: some (.ref v) :: r) st M n Q) : rd_G x pc (a0 :: a1 :: a2 :: a3 :: a4 :: a5 :: a6 :: a7 :: a8 :: a9 :: a10 :: a11 :: a12 :: a13 :: a14 :: a15 :: a16 :: old :: r) (.ref v :: st) M n Q := rd_astg (pre := [a0, a1, a2, a3, a4, a5, a6, a7, a8, a9, a10, a11, a12, a13, a14, a15, a16]) hd rfl (by simp [rd_okp, hp]) k
theorem rd_lst17 {v : Int} {a0 a1 a2 a3 a4 a5 a6 a7 a8 a9 a10 a11 a12 a13 a14 a15 a16 old old2 : Option Value} {r : List (Option Value)} (hd : decode (rd_cd x) pc = .ok (.lstore 17, 2)) (hp : rd_two a16 = false) (k : rd_G x (pc + 2) (a0 :: a1 :: a2 :: a3 :: a4 :: a5 :: a6 :: a7 :: a8 :: a9 :: a10 :: a11 :: a12 :: a13 :: a14 :: a15 :: a16 :: some (rd_l v) :: none :: r) st M n Q) : rd_G x pc (a0 :: a1 :: a2 :: a3 :: a4 :: a5 :: a6 :: a7 :: a8 :: a9 :: a10 :: a11 :: a12 :: a13 :: a14 :: a15 :: a16 :: old :: old2 :: r) (rd_l v :: st) M n Q := rd_lstg (pre := [a0, a1, a2, a3, a4, a5, a6, a7, a8, a9, a10, a11, a12, a13, a14, a15, a16]) hd rfl (by simp [rd_okp, hp]) k
theorem rd_iinc17 {d v : Int} {a0 a1 a2 a3 a4 a5 a6 a7 a8 a9 a10 a11 a12 a13 a14 a15 a16 : Option Value} {r : List (Option Value)} (hd : decode (rd_cd x) pc = .ok (.iinc 17 d, 3)) (hp : rd_two a16 = false) (k : rd_G x (pc + 3) (a0 :: a1 :: a2 :: a3 :: a4 :: a5 :: a6 :: a7 :: a8 :: a9 :: a10 :: a11 :: a12 :: a13 :: a14 :: a15 :: a16 :: some (rd_i (v + d)) :: r) st M n Q) : rd_G x pc (a0 :: a1 :: a2 :: a3 :: a4 :: a5 :: a6 :: a7 :: a8 :: a9 :: a10 :: a11 :: a12 :: a13 :: a14 :: a15 :: a16 :: some (rd_i v) :: r) st M n Q := rd_iincg (pre := [a0, a1, a2, a3, a4, a5, a6, a7, a8, a9, a10, a11, a12, a13, a14, a15, a16]) hd rfl (by simp [rd_okp, hp]) k
theorem rd_ist18 {v : Int} {a0 a1 a2 a3 a4 a5 a6 a7 a8 a9 a10 a11 a12 a13 a14 a15 a16 a17 old : Option Value} {r : List (Option Value)} (hd : decode (rd_cd x) pc = .ok (.istore 18, 2)) (hp : rd_two a17 = false) (k : rd_G x (pc + 2) (a0 :: a1 :: a2 :: a3 :: a4 :: a5 :: a6 :: a7 :: a8 :: a9 :: a10 :: a11 :: a12 :: a13 :: a14 :: a15 :: a16 :: a17 :: some (rd_i v) :: r) st M n Q) : rd_G x pc (a0 :: a1 :: a2 :: a3 :: a4 :: a5 :: a6 :: a7 :: a8 :: a9 :: a10 :: a11 :: a12 :: a13 :: a14 :: a15 :: a16 :: a17 :: old :: r) (rd_i v :: st) M n Q := rd_istg (pre := [a0, a1, a2, a3, a4, a5, a6, a7, a8, a9, a10, a11, a12, a13, a14, a15, a16, a17]) hd rfl (by simp [rd_okp, hp]) k
theorem rd_ast18 {v : Nat} {a0 a1 a2 a3 a4 a5 a6 a7 a8 a9 a10 a11 a12 a13 a14 a15 a16 a17 old : Option Value} {r : List (Option Value)} (hd : decode (rd_cd x) pc = .ok (.astore 18, 2)) (hp : rd_two a17 = false) (k : rd_G x (pc + 2) (a0 :: a1 :: a2 :: a3 :: a4 :: a5 :: a6 :: a7 :: a8 :: a9 :: a10 :: a11 :: a12 :: a13 :: a14 :: a15 :: a16 :: a17 :: some (.ref v) :: r) st M n Q) : rd_G x pc (a0 :: a1 :: a2 :: a3 :: a4 :: a5 :: a6 :: a7 :: a8 :: a9 :: a10 :: a11 :: a12 :: a13 :: a14 :: a15 :: a16 :: a17 :: old :: r) (.ref v :: st) M n Q := rd_astg (pre := [a0, a1, a2, a3, a4, a5, a6, a7, a8, a9, a10, a11, a12, a13, a14, a15, a16, a17]) hd rfl (by simp [rd_okp, hp]) k
theorem rd_lst18 {v : Int} {a0 a1 a2 a3 a4 a5 a6 a7 a8 a9 a10 a11 a12 a13 a14 a15 a16 a17 old old2 : Option Value} {r : List (Option Value)} (hd : decode (rd_cd x) pc = .ok (.lstore 18, 2)) (hp : rd_two a17 = false) (k : rd_G x (pc + 2) (a0 :: a1 :: a2 :: a3 :: a4 :: a5 :: a6 :: a7 :: a8 :: a9 :: a10 :: a11 :: a12 :: a13 :: a14 :: a15 :: a16 :: a17 :: some (rd_l v) :: none :: r) st M n Q) : rd_G x pc (a0 :: a1 :: a2 :: a3 :: a4 :: a5 :: a6 :: a7 :: a8 :: a9 :: a10 :: a11 :: a12 :: a13 :: a14 :: a15 :: a16 :: a17 :: old :: old2 :: r) (rd_l v :: st) M n Q := rd_lstg (pre := [a0, a1, a2, a3, a4, a5, a6, a7, a8, a9, a10, a11, a12, a13, a14, a15, a16, a17]) hd rfl (by simp [rd_okp, hp]) k
theorem rd_iinc18 {d v : Int} {a0 a1 a2 a3 a4 a5 a6 a7 a8 a9 a10 a11 a12 a13 a14 a15 a16 a17 : Option Value} {r : List (Option Value)} (hd : decode (rd_cd x) pc = .ok (.iinc 18 d, 3)) (hp : rd_two a17 = false) (k : rd_G x (pc + 3) (a0 :: a1 :: a2 :: a3 :: a4 :: a5 :: a6 :: a7 :: a8 :: a9 :: a10 :: a11 :: a12 :: a13 :: a14 :: a15 :: a16 :: a17 :: some (rd_i (v + d)) :: r) st M n Q) : rd_G x pc (a0 :: a1 :: a2 :: a3 :: a4 :: a5 :: a6 :: a7 :: a8 :: a9 :: a10 :: a11 :: a12 :: a13 :: a14 :: a15 :: a16 :: a17 :: some (rd_i v) :: r) st M n Q := rd_iincg (pre := [a0, a1, a2, a3, a4, a5, a6, a7, a8, a9, a10, a11, a12, a13, a14, a15, a16, a17]) hd rfl (by simp [rd_okp, hp]) k
theorem rd_ist19 {v : Int} {a0 a1 a2 a3 a4 a5 a6 a7 a8 a9 a10 a11 a12 a13 a14 a15 a16 a17 a18 old : Option Value} {r : List (Option Value)} (hd : decode (rd_cd x) pc = .ok (.istore 19, 2)) (hp : rd_two a18 = false) (k : rd_G x (pc + 2) (a0 :: a1 :: a2 :: a3 :: a4 :: a5 :: a6 :: a7 :: a8 :: a9 :: a10 :: a11 :: a12 :: a13 :: a14 :: a15 :: a16 :: a17 :: a18 :: some (rd_i v) :: r) st M n Q) : rd_G x pc (a0 :: a1 :: a2 :: a3 :: a4 :: a5 :: a6 :: a7 :: a8 :: a9 :: a10 :: a11 :: a12 :: a13 :: a14 :: a15 :: a16 :: a17 :: a18 :: old :: r) (rd_i v :: st) M n Q := rd_istg (pre := [a0, a1, a2, a3, a4, a5, a6, a7, a8, a9, a10, a11, a12, a13, a14, a15, a16, a17, a18]) hd rfl (by simp [rd_okp, hp]) k
theorem rd_ast19 {v : Nat} {a0 a1 a2 a3 a4 a5 a6 a7 a8 a9 a10 a11 a12 a13 a14 a15 a16 a17 a18 old : Option Value} {r : List (Option Value)} (hd : decode (rd_cd x) pc = .ok (.astore 19, 2)) (hp : rd_two a18 = false) (k : rd_G x (pc + 2) (a0 :: a1 :: a2 :: a3 :: a4 :: a5 :: a6 :: a7 :: a8 :: a9 :: a10 :: a11 :: a12 :: a13 :: a14 :: a15 :: a16 :: a17 :: a18 :: some (.ref v) :: r) st M n Q) : rd_G x pc (a0 :: a1 :: a2 :: a3 :: a4 :: a5 :: a6 :: a7 :: a8 :: a9 :: a10 :: a11 :: a12 :: a13 :: a14 :: a15 :: a16 :: a17 :: a18 :: old :: r) (.ref v :: st) M n Q := rd_astg (pre := [a0, a1, a2, a3, a4, a5, a6, a7, a8, a9, a10, a11, a12, a13, a14, a15, a16, a17, a18]) hd rfl (by simp [rd_okp, hp]) k
theorem rd_lst19 {v : Int} {a0 a1 a2 a3 a4 a5 a6 a7 a8 a9 a10 a11 a12 a13 a14 a15 a16 a17 a18 old old2 : Option Value} {r : List (Option Value)} (hd : decode (rd_cd x) pc = .ok (.lstore 19, 2)) (hp : rd_two a18 = false) (k : rd_G x (pc + 2) (a0 :: a1 :: a2 :: a3 :: a4 :: a5 :: a6 :: a7 :: a8 :: a9 :: a10 :: a11 :: a12 :: a13 :: a14 :: a15 :: a16 :: a17 :: a18 :: some (rd_l v) :: none :: r) st M n Q) : rd_G x pc (a0 :: a1 :: a2 :: a3 :: a4 :: a5 :: a6 :: a7 :: a8 :: a9 :: a10 :: a11 :: a12 :: a13 :: a14 :: a15 :: a16 :: a17 :: a18 :: old :: old2 :: r) (rd_l v :: st) M n Q := rd_lstg (pre := [a0, a1, a2, a3, a4, a5, a6, a7, a8, a9, a10, a11, a12, a13, a14, a15, a16, a17, a18]) hd rfl (by simp [rd_okp, hp]) k
theorem rd_iinc19 {d v : Int} {a0 a1 a2 a3 a4 a5 a6 a7 a8 a9 a10 a11 a12 a13 a14 a15 a16 a17 a18 : Option Value} {r : List (Option Value)} (hd : decode (rd_cd x) pc = .ok (.iinc 19 d, 3)) (hp : rd_two a18 = false) (k : rd_G x (pc + 3) (a0 :: a1 :: a2 :: a3 :: a4 :: a5 :: a6 :: a7 :: a8 :: a9 :: a10 :: a11 :: a12 :: a13 :: a14 :: a15 :: a16 :: a17 :: a18 :: some (rd_i (v + d)) :: r) st M n Q) : rd_G x pc (a0 :: a1 :: a2 :: a3 :: a4 :: a5 :: a6 :: a7 :: a8 :: a9 :: a10 :: a11 :: a12 :: a13 :: a14 :: a15 :: a16 :: a17 :: a18 :: some (rd_i v) :: r) st M n Q := rd_iincg (pre := [a0, a1, a2, a3, a4, a5, a6, a7, a8, a9, a10, a11, a12, a13, a14, a15, a16, a17, a18]) hd rfl (by simp [rd_okp, hp]) k
theorem rd_ist20 {v : Int} {a0 a1 a2 a3 a4 a5 a6 a7 a8 a9 a10 a11 a12 a13 a14 a15 a16 a17 a18 a19 old : Option Value} {r : List (Option Value)} (hd : decode (rd_cd x) pc = .ok (.istore 20, 2)) (hp : rd_two a19 = false) (k : rd_G x (pc + 2) (a0 :: a1 :: a2 :: a3 :: a4 :: a5 :: a6 :: a7 :: a8 :: a9 :: a10 :: a11 :: a12 :: a13 :: a14 :: a15 :: a16 :: a17 :: a18 :: a19 :: some (rd_i v) :: r) st M n Q) : rd_G x pc (a0 :: a1 :: a2 :: a3 :: a4 :: a5 :: a6 :: a7 :: a8 :: a9 :: a10 :: a11 :: a12 :: a13 :: a14 :: a15 :: a16 :: a17 :: a18 :: a19 :: old :: r) (rd_i v :: st) M n Q := rd_istg (pre := [a0, a1, a2, a3, a4, a5, a6, a7, a8, a9, a10, a11, a12, a13, a14, a15, a16, a17, a18, a19]) hd rfl (by simp [rd_okp, hp]) k
theorem rd_ast20 {v : Nat} {a0 a1 a2 a3 a4 a5 a6 a7 a8 a9 a10 a11 a12 a13 a14 a15 a16 a17 a18 a19 old : Option Value} {r : List (Option Value)} (hd : decode (rd_cd x) pc = .ok (.astore 20, 2)) (hp : rd_two a19 = false) (k : rd_G x (pc + 2) (a0 :: a1 :: a2 :: a3 :: a4 :: a5 :: a6 :: a7 :: a8 :: a9 :: a10 :: a11 :: a12 :: a13 :: a14 :: a15 :: a16 :: a17 :: a18 :: a19 :: some (.ref v) :: r) st M n Q) : rd_G x pc (a0 :: a1 :: a2 :: a3 :: a4 :: a5 :: a6 :: a7 :: a8 :: a9 :: a10 :: a11 :: a12 :: a13 :: a14 :: a15 :: a16 :: a17 :: a18 :: a19 :: old :: r) (.ref v :: st) M n Q := rd_astg (pre := [a0, a1, a2, a3, a4, a5, a6, a7, a8, a9, a10, a11, a12, a13, a14, a15, a16, a17, a18, a19]) hd rfl (by simp [rd_okp, hp]) k
theorem rd_lst20 {v : Int} {a0 a1 a2 a3 a4 a5 a6 a7 a8 a9 a10 a11 a12 a13 a14 a15 a16 a17 a18 a19 old old2 : Option Value} {r : List (Option Value)} (hd : decode (rd_cd x) pc = .ok (.lstore 20, 2)) (hp : rd_two a19 = false) (k : rd_G x (pc + 2) (a0 :: a1 :: a2 :: a3 :: a4 :: a5 :: a6 :: a7 :: a8 :: a9 :: a10 :: a11 :: a12 :: a13 :: a14 :: a15 :: a16 :: a17 :: a18 :: a19 :: some (rd_l v) :: none :: r) st M n Q) : rd_G x pc (a0 :: a1 :: a2 :: a3 :: a4 :: a5 :: a6 :: a7 :: a8 :: a9 :: a10 :: a11 :: a12 :: a13 :: a14 :: a15 :: a16 :: a17 :: a18 :: a19 :: old :: old2 :: r) (rd_l v :: st) M n Q := rd_lstg (pre := [a0, a1, a2, a3, a4, a5, a6, a7, a8, a9, a10, a11, a12, a13, a14, a15, a16, a17, a18, a19]) hd rfl (by simp [rd_okp, hp]) k
theorem rd_iinc20 {d v : Int} {a0 a1 a2 a3 a4 a5 a6 a7 a8 a9 a10 a11 a12 a13 a14 a15 a16 a17 a18 a19 : Option Value} {r : List (Option Value)} (hd : decode (rd_cd x) pc = .ok (.iinc 20 d, 3)) (hp : rd_two a19 = false) (k : rd_G x (pc + 3) (a0 :: a1 :: a2 :: a3 :: a4 :: a5 :: a6 :: a7 :: a8 :: a9 :: a10 :: a11 :: a12 :: a13 :: a14 :: a15 :: a16 :: a17 :: a18 :: a19 :: some (rd_i (v + d)) :: r) st M n Q) : rd_G x pc (a0 :: a1 :: a2 :: a3 :: a4 :: a5 :: a6 :: a7 :: a8 :: a9 :: a10 :: a11 :: a12 :: a13 :: a14 :: a15 :: a16 :: a17 :: a18 :: a19 :: some (rd_i v) :: r) st M n Q := rd_iincg (pre := [a0, a1, a2, a3, a4, a5, a6, a7, a8, a9, a10, a11, a12, a13, a14, a15, a16, a17, a18, a19]) hd rfl (by simp [rd_okp, hp]) k
theorem rd_ist21 {v : Int} {a0 a1 a2 a3 a4 a5 a6 a7 a8 a9 a10 a11 a12 a13 a14 a15 a16 a17 a18 a19 a20 old : Option Value} {r : List (Option Value)} (hd : decode (rd_cd x) pc = .ok (.istore 21, 2)) (hp : rd_two a20 = false) (k : rd_G x (pc + 2) (a0 :: a1 :: a2 :: a3 :: a4 :: a5 :: a6 :: a7 :: a8 :: a9 :: a10 :: a11 :: a12 :: a13 :: a14 :: a15 :: a16 :: a17 :: a18 :: a19 :: a20 :: some (rd_i v) :: r) st M n Q) : rd_G x pc (a0 :: a1 :: a2 :: a3 :: a4 :: a5 :: a6 :: a7 :: a8 :: a9 :: a10 :: a11 :: a12 :: a13 :: a14 :: a15 :: a16 :: a17 :: a18 :: a19 :: a20 :: old :: r) (rd_i v :: st) M n Q := rd_istg (pre := [a0, a1, a2, a3, a4, a5, a6, a7, a8, a9, a10, a11, a12, a13, a14, a15, a16, a17, a18, a19, a20]) hd rfl (by simp [rd_okp, hp]) k
theorem rd_ast21 {v : Nat} {a0 a1 a2 a3 a4 a5 a6 a7 a8 a9 a10 a11 a12 a13 a14 a15 a16 a17 a18 a19 a20 old : Option Value} {r : List (Option Value)} (hd : decode (rd_cd x) pc = .ok (.astore 21, 2)) (hp : rd_two a20 = false) (k : rd_G x (pc + 2) (a0 :: a1 :: a2 :: a3 :: a4 :: a5 :: a6 :: a7 :: a8 :: a9 :: a10 :: a11 :: a12 :: a13 :: a14 :: a15 :: a16 :: a17 :: a18 :: a19 :: a20 :: some (.ref v) :: r) st M n Q) : rd_G x pc (a0 :: a1 :: a2 :: a3 :: a4 :: a5 :: a6 :: a7 :: a8 :: a9 :: a10 :: a11 :: a12 :: a13 :: a14 :: a15 :: a16 :: a17 :: a18 :: a19 :: a20 :: old :: r) (.ref v :: st) M n Q := rd_astg (pre := [a0, a1, a2, a3, a4, a5, a6, a7, a8, a9, a10, a11, a12, a13, a14, a15, a16, a17, a18, a19, a20]) hd rfl (by simp [rd_okp, hp]) k
theorem rd_lst21 {v : Int} {a0 a1 a2 a3 a4 a5 a6 a7 a8 a9 a10 a11 a12 a13 a14 a15 a16 a17 a18 a19 a20 old old2 : Option Value} {r : List (Option Value)} (hd : decode (rd_cd x) pc = .ok (.lstore 21, 2)) (hp : rd_two a20 = false) (k : rd_G x (pc + 2) (a0 :: a1 :: a2 :: a3 :: a4 :: a5 :: a6 :: a7 :: a8 :: a9 :: a10 :: a11 :: a12 :: a13 :: a14 :: a15 :: a16 :: a17 :: a18 :: a19 :: a20 :: some (rd_l v) :: none :: r) st M n Q) : rd_G x pc (a0 :: a1 :: a2 :: a3 :: a4 :: a5 :: a6 :: a7 :: a8 :: a9 :: a10 :: a11 :: a12 :: a13 :: a14 :: a15 :: a16 :: a17 :: a18 :: a19 :: a20 :: old :: old2 :: r) (rd_l v :: st) M n Q := rd_lstg (pre := [a0, a1, a2, a3, a4, a5, a6, a7, a8, a9, a10, a11, a12, a13, a14, a15, a16, a17, a18, a19, a20]) hd rfl (by simp [rd_okp, hp]) k
theorem rd_iinc21 {d v : Int} {a0 a1 a2 a3 a4 a5 a6 a7 a8 a9 a10 a11 a12 a13 a14 a15 a16 a17 a18 a19 a20 : Option Value} {r : List (Option Value)} (hd : decode (rd_cd x) pc = .ok (.iinc 21 d, 3)) (hp : rd_two a20 = false) (k : rd_G x (pc + 3) (a0 :: a1 :: a2 :: a3 :: a4 :: a5 :: a6 :: a7 :: a8 :: a9 :: a10 :: a11 :: a12 :: a13 :: a14 :: a15 :: a16 :: a17 :: a18 :: a19 :: a20 :: some (rd_i (v + d)) :: r) st M n Q) : rd_G x pc (a0 :: a1 :: a2 :: a3 :: a4 :: a5 :: a6 :: a7 :: a8 :: a9 :: a10 :: a11 :: a12 :: a13 :: a14 :: a15 :: a16 :: a17 :: a18 :: a19 :: a20 :: some (rd_i v) :: r) st M n Q := rd_iincg (pre := [a0, a1, a2, a3, a4, a5, a6, a7, a8, a9, a10, a11, a12, a13, a14, a15, a16, a17, a18, a19, a20]) hd rfl (by simp [rd_okp, hp]) k
theorem rd_ist22 {v : Int} {a0 a1 a2 a3 a4 a5 a6 a7 a8 a9 a10 a11 a12 a13 a14 a15 a16 a17 a18 a19 a20 a21 old : Option Value} {r : List (Option Value)} (hd : decode (rd_cd x) pc = .ok (.istore 22, 2)) (hp : rd_two a21 = false) (k : rd_G x (pc + 2) (a0 :: a1 :: a2 :: a3 :: a4 :: a5 :: a6 :: a7 :: a8 :: a9 :: a10 :: a11 :: a12 :: a13 :: a14 :: a15 :: a16 :: a17 :: a18 :: a19 :: a20 :: a21 :: some (rd_i v) :: r) st M n Q) : rd_G x pc (a0 :: a1 :: a2 :: a3 :: a4 :: a5 :: a6 :: a7 :: a8 :: a9 :: a10 :: a11 :: a12 :: a13 :: a14 :: a15 :: a16 :: a17 :: a18 :: a19 :: a20 :: a21 :: old :: r) (rd_i v :: st) M n Q := rd_istg (pre := [a0, a1, a2, a3, a4, a5, a6, a7, a8, a9, a10, a11, a12, a13, a14, a15, a16, a17, a18, a19, a20, a21]) hd rfl (by simp [rd_okp, hp]) k
theorem rd_ast22 {v : Nat} {a0 a1 a2 a3 a4 a5 a6 a7 a8 a9 a10 a11 a12 a13 a14 a15 a16 a17 a18 a19 a20 a21 old : Option Value} {r : List (Option Value)} (hd : decode (rd_cd x) pc = .ok (.astore 22, 2)) (hp : rd_two a21 = false) (k : rd_G x (pc + 2) (a0 :: a1 :: a2 :: a3 :: a4 :: a5 :: a6 :: a7 :: a8 :: a9 :: a10 :: a11 :: a12 :: a13 :: a14 :: a15 :: a16 :: a17 :: a18 :: a19 :: a20 :: a21 :: some (.ref v) :: r) st M n Q) : rd_G x pc (a0 :: a1 :: a2 :: a3 :: a4 :: a5 :: a6 :: a7 :: a8 :: a9 :: a10 :: a11 :: a12 :: a13 :: a14 :: a15 :: a16 :: a17 :: a18 :: a19 :: a20 :: a21 :: old :: r) (.ref v :: st) M n Q := rd_astg (pre := [a0, a1, a2, a3, a4, a5, a6, a7, a8, a9, a10, a11, a12, a13, a14, a15, a16, a17, a18, a19, a20, a21]) hd rfl (by simp [rd_okp, hp]) k
theorem rd_lst22 {v : Int} {a0 a1 a2 a3 a4 a5 a6 a7 a8 a9 a10 a11 a12 a13 a14 a15 a16 a17 a18 a19 a20 a21 old old2 : Option Value} {r : List (Option Value)} (hd : decode (rd_cd x) pc = .ok (.lstore 22, 2)) (hp : rd_two a21 = false) (k : rd_G x (pc + 2) (a0 :: a1 :: a2 :: a3 :: a4 :: a5 :: a6 :: a7 :: a8 :: a9 :: a10 :: a11 :: a12 :: a13 :: a14 :: a15 :: a16 :: a17 :: a18 :: a19 :: a20 :: a21 :: some (rd_l v) :: none :: r) st M n Q) : rd_G x pc (a0 :: a1 :: a2 :: a3 :: a4 :: a5 :: a6 :: a7 :: a8 :: a9 :: a10 :: a11 :: a12 :: a13 :: a14 :: a15 :: a16 :: a17 :: a18 :: a19 :: a20 :: a21 :: old :: old2 :: r) (rd_l v :: st) M n Q := rd_lstg (pre := [a0, a1, a2, a3, a4, a5, a6, a7, a8, a9, a10, a11, a12, a13, a14, a15, a16, a17, a18, a19, a20, a21]) hd rfl (by simp [rd_okp, hp]) k
theorem rd_iinc22 {d v : Int} {a0 a1 a2 a3 a4 a5 a6 a7 a8 a9 a10 a11 a12 a13 a14 a15 a16 a17 a18 a19 a20 a21 : Option Value} {r : List (Option Value)} (hd : decode (rd_cd x) pc = .ok (.iinc 22 d, 3)) (hp : rd_two a21 = false) (k : rd_G x (pc + 3) (a0 :: a1 :: a2 :: a3 :: a4 :: a5 :: a6 :: a7 :: a8 :: a9 :: a10 :: a11 :: a12 :: a13 :: a14 :: a15 :: a16 :: a17 :: a18 :: a19 :: a20 :: a21 :: some (rd_i (v + d)) :: r) st M n Q) : rd_G x pc (a0 :: a1 :: a2 :: a3 :: a4 :: a5 :: a6 :: a7 :: a8 :: a9 :: a10 :: a11 :: a12 :: a13 :: a14 :: a15 :: a16 :: a17 :: a18 :: a19 :: a20 :: a21 :: some (rd_i v) :: r) st M n Q := rd_iincg (pre := [a0, a1, a2, a3, a4, a5, a6, a7, a8, a9, a10, a11, a12, a13, a14, a15, a16, a17, a18, a19, a20, a21]) hd rfl (by simp [rd_okp, hp]) k
theorem rd_ist23 {v : Int} {a0 a1 a2 a3 a4 a5 a6 a7 a8 a9 a10 a11 a12 a13 a14 a15 a16 a17 a18 a19 a20 a21 a22 old : Option Value} {r : List (Option Value)} (hd : decode (rd_cd x) pc = .ok (.istore 23, 2)) (hp : rd_two a22 = false) (k : rd_G x (pc + 2) (a0 :: a1 :: a2 :: a3 :: a4 :: a5 :: a6 :: a7 :: a8 :: a9 :: a10 :: a11 :: a12 :: a13 :: a14 :: a15 :: a16 :: a17 :: a18 :: a19 :: a20 :: a21 :: a22 :: some (rd_i v) :: r) st M n Q) : rd_G x pc (a0 :: a1 :: a2 :: a3 :: a4 :: a5 :: a6 :: a7 :: a8 :: a9 :: a10 :: a11 :: a12 :: a13 :: a14 :: a15 :: a16 :: a17 :: a18 :: a19 :: a20 :: a21 :: a22 :: old :: r) (rd_i v :: st) M n Q := rd_istg (pre := [a0, a1, a2, a3, a4, a5, a6, a7, a8, a9, a10, a11, a12, a13, a14, a15, a16, a17, a18, a19, a20, a21, a22]) hd rfl (by simp [rd_okp, hp]) k
theorem rd_ast23 {v : Nat} {a0 a1 a2 a3 a4 a5 a6 a7 a8 a9 a10 a11 a12 a13 a14 a15 a16 a17 a18 a19 a20 a21 a22 old : Option Value} {r : List (Option Value)} (hd : decode (rd_cd x) pc = .ok (.astore 23, 2)) (hp : rd_two a22 = false) (k : rd_G x (pc + 2) (a0 :: a1 :: a2 :: a3 :: a4 :: a5 :: a6 :: a7 :: a8 :: a9 :: a10 :: a11 :: a12 :: a13 :: a14 :: a15 :: a16 :: a17 :: a18 :: a19 :: a20 :: a21 :: a22 :: some (.ref v) :: r) st M n Q) : rd_G x pc (a0 :: a1 :: a2 :: a3 :: a4 :: a5 :: a6 :: a7 :: a8 :: a9 :: a10 :: a11 :: a12 :: a13 :: a14 :: a15 :: a16 :: a17 :: a18 :: a19 :: a20 :: a21 :: a22 :: old :: r) (.ref v :: st) M n Q := rd_astg (pre := [a0, a1, a2, a3, a4, a5, a6, a7, a8, a9, a10, a11, a12, a13, a14, a15, a16, a17, a18, a19, a20, a21, a22]) hd rfl (by simp [rd_okp, hp]) k
theorem rd_lst23 {v : Int} {a0 a1 a2 a3 a4 a5 a6 a7 a8 a9 a10 a11 a12 a13 a14 a15 a16 a17 a18 a19 a20 a21 a22 old old2 : Option Value} {r : List (Option Value)} (hd : decode (rd_cd x) pc = .ok (.lstore 23, 2)) (hp : rd_two a22 = false) (k : rd_G x (pc + 2) (a0 :: a1 :: a2 :: a3 :: a4 :: a5 :: a6 :: a7 :: a8 :: a9 :: a10 :: a11 :: a12 :: a13 :: a14 :: a15 :: a16 :: a17 :: a18 :: a19 :: a20 :: a21 :: a22 :: some (rd_l v) :: none :: r) st M n Q) : rd_G x pc (a0 :: a1 :: a2 :: a3 :: a4 :: a5 :: a6 :: a7 :: a8 :: a9 :: a10 :: a11 :: a12 :: a13 :: a14 :: a15 :: a16 :: a17 :: a18 :: a19 :: a20 :: a21 :: a22 :: old :: old2 :: r) (rd_l v :: st) M n Q := rd_lstg (pre := [a0, a1, a2, a3, a4, a5, a6, a7, a8, a9, a10, a11, a12, a13, a14, a15, a16, a17, a18, a19, a20, a21, a22]) hd rfl (by simp [rd_okp, hp]) k
theorem rd_iinc23 {d v : Int} {a0 a1 a2 a3 a4 a5 a6 a7 a8 a9 a10 a11 a12 a13 a14 a15 a16 a17 a18 a19 a20 a21 a22 : Option Value} {r : List (Option Value)} (hd : decode (rd_cd x) pc = .ok (.iinc 23 d, 3)) (hp : rd_two a22 = false) (k : rd_G x (pc + 3) (a0 :: a1 :: a2 :: a3 :: a4 :: a5 :: a6 :: a7 :: a8 :: a9 :: a10 :: a11 :: a12 :: a13 :: a14 :: a15 :: a16 :: a17 :: a18 :: a19 :: a20 :: a21 :: a22 :: some (rd_i (v + d)) :: r) st M n Q) : rd_G x pc (a0 :: a1 :: a2 :: a3 :: a4 :: a5 :: a6 :: a7 :: a8 :: a9 :: a10 :: a11 :: a12 :: a13 :: a14 :: a15 :: a16 :: a17 :: a18 :: a19 :: a20 :: a21 :: a22 :: some (rd_i v) :: r) st M n Q := rd_iincg (pre := [a0, a1, a2, a3, a4, a5, a6, a7, a8, a9, a10, a11, a12, a13, a14, a15, a16, a17, a18, a19, a20, a21, a22]) hd rfl (by simp [rd_okp, hp]) k
theorem rd_iadd {a b : Int} (hd : decode (rd_cd x) pc = .ok (.iadd, 1)) (k : rd_G x (pc + 1) L (rd_i (a + b) :: st) M n Q) : rd_G x pc L (rd_i b :: rd_i a :: st) M n Q := by
  have k : rd_G x (pc + 1) L (.int (Int32.ofInt a + Int32.ofInt b) :: st) M n Q := rd_top (congrArg Value.int (Int32.ofInt_add a b)) k
  intro p l e R s m args below meth c σ D cA A C H locs ls cells slots hc hs hP hS hl
  exact lv_iadd (x := Int32.ofInt a) (y := Int32.ofInt b) (rest := st.map (rd_pv σ)) C.1 C.2.1 hd (k p l e R s m args below meth c σ D cA A C H locs ls cells slots hc hs hP hS hl)
theorem rd_isub {a b : Int} (hd : decode (rd_cd x) pc = .ok (.isub, 1)) (k : rd_G x (pc + 1) L (rd_i (a - b) :: st) M n Q) : rd_G x pc L (rd_i b :: rd_i a :: st) M n Q := by
  have k : rd_G x (pc + 1) L (.int (Int32.ofInt a - Int32.ofInt b) :: st) M n Q := rd_top (congrArg Value.int (Int32.ofInt_sub a b)) k
  intro p l e R s m args below meth c σ D cA A C H locs ls cells slots hc hs hP hS hl
  exact lv_isub (x := Int32.ofInt a) (y := Int32.ofInt b) (rest := st.map (rd_pv σ)) C.1 C.2.1 hd (k p l e R s m args below meth c σ D cA A C H locs ls cells slots hc hs hP hS hl)
theorem rd_imul {a b : Int} (hd : decode (rd_cd x) pc = .ok (.imul, 1)) (k : rd_G x (pc + 1) L (rd_i (a * b) :: st) M n Q) : rd_G x pc L (rd_i b :: rd_i a :: st) M n Q := by
  have k : rd_G x (pc + 1) L (.int (Int32.ofInt a * Int32.ofInt b) :: st) M n Q := rd_top (congrArg Value.int (Int32.ofInt_mul a b)) k
  intro p l e R s m args below meth c σ D cA A C H locs ls cells slots hc hs hP hS hl
  exact lv_imul (x := Int32.ofInt a) (y := Int32.ofInt b) (rest := st.map (rd_pv σ)) C.1 C.2.1 hd (k p l e R s m args below meth c σ D cA A C H locs ls cells slots hc hs hP hS hl)
theorem rd_idiv {a b : Int} (hd : decode (rd_cd x) pc = .ok (.idiv, 1)) (ha : rd_I a) (hb : rd_I b) (h0 : b ≠ 0) (k : rd_G x (pc + 1) L (rd_i (a.tdiv b) :: st) M n Q) : rd_G x pc L (rd_i b :: rd_i a :: st) M n Q := by
  have k : rd_G x (pc + 1) L (.int (Int32.ofInt a / Int32.ofInt b) :: st) M n Q := rd_top (congrArg Value.int ((rd_div32 ha hb).symm)) k
  intro p l e R s m args below meth c σ D cA A C H locs ls cells slots hc hs hP hS hl
  exact lv_idiv (x := Int32.ofInt a) (y := Int32.ofInt b) (rest := st.map (rd_pv σ)) C.1 C.2.1 hd (rd_ne0_32 hb h0) (k p l e R s m args below meth c σ D cA A C H locs ls cells slots hc hs hP hS hl)
theorem rd_irem {a b : Int} (hd : decode (rd_cd x) pc = .ok (.irem, 1)) (ha : rd_I a) (hb : rd_I b) (h0 : b ≠ 0) (k : rd_G x (pc + 1) L (rd_i (a.tmod b) :: st) M n Q) : rd_G x pc L (rd_i b :: rd_i a :: st) M n Q := by
  have k : rd_G x (pc + 1) L (.int (Int32.ofInt a - Int32.ofInt a / Int32.ofInt b * Int32.ofInt b) :: st) M n Q := rd_top (congrArg Value.int (by rw [rd_div32 ha hb, ← Int32.ofInt_mul, ← Int32.ofInt_sub, Int.mul_comm, ← Int.tmod_def])) k
  intro p l e R s m args below meth c σ D cA A C H locs ls cells slots hc hs hP hS hl
  exact lv_irem (x := Int32.ofInt a) (y := Int32.ofInt b) (rest := st.map (rd_pv σ)) C.1 C.2.1 hd (rd_ne0_32 hb h0) (k p l e R s m args below meth c σ D cA A C H locs ls cells slots hc hs hP hS hl)
theorem rd_ladd {a b : Int} (hd : decode (rd_cd x) pc = .ok (.ladd, 1)) (k : rd_G x (pc + 1) L (rd_l (a + b) :: st) M n Q) : rd_G x pc L (rd_l b :: rd_l a :: st) M n Q := by
  have k : rd_G x (pc + 1) L (.long (Int64.ofInt a + Int64.ofInt b) :: st) M n Q := rd_top (congrArg Value.long (Int64.ofInt_add a b)) k
  intro p l e R s m args below meth c σ D cA A C H locs ls cells slots hc hs hP hS hl
  exact lv_ladd (x := Int64.ofInt a) (y := Int64.ofInt b) (rest := st.map (rd_pv σ)) C.1 C.2.1 hd (k p l e R s m args below meth c σ D cA A C H locs ls cells slots hc hs hP hS hl)
theorem rd_lsub {a b : Int} (hd : decode (rd_cd x) pc = .ok (.lsub, 1)) (k : rd_G x (pc + 1) L (rd_l (a - b) :: st) M n Q) : rd_G x pc L (rd_l b :: rd_l a :: st) M n Q := by
  have k : rd_G x (pc + 1) L (.long (Int64.ofInt a - Int64.ofInt b) :: st) M n Q := rd_top (congrArg Value.long (Int64.ofInt_sub a b)) k
  intro p l e R s m args below meth c σ D cA A C H locs ls cells slots hc hs hP hS hl
  exact lv_lsub (x := Int64.ofInt a) (y := Int64.ofInt b) (rest := st.map (rd_pv σ)) C.1 C.2.1 hd (k p l e R s m args below meth c σ D cA A C H locs ls cells slots hc hs hP hS hl)
theorem rd_lmul {a b : Int} (hd : decode (rd_cd x) pc = .ok (.lmul, 1)) (k : rd_G x (pc + 1) L (rd_l (a * b) :: st) M n Q) : rd_G x pc L (rd_l b :: rd_l a :: st) M n Q := by
  have k : rd_G x (pc + 1) L (.long (Int64.ofInt a * Int64.ofInt b) :: st) M n Q := rd_top (congrArg Value.long (Int64.ofInt_mul a b)) k
  intro p l e R s m args below meth c σ D cA A C H locs ls cells slots hc hs hP hS hl
  exact lv_lmul (x := Int64.ofInt a) (y := Int64.ofInt b) (rest := st.map (rd_pv σ)) C.1 C.2.1 hd (k p l e R s m args below meth c σ D cA A C H locs ls cells slots hc hs hP hS hl)
theorem rd_ldiv {a b : Int} (hd : decode (rd_cd x) pc = .ok (.ldiv, 1)) (ha : rd_J a) (hb : rd_J b) (h0 : b ≠ 0) (k : rd_G x (pc + 1) L (rd_l (a.tdiv b) :: st) M n Q) : rd_G x pc L (rd_l b :: rd_l a :: st) M n Q := by
  have k : rd_G x (pc + 1) L (.long (Int64.ofInt a / Int64.ofInt b) :: st) M n Q := rd_top (congrArg Value.long ((rd_div64 ha hb).symm)) k
  intro p l e R s m args below meth c σ D cA A C H locs ls cells slots hc hs hP hS hl
  exact lv_ldiv (x := Int64.ofInt a) (y := Int64.ofInt b) (rest := st.map (rd_pv σ)) C.1 C.2.1 hd (rd_ne0_64 hb h0) (k p l e R s m args below meth c σ D cA A C H locs ls cells slots hc hs hP hS hl)
theorem rd_lrem {a b : Int} (hd : decode (rd_cd x) pc = .ok (.lrem, 1)) (ha : rd_J a) (hb : rd_J b) (h0 : b ≠ 0) (k : rd_G x (pc + 1) L (rd_l (a.tmod b) :: st) M n Q) : rd_G x pc L (rd_l b :: rd_l a :: st) M n Q := by
  have k : rd_G x (pc + 1) L (.long (Int64.ofInt a - Int64.ofInt a / Int64.ofInt b * Int64.ofInt b) :: st) M n Q := rd_top (congrArg Value.long (by rw [rd_div64 ha hb, ← Int64.ofInt_mul, ← Int64.ofInt_sub, Int.mul_comm, ← Int.tmod_def])) k
  intro p l e R s m args below meth c σ D cA A C H locs ls cells slots hc hs hP hS hl
  exact lv_lrem (x := Int64.ofInt a) (y := Int64.ofInt b) (rest := st.map (rd_pv σ)) C.1 C.2.1 hd (rd_ne0_64 hb h0) (k p l e R s m args below meth c σ D cA A C H locs ls cells slots hc hs hP hS hl)
theorem rd_i2l {a : Int} (hd : decode (rd_cd x) pc = .ok (.i2l, 1)) (ha : rd_I a) (k : rd_G x (pc + 1) L (rd_l a :: st) M n Q) : rd_G x pc L (rd_i a :: st) M n Q := by
  intro p l e R s m args below meth c σ D cA A C H locs ls cells slots hc hs hP hS hl
  exact lv_i2l (x := Int32.ofInt a) (v := Int64.ofInt a) (rest := st.map (rd_pv σ)) C.1 C.2.1 hd (rd_ci2l ha) (k p l e R s m args below meth c σ D cA A C H locs ls cells slots hc hs hP hS hl)
theorem rd_l2i {a : Int} (hd : decode (rd_cd x) pc = .ok (.l2i, 1)) (k : rd_G x (pc + 1) L (rd_i a :: st) M n Q) : rd_G x pc L (rd_l a :: st) M n Q := by
  intro p l e R s m args below meth c σ D cA A C H locs ls cells slots hc hs hP hS hl
  exact lv_l2i (x := Int64.ofInt a) (v := Int32.ofInt a) (rest := st.map (rd_pv σ)) C.1 C.2.1 hd rd_cl2i (k p l e R s m args below meth c σ D cA A C H locs ls cells slots hc hs hP hS hl)
theorem rd_dup {v : Value} (hd : decode (rd_cd x) pc = .ok (.dup, 1)) (hv : v.category = 1) (k : rd_G x (pc + 1) L (v :: v :: st) M n Q) : rd_G x pc L (v :: st) M n Q := by
  intro p l e R s m args below meth c σ D cA A C H locs ls cells slots hc hs hP hS hl
  exact lv_dup (rest := st.map (rd_pv σ)) C.1 C.2.1 hd (by rw [rd_cat]; exact hv) (k p l e R s m args below meth c σ D cA A C H locs ls cells slots hc hs hP hS hl)
theorem rd_pop {v : Value} (hd : decode (rd_cd x) pc = .ok (.pop, 1)) (hv : v.category = 1) (k : rd_G x (pc + 1) L (st) M n Q) : rd_G x pc L (v :: st) M n Q := by
  intro p l e R s m args below meth c σ D cA A C H locs ls cells slots hc hs hP hS hl
  exact lv_pop (rest := st.map (rd_pv σ)) C.1 C.2.1 hd (by rw [rd_cat]; exact hv) (k p l e R s m args below meth c σ D cA A C H locs ls cells slots hc hs hP hS hl)
theorem rd_dup2 {v w : Value} (hd : decode (rd_cd x) pc = .ok (.dup2, 1)) (hv : v.category = 1) (hw : w.category = 1) (k : rd_G x (pc + 1) L (v :: w :: v :: w :: st) M n Q) : rd_G x pc L (v :: w :: st) M n Q := by
  intro p l e R s m args below meth c σ D cA A C H locs ls cells slots hc hs hP hS hl
  exact lv_dup2_11 (rest := st.map (rd_pv σ)) C.1 C.2.1 hd (by rw [rd_cat]; exact hv) (by rw [rd_cat]; exact hw) (k p l e R s m args below meth c σ D cA A C H locs ls cells slots hc hs hP hS hl)
theorem rd_dup2l {v : Value} (hd : decode (rd_cd x) pc = .ok (.dup2, 1)) (hv : v.category = 2) (k : rd_G x (pc + 1) L (v :: v :: st) M n Q) : rd_G x pc L (v :: st) M n Q := by
  intro p l e R s m args below meth c σ D cA A C H locs ls cells slots hc hs hP hS hl
  exact lv_dup2_2 (rest := st.map (rd_pv σ)) C.1 C.2.1 hd (by rw [rd_cat]; exact hv) (k p l e R s m args below meth c σ D cA A C H locs ls cells slots hc hs hP hS hl)
theorem rd_dupx1 {v w : Value} (hd : decode (rd_cd x) pc = .ok (.dup_x1, 1)) (hv : v.category = 1) (hw : w.category = 1) (k : rd_G x (pc + 1) L (v :: w :: v :: st) M n Q) : rd_G x pc L (v :: w :: st) M n Q := by
  intro p l e R s m args below meth c σ D cA A C H locs ls cells slots hc hs hP hS hl
  exact lv_dup_x1 (rest := st.map (rd_pv σ)) C.1 C.2.1 hd (by rw [rd_cat]; exact hv) (by rw [rd_cat]; exact hw) (k p l e R s m args below meth c σ D cA A C H locs ls cells slots hc hs hP hS hl)
theorem rd_dup2x1 {v w : Value} (hd : decode (rd_cd x) pc = .ok (.dup2_x1, 1)) (hv : v.category = 2) (hw : w.category = 1) (k : rd_G x (pc + 1) L (v :: w :: v :: st) M n Q) : rd_G x pc L (v :: w :: st) M n Q := by
  intro p l e R s m args below meth c σ D cA A C H locs ls cells slots hc hs hP hS hl
  exact lv_dup2_x1_2 (rest := st.map (rd_pv σ)) C.1 C.2.1 hd (by rw [rd_cat]; exact hv) (by rw [rd_cat]; exact hw) (k p l e R s m args below meth c σ D cA A C H locs ls cells slots hc hs hP hS hl)
theorem rd_pop2l {v : Value} (hd : decode (rd_cd x) pc = .ok (.pop2, 1)) (hv : v.category = 2) (k : rd_G x (pc + 1) L (st) M n Q) : rd_G x pc L (v :: st) M n Q := by
  intro p l e R s m args below meth c σ D cA A C H locs ls cells slots hc hs hP hS hl
  exact lv_pop2_2 (rest := st.map (rd_pv σ)) C.1 C.2.1 hd (by rw [rd_cat]; exact hv) (k p l e R s m args below meth c σ D cA A C H locs ls cells slots hc hs hP hS hl)
theorem rd_icmp_eq {a b off : Int} {tgt : Nat} (hd : decode (rd_cd x) pc = .ok (.if_icmp .eq off, 3)) (ht : (pc : Int) + off = (tgt : Int)) (ha : rd_I a) (hb : rd_I b) (kt : a = b → rd_G x tgt L st M n Q) (kf : ¬ (a = b) → rd_G x (pc + 3) L st M n Q) : rd_G x pc L (rd_i b :: rd_i a :: st) M n Q := by
  intro p l e R s m args below meth c σ D cA A C H locs ls cells slots hc hs hP hS hl
  exact lv_icmp_eq (x := Int32.ofInt a) (y := Int32.ofInt b) (rest := st.map (rd_pv σ)) C.1 C.2.1 hd ht (fun h => kt ((rd_eq32 ha hb).mp h) p l e R s m args below meth c σ D cA A C H locs ls cells slots hc hs hP hS hl) (fun h => kf (fun q => h ((rd_eq32 ha hb).mpr q)) p l e R s m args below meth c σ D cA A C H locs ls cells slots hc hs hP hS hl)
theorem rd_if_eq {a off : Int} {tgt : Nat} (hd : decode (rd_cd x) pc = .ok (.ifCond .eq off, 3)) (ht : (pc : Int) + off = (tgt : Int)) (ha : rd_I a) (kt : a = 0 → rd_G x tgt L st M n Q) (kf : ¬ (a = 0) → rd_G x (pc + 3) L st M n Q) : rd_G x pc L (rd_i a :: st) M n Q := by
  intro p l e R s m args below meth c σ D cA A C H locs ls cells slots hc hs hP hS hl
  exact lv_if_eq (x := Int32.ofInt a) (rest := st.map (rd_pv σ)) C.1 C.2.1 hd ht (fun h => kt ((rd_eq32 ha rd_I0).mp (by rw [← rd_zero32]; exact h)) p l e R s m args below meth c σ D cA A C H locs ls cells slots hc hs hP hS hl) (fun h => kf (fun q => h (by rw [rd_zero32]; exact (rd_eq32 ha rd_I0).mpr q)) p l e R s m args below meth c σ D cA A C H locs ls cells slots hc hs hP hS hl)
theorem rd_lcmp_eq {a b off : Int} {tgt : Nat} (hc0 : decode (rd_cd x) pc = .ok (.lcmp, 1)) (hd : decode (rd_cd x) (pc + 1) = .ok (.ifCond .eq off, 3)) (ht : ((pc + 1 : Nat) : Int) + off = (tgt : Int)) (ha : rd_J a) (hb : rd_J b) (kt : a = b → rd_G x tgt L st M n Q) (kf : ¬ (a = b) → rd_G x (pc + 4) L st M n Q) : rd_G x pc L (rd_l b :: rd_l a :: st) M n Q := by
  intro p l e R s m args below meth c σ D cA A C H locs ls cells slots hc hs hP hS hl
  refine W.lcmp (x := Int64.ofInt a) (y := Int64.ofInt b) (rest := st.map (rd_pv σ)) C.1 C.2.1 hc0 ?_
  exact lv_if_eq (x := lg_cmp (Int64.ofInt a) (Int64.ofInt b)) (rest := st.map (rd_pv σ)) C.1 C.2.1 hd ht (fun h => kt (((lg_cmp_eq _ _).trans (rd_eq64 ha hb)).mp h) p l e R s m args below meth c σ D cA A C H locs ls cells slots hc hs hP hS hl) (fun h => kf (fun q => h (((lg_cmp_eq _ _).trans (rd_eq64 ha hb)).mpr q)) p l e R s m args below meth c σ D cA A C H locs ls cells slots hc hs hP hS hl)
theorem rd_icmp_ne {a b off : Int} {tgt : Nat} (hd : decode (rd_cd x) pc = .ok (.if_icmp .ne off, 3)) (ht : (pc : Int) + off = (tgt : Int)) (ha : rd_I a) (hb : rd_I b) (kt : ¬ a = b → rd_G x tgt L st M n Q) (kf : a = b → rd_G x (pc + 3) L st M n Q) : rd_G x pc L (rd_i b :: rd_i a :: st) M n Q := by
  intro p l e R s m args below meth c σ D cA A C H locs ls cells slots hc hs hP hS hl
  exact lv_icmp_ne (x := Int32.ofInt a) (y := Int32.ofInt b) (rest := st.map (rd_pv σ)) C.1 C.2.1 hd ht (fun h => kt ((not_congr (rd_eq32 ha hb)).mp h) p l e R s m args below meth c σ D cA A C H locs ls cells slots hc hs hP hS hl) (fun h => kf ((rd_eq32 ha hb).mp h) p l e R s m args below meth c σ D cA A C H locs ls cells slots hc hs hP hS hl)
theorem rd_if_ne {a off : Int} {tgt : Nat} (hd : decode (rd_cd x) pc = .ok (.ifCond .ne off, 3)) (ht : (pc : Int) + off = (tgt : Int)) (ha : rd_I a) (kt : ¬ a = 0 → rd_G x tgt L st M n Q) (kf : a = 0 → rd_G x (pc + 3) L st M n Q) : rd_G x pc L (rd_i a :: st) M n Q := by
  intro p l e R s m args below meth c σ D cA A C H locs ls cells slots hc hs hP hS hl
  exact lv_if_ne (x := Int32.ofInt a) (rest := st.map (rd_pv σ)) C.1 C.2.1 hd ht (fun h => kt ((not_congr (rd_eq32 ha rd_I0)).mp (by rw [← rd_zero32]; exact h)) p l e R s m args below meth c σ D cA A C H locs ls cells slots hc hs hP hS hl) (fun h => kf ((rd_eq32 ha rd_I0).mp (by rw [← rd_zero32]; exact h)) p l e R s m args below meth c σ D cA A C H locs ls cells slots hc hs hP hS hl)
theorem rd_lcmp_ne {a b off : Int} {tgt : Nat} (hc0 : decode (rd_cd x) pc = .ok (.lcmp, 1)) (hd : decode (rd_cd x) (pc + 1) = .ok (.ifCond .ne off, 3)) (ht : ((pc + 1 : Nat) : Int) + off = (tgt : Int)) (ha : rd_J a) (hb : rd_J b) (kt : ¬ a = b → rd_G x tgt L st M n Q) (kf : a = b → rd_G x (pc + 4) L st M n Q) : rd_G x pc L (rd_l b :: rd_l a :: st) M n Q := by
  intro p l e R s m args below meth c σ D cA A C H locs ls cells slots hc hs hP hS hl
  refine W.lcmp (x := Int64.ofInt a) (y := Int64.ofInt b) (rest := st.map (rd_pv σ)) C.1 C.2.1 hc0 ?_
  exact lv_if_ne (x := lg_cmp (Int64.ofInt a) (Int64.ofInt b)) (rest := st.map (rd_pv σ)) C.1 C.2.1 hd ht (fun h => kt ((not_congr ((lg_cmp_eq _ _).trans (rd_eq64 ha hb))).mp h) p l e R s m args below meth c σ D cA A C H locs ls cells slots hc hs hP hS hl) (fun h => kf (((lg_cmp_eq _ _).trans (rd_eq64 ha hb)).mp h) p l e R s m args below meth c σ D cA A C H locs ls cells slots hc hs hP hS hl)
theorem rd_icmp_lt {a b off : Int} {tgt : Nat} (hd : decode (rd_cd x) pc = .ok (.if_icmp .lt off, 3)) (ht : (pc : Int) + off = (tgt : Int)) (ha : rd_I a) (hb : rd_I b) (kt : a < b → rd_G x tgt L st M n Q) (kf : ¬ (a < b) → rd_G x (pc + 3) L st M n Q) : rd_G x pc L (rd_i b :: rd_i a :: st) M n Q := by
  intro p l e R s m args below meth c σ D cA A C H locs ls cells slots hc hs hP hS hl
  exact lv_icmp_lt (x := Int32.ofInt a) (y := Int32.ofInt b) (rest := st.map (rd_pv σ)) C.1 C.2.1 hd ht (fun h => kt ((rd_lt32 ha hb).mp h) p l e R s m args below meth c σ D cA A C H locs ls cells slots hc hs hP hS hl) (fun h => kf (fun q => h ((rd_lt32 ha hb).mpr q)) p l e R s m args below meth c σ D cA A C H locs ls cells slots hc hs hP hS hl)
theorem rd_if_lt {a off : Int} {tgt : Nat} (hd : decode (rd_cd x) pc = .ok (.ifCond .lt off, 3)) (ht : (pc : Int) + off = (tgt : Int)) (ha : rd_I a) (kt : a < 0 → rd_G x tgt L st M n Q) (kf : ¬ (a < 0) → rd_G x (pc + 3) L st M n Q) : rd_G x pc L (rd_i a :: st) M n Q := by
  intro p l e R s m args below meth c σ D cA A C H locs ls cells slots hc hs hP hS hl
  exact lv_if_lt (x := Int32.ofInt a) (rest := st.map (rd_pv σ)) C.1 C.2.1 hd ht (fun h => kt ((rd_lt32 ha rd_I0).mp (by rw [← rd_zero32]; exact h)) p l e R s m args below meth c σ D cA A C H locs ls cells slots hc hs hP hS hl) (fun h => kf (fun q => h (by rw [rd_zero32]; exact (rd_lt32 ha rd_I0).mpr q)) p l e R s m args below meth c σ D cA A C H locs ls cells slots hc hs hP hS hl)
theorem rd_lcmp_lt {a b off : Int} {tgt : Nat} (hc0 : decode (rd_cd x) pc = .ok (.lcmp, 1)) (hd : decode (rd_cd x) (pc + 1) = .ok (.ifCond .lt off, 3)) (ht : ((pc + 1 : Nat) : Int) + off = (tgt : Int)) (ha : rd_J a) (hb : rd_J b) (kt : a < b → rd_G x tgt L st M n Q) (kf : ¬ (a < b) → rd_G x (pc + 4) L st M n Q) : rd_G x pc L (rd_l b :: rd_l a :: st) M n Q := by
  intro p l e R s m args below meth c σ D cA A C H locs ls cells slots hc hs hP hS hl
  refine W.lcmp (x := Int64.ofInt a) (y := Int64.ofInt b) (rest := st.map (rd_pv σ)) C.1 C.2.1 hc0 ?_
  exact lv_if_lt (x := lg_cmp (Int64.ofInt a) (Int64.ofInt b)) (rest := st.map (rd_pv σ)) C.1 C.2.1 hd ht (fun h => kt (((lg_cmp_lt _ _).trans (rd_lt64 ha hb)).mp h) p l e R s m args below meth c σ D cA A C H locs ls cells slots hc hs hP hS hl) (fun h => kf (fun q => h (((lg_cmp_lt _ _).trans (rd_lt64 ha hb)).mpr q)) p l e R s m args below meth c σ D cA A C H locs ls cells slots hc hs hP hS hl)
theorem rd_icmp_ge {a b off : Int} {tgt : Nat} (hd : decode (rd_cd x) pc = .ok (.if_icmp .ge off, 3)) (ht : (pc : Int) + off = (tgt : Int)) (ha : rd_I a) (hb : rd_I b) (kt : b ≤ a → rd_G x tgt L st M n Q) (kf : ¬ (b ≤ a) → rd_G x (pc + 3) L st M n Q) : rd_G x pc L (rd_i b :: rd_i a :: st) M n Q := by
  intro p l e R s m args below meth c σ D cA A C H locs ls cells slots hc hs hP hS hl
  exact lv_icmp_ge (x := Int32.ofInt a) (y := Int32.ofInt b) (rest := st.map (rd_pv σ)) C.1 C.2.1 hd ht (fun h => kt ((rd_le32 hb ha).mp h) p l e R s m args below meth c σ D cA A C H locs ls cells slots hc hs hP hS hl) (fun h => kf (fun q => h ((rd_le32 hb ha).mpr q)) p l e R s m args below meth c σ D cA A C H locs ls cells slots hc hs hP hS hl)
theorem rd_if_ge {a off : Int} {tgt : Nat} (hd : decode (rd_cd x) pc = .ok (.ifCond .ge off, 3)) (ht : (pc : Int) + off = (tgt : Int)) (ha : rd_I a) (kt : 0 ≤ a → rd_G x tgt L st M n Q) (kf : ¬ (0 ≤ a) → rd_G x (pc + 3) L st M n Q) : rd_G x pc L (rd_i a :: st) M n Q := by
  intro p l e R s m args below meth c σ D cA A C H locs ls cells slots hc hs hP hS hl
  exact lv_if_ge (x := Int32.ofInt a) (rest := st.map (rd_pv σ)) C.1 C.2.1 hd ht (fun h => kt ((rd_le32 rd_I0 ha).mp (by rw [← rd_zero32]; exact h)) p l e R s m args below meth c σ D cA A C H locs ls cells slots hc hs hP hS hl) (fun h => kf (fun q => h (by rw [rd_zero32]; exact (rd_le32 rd_I0 ha).mpr q)) p l e R s m args below meth c σ D cA A C H locs ls cells slots hc hs hP hS hl)
theorem rd_lcmp_ge {a b off : Int} {tgt : Nat} (hc0 : decode (rd_cd x) pc = .ok (.lcmp, 1)) (hd : decode (rd_cd x) (pc + 1) = .ok (.ifCond .ge off, 3)) (ht : ((pc + 1 : Nat) : Int) + off = (tgt : Int)) (ha : rd_J a) (hb : rd_J b) (kt : b ≤ a → rd_G x tgt L st M n Q) (kf : ¬ (b ≤ a) → rd_G x (pc + 4) L st M n Q) : rd_G x pc L (rd_l b :: rd_l a :: st) M n Q := by
  intro p l e R s m args below meth c σ D cA A C H locs ls cells slots hc hs hP hS hl
  refine W.lcmp (x := Int64.ofInt a) (y := Int64.ofInt b) (rest := st.map (rd_pv σ)) C.1 C.2.1 hc0 ?_
  exact lv_if_ge (x := lg_cmp (Int64.ofInt a) (Int64.ofInt b)) (rest := st.map (rd_pv σ)) C.1 C.2.1 hd ht (fun h => kt (((lg_cmp_ge _ _).trans (rd_le64 hb ha)).mp h) p l e R s m args below meth c σ D cA A C H locs ls cells slots hc hs hP hS hl) (fun h => kf (fun q => h (((lg_cmp_ge _ _).trans (rd_le64 hb ha)).mpr q)) p l e R s m args below meth c σ D cA A C H locs ls cells slots hc hs hP hS hl)
theorem rd_icmp_gt {a b off : Int} {tgt : Nat} (hd : decode (rd_cd x) pc = .ok (.if_icmp .gt off, 3)) (ht : (pc : Int) + off = (tgt : Int)) (ha : rd_I a) (hb : rd_I b) (kt : b < a → rd_G x tgt L st M n Q) (kf : ¬ (b < a) → rd_G x (pc + 3) L st M n Q) : rd_G x pc L (rd_i b :: rd_i a :: st) M n Q := by
  intro p l e R s m args below meth c σ D cA A C H locs ls cells slots hc hs hP hS hl
  exact lv_icmp_gt (x := Int32.ofInt a) (y := Int32.ofInt b) (rest := st.map (rd_pv σ)) C.1 C.2.1 hd ht (fun h => kt ((rd_lt32 hb ha).mp h) p l e R s m args below meth c σ D cA A C H locs ls cells slots hc hs hP hS hl) (fun h => kf (fun q => h ((rd_lt32 hb ha).mpr q)) p l e R s m args below meth c σ D cA A C H locs ls cells slots hc hs hP hS hl)
theorem rd_if_gt {a off : Int} {tgt : Nat} (hd : decode (rd_cd x) pc = .ok (.ifCond .gt off, 3)) (ht : (pc : Int) + off = (tgt : Int)) (ha : rd_I a) (kt : 0 < a → rd_G x tgt L st M n Q) (kf : ¬ (0 < a) → rd_G x (pc + 3) L st M n Q) : rd_G x pc L (rd_i a :: st) M n Q := by
  intro p l e R s m args below meth c σ D cA A C H locs ls cells slots hc hs hP hS hl
  exact lv_if_gt (x := Int32.ofInt a) (rest := st.map (rd_pv σ)) C.1 C.2.1 hd ht (fun h => kt ((rd_lt32 rd_I0 ha).mp (by rw [← rd_zero32]; exact h)) p l e R s m args below meth c σ D cA A C H locs ls cells slots hc hs hP hS hl) (fun h => kf (fun q => h (by rw [rd_zero32]; exact (rd_lt32 rd_I0 ha).mpr q)) p l e R s m args below meth c σ D cA A C H locs ls cells slots hc hs hP hS hl)
theorem rd_lcmp_gt {a b off : Int} {tgt : Nat} (hc0 : decode (rd_cd x) pc = .ok (.lcmp, 1)) (hd : decode (rd_cd x) (pc + 1) = .ok (.ifCond .gt off, 3)) (ht : ((pc + 1 : Nat) : Int) + off = (tgt : Int)) (ha : rd_J a) (hb : rd_J b) (kt : b < a → rd_G x tgt L st M n Q) (kf : ¬ (b < a) → rd_G x (pc + 4) L st M n Q) : rd_G x pc L (rd_l b :: rd_l a :: st) M n Q := by
  intro p l e R s m args below meth c σ D cA A C H locs ls cells slots hc hs hP hS hl
  refine W.lcmp (x := Int64.ofInt a) (y := Int64.ofInt b) (rest := st.map (rd_pv σ)) C.1 C.2.1 hc0 ?_
  exact lv_if_gt (x := lg_cmp (Int64.ofInt a) (Int64.ofInt b)) (rest := st.map (rd_pv σ)) C.1 C.2.1 hd ht (fun h => kt (((lg_cmp_gt _ _).trans (rd_lt64 hb ha)).mp h) p l e R s m args below meth c σ D cA A C H locs ls cells slots hc hs hP hS hl) (fun h => kf (fun q => h (((lg_cmp_gt _ _).trans (rd_lt64 hb ha)).mpr q)) p l e R s m args below meth c σ D cA A C H locs ls cells slots hc hs hP hS hl)
theorem rd_icmp_le {a b off : Int} {tgt : Nat} (hd : decode (rd_cd x) pc = .ok (.if_icmp .le off, 3)) (ht : (pc : Int) + off = (tgt : Int)) (ha : rd_I a) (hb : rd_I b) (kt : a ≤ b → rd_G x tgt L st M n Q) (kf : ¬ (a ≤ b) → rd_G x (pc + 3) L st M n Q) : rd_G x pc L (rd_i b :: rd_i a :: st) M n Q := by
  intro p l e R s m args below meth c σ D cA A C H locs ls cells slots hc hs hP hS hl
  exact lv_icmp_le (x := Int32.ofInt a) (y := Int32.ofInt b) (rest := st.map (rd_pv σ)) C.1 C.2.1 hd ht (fun h => kt ((rd_le32 ha hb).mp h) p l e R s m args below meth c σ D cA A C H locs ls cells slots hc hs hP hS hl) (fun h => kf (fun q => h ((rd_le32 ha hb).mpr q)) p l e R s m args below meth c σ D cA A C H locs ls cells slots hc hs hP hS hl)
theorem rd_if_le {a off : Int} {tgt : Nat} (hd : decode (rd_cd x) pc = .ok (.ifCond .le off, 3)) (ht : (pc : Int) + off = (tgt : Int)) (ha : rd_I a) (kt : a ≤ 0 → rd_G x tgt L st M n Q) (kf : ¬ (a ≤ 0) → rd_G x (pc + 3) L st M n Q) : rd_G x pc L (rd_i a :: st) M n Q := by
  intro p l e R s m args below meth c σ D cA A C H locs ls cells slots hc hs hP hS hl
  exact lv_if_le (x := Int32.ofInt a) (rest := st.map (rd_pv σ)) C.1 C.2.1 hd ht (fun h => kt ((rd_le32 ha rd_I0).mp (by rw [← rd_zero32]; exact h)) p l e R s m args below meth c σ D cA A C H locs ls cells slots hc hs hP hS hl) (fun h => kf (fun q => h (by rw [rd_zero32]; exact (rd_le32 ha rd_I0).mpr q)) p l e R s m args below meth c σ D cA A C H locs ls cells slots hc hs hP hS hl)
theorem rd_lcmp_le {a b off : Int} {tgt : Nat} (hc0 : decode (rd_cd x) pc = .ok (.lcmp, 1)) (hd : decode (rd_cd x) (pc + 1) = .ok (.ifCond .le off, 3)) (ht : ((pc + 1 : Nat) : Int) + off = (tgt : Int)) (ha : rd_J a) (hb : rd_J b) (kt : a ≤ b → rd_G x tgt L st M n Q) (kf : ¬ (a ≤ b) → rd_G x (pc + 4) L st M n Q) : rd_G x pc L (rd_l b :: rd_l a :: st) M n Q := by
  intro p l e R s m args below meth c σ D cA A C H locs ls cells slots hc hs hP hS hl
  refine W.lcmp (x := Int64.ofInt a) (y := Int64.ofInt b) (rest := st.map (rd_pv σ)) C.1 C.2.1 hc0 ?_
  exact lv_if_le (x := lg_cmp (Int64.ofInt a) (Int64.ofInt b)) (rest := st.map (rd_pv σ)) C.1 C.2.1 hd ht (fun h => kt (((lg_cmp_le _ _).trans (rd_le64 ha hb)).mp h) p l e R s m args below meth c σ D cA A C H locs ls cells slots hc hs hP hS hl) (fun h => kf (fun q => h (((lg_cmp_le _ _).trans (rd_le64 ha hb)).mpr q)) p l e R s m args below meth c σ D cA A C H locs ls cells slots hc hs hP hS hl)
theorem rd_goto {off : Int} {tgt : Nat} (hd : decode (rd_cd x) pc = .ok (.goto off, 3)) (ht : (pc : Int) + off = (tgt : Int)) (k : rd_G x tgt L st M n Q) : rd_G x pc L st M n Q := by
  intro p l e R s m args below meth c σ D cA A C H locs ls cells slots hc hs hP hS hl
  exact lv_goto (rest := st.map (rd_pv σ)) C.1 C.2.1 hd ht (k p l e R s m args below meth c σ D cA A C H locs ls cells slots hc hs hP hS hl)
theorem rd_tsw {a dflt lo hi off : Int} {offs : Array Int} {len tgt : Nat} (hd : decode (rd_cd x) pc = .ok (.tableswitch dflt lo hi offs, len)) (ha : rd_I a) (h1 : ¬ a < lo) (h2 : ¬ hi < a) (ho : offs[(a - lo).toNat]? = some off) (ht : (pc : Int) + off = (tgt : Int)) (k : rd_G x tgt L st M n Q) : rd_G x pc L (rd_i a :: st) M n Q := by
  intro p l e R s m args below meth c σ D cA A C H locs ls cells slots hc hs hP hS hl
  exact lv_tableIn (x := Int32.ofInt a) (rest := st.map (rd_pv σ)) C.1 C.2.1 hd (by rw [rd_i32 ha]; exact h1) (by rw [rd_i32 ha]; exact h2) (by rw [rd_i32 ha]; exact ho) ht (k p l e R s m args below meth c σ D cA A C H locs ls cells slots hc hs hP hS hl)
theorem rd_tswd {a dflt lo hi : Int} {offs : Array Int} {len tgt : Nat} (hd : decode (rd_cd x) pc = .ok (.tableswitch dflt lo hi offs, len)) (ha : rd_I a) (h : a < lo ∨ hi < a) (ht : (pc : Int) + dflt = (tgt : Int)) (k : rd_G x tgt L st M n Q) : rd_G x pc L (rd_i a :: st) M n Q := by
  intro p l e R s m args below meth c σ D cA A C H locs ls cells slots hc hs hP hS hl
  exact lv_tableOut (x := Int32.ofInt a) (rest := st.map (rd_pv σ)) C.1 C.2.1 hd (by rw [rd_i32 ha]; exact h) ht (k p l e R s m args below meth c σ D cA A C H locs ls cells slots hc hs hP hS hl)
theorem rd_lsw {a dflt off : Int} {ps : Array (Int × Int)} {len tgt : Nat} (hd : decode (rd_cd x) pc = .ok (.lookupswitch dflt ps, len)) (ha : rd_I a) (hp : (ps.toList.zip (ps.toList.drop 1)).all (fun (a, next) => a.1 < next.1) = true) (ho : Op.lookupswitch.offset ps.toList dflt a = off) (ht : (pc : Int) + off = (tgt : Int)) (k : rd_G x tgt L st M n Q) : rd_G x pc L (rd_i a :: st) M n Q := by
  intro p l e R s m args below meth c σ D cA A C H locs ls cells slots hc hs hP hS hl
  exact lv_lookup (x := Int32.ofInt a) (rest := st.map (rd_pv σ)) C.1 C.2.1 hd hp (by rw [rd_i32 ha]; exact ho) ht (k p l e R s m args below meth c σ D cA A C H locs ls cells slots hc hs hP hS hl)
theorem rd_iald {q len : Nat} {i : Int} (hd : decode (rd_cd x) pc = .ok (.iaload, 1)) (hq : rd_SH[q]? = some (.inl (0, len))) (h0 : 0 ≤ i) (h1 : i < len) (k : rd_G x (pc + 1) L (rd_i (M q i) :: st) M n Q) : rd_G x pc L (rd_i i :: .ref q :: st) M n Q := by
  intro p l e R s m args below meth c σ D cA A C H locs ls cells slots hc hs hP hS hl
  have hlen := rd_len hq
  have hw := rd_wd_at (σ := σ) (cA := cA) (M := M) hq
  have ek : ((Int32.ofInt i).toNatClampNeg : Int) = i := by rw [rd_clamp h0 (by omega)]; omega
  refine va_iald (a := σ q) (i := Int32.ofInt i) (rest := st.map (rd_pv σ)) C.1 C.2.1 C.2.2.2.2.2.1 hP q 0 hw rfl (rd_in h0 h1 hlen) hd ?_
  show W p l e R s m args below meth c H locs cells slots _ (F0 m (pc + 1) ls (.int (Int32.ofInt (M q ((Int32.ofInt i).toNatClampNeg : Int))) :: st.map (rd_pv σ)))
  rw [ek]
  exact k p l e R s m args below meth c σ D cA A C H locs ls cells slots hc hs hP hS hl
theorem rd_zald {q len : Nat} {i : Int} (hd : decode (rd_cd x) pc = .ok (.baload, 1)) (hq : rd_SH[q]? = some (.inl (2, len))) (h0 : 0 ≤ i) (h1 : i < len) (k : rd_G x (pc + 1) L (rd_i (M q i) :: st) M n Q) : rd_G x pc L (rd_i i :: .ref q :: st) M n Q := by
  intro p l e R s m args below meth c σ D cA A C H locs ls cells slots hc hs hP hS hl
  have hlen := rd_len hq
  have hw := rd_wd_at (σ := σ) (cA := cA) (M := M) hq
  have ek : ((Int32.ofInt i).toNatClampNeg : Int) = i := by rw [rd_clamp h0 (by omega)]; omega
  refine va_zald (a := σ q) (i := Int32.ofInt i) (rest := st.map (rd_pv σ)) C.1 C.2.1 C.2.2.2.2.2.1 hP q 2 hw rfl (rd_in h0 h1 hlen) hd ?_
  show W p l e R s m args below meth c H locs cells slots _ (F0 m (pc + 1) ls (.int (Int32.ofInt (M q ((Int32.ofInt i).toNatClampNeg : Int))) :: st.map (rd_pv σ)))
  rw [ek]
  exact k p l e R s m args below meth c σ D cA A C H locs ls cells slots hc hs hP hS hl
theorem rd_lald {q len : Nat} {i : Int} (hd : decode (rd_cd x) pc = .ok (.laload, 1)) (hq : rd_SH[q]? = some (.inl (1, len))) (h0 : 0 ≤ i) (h1 : i < len) (k : rd_G x (pc + 1) L (rd_l (M q i) :: st) M n Q) : rd_G x pc L (rd_i i :: .ref q :: st) M n Q := by
  intro p l e R s m args below meth c σ D cA A C H locs ls cells slots hc hs hP hS hl
  have hlen := rd_len hq
  have hw := rd_wd_at (σ := σ) (cA := cA) (M := M) hq
  have ek : ((Int32.ofInt i).toNatClampNeg : Int) = i := by rw [rd_clamp h0 (by omega)]; omega
  refine va_lald (a := σ q) (i := Int32.ofInt i) (rest := st.map (rd_pv σ)) C.1 C.2.1 C.2.2.2.2.2.1 hP q 1 hw rfl (rd_in h0 h1 hlen) hd ?_
  show W p l e R s m args below meth c H locs cells slots _ (F0 m (pc + 1) ls (.long (Int64.ofInt (M q ((Int32.ofInt i).toNatClampNeg : Int))) :: st.map (rd_pv σ)))
  rw [ek]
  exact k p l e R s m args below meth c σ D cA A C H locs ls cells slots hc hs hP hS hl
theorem rd_iast {q len : Nat} {i v : Int} (hd : decode (rd_cd x) pc = .ok (.iastore, 1)) (hq : rd_SH[q]? = some (.inl (0, len))) (h0 : 0 ≤ i) (h1 : i < len) (k : rd_G x (pc + 1) L st (rd_up M q i v) n Q) : rd_G x pc L (rd_i v :: rd_i i :: .ref q :: st) M n Q := by
  intro p l e R s m args below meth c σ D cA A C H locs ls cells slots hc hs hP hS hl
  have hlen := rd_len hq
  have hw := rd_wd_at (σ := σ) (cA := cA) (M := M) hq
  have ek : ((Int32.ofInt i).toNatClampNeg : Int) = i := by rw [rd_clamp h0 (by omega)]; omega
  refine va_iast (a := σ q) (i := Int32.ofInt i) (x := Int32.ofInt v) (rest := st.map (rd_pv σ)) C.1 C.2.1 C.2.2.2.2.2.1 hP (rd_D C.2.2.2.2.2.2.1 C.2.2.2.2.2.2.2.1) hS q 0 hw rfl (rd_in h0 h1 hlen) hd (fun H1 locs1 hP1 hD1 hS1 => ?_)
  refine k p l e R s m args below meth c σ D cA A C H1 locs1 ls cells slots hc hs ?_ hS1 hl
  rw [← rd_wd_set (i := i) (v := v) hq rfl]
  refine (congrArg (fun z => va_P D rd_CL ((rd_wd σ cA M).set q (σ q, z)) H1) ?_).mpr hP1
  have ef : (fun j : Nat => Int32.ofInt (rd_up M q i v q (j : Int))) = upd (fun j : Nat => Int32.ofInt (M q (j : Int))) (Int32.ofInt i).toNatClampNeg (Int32.ofInt v) := by
    funext j
    simp only [rd_up_same, upd]
    by_cases hj : (j : Int) = i
    · have hj' : j = (Int32.ofInt i).toNatClampNeg := by omega
      rw [if_pos hj, if_pos hj']
    · have hj' : ¬ j = (Int32.ofInt i).toNatClampNeg := by omega
      rw [if_neg hj, if_neg hj']
  exact congrArg (fun f => (Sum.inl (cA 0, len, Sum.inl f) : va_E)) ef
theorem rd_zast {q len : Nat} {i v : Int} (hd : decode (rd_cd x) pc = .ok (.bastore, 1)) (hq : rd_SH[q]? = some (.inl (2, len))) (h0 : 0 ≤ i) (h1 : i < len) (hv : v = 0 ∨ v = 1) (k : rd_G x (pc + 1) L st (rd_up M q i v) n Q) : rd_G x pc L (rd_i v :: rd_i i :: .ref q :: st) M n Q := by
  intro p l e R s m args below meth c σ D cA A C H locs ls cells slots hc hs hP hS hl
  have hlen := rd_len hq
  have hw := rd_wd_at (σ := σ) (cA := cA) (M := M) hq
  have ek : ((Int32.ofInt i).toNatClampNeg : Int) = i := by rw [rd_clamp h0 (by omega)]; omega
  refine va_zast (a := σ q) (i := Int32.ofInt i) (x := Int32.ofInt v) (rest := st.map (rd_pv σ)) C.1 C.2.1 C.2.2.2.2.2.1 hP (rd_D C.2.2.2.2.2.2.1 C.2.2.2.2.2.2.2.1) hS q 2 hw rfl (rd_in h0 h1 hlen) hd (fun H1 locs1 hP1 hD1 hS1 => ?_)
  refine k p l e R s m args below meth c σ D cA A C H1 locs1 ls cells slots hc hs ?_ hS1 hl
  rw [← rd_wd_set (i := i) (v := v) hq rfl]
  refine (congrArg (fun z => va_P D rd_CL ((rd_wd σ cA M).set q (σ q, z)) H1) ?_).mpr hP1
  have ef : (fun j : Nat => Int32.ofInt (rd_up M q i v q (j : Int))) = upd (fun j : Nat => Int32.ofInt (M q (j : Int))) (Int32.ofInt i).toNatClampNeg (vp_nar .boolean (Int32.ofInt v)) := by
    funext j
    simp only [rd_up_same, upd]
    by_cases hj : (j : Int) = i
    · have hj' : j = (Int32.ofInt i).toNatClampNeg := by omega
      rw [if_pos hj, if_pos hj']; rcases hv with rfl | rfl <;> rfl
    · have hj' : ¬ j = (Int32.ofInt i).toNatClampNeg := by omega
      rw [if_neg hj, if_neg hj']
  exact congrArg (fun f => (Sum.inl (cA 2, len, Sum.inl f) : va_E)) ef
theorem rd_last {q len : Nat} {i v : Int} (hd : decode (rd_cd x) pc = .ok (.lastore, 1)) (hq : rd_SH[q]? = some (.inl (1, len))) (h0 : 0 ≤ i) (h1 : i < len) (k : rd_G x (pc + 1) L st (rd_up M q i v) n Q) : rd_G x pc L (rd_l v :: rd_i i :: .ref q :: st) M n Q := by
  intro p l e R s m args below meth c σ D cA A C H locs ls cells slots hc hs hP hS hl
  have hlen := rd_len hq
  have hw := rd_wd_at (σ := σ) (cA := cA) (M := M) hq
  have ek : ((Int32.ofInt i).toNatClampNeg : Int) = i := by rw [rd_clamp h0 (by omega)]; omega
  refine va_last (a := σ q) (i := Int32.ofInt i) (x := Int64.ofInt v) (rest := st.map (rd_pv σ)) C.1 C.2.1 C.2.2.2.2.2.1 hP (rd_D C.2.2.2.2.2.2.1 C.2.2.2.2.2.2.2.1) hS q 1 hw rfl (rd_in h0 h1 hlen) hd (fun H1 locs1 hP1 hD1 hS1 => ?_)
  refine k p l e R s m args below meth c σ D cA A C H1 locs1 ls cells slots hc hs ?_ hS1 hl
  rw [← rd_wd_set (i := i) (v := v) hq rfl]
  refine (congrArg (fun z => va_P D rd_CL ((rd_wd σ cA M).set q (σ q, z)) H1) ?_).mpr hP1
  have ef : (fun j : Nat => Int64.ofInt (rd_up M q i v q (j : Int))) = vp_updL (fun j : Nat => Int64.ofInt (M q (j : Int))) (Int32.ofInt i).toNatClampNeg (Int64.ofInt v) := by
    funext j
    simp only [rd_up_same, vp_updL]
    by_cases hj : (j : Int) = i
    · have hj' : j = (Int32.ofInt i).toNatClampNeg := by omega
      rw [if_pos hj, if_pos hj']
    · have hj' : ¬ j = (Int32.ofInt i).toNatClampNeg := by omega
      rw [if_neg hj, if_neg hj']
  exact congrArg (fun f => (Sum.inl (cA 1, len, Sum.inr (Sum.inl f)) : va_E)) ef
theorem rd_alen {q len ety : Nat} (hd : decode (rd_cd x) pc = .ok (.arraylength, 1)) (hq : rd_SH[q]? = some (.inl (ety, len))) (he : ety < 3) (k : rd_G x (pc + 1) L (rd_i len :: st) M n Q) : rd_G x pc L (.ref q :: st) M n Q := by
  intro p l e R s m args below meth c σ D cA A C H locs ls cells slots hc hs hP hS hl
  have hw := rd_wd_at (σ := σ) (cA := cA) (M := M) hq
  have k := k p l e R s m args below meth c σ D cA A C H locs ls cells slots hc hs hP hS hl
  rcases (show ety = 0 ∨ ety = 1 ∨ ety = 2 by omega) with rfl | rfl | rfl
  · exact va_alen (a := σ q) (v := Int32.ofInt len) (rest := st.map (rd_pv σ)) C.1 C.2.1 C.2.2.2.2.2.1 hP q 0 hw rfl Int32.ofInt_eq_ofNat.symm hd k
  · exact va_alen (a := σ q) (v := Int32.ofInt len) (rest := st.map (rd_pv σ)) C.1 C.2.1 C.2.2.2.2.2.1 hP q 1 hw rfl Int32.ofInt_eq_ofNat.symm hd k
  · exact va_alen (a := σ q) (v := Int32.ofInt len) (rest := st.map (rd_pv σ)) C.1 C.2.1 C.2.2.2.2.2.1 hP q 2 hw rfl Int32.ofInt_eq_ofNat.symm hd k
theorem rd_sld {Ls : Nat} {xs : Int → Int} {i : Int} (hd : decode (rd_cd x) pc = .ok (.iaload, 1)) (hx : rd_sc x = some (Ls, xs)) (h0 : 0 ≤ i) (h1 : i < Ls) (k : rd_G x (pc + 1) L (rd_i (xs i) :: st) M n Q) : rd_G x pc L (rd_i i :: .ref 999 :: st) M n Q := by
  intro p l e R s m args below meth c σ D cA A C H locs ls cells slots hc hs hP hS hl
  obtain ⟨g1, g2, g3, g4⟩ := C.2.2.2.2.2.2.2.2.2.2.2.2.2.2 Ls xs hx
  have ek : ((Int32.ofInt i).toNatClampNeg : Int) = i := by rw [rd_clamp h0 (by omega)]; omega
  refine va_sld (i := Int32.ofInt i) (rest := st.map (rd_pv σ)) C.1 C.2.1 g1 g2 g3 hS (rd_in h0 h1 g4) hd ?_
  show W p l e R s m args below meth c H locs cells slots _ (F0 m (pc + 1) ls (.int (Int32.ofInt (xs ((Int32.ofInt i).toNatClampNeg : Int))) :: st.map (rd_pv σ)))
  rw [ek]
  exact k p l e R s m args below meth c σ D cA A C H locs ls cells slots hc hs hP hS hl
theorem rd_slen {Ls : Nat} {xs : Int → Int} (hd : decode (rd_cd x) pc = .ok (.arraylength, 1)) (hx : rd_sc x = some (Ls, xs)) (k : rd_G x (pc + 1) L (rd_i Ls :: st) M n Q) : rd_G x pc L (.ref 999 :: st) M n Q := by
  intro p l e R s m args below meth c σ D cA A C H locs ls cells slots hc hs hP hS hl
  obtain ⟨g1, g2, g3, g4⟩ := C.2.2.2.2.2.2.2.2.2.2.2.2.2.2 Ls xs hx
  refine va_slen (rest := st.map (rd_pv σ)) C.1 C.2.1 g1 g2 g3 hS hd ?_
  rw [← Int32.ofInt_eq_ofNat]
  exact k p l e R s m args below meth c σ D cA A C H locs ls cells slots hc hs hP hS hl
end RdRules
end
section
/-! returns, fields, calls -/
section RdEnds
variable {x : rd_X} {pc : Nat} {L : List (Option Value)} {st : List Value} {M : rd_M} {n : Nat} {Q : rd_R → rd_M → Prop}
theorem rd_iret {a : Int} (hd : decode (rd_cd x) pc = .ok (.ireturn, 1)) (hr : rd_rt x = some .int) (hn : n ≤ rd_cp x) (hQ : Q (.inl (some (rd_i a))) M) : rd_G x pc L [rd_i a] M n Q := by
  intro p l e R s m args below meth c σ D cA A C H locs ls cells slots hc hs hP hS hl
  obtain ⟨hx, hb, hml, hown, hts, hK, hj, hA, hAs, hrm, hrt, hlk, htb, hXF, hSC⟩ := C
  refine W.widen (k := rd_cp x * rd_KC) (n := rd_cp x * rd_KS) (Nat.le_trans hc (Nat.mul_le_mul_right _ hn)) (Nat.le_trans hs (Nat.mul_le_mul_right _ hn)) ?_
  intro T hT X
  obtain ⟨t, a1, o, b1, b2, ⟨b3, b4, b5⟩, Lc, ⟨-, b6, b7⟩, b8⟩ := W.iret (v := Int32.ofInt a) (Qc := fun _ _ o t => o = .returned (some (rd_i a)) ∧ t.heap = H ∧ s.WarmedH t.vm) (free := A) hx hb (hrt.trans hr) (fun t ht hW => ⟨rfl, ht, hW⟩) hS.2.2 (ls := ls) hd hlk T hT X
  exact ⟨t, a1, o, .inl (some (rd_i a)), M, b1, b2, b3, hQ, by rw [b4]; exact hP, Lc, b6, b7, b8, hS.F b4⟩
theorem rd_lret {a : Int} (hd : decode (rd_cd x) pc = .ok (.lreturn, 1)) (hr : rd_rt x = some .long) (hn : n ≤ rd_cp x) (hQ : Q (.inl (some (rd_l a))) M) : rd_G x pc L [rd_l a] M n Q := by
  intro p l e R s m args below meth c σ D cA A C H locs ls cells slots hc hs hP hS hl
  obtain ⟨hx, hb, hml, hown, hts, hK, hj, hA, hAs, hrm, hrt, hlk, htb, hXF, hSC⟩ := C
  refine W.widen (k := rd_cp x * rd_KC) (n := rd_cp x * rd_KS) (Nat.le_trans hc (Nat.mul_le_mul_right _ hn)) (Nat.le_trans hs (Nat.mul_le_mul_right _ hn)) ?_
  intro T hT X
  obtain ⟨t, a1, o, b1, b2, ⟨b3, b4, b5⟩, Lc, ⟨-, b6, b7⟩, b8⟩ := W.lret (v := Int64.ofInt a) (Qc := fun _ _ o t => o = .returned (some (rd_l a)) ∧ t.heap = H ∧ s.WarmedH t.vm) (free := A) hx hb (hrt.trans hr) (fun t ht hW => ⟨rfl, ht, hW⟩) hS.2.2 (ls := ls) hd hlk T hT X
  exact ⟨t, a1, o, .inl (some (rd_l a)), M, b1, b2, b3, hQ, by rw [b4]; exact hP, Lc, b6, b7, b8, hS.F b4⟩
theorem rd_zret {a : Int} (hd : decode (rd_cd x) pc = .ok (.ireturn, 1)) (hr : rd_rt x = some .boolean) (hn : n ≤ rd_cp x) (hz : a = 0 ∨ a = 1) (hQ : Q (.inl (some (rd_i a))) M) : rd_G x pc L [rd_i a] M n Q := by
  intro p l e R s m args below meth c σ D cA A C H locs ls cells slots hc hs hP hS hl
  obtain ⟨hx, hb, hml, hown, hts, hK, hj, hA, hAs, hrm, hrt, hlk, htb, hXF, hSC⟩ := C
  refine W.widen (k := rd_cp x * rd_KC) (n := rd_cp x * rd_KS) (Nat.le_trans hc (Nat.mul_le_mul_right _ hn)) (Nat.le_trans hs (Nat.mul_le_mul_right _ hn)) ?_
  intro T hT X
  obtain ⟨t, a1, o, b1, b2, ⟨b3, b4, b5⟩, Lc, ⟨-, b6, b7⟩, b8⟩ := W.zret (v := Int32.ofInt a) (Qc := fun _ _ o t => o = .returned (some (rd_i a)) ∧ t.heap = H ∧ s.WarmedH t.vm) (free := A) hx hb (hrt.trans hr) (by rcases hz with rfl | rfl <;> rfl) (fun t ht hW => ⟨rfl, ht, hW⟩) hS.2.2 (ls := ls) hd hlk T hT X
  exact ⟨t, a1, o, .inl (some (rd_i a)), M, b1, b2, b3, hQ, by rw [b4]; exact hP, Lc, b6, b7, b8, hS.F b4⟩
theorem rd_vret (hd : decode (rd_cd x) pc = .ok (.return_, 1)) (hr : rd_rt x = none) (hn : n ≤ rd_cp x) (hQ : Q (.inl none) M) : rd_G x pc L [] M n Q := by
  intro p l e R s m args below meth c σ D cA A C H locs ls cells slots hc hs hP hS hl
  obtain ⟨hx, hb, hml, hown, hts, hK, hj, hA, hAs, hrm, hrt, hlk, htb, hXF, hSC⟩ := C
  refine W.widen (k := rd_cp x * rd_KC) (n := rd_cp x * rd_KS) (Nat.le_trans hc (Nat.mul_le_mul_right _ hn)) (Nat.le_trans hs (Nat.mul_le_mul_right _ hn)) ?_
  intro T hT X
  obtain ⟨t, a1, o, b1, b2, ⟨b3, b4, b5⟩, Lc, ⟨-, b6, b7⟩, b8⟩ := W.vret (Qc := fun _ _ o t => o = .returned none ∧ t.heap = H ∧ s.WarmedH t.vm) (free := A) hx hb (hrt.trans hr) (fun t ht hW => ⟨rfl, ht, hW⟩) hS.2.2 (ls := ls) hd hlk T hT X
  exact ⟨t, a1, o, .inl none, M, b1, b2, b3, hQ, by rw [b4]; exact hP, Lc, b6, b7, b8, hS.F b4⟩
/-- a field's entry in a class's pool -/
def rd_fl (own : String) (ix ci k : Nat) : Prop := ∃ (C : String) (T : u_T) (N : Nat), rd_CL[ci]? = some (C, T, N) ∧ k < N ∧ (∀ w ∈ u_ws C T N, w ∈ rd_ws) ∧ (Cond.fieldLink own ix (T k).1 (T k).2.1 (T k).2.2.1 ∈ rd_ws)
theorem rd_get {ix ci k q : Nat} {fs : List (Nat ⊕ Nat)} {f : Nat ⊕ Nat} {v : Value} (hd : decode (rd_cd x) pc = .ok (.getfield ix, 3)) (hf : rd_fl (rd_nm x).cls ix ci k) (hq : rd_SH[q]? = some (.inr (ci, fs))) (hk : fs[k]? = some f) (hv : ∀ σ, rd_fv σ (M q) k f = rd_pv σ v) (kk : rd_G x (pc + 3) L (v :: st) M n Q) : rd_G x pc L (.ref q :: st) M n Q := by
  intro p l e R s m args below meth c σ D cA A C H locs ls cells slots hc hs hP hS hl
  obtain ⟨C9, T, N, h1, h2, h3, h4⟩ := hf
  refine va_get (a := σ q) (v := rd_pv σ v) (rest := st.map (rd_pv σ)) C.1 C.2.1 C.2.2.2.2.1 h3 C.2.2.2.1 C.2.2.2.2.2.1 hP q (rd_wd_at (σ := σ) (cA := cA) (M := M) hq) h1 k h2 (C.2.2.2.2.1 _ h4) (fun _ h => h) ?_ hd (kk p l e R s m args below meth c σ D cA A C H locs ls cells slots hc hs hP hS hl)
  rw [List.getElem?_mapIdx, hk, ← hv σ]; rfl
theorem rd_getr {ix ci k q q' : Nat} {fs : List (Nat ⊕ Nat)} (hd : decode (rd_cd x) pc = .ok (.getfield ix, 3)) (hf : rd_fl (rd_nm x).cls ix ci k) (hq : rd_SH[q]? = some (.inr (ci, fs))) (hk : fs[k]? = some (.inl q')) (kk : rd_G x (pc + 3) L (.ref q' :: st) M n Q) : rd_G x pc L (.ref q :: st) M n Q := rd_get hd hf hq hk (fun _ => rfl) kk
theorem rd_geti {ix ci k q : Nat} {fs : List (Nat ⊕ Nat)} (hd : decode (rd_cd x) pc = .ok (.getfield ix, 3)) (hf : rd_fl (rd_nm x).cls ix ci k) (hq : rd_SH[q]? = some (.inr (ci, fs))) (hk : fs[k]? = some (.inr 0)) (kk : rd_G x (pc + 3) L (rd_i (M q k) :: st) M n Q) : rd_G x pc L (.ref q :: st) M n Q := rd_get hd hf hq hk (fun _ => rfl) kk
theorem rd_getl {ix ci k q : Nat} {fs : List (Nat ⊕ Nat)} (hd : decode (rd_cd x) pc = .ok (.getfield ix, 3)) (hf : rd_fl (rd_nm x).cls ix ci k) (hq : rd_SH[q]? = some (.inr (ci, fs))) (hk : fs[k]? = some (.inr 1)) (kk : rd_G x (pc + 3) L (rd_l (M q k) :: st) M n Q) : rd_G x pc L (.ref q :: st) M n Q := rd_get hd hf hq hk (fun _ => rfl) kk
/-- a field that may be written -/
def rd_fp (ci k : Nat) (ty : FieldType) : Prop := ∃ (C : String) (T : u_T) (N : Nat) (ty0 : Nat → FieldType), rd_CL[ci]? = some (C, T, N) ∧ k < N ∧ (∀ k, k < N → parseFieldDescriptor (T k).2.2.1 = some (ty0 k)) ∧ (∀ a, a < N → ∀ b, b < N → a ≠ b → (T a).2.1 ≠ (T b).2.1) ∧ (T k).2.2.2 = false ∧ parseFieldDescriptor (T k).2.2.1 = some ty
theorem rd_put {ix ci k q t9 : Nat} {fs : List (Nat ⊕ Nat)} {a : Int} {v : Value} {ty : FieldType} (hd : decode (rd_cd x) pc = .ok (.putfield ix, 3)) (hf : rd_fl (rd_nm x).cls ix ci k) (hp : rd_fp ci k ty) (hq : rd_SH[q]? = some (.inr (ci, fs))) (hk : fs[k]? = some (.inr t9)) (hv : ∀ σ, rd_fv σ (fun _ => a) k (.inr t9) = v) (hv2 : ∀ σ, rd_pv σ v = v) (hn9 : narrow ty v = v) (hfit : fits ty v = true) (kk : rd_G x (pc + 3) L st (rd_up M q k a) n Q) : rd_G x pc L (v :: .ref q :: st) M n Q := by
  intro p l e R s m args below meth c σ D cA A C H locs ls cells slots hc hs hP hS hl
  obtain ⟨C9, T, N, h1, h2, h3, h4⟩ := hf
  obtain ⟨C8, T8, N8, ty0, g1, g2, g3, g4, g5, g6⟩ := hp
  cases h1.symm.trans g1
  have hl9 : k < (fs.mapIdx (fun j f => rd_fv σ (M q) j f)).length := by simpa using (List.getElem?_eq_some_iff.mp hk).1
  show W p l e R s m args below meth c H locs cells slots _ (F0 m pc ls (rd_pv σ v :: .ref (σ q) :: st.map (rd_pv σ)))
  rw [hv2 σ]
  refine va_put (a := σ q) (v := v) (rest := st.map (rd_pv σ)) C.1 C.2.1 C.2.2.2.2.1 h3 ty0 g3 g4 C.2.2.2.1 C.2.2.2.2.2.1 hP (rd_D C.2.2.2.2.2.2.1 C.2.2.2.2.2.2.2.1) hS q (rd_wd_at (σ := σ) (cA := cA) (M := M) hq) h1 k h2 (C.2.2.2.2.1 _ h4) (fun _ h => h) g5 g6 hn9 hfit hl9 hd (fun H1 locs1 hP1 hD1 hS1 => ?_)
  refine kk p l e R s m args below meth c σ D cA A C H1 locs1 ls cells slots hc hs ?_ hS1 hl
  rw [← rd_wd_set (i := (k : Int)) (v := a) hq rfl]
  refine (congrArg (fun z => va_P D rd_CL ((rd_wd σ cA M).set q (σ q, z)) H1) ?_).mpr hP1
  refine congrArg (fun z => (Sum.inr (ci, z) : va_E)) ?_
  apply List.ext_getElem?
  intro j
  by_cases hj : j = k
  · subst hj
    rw [List.getElem?_set_self hl9, List.getElem?_mapIdx, hk]
    have h9 := hv σ
    simp only [Option.map_some, Option.some.injEq]
    rw [← h9]
    cases t9 with
    | zero => simp [rd_fv, rd_up]
    | succ t9 => simp [rd_fv, rd_up]
  · rw [List.getElem?_set_ne (Ne.symm hj), List.getElem?_mapIdx, List.getElem?_mapIdx]
    have hj' : ¬ ((j : Int) = (k : Int)) := by omega
    cases fs[j]? with
    | none => rfl
    | some f =>
      rcases f with f | f
      · rfl
      · cases f with
        | zero => simp [rd_fv, rd_up, hj']
        | succ f => simp [rd_fv, rd_up, hj']
theorem rd_puti {ix ci k q : Nat} {fs : List (Nat ⊕ Nat)} {a : Int} (hd : decode (rd_cd x) pc = .ok (.putfield ix, 3)) (hf : rd_fl (rd_nm x).cls ix ci k) (hp : rd_fp ci k .int) (hq : rd_SH[q]? = some (.inr (ci, fs))) (hk : fs[k]? = some (.inr 0)) (kk : rd_G x (pc + 3) L st (rd_up M q k a) n Q) : rd_G x pc L (rd_i a :: .ref q :: st) M n Q := rd_put hd hf hp hq hk (fun _ => rfl) (fun _ => rfl) rfl rfl kk
theorem rd_putl {ix ci k q : Nat} {fs : List (Nat ⊕ Nat)} {a : Int} (hd : decode (rd_cd x) pc = .ok (.putfield ix, 3)) (hf : rd_fl (rd_nm x).cls ix ci k) (hp : rd_fp ci k .long) (hq : rd_SH[q]? = some (.inr (ci, fs))) (hk : fs[k]? = some (.inr 1)) (kk : rd_G x (pc + 3) L st (rd_up M q k a) n Q) : rd_G x pc L (rd_l a :: .ref q :: st) M n Q := rd_put hd hf hp hq hk (fun _ => rfl) (fun _ => rfl) rfl rfl kk
end RdEnds
/-! calls -/
/-- the locals at a method's start -/
def rd_en : List Value → List (Option Value)
  | [] => []
  | .long v :: r => some (.long v) :: none :: rd_en r
  | .double v :: r => some (.double v) :: none :: rd_en r
  | v :: r => some v :: rd_en r
theorem rd_en_mem {σ : Nat → Nat} : ∀ (As : List Value) (i j : Nat) (w : Value), (rd_en As)[j]? = some (some w) → (i + j, rd_pv σ w) ∈ lv_args i (As.map (rd_pv σ))
  | [], i, j, w, h => by simp [rd_en] at h
  | v :: r, i, j, w, h => by
    have one : ∀ (u : Value), u.category = 1 → (some u :: rd_en r)[j]? = some (some w) → (i + j, rd_pv σ w) ∈ lv_args i ((u :: r).map (rd_pv σ)) := by
      intro u hu h
      cases j with
      | zero =>
        have h : u = w := by simpa using h
        subst h
        exact List.mem_cons_self
      | succ j =>
        have h1 := rd_en_mem (σ := σ) r (i + 1) j w (by simpa using h)
        rw [show i + 1 + j = i + (j + 1) by omega] at h1
        refine List.mem_cons_of_mem _ ?_
        show _ ∈ lv_args (if (rd_pv σ u).category = 2 then i + 2 else i + 1) _
        rw [rd_cat, hu, if_neg (by decide)]
        exact h1
    have two : ∀ (u : Value), u.category = 2 → (some u :: none :: rd_en r)[j]? = some (some w) → (i + j, rd_pv σ w) ∈ lv_args i ((u :: r).map (rd_pv σ)) := by
      intro u hu h
      cases j with
      | zero =>
        have h : u = w := by simpa using h
        subst h
        exact List.mem_cons_self
      | succ j =>
        cases j with
        | zero => simp at h
        | succ j =>
          have h1 := rd_en_mem (σ := σ) r (i + 2) j w (by simpa using h)
          rw [show i + 2 + j = i + (j + 1 + 1) by omega] at h1
          refine List.mem_cons_of_mem _ ?_
          show _ ∈ lv_args (if (rd_pv σ u).category = 2 then i + 2 else i + 1) _
          rw [rd_cat, hu, if_pos rfl]
          exact h1
    cases v <;> first | exact two _ rfl h | exact one _ rfl h
theorem rd_sl {σ : Nat → Nat} : ∀ As : List Value, (lg_sl (As.map (rd_pv σ))).length = (rd_en As).length
  | [] => rfl
  | v :: r => by
    have ih := rd_sl (σ := σ) r
    have e : lg_sl ((v :: r).map (rd_pv σ)) = (if (rd_pv σ v).category = 2 then [.val (rd_pv σ v), .second] else [.val (rd_pv σ v)]) ++ lg_sl (r.map (rd_pv σ)) := by simp [lg_sl]
    rw [e, List.length_append, ih]
    cases v <;> simp [rd_pv, rd_en, Value.category] <;> omega
def rd_ep (n : Nat) (As : List Value) : List (Option Value) := rd_en As ++ List.replicate (n - (rd_en As).length) none
theorem rd_ep_at {n : Nat} {As : List Value} {i : Nat} {v : Value} (h : (rd_ep n As)[i]? = some (some v)) : (rd_en As)[i]? = some (some v) := by
  unfold rd_ep at h
  by_cases hi : i < (rd_en As).length
  · rw [List.getElem?_append_left hi] at h; exact h
  · rw [List.getElem?_append_right (by omega), List.getElem?_replicate] at h
    split at h <;> simp at h
/-- the cells that a callee may change -/
def rd_A (σ : Nat → Nat) (sz : Nat) (q : Nat) : Prop := (∃ i, i < rd_SH.length ∧ q = σ i) ∨ sz ≤ q
theorem rd_vm {D : va_G} {σ : Nat → Nat} {cA : Nat → ClassId} {M : rd_M} {H : Heap} (hP : va_P D rd_CL (rd_wd σ cA M) H) {i : Nat} (hi : i < rd_SH.length) {ce : Cell} (hc : H[σ i]? = some ce) : ce.vm = .none := by
  have h1 : rd_SH[i]? = some rd_SH[i] := List.getElem?_eq_getElem hi
  have h2 := hP i _ (rd_wd_at (σ := σ) (cA := cA) (M := M) h1)
  generalize rd_SH[i] = c at h2
  rcases c with ⟨t, n⟩ | ⟨k, fs⟩
  · have h3 : ∀ (a : vp_A) (cc : ClassId), H[σ i]? = some (vp_cell cc a) → ce.vm = .none := by
      intro a cc h
      rw [hc] at h
      cases h
      obtain ⟨n, f | f | f | f | f⟩ := a <;> rfl
    match t with
    | 0 => exact h3 _ _ h2
    | 1 => exact h3 _ _ h2
    | t + 2 => exact h3 _ _ h2
  · obtain ⟨r, -, cell, q1, -, q3, -⟩ := h2
    rw [hc] at q1
    cases q1
    exact q3
theorem rd_XF_moved {l : Launch} {s T' : State} {A : Nat → Prop} {H : Heap} {locs : List Loc} {D : va_G} {σ : Nat → Nat} {cA : Nat → ClassId} {M : rd_M} (h : rd_XF l s A) (hW : s.WarmedH T'.vm) (hh : T'.heap = H) (hS : va_S A s.heap H locs) (hP : va_P D rd_CL (rd_wd σ cA M) H) (hA : ∀ i, i < rd_SH.length → A (σ i)) (hAh : ∀ q, s.heap.size ≤ q → A q) : rd_XF l T' (rd_A σ H.size) := by
  obtain ⟨h1, h2, h3, h4, h5, h6⟩ := h
  have hAA : ∀ q, rd_A σ H.size q → A q := fun q hq => by
    rcases hq with ⟨i, hi, rfl⟩ | hq
    · exact hA i hi
    · exact hAh q (Nat.le_trans hS.1 hq)
  refine ⟨h1, ?_, ?_, ?_, fun q hq => ?_, h6.moved hW.alike⟩
  · rw [hh]; exact ((h2.kept hS.2.1).moved hW.alike).narrow hAA
  · rw [hh]; exact ((h3.kept hS.2.1).moved hW.alike).narrow hAA
  · intro a ce hc hst hq
    rw [hh] at hc
    rcases hq with ⟨i, hi, rfl⟩ | hq
    · rw [rd_vm hP hi hc] at hst
      cases hst
    · have := (Array.getElem?_eq_some_iff.mp hc).1
      omega
  · obtain ⟨sa, hsa⟩ := h5 q hq
    exact ⟨sa, vk_R.warm hW hsa⟩
/-- what a callee needs of the words -/
def rd_ok (y : rd_X) : Prop := rd_sc y = none ∧ plainFor (rd_nm y) = true ∧ Cond.initialized (rd_nm y).cls ∈ rd_ws ∧ ((Cond.code (rd_nm y) (rd_cd y) (rd_ml y) (rd_rt y) ∈ rd_ws ∧ rd_hs y = []) ∨ Cond.codeWith (rd_nm y) (rd_cd y) (rd_ml y) (rd_rt y) (rd_hs y) ∈ rd_ws)
theorem rd_ok_code {y : rd_X} (h : rd_ok y) {args : Array Value} {s : State} (hts : ∀ w ∈ rd_ws, w.before args s = true) : ∃ (mk : MethodId) (meth : Method) (c : Code), s.methodNamed? (rd_nm y) = some mk ∧ s.vm.method? mk = some meth ∧ meth.code = some c ∧ c.code = rd_cd y ∧ c.maxLocals = rd_ml y ∧ meth.sig.returnType = rd_rt y ∧ meth.locks = false ∧ c.exceptionTable.toList = tableOf (rd_hs y) ∧ parseMethodDescriptor (rd_nm y).desc = some meth.sig := by
  rcases h.2.2.2 with ⟨hc, he⟩ | hc
  · obtain ⟨mk, hn⟩ := Cond.code_named (hts _ hc)
    obtain ⟨meth, c, h1, h2, h3, h4, h5, h6, h7, h8⟩ := Cond.code_spec hn (hts _ hc)
    refine ⟨mk, meth, c, hn, h1, h2, h3, h4, h5, h6, ?_, h8⟩
    rw [he]
    have h9 : c.exceptionTable = #[] := by simpa using h7
    rw [h9]; rfl
  · obtain ⟨mk, meth, c, hn, h1, h2, h3, h4, h5, h6, h7, h8⟩ := Cond.codeWith_spec (hts _ hc)
    exact ⟨mk, meth, c, hn, h1, h2, h3, h4, h6, h7, by rw [← h5]; exact (table_eq _).symm, h8⟩
theorem rd_words {args a' : Array Value} {s U : State} (hts : ∀ w ∈ rd_ws, w.before args s = true) (hU : s.WarmedH U.vm) : ∀ w ∈ rd_ws, w.before a' U = true :=
  fun w hw => rd_gd_at hU (rd_good w hw) (hts w hw)
theorem rd_weakS {tb : Tables} {e : Env} {g : Frame} {below : List Frame} {a b : State} (h : Steps tb e (g :: below) a b) : Steps tb e below a b := by
  obtain ⟨n, h1, h2⟩ := h
  exact ⟨n, h1, fun k hk => (show Within _ ([g] ++ below) from h2 k hk).weaken⟩
section RdRun
variable {p : Program} {l : Launch} {e : Env} {R : Room} {s : State} {m : MethodId} {args : Array Value} {below : List Frame} {meth : Method} {c : Code} {T : State} {locs : List Loc} {cells slots : Nat} {σ : Nat → Nat} {D : va_G} {cA : Nat → ClassId} {A : Nat → Prop}
theorem rd_run {x y : rd_X} {M : rd_M} {n : Nat} {Qy : rd_R → rd_M → Prop} {As : List Value} {g : JFrame} {ig : Instr} {len : Nat} {mk : MethodId}
    (X : Stand p l e R s m args below meth c T locs cells slots) (C : rd_Cx x p l e R s m args meth c σ D cA A)
    (hg : g.method = m) (hsize : g.locals.size = c.maxLocals) (hdg : decode c.code g.pc = .ok (ig, len)) (hW : 2 * g.monitorRoom + (g.stack.map fun v => v.category).sum ≤ 8)
    (hok : rd_ok y) (hdp : rd_dp y + 1 ≤ rd_dp x) (hlb : 19 + rd_ml y + rd_lb y ≤ rd_lb x) (hcn : cells ≤ n * rd_KC) (hsn : slots ≤ n * rd_KS) (hcp : n + rd_cp y ≤ rd_cp x)
    (hnamed : T.methodNamed? (rd_nm y) = some mk) (hP : va_P D rd_CL (rd_wd σ cA M) T.heap) (hS : va_S A s.heap T.heap locs) (hAl : (rd_en As).length ≤ rd_ml y)
    (k : rd_G y 0 (rd_ep (rd_ml y) As) [] M 0 Qy) :
    ∃ t, Steps p.tables e below (doInvoke e (T.setTop g) [] mk (As.map (rd_pv σ)).toArray).1 t ∧ rd_E y (.java g :: below) (T.calling g mk (As.map (rd_pv σ)).toArray) σ D cA (rd_A σ T.heap.size) Qy t := by
  obtain ⟨hx, hb, hmx, hown, hts, hK, hj, hA, hAh, ⟨r1, r2, r3, r4⟩, hrt, hlk, htb, hXF, hSC⟩ := C
  have hwT : ∀ w ∈ rd_ws, w.before (As.map (rd_pv σ)).toArray T = true := rd_words hts X.warmed
  obtain ⟨mk9, methk, ck, hn9, hmk, hck, hcode, hmlk, hret, hlocks, htab, hsig⟩ := rd_ok_code hok hwT
  cases hn9.symm.trans hnamed
  have hpk : T.plainMethod mk := State.plainMethod.of_named (s := T) hok.2.1 hnamed hmk
  have hC1 : cells + rd_cp y * rd_KC ≤ R.cells := by
    have h1 : (n + rd_cp y) * rd_KC ≤ rd_cp x * rd_KC := Nat.mul_le_mul_right _ hcp
    rw [Nat.add_mul] at h1
    omega
  have hS1 : slots + rd_cp y * rd_KS ≤ R.slots := by
    have h1 : (n + rd_cp y) * rd_KS ≤ rd_cp x * rd_KS := Nat.mul_le_mul_right _ hcp
    rw [Nat.add_mul] at h1
    omega
  obtain ⟨Y, hin⟩ := X.into hg hsize hdg (As.map (rd_pv σ)).toArray (R' := { frames := rd_dp y, cells := rd_cp y * rd_KC, slots := rd_cp y * rd_KS, locals := rd_lb y }) hmk hck hlocks hpk (by show rd_dp y + 1 ≤ R.frames; omega) (by show _ + (ck.maxLocals + 11) + rd_lb y ≤ R.locals; rw [hmlk]; omega) hC1 hS1
  have hent : entryFrame mk (As.map (rd_pv σ)).toArray ck.maxLocals = F0 mk 0 ((lg_sl (As.map (rd_pv σ)) ++ List.replicate (rd_ml y - (lg_sl (As.map (rd_pv σ))).length) Slot.unset).toArray) [] := by
    rw [hmlk]; exact lg_entry_eq ..
  have hl0 := lv_entry (As.map (rd_pv σ)) (n := rd_ml y) (by rw [rd_sl]; exact hAl)
  have hl : rd_L σ ((lg_sl (As.map (rd_pv σ)) ++ List.replicate (rd_ml y - (lg_sl (As.map (rd_pv σ))).length) Slot.unset).toArray) (rd_ml y) (rd_ep (rd_ml y) As) :=
    ⟨hl0.1, hl0.2.1, by simp [rd_ep]; omega, fun i v hv => by
      have h1 := rd_en_mem (σ := σ) As 0 i v (rd_ep_at hv)
      rw [Nat.zero_add] at h1
      exact hl0.2.2 _ h1⟩
  have Cy : rd_Cx y p l e { frames := rd_dp y, cells := rd_cp y * rd_KC, slots := rd_cp y * rd_KS, locals := rd_lb y } (T.calling g mk (As.map (rd_pv σ)).toArray) mk (As.map (rd_pv σ)).toArray methk ck σ D cA (rd_A σ T.heap.size) :=
    ⟨hx, hcode, hmlk, findClass_of_methodNamed (s := T) hnamed, rd_words (U := T.calling g mk (As.map (rd_pv σ)).toArray) hts X.warmed, va_K.moved (U := T.calling g mk (As.map (rd_pv σ)).toArray) X.warmed.alike hK, hj, fun i hi => Or.inl ⟨i, hi, rfl⟩, fun q hq => Or.inr hq, ⟨Nat.le_refl _, Nat.le_refl _, Nat.le_refl _, Nat.le_refl _⟩, hret, hlocks, htab, rd_XF_moved (T' := T.calling g mk (As.map (rd_pv σ)).toArray) (M := M) hXF X.warmed rfl hS hP hA hAh, fun Ls xs hsc => by rw [hok.1] at hsc; cases hsc⟩
  obtain ⟨t, hst, hE⟩ := k p l e _ _ mk _ (.java g :: below) methk ck σ D cA _ Cy T.heap [] _ 0 0 (Nat.zero_le _) (Nat.zero_le _) hP va_S.rf hl ((T.setTop g).pushFrame (.java (entryFrame mk (As.map (rd_pv σ)).toArray ck.maxLocals))) rfl Y
  refine ⟨t, ?_, hE⟩
  rw [hin []]
  rw [hent] at *
  exact rd_weakS hst
/-- behind a call that returned -/
theorem rd_back {x y : rd_X} {n : Nat} {Q : rd_R → rd_M → Prop} {M' : rd_M} {pc len : Nat} {L : List (Option Value)} {st : List Value} {ls : Array Slot} {g : JFrame} {ig : Instr} {mk : MethodId} {a : Array Value} {t : State} {v : Option Value} {Lc : List Loc}
    (X : Stand p l e R s m args below meth c T locs cells slots) (C : rd_Cx x p l e R s m args meth c σ D cA A) (hg : g = F0 m pc ls (st.map (rd_pv σ))) (hdg : decode c.code pc = .ok (ig, len)) (hcn : cells ≤ n * rd_KC) (hsn : slots ≤ n * rd_KS) (hS : va_S A s.heap T.heap locs) (hl : rd_L σ ls (rd_ml x) L)
    (hend : Ended t (.java g :: below) (.returned (v.map (rd_pv σ)))) (hP : va_P D rd_CL (rd_wd σ cA M') t.heap) (hW : (T.calling g mk a).WarmedH t.vm) (hsame : (T.calling g mk a).sameButNew ({ t with vm := (T.calling g mk a).vm } : State) Lc (rd_cp y * rd_KC) (rd_cp y * rd_KS)) (hLc : ∀ q ∈ Lc, rd_A σ T.heap.size q.base) (hF : va_F (rd_A σ T.heap.size) (T.calling g mk a) t)
    (k : rd_G x (pc + len) L (v.toList ++ st) M' (n + rd_cp y) Q) : ∃ t2, Steps p.tables e below t t2 ∧ rd_E x below s σ D cA A Q t2 := by
  subst hg
  obtain ⟨T', X', hW', hB, ht⟩ := X.outOf (g := F0 m pc ls (st.map (rd_pv σ))) rfl hdg hend hW hsame
  have hh : T'.heap = t.heap := by rw [ht]; simp
  obtain ⟨hx, hb, hmx, hown, hts, hK, hj, hA, hAh, hrm, hrt, hlk, htb, hXF, hSC⟩ := id C
  have hsz : s.heap.size ≤ T.heap.size := hS.1
  have hAA : ∀ q, rd_A σ T.heap.size q → A q := fun q hq => by
    rcases hq with ⟨i, hi, rfl⟩ | hq
    · exact hA i hi
    · exact hAh q (Nat.le_trans hsz hq)
  have hF2 : T.heap.size ≤ t.heap.size ∧ ∀ q : Nat, q < T.heap.size → ¬ rd_A σ T.heap.size q → t.heap[q]? = T.heap[q]? := hF
  have hS' : va_S A s.heap T'.heap (locs ++ Lc) := ⟨by rw [hh]; exact Nat.le_trans hsz hF2.1, fun q h1 h2 => by
      rw [hh, hF2.2 q (Nat.lt_of_lt_of_le h1 hsz) (fun z => h2 (hAA q z))]
      exact hS.2.1 q h1 h2, fun q hq => by
      rcases List.mem_append.mp hq with h | h
      · exact hS.2.2 q h
      · exact hAA _ (hLc q h)⟩
  obtain ⟨t2, a1, a2⟩ := k p l e R s m args below meth c σ D cA A C T'.heap (locs ++ Lc) ls _ _ (by rw [Nat.add_mul]; omega) (by rw [Nat.add_mul]; omega) (by rw [hh]; exact hP) hS' hl T' rfl X'
  refine ⟨t2, ?_, a2⟩
  rw [ht]
  have e1 : (v.map (rd_pv σ)).toList ++ st.map (rd_pv σ) = (v.toList ++ st).map (rd_pv σ) := by cases v <;> rfl
  show Steps p.tables e below (T'.setTop (F0 m (pc + len) ls ((v.map (rd_pv σ)).toList ++ st.map (rd_pv σ)))) t2
  rw [e1]
  exact a1
end RdRun
/-- a call's entry: what is owed for a static method, for a method of an object -/
def rd_lS (own : String) (ix : Nat) (y : rd_X) (np : Nat) : Prop := rd_ok y ∧ Cond.methodLink own ix (rd_nm y) ∈ rd_ws ∧ Cond.static (rd_nm y) ∈ rd_ws ∧ ((rd_nm y).cls ≠ "java/lang/invoke/MethodHandle" ∧ (rd_nm y).cls ≠ "java/lang/invoke/VarHandle") ∧ (parseMethodDescriptor (rd_nm y).desc).map (fun d => d.parameters.length) = some np
def rd_lV (own : String) (ix : Nat) (y : rd_X) (np ci : Nat) : Prop := rd_ok y ∧ Cond.methodLink own ix (rd_nm y) ∈ rd_ws ∧ Cond.instanceMethod (rd_nm y) ∈ rd_ws ∧ ((rd_nm y).cls ≠ "java/lang/invoke/MethodHandle" ∧ (rd_nm y).cls ≠ "java/lang/invoke/VarHandle") ∧ (parseMethodDescriptor (rd_nm y).desc).map (fun d => d.parameters.length) = some np ∧ ∃ (C : String) (T : u_T) (N : Nat), rd_CL[ci]? = some (C, T, N) ∧ Cond.selects C (rd_nm y) (rd_nm y) ∈ rd_ws
section RdCalls
variable {x : rd_X} {pc : Nat} {L : List (Option Value)} {st stk : List Value} {M : rd_M} {n : Nat} {Q : rd_R → rd_M → Prop}
theorem rd_cats {σ : Nat → Nat} {st : List Value} : (st.map (rd_pv σ)).map (fun v => v.category) = st.map (fun v => v.category) := by
  rw [List.map_map]; exact List.map_congr_left (fun v _ => rd_cat)
theorem rd_callS {ix np : Nat} {y : rd_X} (As : List Value) (hd : decode (rd_cd x) pc = .ok (.invokestatic ix, 3)) (hk : rd_lS (rd_nm x).cls ix y np) (hdp : rd_dp y + 1 ≤ rd_dp x) (hlb : 19 + rd_ml y + rd_lb y ≤ rd_lb x) (hcp : n + rd_cp y ≤ rd_cp x) (hst : As.reverse ++ st = stk) (hlen : As.length = np) (hsl : (rd_en As).length ≤ rd_ml y) (hW : (st.map fun v => v.category).sum ≤ 8)
    (k : rd_G y 0 (rd_ep (rd_ml y) As) [] M 0 (fun r M' => ∃ v, r = .inl v ∧ rd_G x (pc + 3) L (v.toList ++ st) M' (n + rd_cp y) Q)) : rd_G x pc L stk M n Q := by
  subst hst
  intro p l e R s m args below meth c σ D cA A C H locs ls cells slots hc hs hP hS hl T hT X
  obtain ⟨hx, hb, hml, hown, hts, hK, hj, hA, hAs, hrm, hrt, hlks, htb, hXF, hSC⟩ := id C
  obtain ⟨hok, hlink, hstat, hy, hnp⟩ := hk
  obtain ⟨mk, methM, cM, hnamed, hmethM, -, -, -, -, -, -, hsigM⟩ := rd_ok_code hok hts
  have hstatic : methM.isStatic = true := Cond.static_spec hnamed hmethM (hts _ hstat)
  obtain ⟨kP, hkP, -⟩ := className_of_methodNamed hnamed
  have hinitP : kP.init = .initialized := Cond.initialized_spec (findClass_of_methodNamed hnamed) hkP (hts _ hok.2.2.1)
  have hnp' : (As.map (rd_pv σ)).length = methM.sig.parameters.length := by
    rw [hsigM] at hnp
    have := Option.some.inj hnp
    rw [List.length_map, hlen, ← this]
  obtain ⟨vm₁, X₁, hstep₁⟩ := X.invokestatic hx hown (hts _ hlink) hnamed hmethM hstatic hkP hinitP hy (g := F0 m pc ls ((As.reverse ++ st).map (rd_pv σ))) rfl (argsL := As.map (rd_pv σ)) (rest := st.map (rd_pv σ)) hnp' (by simp) (by rw [hb]; exact hd)
  subst hT
  obtain ⟨t, hs1, o, r, M', b1, b2, b3, ⟨v, rfl, hG⟩, b5, Lc, b6, b7, b8, b9⟩ := rd_run (T := T.setVm vm₁) (g := F0 m pc ls (st.map (rd_pv σ))) (ig := .invokestatic ix) (len := 3) X₁ C rfl (hl.1.trans hml.symm) (by rw [hb]; exact hd) (by rw [rd_cats]; simpa using hW) hok hdp hlb hc hs hcp (X₁.named hnamed) hP hS hsl k
  have b3 : o = .returned (v.map (rd_pv σ)) := b3
  subst b3
  obtain ⟨t2, c1, c2⟩ := rd_back (y := y) (T := T.setVm vm₁) X₁ C rfl (by rw [hb]; exact hd) hc hs hS hl b2 b5 b6 b7 b8 b9 hG
  exact ⟨t2, hstep₁ _ fun acts => by rw [doInvoke_state]; exact hs1.trans c1, c2⟩
theorem rd_callV {ix np ci q : Nat} {fs : List (Nat ⊕ Nat)} {y : rd_X} (As : List Value) (hd : decode (rd_cd x) pc = .ok (.invokevirtual ix, 3)) (hk : rd_lV (rd_nm x).cls ix y np ci) (hq : rd_SH[q]? = some (.inr (ci, fs))) (hdp : rd_dp y + 1 ≤ rd_dp x) (hlb : 19 + rd_ml y + rd_lb y ≤ rd_lb x) (hcp : n + rd_cp y ≤ rd_cp x) (hst : As.reverse ++ .ref q :: st = stk) (hlen : As.length = np) (hsl : (rd_en (.ref q :: As)).length ≤ rd_ml y) (hW : (st.map fun v => v.category).sum ≤ 8)
    (k : rd_G y 0 (rd_ep (rd_ml y) (.ref q :: As)) [] M 0 (fun r M' => ∃ v, r = .inl v ∧ rd_G x (pc + 3) L (v.toList ++ st) M' (n + rd_cp y) Q)) : rd_G x pc L stk M n Q := by
  subst hst
  intro p l e R s m args below meth c σ D cA A C H locs ls cells slots hc hs hP hS hl T hT X
  obtain ⟨hx, hb, hml, hown, hts, hK, hj, hA, hAs, hrm, hrt, hlks, htb, hXF, hSC⟩ := id C
  obtain ⟨hok, hlink, hinst, hy, hnp, Cn, Tn, Nn, hcl, hsel⟩ := hk
  obtain ⟨mk9, methM9, cM, hnamed9, hmethM9, -, -, -, -, -, -, hsigM⟩ := rd_ok_code hok hts
  obtain ⟨mk, methM, hnamed, hmethM, hstM, habM⟩ := Cond.instanceMethod_spec (hts _ hinst)
  cases hnamed.symm.trans hnamed9
  cases hmethM.symm.trans hmethM9
  subst hT
  obtain ⟨rr, hr1, cellB, hq1, hq2, hq3, -⟩ := hP q _ (rd_wd_at (σ := σ) (cA := cA) (M := M) hq)
  cases hr1.symm.trans hcl
  obtain ⟨-, hfc, -⟩ := hK.1 ci _ hcl
  have hcls : s.vm.findClass Cn = some cellB.cls := by rw [hq2]; exact hfc
  obtain ⟨c2, r2, m2, q1, q2, q3, q4, kP, hkP, hkPi⟩ := Cond.selects_spec (hts _ hsel)
  cases hcls.symm.trans q1
  cases (State.methodFound?_of_named hnamed hy).symm.trans q2
  cases hnamed.symm.trans q3
  have hselP : selectMethod e.platform s.vm cellB.cls mk9 = .method mk9 := by rw [Launch.admits_selectMethod X.admits]; exact q4
  have hnp' : (As.map (rd_pv σ)).length = methM9.sig.parameters.length := by
    rw [hsigM] at hnp
    have := Option.some.inj hnp
    rw [List.length_map, hlen, ← this]
  obtain ⟨vm₁, X₁, hstep₁⟩ := X.invokevirtual hx hown (hts _ hlink) hnamed hmethM hstM hkP hkPi hy (a := σ q) (cell := cellB) hq1 (fun z h => by rw [hq3] at h; cases h) hselP hmethM habM hkP hkPi (g := F0 m pc ls ((As.reverse ++ .ref q :: st).map (rd_pv σ))) rfl (argsL := As.map (rd_pv σ)) (rest := st.map (rd_pv σ)) hnp' (by simp [rd_pv]) (by rw [hb]; exact hd)
  obtain ⟨t, hs1, o, r, M', b1, b2, b3, ⟨v, rfl, hG⟩, b5, Lc, b6, b7, b8, b9⟩ := rd_run (T := T.setVm vm₁) (As := .ref q :: As) (g := F0 m pc ls (st.map (rd_pv σ))) (ig := .invokevirtual ix) (len := 3) X₁ C rfl (hl.1.trans hml.symm) (by rw [hb]; exact hd) (by rw [rd_cats]; simpa using hW) hok hdp hlb hc hs hcp (X₁.named hnamed) hP hS hsl k
  have b3 : o = .returned (v.map (rd_pv σ)) := b3
  subst b3
  obtain ⟨t2, c1, c2⟩ := rd_back (y := y) (T := T.setVm vm₁) X₁ C rfl (by rw [hb]; exact hd) hc hs hS hl b2 b5 b6 b7 b8 b9 hG
  exact ⟨t2, hstep₁ _ fun acts => by rw [doInvoke_state]; exact hs1.trans c1, c2⟩
end RdCalls
end
section
/-! methods: code, name, the row of what is fixed of them -/
abbrev c_C_has : ByteArray := prog_3_method_2_code
def y_C_has : MethodName := ⟨"ReinsuranceDesk$Claims", "has", "(I)Z"⟩
def x_C_has : rd_X := (y_C_has, c_C_has, 2, some .boolean, [], 0, 0, 0, none)
theorem ok_C_has : rd_ok x_C_has := ⟨rfl, by decide +kernel, rd_m 3 (by decide +kernel), Or.inl ⟨rd_m 377 (by decide +kernel), rfl⟩⟩
abbrev c_C_placeByHour : ByteArray := prog_3_method_4_code
def y_C_placeByHour : MethodName := ⟨"ReinsuranceDesk$Claims", "placeByHour", "(I)V"⟩
def x_C_placeByHour : rd_X := (y_C_placeByHour, c_C_placeByHour, 3, none, [], 0, 0, 0, none)
theorem ok_C_placeByHour : rd_ok x_C_placeByHour := ⟨rfl, by decide +kernel, rd_m 3 (by decide +kernel), Or.inl ⟨rd_m 366 (by decide +kernel), rfl⟩⟩
abbrev c_D_isAmount : ByteArray := prog_1_method_22_code
def y_D_isAmount : MethodName := ⟨"ReinsuranceDesk", "isAmount", "(I)Z"⟩
def x_D_isAmount : rd_X := (y_D_isAmount, c_D_isAmount, 1, some .boolean, [], 0, 0, 0, none)
theorem ok_D_isAmount : rd_ok x_D_isAmount := ⟨rfl, by decide +kernel, rd_m 1 (by decide +kernel), Or.inl ⟨rd_m 309 (by decide +kernel), rfl⟩⟩
abbrev c_D_isBelow : ByteArray := prog_1_method_20_code
def y_D_isBelow : MethodName := ⟨"ReinsuranceDesk", "isBelow", "(II)Z"⟩
def x_D_isBelow : rd_X := (y_D_isBelow, c_D_isBelow, 2, some .boolean, [], 0, 0, 0, none)
theorem ok_D_isBelow : rd_ok x_D_isBelow := ⟨rfl, by decide +kernel, rd_m 1 (by decide +kernel), Or.inl ⟨rd_m 208 (by decide +kernel), rfl⟩⟩
abbrev c_D_isFromOne : ByteArray := prog_1_method_21_code
def y_D_isFromOne : MethodName := ⟨"ReinsuranceDesk", "isFromOne", "(II)Z"⟩
def x_D_isFromOne : rd_X := (y_D_isFromOne, c_D_isFromOne, 2, some .boolean, [], 0, 0, 0, none)
theorem ok_D_isFromOne : rd_ok x_D_isFromOne := ⟨rfl, by decide +kernel, rd_m 1 (by decide +kernel), Or.inl ⟨rd_m 212 (by decide +kernel), rfl⟩⟩
abbrev c_D_yearOfClaim : ByteArray := prog_1_method_19_code
def y_D_yearOfClaim : MethodName := ⟨"ReinsuranceDesk", "yearOfClaim", "(I)I"⟩
def x_D_yearOfClaim : rd_X := (y_D_yearOfClaim, c_D_yearOfClaim, 2, some .int, [], 0, 0, 0, none)
theorem ok_D_yearOfClaim : rd_ok x_D_yearOfClaim := ⟨rfl, by decide +kernel, rd_m 1 (by decide +kernel), Or.inl ⟨rd_m 382 (by decide +kernel), rfl⟩⟩
abbrev c_J_fillI : ByteArray := prog_15_method_103_code
def y_J_fillI : MethodName := ⟨"java/util/Arrays", "fill", "([II)V"⟩
def x_J_fillI : rd_X := (y_J_fillI, c_J_fillI, 4, none, [], 0, 0, 0, none)
theorem ok_J_fillI : rd_ok x_J_fillI := ⟨rfl, by decide +kernel, rd_m 12 (by decide +kernel), Or.inl ⟨rd_m 417 (by decide +kernel), rfl⟩⟩
abbrev c_J_fillJ : ByteArray := prog_15_method_101_code
def y_J_fillJ : MethodName := ⟨"java/util/Arrays", "fill", "([JJ)V"⟩
def x_J_fillJ : rd_X := (y_J_fillJ, c_J_fillJ, 5, none, [], 0, 0, 0, none)
theorem ok_J_fillJ : rd_ok x_J_fillJ := ⟨rfl, by decide +kernel, rd_m 12 (by decide +kernel), Or.inl ⟨rd_m 420 (by decide +kernel), rfl⟩⟩
abbrev c_J_max : ByteArray := prog_11_method_66_code
def y_J_max : MethodName := ⟨"java/lang/Math", "max", "(JJ)J"⟩
def x_J_max : rd_X := (y_J_max, c_J_max, 4, some .long, [], 0, 0, 0, none)
theorem ok_J_max : rd_ok x_J_max := ⟨rfl, by decide +kernel, rd_m 13 (by decide +kernel), Or.inl ⟨rd_m 439 (by decide +kernel), rfl⟩⟩
abbrev c_J_min : ByteArray := prog_11_method_70_code
def y_J_min : MethodName := ⟨"java/lang/Math", "min", "(JJ)J"⟩
def x_J_min : rd_X := (y_J_min, c_J_min, 4, some .long, [], 0, 0, 0, none)
theorem ok_J_min : rd_ok x_J_min := ⟨rfl, by decide +kernel, rd_m 13 (by decide +kernel), Or.inl ⟨rd_m 443 (by decide +kernel), rfl⟩⟩
abbrev c_M_allowed : ByteArray := prog_7_method_25_code
def y_M_allowed : MethodName := ⟨"ReinsuranceDeskModel", "allowed", "(IJ)J"⟩
def x_M_allowed : rd_X := (y_M_allowed, c_M_allowed, 10, some .long, [], 0, 0, 0, none)
theorem ok_M_allowed : rd_ok x_M_allowed := ⟨rfl, by decide +kernel, rd_m 6 (by decide +kernel), Or.inl ⟨rd_m 822 (by decide +kernel), rfl⟩⟩
abbrev c_M_claimYear : ByteArray := prog_7_method_10_code
def y_M_claimYear : MethodName := ⟨"ReinsuranceDeskModel", "claimYear", "(I)I"⟩
def x_M_claimYear : rd_X := (y_M_claimYear, c_M_claimYear, 2, some .int, [], 0, 0, 0, none)
theorem ok_M_claimYear : rd_ok x_M_claimYear := ⟨rfl, by decide +kernel, rd_m 6 (by decide +kernel), Or.inl ⟨rd_m 771 (by decide +kernel), rfl⟩⟩
abbrev c_M_in : ByteArray := prog_7_method_4_code
def y_M_in : MethodName := ⟨"ReinsuranceDeskModel", "in", "(JJJ)Z"⟩
def x_M_in : rd_X := (y_M_in, c_M_in, 6, some .boolean, [], 0, 0, 0, none)
theorem ok_M_in : rd_ok x_M_in := ⟨rfl, by decide +kernel, rd_m 6 (by decide +kernel), Or.inl ⟨rd_m 716 (by decide +kernel), rfl⟩⟩
abbrev c_M_kindOf : ByteArray := prog_7_method_8_code
def y_M_kindOf : MethodName := ⟨"ReinsuranceDeskModel", "kindOf", "(I)I"⟩
def x_M_kindOf : rd_X := (y_M_kindOf, c_M_kindOf, 2, some .int, [], 0, 0, 0, none)
theorem ok_M_kindOf : rd_ok x_M_kindOf := ⟨rfl, by decide +kernel, rd_m 6 (by decide +kernel), Or.inl ⟨rd_m 795 (by decide +kernel), rfl⟩⟩
abbrev c_M_layer : ByteArray := prog_7_method_24_code
def y_M_layer : MethodName := ⟨"ReinsuranceDeskModel", "layer", "(JJJ)J"⟩
def x_M_layer : rd_X := (y_M_layer, c_M_layer, 8, some .long, [], 0, 0, 0, none)
theorem ok_M_layer : rd_ok x_M_layer := ⟨rfl, by decide +kernel, rd_m 6 (by decide +kernel), Or.inl ⟨rd_m 818 (by decide +kernel), rfl⟩⟩
abbrev c_M_shareOf : ByteArray := prog_7_method_39_code
def y_M_shareOf : MethodName := ⟨"ReinsuranceDeskModel", "shareOf", "(IIJ)J"⟩
def x_M_shareOf : rd_X := (y_M_shareOf, c_M_shareOf, 5, some .long, [], 0, 0, 0, none)
theorem ok_M_shareOf : rd_ok x_M_shareOf := ⟨rfl, by decide +kernel, rd_m 6 (by decide +kernel), Or.inl ⟨rd_m 870 (by decide +kernel), rfl⟩⟩
abbrev c_M_take : ByteArray := prog_7_method_23_code
def y_M_take : MethodName := ⟨"ReinsuranceDeskModel", "take", "(IIJ)V"⟩
def x_M_take : rd_X := (y_M_take, c_M_take, 5, none, [], 0, 0, 0, none)
theorem ok_M_take : rd_ok x_M_take := ⟨rfl, by decide +kernel, rd_m 6 (by decide +kernel), Or.inl ⟨rd_m 811 (by decide +kernel), rfl⟩⟩
abbrev c_M_throwing : ByteArray := prog_7_method_3_code
def y_M_throwing : MethodName := ⟨"ReinsuranceDeskModel", "throwing", "(ZZ)Z"⟩
def x_M_throwing : rd_X := (y_M_throwing, c_M_throwing, 3, some .boolean, [], 0, 0, 0, none)
theorem ok_M_throwing : rd_ok x_M_throwing := ⟨rfl, by decide +kernel, rd_m 6 (by decide +kernel), Or.inl ⟨rd_m 722 (by decide +kernel), rfl⟩⟩
abbrev c_M_thrown : ByteArray := prog_7_method_2_code
def y_M_thrown : MethodName := ⟨"ReinsuranceDeskModel", "thrown", "()I"⟩
def x_M_thrown : rd_X := (y_M_thrown, c_M_thrown, 1, some .int, [], 0, 0, 0, none)
theorem ok_M_thrown : rd_ok x_M_thrown := ⟨rfl, by decide +kernel, rd_m 6 (by decide +kernel), Or.inl ⟨rd_m 708 (by decide +kernel), rfl⟩⟩
abbrev c_M_treatyYear : ByteArray := prog_7_method_9_code
def y_M_treatyYear : MethodName := ⟨"ReinsuranceDeskModel", "treatyYear", "(I)I"⟩
def x_M_treatyYear : rd_X := (y_M_treatyYear, c_M_treatyYear, 2, some .int, [], 0, 0, 0, none)
theorem ok_M_treatyYear : rd_ok x_M_treatyYear := ⟨rfl, by decide +kernel, rd_m 6 (by decide +kernel), Or.inl ⟨rd_m 753 (by decide +kernel), rfl⟩⟩
abbrev c_R_isTold : ByteArray := prog_4_method_2_code
def y_R_isTold : MethodName := ⟨"ReinsuranceDesk$Risks", "isTold", "(I)Z"⟩
def x_R_isTold : rd_X := (y_R_isTold, c_R_isTold, 2, some .boolean, [], 0, 0, 0, none)
theorem ok_R_isTold : rd_ok x_R_isTold := ⟨rfl, by decide +kernel, rd_m 2 (by decide +kernel), Or.inl ⟨rd_m 283 (by decide +kernel), rfl⟩⟩
abbrev c_S_dropOutside : ByteArray := prog_2_method_16_code
def y_S_dropOutside : MethodName := ⟨"ReinsuranceDesk$Cession", "dropOutside", "(I)V"⟩
def x_S_dropOutside : rd_X := (y_S_dropOutside, c_S_dropOutside, 5, none, [], 0, 0, 0, none)
theorem ok_S_dropOutside : rd_ok x_S_dropOutside := ⟨rfl, by decide +kernel, rd_m 5 (by decide +kernel), Or.inl ⟨rd_m 489 (by decide +kernel), rfl⟩⟩
abbrev c_S_gatherEvent : ByteArray := prog_2_method_13_code
def y_S_gatherEvent : MethodName := ⟨"ReinsuranceDesk$Cession", "gatherEvent", "(I)V"⟩
def x_S_gatherEvent : rd_X := (y_S_gatherEvent, c_S_gatherEvent, 3, none, [], 0, 0, 0, none)
theorem ok_S_gatherEvent : rd_ok x_S_gatherEvent := ⟨rfl, by decide +kernel, rd_m 5 (by decide +kernel), Or.inl ⟨rd_m 476 (by decide +kernel), rfl⟩⟩
abbrev c_S_greatestRemainder : ByteArray := prog_2_method_18_code
def y_S_greatestRemainder : MethodName := ⟨"ReinsuranceDesk$Cession", "greatestRemainder", "()I"⟩
def x_S_greatestRemainder : rd_X := (y_S_greatestRemainder, c_S_greatestRemainder, 3, some .int, [], 0, 0, 0, none)
theorem ok_S_greatestRemainder : rd_ok x_S_greatestRemainder := ⟨rfl, by decide +kernel, rd_m 5 (by decide +kernel), Or.inl ⟨rd_m 497 (by decide +kernel), rfl⟩⟩
abbrev c_S_keptFrom : ByteArray := prog_2_method_14_code
def y_S_keptFrom : MethodName := ⟨"ReinsuranceDesk$Cession", "keptFrom", "(I)J"⟩
def x_S_keptFrom : rd_X := (y_S_keptFrom, c_S_keptFrom, 6, some .long, [], 0, 0, 0, none)
theorem ok_S_keptFrom : rd_ok x_S_keptFrom := ⟨rfl, by decide +kernel, rd_m 5 (by decide +kernel), Or.inl ⟨rd_m 485 (by decide +kernel), rfl⟩⟩
abbrev c_S_take : ByteArray := prog_2_method_7_code
def y_S_take : MethodName := ⟨"ReinsuranceDesk$Cession", "take", "(IIJ)V"⟩
def x_S_take : rd_X := (y_S_take, c_S_take, 5, none, [], 0, 0, 0, none)
theorem ok_S_take : rd_ok x_S_take := ⟨rfl, by decide +kernel, rd_m 5 (by decide +kernel), Or.inl ⟨rd_m 452 (by decide +kernel), rfl⟩⟩
abbrev c_T_add : ByteArray := prog_5_method_4_code
def y_T_add : MethodName := ⟨"ReinsuranceDesk$Treaties", "add", "(IIIII)I"⟩
def x_T_add : rd_X := (y_T_add, c_T_add, 7, some .int, [], 0, 0, 0, none)
theorem ok_T_add : rd_ok x_T_add := ⟨rfl, by decide +kernel, rd_m 4 (by decide +kernel), Or.inl ⟨rd_m 331 (by decide +kernel), rfl⟩⟩
abbrev c_T_has : ByteArray := prog_5_method_2_code
def y_T_has : MethodName := ⟨"ReinsuranceDesk$Treaties", "has", "(I)Z"⟩
def x_T_has : rd_X := (y_T_has, c_T_has, 2, some .boolean, [], 0, 0, 0, none)
theorem ok_T_has : rd_ok x_T_has := ⟨rfl, by decide +kernel, rd_m 4 (by decide +kernel), Or.inl ⟨rd_m 342 (by decide +kernel), rfl⟩⟩
abbrev c_T_isExcess : ByteArray := prog_5_method_3_code
def y_T_isExcess : MethodName := ⟨"ReinsuranceDesk$Treaties", "isExcess", "(I)Z"⟩
def x_T_isExcess : rd_X := (y_T_isExcess, c_T_isExcess, 2, some .boolean, [], 0, 0, 0, none)
theorem ok_T_isExcess : rd_ok x_T_isExcess := ⟨rfl, by decide +kernel, rd_m 4 (by decide +kernel), Or.inl ⟨rd_m 520 (by decide +kernel), rfl⟩⟩
abbrev c_T_limitOf : ByteArray := prog_5_method_9_code
def y_T_limitOf : MethodName := ⟨"ReinsuranceDesk$Treaties", "limitOf", "(I)J"⟩
def x_T_limitOf : rd_X := (y_T_limitOf, c_T_limitOf, 2, some .long, [], 0, 0, 0, none)
theorem ok_T_limitOf : rd_ok x_T_limitOf := ⟨rfl, by decide +kernel, rd_m 4 (by decide +kernel), Or.inl ⟨rd_m 468 (by decide +kernel), rfl⟩⟩
abbrev c_T_partOf : ByteArray := prog_5_method_6_code
def y_T_partOf : MethodName := ⟨"ReinsuranceDesk$Treaties", "partOf", "(JII)J"⟩
def x_T_partOf : rd_X := (y_T_partOf, c_T_partOf, 5, some .long, [], 0, 0, 0, none)
theorem ok_T_partOf : rd_ok x_T_partOf := ⟨rfl, by decide +kernel, rd_m 4 (by decide +kernel), Or.inl ⟨rd_m 565 (by decide +kernel), rfl⟩⟩
abbrev c_T_partsOfOthers : ByteArray := prog_5_method_5_code
def y_T_partsOfOthers : MethodName := ⟨"ReinsuranceDesk$Treaties", "partsOfOthers", "(II)I"⟩
def x_T_partsOfOthers : rd_X := (y_T_partsOfOthers, c_T_partsOfOthers, 5, some .int, [], 0, 0, 0, none)
theorem ok_T_partsOfOthers : rd_ok x_T_partsOfOthers := ⟨rfl, by decide +kernel, rd_m 4 (by decide +kernel), Or.inl ⟨rd_m 347 (by decide +kernel), rfl⟩⟩
abbrev c_C_add : ByteArray := prog_3_method_3_code
def y_C_add : MethodName := ⟨"ReinsuranceDesk$Claims", "add", "(III)I"⟩
def x_C_add : rd_X := (y_C_add, c_C_add, 5, some .int, [], 1, 22, 0, none)
theorem ok_C_add : rd_ok x_C_add := ⟨rfl, by decide +kernel, rd_m 3 (by decide +kernel), Or.inl ⟨rd_m 362 (by decide +kernel), rfl⟩⟩
abbrev c_D_areTerms : ByteArray := prog_1_method_24_code
def y_D_areTerms : MethodName := ⟨"ReinsuranceDesk", "areTerms", "(IIIII)Z"⟩
def x_D_areTerms : rd_X := (y_D_areTerms, c_D_areTerms, 5, some .boolean, [], 1, 21, 0, none)
theorem ok_D_areTerms : rd_ok x_D_areTerms := ⟨rfl, by decide +kernel, rd_m 1 (by decide +kernel), Or.inl ⟨rd_m 324 (by decide +kernel), rfl⟩⟩
abbrev c_D_isShape : ByteArray := prog_1_method_23_code
def y_D_isShape : MethodName := ⟨"ReinsuranceDesk", "isShape", "(I)Z"⟩
def x_D_isShape : rd_X := (y_D_isShape, c_D_isShape, 1, some .boolean, [], 1, 21, 0, none)
theorem ok_D_isShape : rd_ok x_D_isShape := ⟨rfl, by decide +kernel, rd_m 1 (by decide +kernel), Or.inl ⟨rd_m 321 (by decide +kernel), rfl⟩⟩
abbrev c_M_areSo : ByteArray := prog_7_method_13_code
def y_M_areSo : MethodName := ⟨"ReinsuranceDeskModel", "areSo", "(IIIII)Z"⟩
def x_M_areSo : rd_X := (y_M_areSo, c_M_areSo, 5, some .boolean, [], 1, 25, 0, none)
theorem ok_M_areSo : rd_ok x_M_areSo := ⟨rfl, by decide +kernel, rd_m 6 (by decide +kernel), Or.inl ⟨rd_m 738 (by decide +kernel), rfl⟩⟩
abbrev c_M_counts : ByteArray := prog_7_method_21_code
def y_M_counts : MethodName := ⟨"ReinsuranceDeskModel", "counts", "(II)Z"⟩
def x_M_counts : rd_X := (y_M_counts, c_M_counts, 3, some .boolean, [], 1, 21, 0, none)
theorem ok_M_counts : rd_ok x_M_counts := ⟨rfl, by decide +kernel, rd_m 6 (by decide +kernel), Or.inl ⟨rd_m 803 (by decide +kernel), rfl⟩⟩
abbrev c_M_dissolve : ByteArray := prog_7_method_19_code
def y_M_dissolve : MethodName := ⟨"ReinsuranceDeskModel", "dissolve", "(II)I"⟩
def x_M_dissolve : rd_X := (y_M_dissolve, c_M_dissolve, 6, some .int, [], 1, 25, 0, none)
theorem ok_M_dissolve : rd_ok x_M_dissolve := ⟨rfl, by decide +kernel, rd_m 6 (by decide +kernel), Or.inl ⟨rd_m 779 (by decide +kernel), rfl⟩⟩
abbrev c_M_isClaim : ByteArray := prog_7_method_6_code
def y_M_isClaim : MethodName := ⟨"ReinsuranceDeskModel", "isClaim", "(I)Z"⟩
def x_M_isClaim : rd_X := (y_M_isClaim, c_M_isClaim, 2, some .boolean, [], 1, 25, 0, none)
theorem ok_M_isClaim : rd_ok x_M_isClaim := ⟨rfl, by decide +kernel, rd_m 6 (by decide +kernel), Or.inl ⟨rd_m 767 (by decide +kernel), rfl⟩⟩
abbrev c_M_isRisk : ByteArray := prog_7_method_5_code
def y_M_isRisk : MethodName := ⟨"ReinsuranceDeskModel", "isRisk", "(I)Z"⟩
def x_M_isRisk : rd_X := (y_M_isRisk, c_M_isRisk, 2, some .boolean, [], 1, 25, 0, none)
theorem ok_M_isRisk : rd_ok x_M_isRisk := ⟨rfl, by decide +kernel, rd_m 6 (by decide +kernel), Or.inl ⟨rd_m 730 (by decide +kernel), rfl⟩⟩
abbrev c_M_isTreaty : ByteArray := prog_7_method_7_code
def y_M_isTreaty : MethodName := ⟨"ReinsuranceDeskModel", "isTreaty", "(I)Z"⟩
def x_M_isTreaty : rd_X := (y_M_isTreaty, c_M_isTreaty, 2, some .boolean, [], 1, 25, 0, none)
theorem ok_M_isTreaty : rd_ok x_M_isTreaty := ⟨rfl, by decide +kernel, rd_m 6 (by decide +kernel), Or.inl ⟨rd_m 749 (by decide +kernel), rfl⟩⟩
abbrev c_M_partOf : ByteArray := prog_7_method_22_code
def y_M_partOf : MethodName := ⟨"ReinsuranceDeskModel", "partOf", "(II)J"⟩
def x_M_partOf : rd_X := (y_M_partOf, c_M_partOf, 7, some .long, [], 1, 21, 0, none)
theorem ok_M_partOf : rd_ok x_M_partOf := ⟨rfl, by decide +kernel, rd_m 6 (by decide +kernel), Or.inl ⟨rd_m 807 (by decide +kernel), rfl⟩⟩
abbrev c_M_ratio : ByteArray := prog_7_method_36_code
def y_M_ratio : MethodName := ⟨"ReinsuranceDeskModel", "ratio", "(I)J"⟩
def x_M_ratio : rd_X := (y_M_ratio, c_M_ratio, 4, some .long, [], 1, 21, 0, none)
theorem ok_M_ratio : rd_ok x_M_ratio := ⟨rfl, by decide +kernel, rd_m 6 (by decide +kernel), Or.inl ⟨rd_m 855 (by decide +kernel), rfl⟩⟩
abbrev c_M_reinstatement : ByteArray := prog_7_method_40_code
def y_M_reinstatement : MethodName := ⟨"ReinsuranceDeskModel", "reinstatement", "(II)J"⟩
def x_M_reinstatement : rd_X := (y_M_reinstatement, c_M_reinstatement, 7, some .long, [], 1, 24, 0, none)
theorem ok_M_reinstatement : rd_ok x_M_reinstatement := ⟨rfl, by decide +kernel, rd_m 6 (by decide +kernel), Or.inl ⟨rd_m 874 (by decide +kernel), rfl⟩⟩
abbrev c_M_risk : ByteArray := prog_7_method_11_code
def y_M_risk : MethodName := ⟨"ReinsuranceDeskModel", "risk", "(III)V"⟩
def x_M_risk : rd_X := (y_M_risk, c_M_risk, 5, none, [], 1, 25, 0, none)
theorem ok_M_risk : rd_ok x_M_risk := ⟨rfl, by decide +kernel, rd_m 6 (by decide +kernel), Or.inl ⟨rd_m 712 (by decide +kernel), rfl⟩⟩
abbrev c_M_spread : ByteArray := prog_7_method_26_code
def y_M_spread : MethodName := ⟨"ReinsuranceDeskModel", "spread", "(IJJ)V"⟩
def x_M_spread : rd_X := (y_M_spread, c_M_spread, 11, none, [], 1, 24, 0, none)
theorem ok_M_spread : rd_ok x_M_spread := ⟨rfl, by decide +kernel, rd_m 6 (by decide +kernel), Or.inl ⟨rd_m 834 (by decide +kernel), rfl⟩⟩
abbrev c_M_year : ByteArray := prog_7_method_20_code
def y_M_year : MethodName := ⟨"ReinsuranceDeskModel", "year", "(IZ)V"⟩
def x_M_year : rd_X := (y_M_year, c_M_year, 4, none, [], 1, 25, 0, none)
theorem ok_M_year : rd_ok x_M_year := ⟨rfl, by decide +kernel, rd_m 6 (by decide +kernel), Or.inl ⟨rd_m 783 (by decide +kernel), rfl⟩⟩
abbrev c_S_begin : ByteArray := prog_2_method_4_code
def y_S_begin : MethodName := ⟨"ReinsuranceDesk$Cession", "begin", "(I)V"⟩
def x_S_begin : rd_X := (y_S_begin, c_S_begin, 3, none, [], 1, 24, 0, none)
theorem ok_S_begin : rd_ok x_S_begin := ⟨rfl, by decide +kernel, rd_m 5 (by decide +kernel), Or.inl ⟨rd_m 414 (by decide +kernel), rfl⟩⟩
abbrev c_S_ratioOf : ByteArray := prog_2_method_19_code
def y_S_ratioOf : MethodName := ⟨"ReinsuranceDesk$Cession", "ratioOf", "(I)J"⟩
def x_S_ratioOf : rd_X := (y_S_ratioOf, c_S_ratioOf, 2, some .long, [], 1, 23, 0, none)
theorem ok_S_ratioOf : rd_ok x_S_ratioOf := ⟨rfl, by decide +kernel, rd_m 5 (by decide +kernel), Or.inl ⟨rd_m 542 (by decide +kernel), rfl⟩⟩
abbrev c_S_reinstatementOf : ByteArray := prog_2_method_21_code
def y_S_reinstatementOf : MethodName := ⟨"ReinsuranceDesk$Cession", "reinstatementOf", "(I)J"⟩
def x_S_reinstatementOf : rd_X := (y_S_reinstatementOf, c_S_reinstatementOf, 6, some .long, [], 1, 23, 0, none)
theorem ok_S_reinstatementOf : rd_ok x_S_reinstatementOf := ⟨rfl, by decide +kernel, rd_m 5 (by decide +kernel), Or.inl ⟨rd_m 569 (by decide +kernel), rfl⟩⟩
abbrev c_S_startOfWindow : ByteArray := prog_2_method_15_code
def y_S_startOfWindow : MethodName := ⟨"ReinsuranceDesk$Cession", "startOfWindow", "()I"⟩
def x_S_startOfWindow : rd_X := (y_S_startOfWindow, c_S_startOfWindow, 8, some .int, [], 1, 25, 0, none)
theorem ok_S_startOfWindow : rd_ok x_S_startOfWindow := ⟨rfl, by decide +kernel, rd_m 5 (by decide +kernel), Or.inl ⟨rd_m 480 (by decide +kernel), rfl⟩⟩
abbrev c_S_takeByParts : ByteArray := prog_2_method_17_code
def y_S_takeByParts : MethodName := ⟨"ReinsuranceDesk$Cession", "takeByParts", "(IJJ)V"⟩
def x_S_takeByParts : rd_X := (y_S_takeByParts, c_S_takeByParts, 11, none, [], 1, 24, 0, none)
theorem ok_S_takeByParts : rd_ok x_S_takeByParts := ⟨rfl, by decide +kernel, rd_m 5 (by decide +kernel), Or.inl ⟨rd_m 493 (by decide +kernel), rfl⟩⟩
abbrev c_T_layerOf : ByteArray := prog_5_method_8_code
def y_T_layerOf : MethodName := ⟨"ReinsuranceDesk$Treaties", "layerOf", "(IJ)J"⟩
def x_T_layerOf : rd_X := (y_T_layerOf, c_T_layerOf, 4, some .long, [], 1, 23, 0, none)
theorem ok_T_layerOf : rd_ok x_T_layerOf := ⟨rfl, by decide +kernel, rd_m 4 (by decide +kernel), Or.inl ⟨rd_m 460 (by decide +kernel), rfl⟩⟩
abbrev c_T_partOfRisk : ByteArray := prog_5_method_7_code
def y_T_partOfRisk : MethodName := ⟨"ReinsuranceDesk$Treaties", "partOfRisk", "(IJ)J"⟩
def x_T_partOfRisk : rd_X := (y_T_partOfRisk, c_T_partOfRisk, 6, some .long, [], 1, 23, 0, none)
theorem ok_T_partOfRisk : rd_ok x_T_partOfRisk := ⟨rfl, by decide +kernel, rd_m 4 (by decide +kernel), Or.inl ⟨rd_m 436 (by decide +kernel), rfl⟩⟩
abbrev c_T_takenOfLayers : ByteArray := prog_5_method_10_code
def y_T_takenOfLayers : MethodName := ⟨"ReinsuranceDesk$Treaties", "takenOfLayers", "(IJ)J"⟩
def x_T_takenOfLayers : rd_X := (y_T_takenOfLayers, c_T_takenOfLayers, 4, some .long, [], 1, 23, 0, none)
theorem ok_T_takenOfLayers : rd_ok x_T_takenOfLayers := ⟨rfl, by decide +kernel, rd_m 4 (by decide +kernel), Or.inl ⟨rd_m 464 (by decide +kernel), rfl⟩⟩
abbrev c_M_claim : ByteArray := prog_7_method_16_code
def y_M_claim : MethodName := ⟨"ReinsuranceDeskModel", "claim", "(III)I"⟩
def x_M_claim : rd_X := (y_M_claim, c_M_claim, 5, some .int, [], 2, 46, 0, none)
theorem ok_M_claim : rd_ok x_M_claim := ⟨rfl, by decide +kernel, rd_m 6 (by decide +kernel), Or.inl ⟨rd_m 757 (by decide +kernel), rfl⟩⟩
abbrev c_M_commission : ByteArray := prog_7_method_37_code
def y_M_commission : MethodName := ⟨"ReinsuranceDeskModel", "commission", "(I)J"⟩
def x_M_commission : rd_X := (y_M_commission, c_M_commission, 6, some .long, [], 2, 44, 0, none)
theorem ok_M_commission : rd_ok x_M_commission := ⟨rfl, by decide +kernel, rd_m 6 (by decide +kernel), Or.inl ⟨rd_m 860 (by decide +kernel), rfl⟩⟩
abbrev c_M_estimate : ByteArray := prog_7_method_17_code
def y_M_estimate : MethodName := ⟨"ReinsuranceDeskModel", "estimate", "(II)V"⟩
def x_M_estimate : rd_X := (y_M_estimate, c_M_estimate, 4, none, [], 2, 46, 0, none)
theorem ok_M_estimate : rd_ok x_M_estimate := ⟨rfl, by decide +kernel, rd_m 6 (by decide +kernel), Or.inl ⟨rd_m 763 (by decide +kernel), rfl⟩⟩
abbrev c_M_excessOfRisks : ByteArray := prog_7_method_27_code
def y_M_excessOfRisks : MethodName := ⟨"ReinsuranceDeskModel", "excessOfRisks", "(I)V"⟩
def x_M_excessOfRisks : rd_X := (y_M_excessOfRisks, c_M_excessOfRisks, 4, none, [], 2, 43, 0, none)
theorem ok_M_excessOfRisks : rd_ok x_M_excessOfRisks := ⟨rfl, by decide +kernel, rd_m 6 (by decide +kernel), Or.inl ⟨rd_m 815 (by decide +kernel), rfl⟩⟩
abbrev c_M_inWindow : ByteArray := prog_7_method_28_code
def y_M_inWindow : MethodName := ⟨"ReinsuranceDeskModel", "inWindow", "(III)J"⟩
def x_M_inWindow : rd_X := (y_M_inWindow, c_M_inWindow, 7, some .long, [], 2, 43, 0, none)
theorem ok_M_inWindow : rd_ok x_M_inWindow := ⟨rfl, by decide +kernel, rd_m 6 (by decide +kernel), Or.inl ⟨rd_m 830 (by decide +kernel), rfl⟩⟩
abbrev c_M_premium : ByteArray := prog_7_method_12_code
def y_M_premium : MethodName := ⟨"ReinsuranceDeskModel", "premium", "(II)V"⟩
def x_M_premium : rd_X := (y_M_premium, c_M_premium, 4, none, [], 2, 46, 0, none)
theorem ok_M_premium : rd_ok x_M_premium := ⟨rfl, by decide +kernel, rd_m 6 (by decide +kernel), Or.inl ⟨rd_m 726 (by decide +kernel), rfl⟩⟩
abbrev c_M_share : ByteArray := prog_7_method_15_code
def y_M_share : MethodName := ⟨"ReinsuranceDeskModel", "share", "(III)V"⟩
def x_M_share : rd_X := (y_M_share, c_M_share, 8, none, [], 2, 46, 0, none)
theorem ok_M_share : rd_ok x_M_share := ⟨rfl, by decide +kernel, rd_m 6 (by decide +kernel), Or.inl ⟨rd_m 745 (by decide +kernel), rfl⟩⟩
abbrev c_M_strike : ByteArray := prog_7_method_18_code
def y_M_strike : MethodName := ⟨"ReinsuranceDeskModel", "strike", "(I)V"⟩
def x_M_strike : rd_X := (y_M_strike, c_M_strike, 3, none, [], 2, 46, 0, none)
theorem ok_M_strike : rd_ok x_M_strike := ⟨rfl, by decide +kernel, rd_m 6 (by decide +kernel), Or.inl ⟨rd_m 775 (by decide +kernel), rfl⟩⟩
abbrev c_M_treaty : ByteArray := prog_7_method_14_code
def y_M_treaty : MethodName := ⟨"ReinsuranceDeskModel", "treaty", "(IIIII)I"⟩
def x_M_treaty : rd_X := (y_M_treaty, c_M_treaty, 7, some .int, [], 2, 49, 0, none)
theorem ok_M_treaty : rd_ok x_M_treaty := ⟨rfl, by decide +kernel, rd_m 6 (by decide +kernel), Or.inl ⟨rd_m 734 (by decide +kernel), rfl⟩⟩
abbrev c_S_cedeExcessOfEachClaim : ByteArray := prog_2_method_10_code
def y_S_cedeExcessOfEachClaim : MethodName := ⟨"ReinsuranceDesk$Cession", "cedeExcessOfEachClaim", "(I)V"⟩
def x_S_cedeExcessOfEachClaim : rd_X := (y_S_cedeExcessOfEachClaim, c_S_cedeExcessOfEachClaim, 6, none, [], 2, 46, 0, none)
theorem ok_S_cedeExcessOfEachClaim : rd_ok x_S_cedeExcessOfEachClaim := ⟨rfl, by decide +kernel, rd_m 5 (by decide +kernel), Or.inl ⟨rd_m 456 (by decide +kernel), rfl⟩⟩
abbrev c_S_cedeExcessOfEachEvent : ByteArray := prog_2_method_11_code
def y_S_cedeExcessOfEachEvent : MethodName := ⟨"ReinsuranceDesk$Cession", "cedeExcessOfEachEvent", "(I)V"⟩
def x_S_cedeExcessOfEachEvent : rd_X := (y_S_cedeExcessOfEachEvent, c_S_cedeExcessOfEachEvent, 6, none, [], 2, 54, 0, none)
theorem ok_S_cedeExcessOfEachEvent : rd_ok x_S_cedeExcessOfEachEvent := ⟨rfl, by decide +kernel, rd_m 5 (by decide +kernel), Or.inl ⟨rd_m 472 (by decide +kernel), rfl⟩⟩
abbrev c_S_cedePartOfEachClaim : ByteArray := prog_2_method_9_code
def y_S_cedePartOfEachClaim : MethodName := ⟨"ReinsuranceDesk$Cession", "cedePartOfEachClaim", "(I)V"⟩
def x_S_cedePartOfEachClaim : rd_X := (y_S_cedePartOfEachClaim, c_S_cedePartOfEachClaim, 5, none, [], 2, 48, 0, none)
theorem ok_S_cedePartOfEachClaim : rd_ok x_S_cedePartOfEachClaim := ⟨rfl, by decide +kernel, rd_m 5 (by decide +kernel), Or.inl ⟨rd_m 448 (by decide +kernel), rfl⟩⟩
abbrev c_S_cedePremiums : ByteArray := prog_2_method_8_code
def y_S_cedePremiums : MethodName := ⟨"ReinsuranceDesk$Cession", "cedePremiums", "(I)V"⟩
def x_S_cedePremiums : rd_X := (y_S_cedePremiums, c_S_cedePremiums, 5, none, [], 2, 48, 0, none)
theorem ok_S_cedePremiums : rd_ok x_S_cedePremiums := ⟨rfl, by decide +kernel, rd_m 5 (by decide +kernel), Or.inl ⟨rd_m 432 (by decide +kernel), rfl⟩⟩
abbrev c_S_cedeStopLoss : ByteArray := prog_2_method_12_code
def y_S_cedeStopLoss : MethodName := ⟨"ReinsuranceDesk$Cession", "cedeStopLoss", "(I)V"⟩
def x_S_cedeStopLoss : rd_X := (y_S_cedeStopLoss, c_S_cedeStopLoss, 5, none, [], 2, 54, 0, none)
theorem ok_S_cedeStopLoss : rd_ok x_S_cedeStopLoss := ⟨rfl, by decide +kernel, rd_m 5 (by decide +kernel), Or.inl ⟨rd_m 501 (by decide +kernel), rfl⟩⟩
abbrev c_S_commissionOf : ByteArray := prog_2_method_20_code
def y_S_commissionOf : MethodName := ⟨"ReinsuranceDesk$Cession", "commissionOf", "(I)J"⟩
def x_S_commissionOf : rd_X := (y_S_commissionOf, c_S_commissionOf, 6, some .long, [], 2, 44, 0, none)
theorem ok_S_commissionOf : rd_ok x_S_commissionOf := ⟨rfl, by decide +kernel, rd_m 5 (by decide +kernel), Or.inl ⟨rd_m 548 (by decide +kernel), rfl⟩⟩
abbrev c_M_excessOfEvents : ByteArray := prog_7_method_29_code
def y_M_excessOfEvents : MethodName := ⟨"ReinsuranceDeskModel", "excessOfEvents", "(I)V"⟩
def x_M_excessOfEvents : rd_X := (y_M_excessOfEvents, c_M_excessOfEvents, 8, none, [], 3, 69, 0, none)
theorem ok_M_excessOfEvents : rd_ok x_M_excessOfEvents := ⟨rfl, by decide +kernel, rd_m 6 (by decide +kernel), Or.inl ⟨rd_m 826 (by decide +kernel), rfl⟩⟩
abbrev c_S_cedeTo : ByteArray := prog_2_method_6_code
def y_S_cedeTo : MethodName := ⟨"ReinsuranceDesk$Cession", "cedeTo", "(I)V"⟩
def x_S_cedeTo : rd_X := (y_S_cedeTo, c_S_cedeTo, 2, none, [], 3, 79, 0, none)
theorem ok_S_cedeTo : rd_ok x_S_cedeTo := ⟨rfl, by decide +kernel, rd_m 5 (by decide +kernel), Or.inl ⟨rd_m 428 (by decide +kernel), rfl⟩⟩
abbrev c_S_owedBy : ByteArray := prog_2_method_22_code
def y_S_owedBy : MethodName := ⟨"ReinsuranceDesk$Cession", "owedBy", "(II)J"⟩
def x_S_owedBy : rd_X := (y_S_owedBy, c_S_owedBy, 6, some .long, [], 3, 69, 0, none)
theorem ok_S_owedBy : rd_ok x_S_owedBy := ⟨rfl, by decide +kernel, rd_m 5 (by decide +kernel), Or.inl ⟨rd_m 595 (by decide +kernel), rfl⟩⟩
abbrev c_M_apply : ByteArray := prog_7_method_30_code
def y_M_apply : MethodName := ⟨"ReinsuranceDeskModel", "apply", "(I)V"⟩
def x_M_apply : rd_X := (y_M_apply, c_M_apply, 6, none, [], 4, 96, 0, none)
theorem ok_M_apply : rd_ok x_M_apply := ⟨rfl, by decide +kernel, rd_m 6 (by decide +kernel), Or.inl ⟨rd_m 799 (by decide +kernel), rfl⟩⟩
abbrev c_S_cedeYear : ByteArray := prog_2_method_5_code
def y_S_cedeYear : MethodName := ⟨"ReinsuranceDesk$Cession", "cedeYear", "(I)V"⟩
def x_S_cedeYear : rd_X := (y_S_cedeYear, c_S_cedeYear, 4, none, [], 4, 100, 0, none)
theorem ok_S_cedeYear : rd_ok x_S_cedeYear := ⟨rfl, by decide +kernel, rd_m 5 (by decide +kernel), Or.inl ⟨rd_m 424 (by decide +kernel), rfl⟩⟩
abbrev c_M_reckon : ByteArray := prog_7_method_31_code
def y_M_reckon : MethodName := ⟨"ReinsuranceDeskModel", "reckon", "()V"⟩
def x_M_reckon : rd_X := (y_M_reckon, c_M_reckon, 3, none, [], 5, 121, 0, none)
theorem ok_M_reckon : rd_ok x_M_reckon := ⟨rfl, by decide +kernel, rd_m 6 (by decide +kernel), Or.inl ⟨rd_m 791 (by decide +kernel), rfl⟩⟩
abbrev c_S_workOut : ByteArray := prog_2_method_2_code
def y_S_workOut : MethodName := ⟨"ReinsuranceDesk$Cession", "workOut", "(I)V"⟩
def x_S_workOut : rd_X := (y_S_workOut, c_S_workOut, 2, none, [], 5, 123, 0, none)
theorem ok_S_workOut : rd_ok x_S_workOut := ⟨rfl, by decide +kernel, rd_m 5 (by decide +kernel), Or.inl ⟨rd_m 410 (by decide +kernel), rfl⟩⟩
abbrev c_S_workOutSupposing : ByteArray := prog_2_method_3_code
def y_S_workOutSupposing : MethodName := ⟨"ReinsuranceDesk$Cession", "workOutSupposing", "(III)V"⟩
def x_S_workOutSupposing : rd_X := (y_S_workOutSupposing, c_S_workOutSupposing, 4, none, [], 5, 123, 0, none)
theorem ok_S_workOutSupposing : rd_ok x_S_workOutSupposing := ⟨rfl, by decide +kernel, rd_m 5 (by decide +kernel), Or.inl ⟨rd_m 583 (by decide +kernel), rfl⟩⟩
abbrev c_D_bill : ByteArray := prog_1_method_17_code
def y_D_bill : MethodName := ⟨"ReinsuranceDesk", "bill", "(I)J"⟩
def x_D_bill : rd_X := (y_D_bill, c_D_bill, 6, some .long, [], 6, 144, 1, none)
theorem ok_D_bill : rd_ok x_D_bill := ⟨rfl, by decide +kernel, rd_m 1 (by decide +kernel), Or.inl ⟨rd_m 590 (by decide +kernel), rfl⟩⟩
abbrev c_D_ceded : ByteArray := prog_1_method_11_code
def y_D_ceded : MethodName := ⟨"ReinsuranceDesk", "ceded", "(II)I"⟩
def x_D_ceded : rd_X := (y_D_ceded, c_D_ceded, 3, some .int, [], 6, 144, 1, none)
theorem ok_D_ceded : rd_ok x_D_ceded := ⟨rfl, by decide +kernel, rd_m 1 (by decide +kernel), Or.inl ⟨rd_m 508 (by decide +kernel), rfl⟩⟩
abbrev c_D_claim : ByteArray := prog_1_method_6_code
def y_D_claim : MethodName := ⟨"ReinsuranceDesk", "claim", "(III)I"⟩
def x_D_claim : rd_X := (y_D_claim, c_D_claim, 4, some .int, [], 6, 100, 1, none)
theorem ok_D_claim : rd_ok x_D_claim := ⟨rfl, by decide +kernel, rd_m 1 (by decide +kernel), Or.inl ⟨rd_m 355 (by decide +kernel), rfl⟩⟩
abbrev c_D_dissolve : ByteArray := prog_1_method_9_code
def y_D_dissolve : MethodName := ⟨"ReinsuranceDesk", "dissolve", "(II)I"⟩
def x_D_dissolve : rd_X := (y_D_dissolve, c_D_dissolve, 5, some .int, [], 6, 100, 1, none)
theorem ok_D_dissolve : rd_ok x_D_dissolve := ⟨rfl, by decide +kernel, rd_m 1 (by decide +kernel), Or.inl ⟨rd_m 398 (by decide +kernel), rfl⟩⟩
abbrev c_D_due : ByteArray := prog_1_method_15_code
def y_D_due : MethodName := ⟨"ReinsuranceDesk", "due", "(III)J"⟩
def x_D_due : rd_X := (y_D_due, c_D_due, 4, some .long, [], 6, 144, 1, none)
theorem ok_D_due : rd_ok x_D_due := ⟨rfl, by decide +kernel, rd_m 1 (by decide +kernel), Or.inl ⟨rd_m 560 (by decide +kernel), rfl⟩⟩
abbrev c_D_estimate : ByteArray := prog_1_method_7_code
def y_D_estimate : MethodName := ⟨"ReinsuranceDesk", "estimate", "(II)V"⟩
def x_D_estimate : rd_X := (y_D_estimate, c_D_estimate, 3, none, [], 6, 100, 1, none)
theorem ok_D_estimate : rd_ok x_D_estimate := ⟨rfl, by decide +kernel, rd_m 1 (by decide +kernel), Or.inl ⟨rd_m 373 (by decide +kernel), rfl⟩⟩
abbrev c_D_kept : ByteArray := prog_1_method_10_code
def y_D_kept : MethodName := ⟨"ReinsuranceDesk", "kept", "(I)I"⟩
def x_D_kept : rd_X := (y_D_kept, c_D_kept, 2, some .int, [], 6, 144, 1, none)
theorem ok_D_kept : rd_ok x_D_kept := ⟨rfl, by decide +kernel, rd_m 1 (by decide +kernel), Or.inl ⟨rd_m 406 (by decide +kernel), rfl⟩⟩
abbrev c_D_left : ByteArray := prog_1_method_12_code
def y_D_left : MethodName := ⟨"ReinsuranceDesk", "left", "(I)J"⟩
def x_D_left : rd_X := (y_D_left, c_D_left, 2, some .long, [], 6, 144, 1, none)
theorem ok_D_left : rd_ok x_D_left := ⟨rfl, by decide +kernel, rd_m 1 (by decide +kernel), Or.inl ⟨rd_m 516 (by decide +kernel), rfl⟩⟩
abbrev c_D_premium : ByteArray := prog_1_method_3_code
def y_D_premium : MethodName := ⟨"ReinsuranceDesk", "premium", "(II)V"⟩
def x_D_premium : rd_X := (y_D_premium, c_D_premium, 3, none, [], 6, 100, 1, none)
theorem ok_D_premium : rd_ok x_D_premium := ⟨rfl, by decide +kernel, rd_m 1 (by decide +kernel), Or.inl ⟨rd_m 306 (by decide +kernel), rfl⟩⟩
abbrev c_D_risk : ByteArray := prog_1_method_2_code
def y_D_risk : MethodName := ⟨"ReinsuranceDesk", "risk", "(III)V"⟩
def x_D_risk : rd_X := (y_D_risk, c_D_risk, 4, none, [], 6, 100, 1, none)
theorem ok_D_risk : rd_ok x_D_risk := ⟨rfl, by decide +kernel, rd_m 1 (by decide +kernel), Or.inl ⟨rd_m 205 (by decide +kernel), rfl⟩⟩
abbrev c_D_share : ByteArray := prog_1_method_5_code
def y_D_share : MethodName := ⟨"ReinsuranceDesk", "share", "(III)V"⟩
def x_D_share : rd_X := (y_D_share, c_D_share, 4, none, [], 6, 100, 1, none)
theorem ok_D_share : rd_ok x_D_share := ⟨rfl, by decide +kernel, rd_m 1 (by decide +kernel), Or.inl ⟨rd_m 338 (by decide +kernel), rfl⟩⟩
abbrev c_D_strike : ByteArray := prog_1_method_8_code
def y_D_strike : MethodName := ⟨"ReinsuranceDesk", "strike", "(I)V"⟩
def x_D_strike : rd_X := (y_D_strike, c_D_strike, 2, none, [], 6, 100, 1, none)
theorem ok_D_strike : rd_ok x_D_strike := ⟨rfl, by decide +kernel, rd_m 1 (by decide +kernel), Or.inl ⟨rd_m 390 (by decide +kernel), rfl⟩⟩
abbrev c_D_total : ByteArray := prog_1_method_14_code
def y_D_total : MethodName := ⟨"ReinsuranceDesk", "total", "(II)J"⟩
def x_D_total : rd_X := (y_D_total, c_D_total, 3, some .long, [], 6, 144, 1, none)
theorem ok_D_total : rd_ok x_D_total := ⟨rfl, by decide +kernel, rd_m 1 (by decide +kernel), Or.inl ⟨rd_m 537 (by decide +kernel), rfl⟩⟩
abbrev c_D_treaty : ByteArray := prog_1_method_4_code
def y_D_treaty : MethodName := ⟨"ReinsuranceDesk", "treaty", "(IIIII)I"⟩
def x_D_treaty : rd_X := (y_D_treaty, c_D_treaty, 6, some .int, [], 6, 100, 1, none)
theorem ok_D_treaty : rd_ok x_D_treaty := ⟨rfl, by decide +kernel, rd_m 1 (by decide +kernel), Or.inl ⟨rd_m 318 (by decide +kernel), rfl⟩⟩
abbrev c_D_whatIf : ByteArray := prog_1_method_16_code
def y_D_whatIf : MethodName := ⟨"ReinsuranceDesk", "whatIf", "(III)I"⟩
def x_D_whatIf : rd_X := (y_D_whatIf, c_D_whatIf, 4, some .int, [], 6, 146, 1, none)
theorem ok_D_whatIf : rd_ok x_D_whatIf := ⟨rfl, by decide +kernel, rd_m 1 (by decide +kernel), Or.inl ⟨rd_m 577 (by decide +kernel), rfl⟩⟩
abbrev c_D_window : ByteArray := prog_1_method_13_code
def y_D_window : MethodName := ⟨"ReinsuranceDesk", "window", "(II)I"⟩
def x_D_window : rd_X := (y_D_window, c_D_window, 3, some .int, [], 6, 144, 1, none)
theorem ok_D_window : rd_ok x_D_window := ⟨rfl, by decide +kernel, rd_m 1 (by decide +kernel), Or.inl ⟨rd_m 529 (by decide +kernel), rfl⟩⟩
abbrev c_D_year : ByteArray := prog_1_method_18_code
def y_D_year : MethodName := ⟨"ReinsuranceDesk", "year", "(IZ)V"⟩
def x_D_year : rd_X := (y_D_year, c_D_year, 3, none, [], 6, 100, 1, none)
theorem ok_D_year : rd_ok x_D_year := ⟨rfl, by decide +kernel, rd_m 1 (by decide +kernel), Or.inl ⟨rd_m 605 (by decide +kernel), rfl⟩⟩
abbrev c_M_bill : ByteArray := prog_7_method_43_code
def y_M_bill : MethodName := ⟨"ReinsuranceDeskModel", "bill", "(I)J"⟩
def x_M_bill : rd_X := (y_M_bill, c_M_bill, 6, some .long, [], 6, 143, 0, none)
theorem ok_M_bill : rd_ok x_M_bill := ⟨rfl, by decide +kernel, rd_m 6 (by decide +kernel), Or.inl ⟨rd_m 882 (by decide +kernel), rfl⟩⟩
abbrev c_M_ceded : ByteArray := prog_7_method_33_code
def y_M_ceded : MethodName := ⟨"ReinsuranceDeskModel", "ceded", "(II)I"⟩
def x_M_ceded : rd_X := (y_M_ceded, c_M_ceded, 3, some .int, [], 6, 143, 0, none)
theorem ok_M_ceded : rd_ok x_M_ceded := ⟨rfl, by decide +kernel, rd_m 6 (by decide +kernel), Or.inl ⟨rd_m 839 (by decide +kernel), rfl⟩⟩
abbrev c_M_due : ByteArray := prog_7_method_41_code
def y_M_due : MethodName := ⟨"ReinsuranceDeskModel", "due", "(III)J"⟩
def x_M_due : rd_X := (y_M_due, c_M_due, 4, some .long, [], 6, 143, 0, none)
theorem ok_M_due : rd_ok x_M_due := ⟨rfl, by decide +kernel, rd_m 6 (by decide +kernel), Or.inl ⟨rd_m 866 (by decide +kernel), rfl⟩⟩
abbrev c_M_kept : ByteArray := prog_7_method_32_code
def y_M_kept : MethodName := ⟨"ReinsuranceDeskModel", "kept", "(I)I"⟩
def x_M_kept : rd_X := (y_M_kept, c_M_kept, 2, some .int, [], 6, 143, 0, none)
theorem ok_M_kept : rd_ok x_M_kept := ⟨rfl, by decide +kernel, rd_m 6 (by decide +kernel), Or.inl ⟨rd_m 787 (by decide +kernel), rfl⟩⟩
abbrev c_M_left : ByteArray := prog_7_method_34_code
def y_M_left : MethodName := ⟨"ReinsuranceDeskModel", "left", "(I)J"⟩
def x_M_left : rd_X := (y_M_left, c_M_left, 2, some .long, [], 6, 143, 0, none)
theorem ok_M_left : rd_ok x_M_left := ⟨rfl, by decide +kernel, rd_m 6 (by decide +kernel), Or.inl ⟨rd_m 843 (by decide +kernel), rfl⟩⟩
abbrev c_M_total : ByteArray := prog_7_method_38_code
def y_M_total : MethodName := ⟨"ReinsuranceDeskModel", "total", "(II)J"⟩
def x_M_total : rd_X := (y_M_total, c_M_total, 3, some .long, [], 6, 143, 0, none)
theorem ok_M_total : rd_ok x_M_total := ⟨rfl, by decide +kernel, rd_m 6 (by decide +kernel), Or.inl ⟨rd_m 851 (by decide +kernel), rfl⟩⟩
abbrev c_M_whatIf : ByteArray := prog_7_method_42_code
def y_M_whatIf : MethodName := ⟨"ReinsuranceDeskModel", "whatIf", "(III)I"⟩
def x_M_whatIf : rd_X := (y_M_whatIf, c_M_whatIf, 6, some .int, [], 6, 143, 0, none)
theorem ok_M_whatIf : rd_ok x_M_whatIf := ⟨rfl, by decide +kernel, rd_m 6 (by decide +kernel), Or.inl ⟨rd_m 878 (by decide +kernel), rfl⟩⟩
abbrev c_M_window : ByteArray := prog_7_method_35_code
def y_M_window : MethodName := ⟨"ReinsuranceDeskModel", "window", "(II)I"⟩
def x_M_window : rd_X := (y_M_window, c_M_window, 3, some .int, [], 6, 143, 0, none)
theorem ok_M_window : rd_ok x_M_window := ⟨rfl, by decide +kernel, rd_m 6 (by decide +kernel), Or.inl ⟨rd_m 847 (by decide +kernel), rfl⟩⟩
abbrev c_L_bill : ByteArray := method_18_code
def y_L_bill : MethodName := ⟨"ReinsuranceDeskLaw", "bill", "(LReinsuranceDesk;I[J)I"⟩
def x_L_bill : rd_X := (y_L_bill, c_L_bill, 4, some .int, [(0, 8, 11, 13)], 7, 169, 1, none)
theorem ok_L_bill : rd_ok x_L_bill := ⟨rfl, by decide +kernel, rd_m 0 (by decide +kernel), Or.inr (rd_m 586 (by decide +kernel))⟩
abbrev c_L_ceded : ByteArray := method_12_code
def y_L_ceded : MethodName := ⟨"ReinsuranceDeskLaw", "ceded", "(LReinsuranceDesk;II[J)I"⟩
def x_L_ceded : rd_X := (y_L_ceded, c_L_ceded, 5, some .int, [(0, 10, 13, 13)], 7, 166, 1, none)
theorem ok_L_ceded : rd_ok x_L_ceded := ⟨rfl, by decide +kernel, rd_m 0 (by decide +kernel), Or.inr (rd_m 504 (by decide +kernel))⟩
abbrev c_L_claim : ByteArray := method_7_code
def y_L_claim : MethodName := ⟨"ReinsuranceDeskLaw", "claim", "(LReinsuranceDesk;III[J)I"⟩
def x_L_claim : rd_X := (y_L_claim, c_L_claim, 6, some .int, [(0, 12, 15, 13), (0, 12, 19, 15)], 7, 123, 1, none)
theorem ok_L_claim : rd_ok x_L_claim := ⟨rfl, by decide +kernel, rd_m 0 (by decide +kernel), Or.inr (rd_m 351 (by decide +kernel))⟩
abbrev c_L_dissolve : ByteArray := method_10_code
def y_L_dissolve : MethodName := ⟨"ReinsuranceDeskLaw", "dissolve", "(LReinsuranceDesk;II[J)I"⟩
def x_L_dissolve : rd_X := (y_L_dissolve, c_L_dissolve, 5, some .int, [(0, 10, 13, 13), (0, 10, 17, 15)], 7, 124, 1, none)
theorem ok_L_dissolve : rd_ok x_L_dissolve := ⟨rfl, by decide +kernel, rd_m 0 (by decide +kernel), Or.inr (rd_m 394 (by decide +kernel))⟩
abbrev c_L_due : ByteArray := method_16_code
def y_L_due : MethodName := ⟨"ReinsuranceDeskLaw", "due", "(LReinsuranceDesk;III[J)I"⟩
def x_L_due : rd_X := (y_L_due, c_L_due, 6, some .int, [(0, 11, 14, 13)], 7, 167, 1, none)
theorem ok_L_due : rd_ok x_L_due := ⟨rfl, by decide +kernel, rd_m 0 (by decide +kernel), Or.inr (rd_m 556 (by decide +kernel))⟩
abbrev c_L_estimate : ByteArray := method_8_code
def y_L_estimate : MethodName := ⟨"ReinsuranceDeskLaw", "estimate", "(LReinsuranceDesk;II)I"⟩
def x_L_estimate : rd_X := (y_L_estimate, c_L_estimate, 4, some .int, [(0, 6, 9, 13), (0, 6, 12, 15)], 7, 122, 1, none)
theorem ok_L_estimate : rd_ok x_L_estimate := ⟨rfl, by decide +kernel, rd_m 0 (by decide +kernel), Or.inr (rd_m 369 (by decide +kernel))⟩
abbrev c_L_kept : ByteArray := method_11_code
def y_L_kept : MethodName := ⟨"ReinsuranceDeskLaw", "kept", "(LReinsuranceDesk;I[J)I"⟩
def x_L_kept : rd_X := (y_L_kept, c_L_kept, 4, some .int, [(0, 9, 12, 13)], 7, 165, 1, none)
theorem ok_L_kept : rd_ok x_L_kept := ⟨rfl, by decide +kernel, rd_m 0 (by decide +kernel), Or.inr (rd_m 402 (by decide +kernel))⟩
abbrev c_L_left : ByteArray := method_13_code
def y_L_left : MethodName := ⟨"ReinsuranceDeskLaw", "left", "(LReinsuranceDesk;I[J)I"⟩
def x_L_left : rd_X := (y_L_left, c_L_left, 4, some .int, [(0, 8, 11, 13)], 7, 165, 1, none)
theorem ok_L_left : rd_ok x_L_left := ⟨rfl, by decide +kernel, rd_m 0 (by decide +kernel), Or.inr (rd_m 512 (by decide +kernel))⟩
abbrev c_L_premium : ByteArray := method_4_code
def y_L_premium : MethodName := ⟨"ReinsuranceDeskLaw", "premium", "(LReinsuranceDesk;II)I"⟩
def x_L_premium : rd_X := (y_L_premium, c_L_premium, 4, some .int, [(0, 6, 9, 13), (0, 6, 12, 15)], 7, 122, 1, none)
theorem ok_L_premium : rd_ok x_L_premium := ⟨rfl, by decide +kernel, rd_m 0 (by decide +kernel), Or.inr (rd_m 302 (by decide +kernel))⟩
abbrev c_L_risk : ByteArray := method_3_code
def y_L_risk : MethodName := ⟨"ReinsuranceDeskLaw", "risk", "(LReinsuranceDesk;III)I"⟩
def x_L_risk : rd_X := (y_L_risk, c_L_risk, 5, some .int, [(0, 7, 10, 13), (0, 7, 14, 15)], 7, 123, 1, none)
theorem ok_L_risk : rd_ok x_L_risk := ⟨rfl, by decide +kernel, rd_m 0 (by decide +kernel), Or.inr (rd_m 199 (by decide +kernel))⟩
abbrev c_L_share : ByteArray := method_6_code
def y_L_share : MethodName := ⟨"ReinsuranceDeskLaw", "share", "(LReinsuranceDesk;III)I"⟩
def x_L_share : rd_X := (y_L_share, c_L_share, 5, some .int, [(0, 7, 10, 13), (0, 7, 14, 15)], 7, 123, 1, none)
theorem ok_L_share : rd_ok x_L_share := ⟨rfl, by decide +kernel, rd_m 0 (by decide +kernel), Or.inr (rd_m 334 (by decide +kernel))⟩
abbrev c_L_strike : ByteArray := method_9_code
def y_L_strike : MethodName := ⟨"ReinsuranceDeskLaw", "strike", "(LReinsuranceDesk;I)I"⟩
def x_L_strike : rd_X := (y_L_strike, c_L_strike, 3, some .int, [(0, 5, 8, 13), (0, 5, 11, 15)], 7, 121, 1, none)
theorem ok_L_strike : rd_ok x_L_strike := ⟨rfl, by decide +kernel, rd_m 0 (by decide +kernel), Or.inr (rd_m 386 (by decide +kernel))⟩
abbrev c_L_total : ByteArray := method_15_code
def y_L_total : MethodName := ⟨"ReinsuranceDeskLaw", "total", "(LReinsuranceDesk;II[J)I"⟩
def x_L_total : rd_X := (y_L_total, c_L_total, 5, some .int, [(0, 9, 12, 13)], 7, 166, 1, none)
theorem ok_L_total : rd_ok x_L_total := ⟨rfl, by decide +kernel, rd_m 0 (by decide +kernel), Or.inr (rd_m 533 (by decide +kernel))⟩
abbrev c_L_treaty : ByteArray := method_5_code
def y_L_treaty : MethodName := ⟨"ReinsuranceDeskLaw", "treaty", "(LReinsuranceDesk;IIIII[J)I"⟩
def x_L_treaty : rd_X := (y_L_treaty, c_L_treaty, 8, some .int, [(0, 16, 19, 13), (0, 16, 23, 15)], 7, 125, 1, none)
theorem ok_L_treaty : rd_ok x_L_treaty := ⟨rfl, by decide +kernel, rd_m 0 (by decide +kernel), Or.inr (rd_m 314 (by decide +kernel))⟩
abbrev c_L_whatIf : ByteArray := method_17_code
def y_L_whatIf : MethodName := ⟨"ReinsuranceDeskLaw", "whatIf", "(LReinsuranceDesk;III[J)I"⟩
def x_L_whatIf : rd_X := (y_L_whatIf, c_L_whatIf, 6, some .int, [(0, 12, 15, 13), (0, 12, 19, 15)], 7, 169, 1, none)
theorem ok_L_whatIf : rd_ok x_L_whatIf := ⟨rfl, by decide +kernel, rd_m 0 (by decide +kernel), Or.inr (rd_m 573 (by decide +kernel))⟩
abbrev c_L_window : ByteArray := method_14_code
def y_L_window : MethodName := ⟨"ReinsuranceDeskLaw", "window", "(LReinsuranceDesk;II[J)I"⟩
def x_L_window : rd_X := (y_L_window, c_L_window, 5, some .int, [(0, 10, 13, 13)], 7, 166, 1, none)
theorem ok_L_window : rd_ok x_L_window := ⟨rfl, by decide +kernel, rd_m 0 (by decide +kernel), Or.inr (rd_m 525 (by decide +kernel))⟩
abbrev c_L_year : ByteArray := method_19_code
def y_L_year : MethodName := ⟨"ReinsuranceDeskLaw", "year", "(LReinsuranceDesk;IZ)I"⟩
def x_L_year : rd_X := (y_L_year, c_L_year, 4, some .int, [(0, 6, 9, 13), (0, 6, 12, 15)], 7, 122, 1, none)
theorem ok_L_year : rd_ok x_L_year := ⟨rfl, by decide +kernel, rd_m 0 (by decide +kernel), Or.inr (rd_m 601 (by decide +kernel))⟩
abbrev c_L_law : ByteArray := code
def y_L_law : MethodName := ⟨"ReinsuranceDeskLaw", "law", "([I)Z"⟩
end
section
/-! entries of the constant pools -/
theorem fl_C_31 : rd_fl "ReinsuranceDesk$Claims" 31 1 0 := ⟨_, _, _, rfl, by decide, rd_u1, rd_m 51 (by decide +kernel)⟩
theorem fl_C_18 : rd_fl "ReinsuranceDesk$Claims" 18 1 3 := ⟨_, _, _, rfl, by decide, rd_u1, rd_m 60 (by decide +kernel)⟩
theorem fl_C_28 : rd_fl "ReinsuranceDesk$Claims" 28 1 6 := ⟨_, _, _, rfl, by decide, rd_u1, rd_m 68 (by decide +kernel)⟩
theorem kc_D_51 : Cond.constant "ReinsuranceDesk" 51 (Int32.ofInt (1000000000)) ∈ rd_ws := rd_m 209 (by decide +kernel)
theorem fl_D_10 : rd_fl "ReinsuranceDesk" 10 4 0 := ⟨_, _, _, rfl, by decide, rd_u4, rd_m 178 (by decide +kernel)⟩
theorem fl_D_75 : rd_fl "ReinsuranceDesk" 75 2 2 := ⟨_, _, _, rfl, by decide, rd_u2, rd_m 35 (by decide +kernel)⟩
theorem fl_D_19 : rd_fl "ReinsuranceDesk" 19 4 1 := ⟨_, _, _, rfl, by decide, rd_u4, rd_m 179 (by decide +kernel)⟩
theorem fl_D_224 : rd_fl "ReinsuranceDesk" 224 1 1 := ⟨_, _, _, rfl, by decide, rd_u1, rd_m 56 (by decide +kernel)⟩
theorem fl_M_47 : rd_fl "ReinsuranceDeskModel" 47 5 14 := ⟨_, _, _, rfl, by decide, rd_u5, rd_m 628 (by decide +kernel)⟩
theorem fl_M_147 : rd_fl "ReinsuranceDeskModel" 147 5 28 := ⟨_, _, _, rfl, by decide, rd_u5, rd_m 642 (by decide +kernel)⟩
theorem fl_M_41 : rd_fl "ReinsuranceDeskModel" 41 5 12 := ⟨_, _, _, rfl, by decide, rd_u5, rd_m 626 (by decide +kernel)⟩
theorem fl_M_44 : rd_fl "ReinsuranceDeskModel" 44 5 13 := ⟨_, _, _, rfl, by decide, rd_u5, rd_m 627 (by decide +kernel)⟩
theorem fl_M_151 : rd_fl "ReinsuranceDeskModel" 151 5 29 := ⟨_, _, _, rfl, by decide, rd_u5, rd_m 643 (by decide +kernel)⟩
theorem fl_M_16 : rd_fl "ReinsuranceDeskModel" 16 5 3 := ⟨_, _, _, rfl, by decide, rd_u5, rd_m 617 (by decide +kernel)⟩
theorem fl_M_19 : rd_fl "ReinsuranceDeskModel" 19 5 4 := ⟨_, _, _, rfl, by decide, rd_u5, rd_m 618 (by decide +kernel)⟩
theorem fl_M_35 : rd_fl "ReinsuranceDeskModel" 35 5 10 := ⟨_, _, _, rfl, by decide, rd_u5, rd_m 624 (by decide +kernel)⟩
theorem fl_M_50 : rd_fl "ReinsuranceDeskModel" 50 5 16 := ⟨_, _, _, rfl, by decide, rd_u5, rd_m 630 (by decide +kernel)⟩
theorem kl_M_115 : Cond.constantLong "ReinsuranceDeskModel" 115 (Int64.ofInt (1000000)) ∈ rd_ws := rd_m 739 (by decide +kernel)
theorem fl_M_63 : rd_fl "ReinsuranceDeskModel" 63 5 20 := ⟨_, _, _, rfl, by decide, rd_u5, rd_m 634 (by decide +kernel)⟩
theorem fl_M_66 : rd_fl "ReinsuranceDeskModel" 66 5 21 := ⟨_, _, _, rfl, by decide, rd_u5, rd_m 635 (by decide +kernel)⟩
theorem fl_M_60 : rd_fl "ReinsuranceDeskModel" 60 5 19 := ⟨_, _, _, rfl, by decide, rd_u5, rd_m 633 (by decide +kernel)⟩
theorem fl_M_87 : rd_fl "ReinsuranceDeskModel" 87 5 0 := ⟨_, _, _, rfl, by decide, rd_u5, rd_m 614 (by decide +kernel)⟩
theorem fp_5_0 : rd_fp 5 0 .int := ⟨_, _, _, rd_t5, rfl, by decide, rd_tt5, rd_nn5, rfl, by decide +kernel⟩
theorem fl_R_9 : rd_fl "ReinsuranceDesk$Risks" 9 2 0 := ⟨_, _, _, rfl, by decide, rd_u2, rd_m 28 (by decide +kernel)⟩
theorem fl_S_142 : rd_fl "ReinsuranceDesk$Cession" 142 0 11 := ⟨_, _, _, rfl, by decide, rd_u0, rd_m 149 (by decide +kernel)⟩
theorem fl_S_15 : rd_fl "ReinsuranceDesk$Cession" 15 0 1 := ⟨_, _, _, rfl, by decide, rd_u0, rd_m 134 (by decide +kernel)⟩
theorem fl_S_163 : rd_fl "ReinsuranceDesk$Cession" 163 1 3 := ⟨_, _, _, rfl, by decide, rd_u1, rd_m 61 (by decide +kernel)⟩
theorem fl_S_47 : rd_fl "ReinsuranceDesk$Cession" 47 0 10 := ⟨_, _, _, rfl, by decide, rd_u0, rd_m 148 (by decide +kernel)⟩
theorem fl_S_69 : rd_fl "ReinsuranceDesk$Cession" 69 1 0 := ⟨_, _, _, rfl, by decide, rd_u1, rd_m 52 (by decide +kernel)⟩
theorem fl_S_23 : rd_fl "ReinsuranceDesk$Cession" 23 0 3 := ⟨_, _, _, rfl, by decide, rd_u0, rd_m 136 (by decide +kernel)⟩
theorem fl_S_160 : rd_fl "ReinsuranceDesk$Cession" 160 1 2 := ⟨_, _, _, rfl, by decide, rd_u1, rd_m 59 (by decide +kernel)⟩
theorem fl_S_50 : rd_fl "ReinsuranceDesk$Cession" 50 0 12 := ⟨_, _, _, rfl, by decide, rd_u0, rd_m 150 (by decide +kernel)⟩
theorem fl_S_27 : rd_fl "ReinsuranceDesk$Cession" 27 0 4 := ⟨_, _, _, rfl, by decide, rd_u0, rd_m 137 (by decide +kernel)⟩
theorem fl_S_31 : rd_fl "ReinsuranceDesk$Cession" 31 0 5 := ⟨_, _, _, rfl, by decide, rd_u0, rd_m 139 (by decide +kernel)⟩
theorem fl_S_34 : rd_fl "ReinsuranceDesk$Cession" 34 0 6 := ⟨_, _, _, rfl, by decide, rd_u0, rd_m 141 (by decide +kernel)⟩
theorem fl_T_34 : rd_fl "ReinsuranceDesk$Treaties" 34 3 0 := ⟨_, _, _, rfl, by decide, rd_u3, rd_m 92 (by decide +kernel)⟩
theorem fl_T_9 : rd_fl "ReinsuranceDesk$Treaties" 9 3 1 := ⟨_, _, _, rfl, by decide, rd_u3, rd_m 95 (by decide +kernel)⟩
theorem fl_T_15 : rd_fl "ReinsuranceDesk$Treaties" 15 3 2 := ⟨_, _, _, rfl, by decide, rd_u3, rd_m 98 (by decide +kernel)⟩
theorem fl_T_18 : rd_fl "ReinsuranceDesk$Treaties" 18 3 3 := ⟨_, _, _, rfl, by decide, rd_u3, rd_m 101 (by decide +kernel)⟩
theorem fl_T_22 : rd_fl "ReinsuranceDesk$Treaties" 22 3 4 := ⟨_, _, _, rfl, by decide, rd_u3, rd_m 102 (by decide +kernel)⟩
theorem fl_T_25 : rd_fl "ReinsuranceDesk$Treaties" 25 3 5 := ⟨_, _, _, rfl, by decide, rd_u3, rd_m 104 (by decide +kernel)⟩
theorem fl_T_28 : rd_fl "ReinsuranceDesk$Treaties" 28 3 6 := ⟨_, _, _, rfl, by decide, rd_u3, rd_m 106 (by decide +kernel)⟩
theorem fl_T_31 : rd_fl "ReinsuranceDesk$Treaties" 31 3 7 := ⟨_, _, _, rfl, by decide, rd_u3, rd_m 107 (by decide +kernel)⟩
theorem kl_T_38 : Cond.constantLong "ReinsuranceDesk$Treaties" 38 (Int64.ofInt (1000000)) ∈ rd_ws := rd_m 440 (by decide +kernel)
theorem fl_C_9 : rd_fl "ReinsuranceDesk$Claims" 9 1 1 := ⟨_, _, _, rfl, by decide, rd_u1, rd_m 54 (by decide +kernel)⟩
theorem fl_C_15 : rd_fl "ReinsuranceDesk$Claims" 15 1 2 := ⟨_, _, _, rfl, by decide, rd_u1, rd_m 57 (by decide +kernel)⟩
theorem ml_C_35 : rd_lV "ReinsuranceDesk$Claims" 35 x_C_placeByHour 1 1 := ⟨ok_C_placeByHour, rd_m 363 (by decide +kernel), rd_m 365 (by decide +kernel), by decide +kernel, by decide +kernel, _, _, _, rfl, rd_ms (by decide +kernel)⟩
theorem kc_D_110 : Cond.constant "ReinsuranceDesk" 110 (Int32.ofInt (1000000)) ∈ rd_ws := rd_m 325 (by decide +kernel)
theorem ml_D_52 : rd_lS "ReinsuranceDesk" 52 x_D_isFromOne 2 := ⟨ok_D_isFromOne, rd_m 210 (by decide +kernel), rd_m 211 (by decide +kernel), by decide +kernel, by decide +kernel⟩
theorem ml_D_78 : rd_lS "ReinsuranceDesk" 78 x_D_isAmount 1 := ⟨ok_D_isAmount, rd_m 307 (by decide +kernel), rd_m 308 (by decide +kernel), by decide +kernel, by decide +kernel⟩
theorem ml_D_47 : rd_lS "ReinsuranceDesk" 47 x_D_isBelow 2 := ⟨ok_D_isBelow, rd_m 206 (by decide +kernel), rd_m 207 (by decide +kernel), by decide +kernel, by decide +kernel⟩
theorem ml_M_93 : rd_lS "ReinsuranceDeskModel" 93 x_M_in 3 := ⟨ok_M_in, rd_m 714 (by decide +kernel), rd_m 715 (by decide +kernel), by decide +kernel, by decide +kernel⟩
theorem kl_M_103 : Cond.constantLong "ReinsuranceDeskModel" 103 (Int64.ofInt (1000000000)) ∈ rd_ws := rd_m 717 (by decide +kernel)
theorem kl_M_117 : Cond.constantLong "ReinsuranceDeskModel" 117 (Int64.ofInt (20)) ∈ rd_ws := rd_m 740 (by decide +kernel)
theorem kl_M_119 : Cond.constantLong "ReinsuranceDeskModel" 119 (Int64.ofInt (5)) ∈ rd_ws := rd_m 741 (by decide +kernel)
theorem fl_M_31 : rd_fl "ReinsuranceDeskModel" 31 5 8 := ⟨_, _, _, rfl, by decide, rd_u5, rd_m 622 (by decide +kernel)⟩
theorem ml_M_141 : rd_lV "ReinsuranceDeskModel" 141 x_M_claimYear 1 5 := ⟨ok_M_claimYear, rd_m 768 (by decide +kernel), rd_m 770 (by decide +kernel), by decide +kernel, by decide +kernel, _, _, _, rfl, rd_ms (by decide +kernel)⟩
theorem kl_M_134 : Cond.constantLong "ReinsuranceDeskModel" 134 (Int64.ofInt (9)) ∈ rd_ws := rd_m 758 (by decide +kernel)
theorem kl_M_105 : Cond.constantLong "ReinsuranceDeskModel" 105 (Int64.ofInt (3)) ∈ rd_ws := rd_m 718 (by decide +kernel)
theorem fl_M_57 : rd_fl "ReinsuranceDeskModel" 57 5 18 := ⟨_, _, _, rfl, by decide, rd_u5, rd_m 632 (by decide +kernel)⟩
theorem ml_M_107 : rd_lV "ReinsuranceDeskModel" 107 x_M_throwing 2 5 := ⟨ok_M_throwing, rd_m 719 (by decide +kernel), rd_m 721 (by decide +kernel), by decide +kernel, by decide +kernel, _, _, _, rfl, rd_ms (by decide +kernel)⟩
theorem fl_M_97 : rd_fl "ReinsuranceDeskModel" 97 5 9 := ⟨_, _, _, rfl, by decide, rd_u5, rd_m 623 (by decide +kernel)⟩
theorem fl_M_22 : rd_fl "ReinsuranceDeskModel" 22 5 5 := ⟨_, _, _, rfl, by decide, rd_u5, rd_m 619 (by decide +kernel)⟩
theorem kl_M_91 : Cond.constantLong "ReinsuranceDeskModel" 91 (Int64.ofInt (11)) ∈ rd_ws := rd_m 713 (by decide +kernel)
theorem fl_M_7 : rd_fl "ReinsuranceDeskModel" 7 5 1 := ⟨_, _, _, rfl, by decide, rd_u5, rd_m 615 (by decide +kernel)⟩
theorem fl_M_100 : rd_fl "ReinsuranceDeskModel" 100 5 15 := ⟨_, _, _, rfl, by decide, rd_u5, rd_m 629 (by decide +kernel)⟩
theorem ml_M_144 : rd_lV "ReinsuranceDeskModel" 144 x_M_kindOf 1 5 := ⟨ok_M_kindOf, rd_m 792 (by decide +kernel), rd_m 794 (by decide +kernel), by decide +kernel, by decide +kernel, _, _, _, rfl, rd_ms (by decide +kernel)⟩
theorem fl_M_38 : rd_fl "ReinsuranceDeskModel" 38 5 11 := ⟨_, _, _, rfl, by decide, rd_u5, rd_m 625 (by decide +kernel)⟩
theorem fl_M_69 : rd_fl "ReinsuranceDeskModel" 69 5 22 := ⟨_, _, _, rfl, by decide, rd_u5, rd_m 636 (by decide +kernel)⟩
theorem kl_M_197 : Cond.constantLong "ReinsuranceDeskModel" 197 (Int64.ofInt (9000000)) ∈ rd_ws := rd_m 856 (by decide +kernel)
theorem kl_M_136 : Cond.constantLong "ReinsuranceDeskModel" 136 (Int64.ofInt (100000)) ∈ rd_ws := rd_m 759 (by decide +kernel)
theorem ml_M_210 : rd_lV "ReinsuranceDeskModel" 210 x_M_shareOf 3 5 := ⟨ok_M_shareOf, rd_m 867 (by decide +kernel), rd_m 869 (by decide +kernel), by decide +kernel, by decide +kernel, _, _, _, rfl, rd_ms (by decide +kernel)⟩
theorem fl_M_81 : rd_fl "ReinsuranceDeskModel" 81 5 26 := ⟨_, _, _, rfl, by decide, rd_u5, rd_m 640 (by decide +kernel)⟩
theorem fl_M_78 : rd_fl "ReinsuranceDeskModel" 78 5 25 := ⟨_, _, _, rfl, by decide, rd_u5, rd_m 639 (by decide +kernel)⟩
theorem kl_M_154 : Cond.constantLong "ReinsuranceDeskModel" 154 (Int64.ofInt (-1)) ∈ rd_ws := rd_m 835 (by decide +kernel)
theorem fl_M_84 : rd_fl "ReinsuranceDeskModel" 84 5 27 := ⟨_, _, _, rfl, by decide, rd_u5, rd_m 641 (by decide +kernel)⟩
theorem ml_M_156 : rd_lV "ReinsuranceDeskModel" 156 x_M_take 3 5 := ⟨ok_M_take, rd_m 808 (by decide +kernel), rd_m 810 (by decide +kernel), by decide +kernel, by decide +kernel, _, _, _, rfl, rd_ms (by decide +kernel)⟩
theorem ml_S_60 : rd_lS "ReinsuranceDesk$Cession" 60 x_J_fillI 2 := ⟨ok_J_fillI, rd_m 415 (by decide +kernel), rd_m 416 (by decide +kernel), by decide +kernel, by decide +kernel⟩
theorem ml_S_66 : rd_lS "ReinsuranceDesk$Cession" 66 x_J_fillJ 2 := ⟨ok_J_fillJ, rd_m 418 (by decide +kernel), rd_m 419 (by decide +kernel), by decide +kernel, by decide +kernel⟩
theorem fl_S_44 : rd_fl "ReinsuranceDesk$Cession" 44 0 9 := ⟨_, _, _, rfl, by decide, rd_u0, rd_m 146 (by decide +kernel)⟩
theorem fl_S_38 : rd_fl "ReinsuranceDesk$Cession" 38 0 7 := ⟨_, _, _, rfl, by decide, rd_u0, rd_m 143 (by decide +kernel)⟩
theorem fl_S_75 : rd_fl "ReinsuranceDesk$Cession" 75 1 5 := ⟨_, _, _, rfl, by decide, rd_u1, rd_m 66 (by decide +kernel)⟩
theorem fl_S_9 : rd_fl "ReinsuranceDesk$Cession" 9 0 0 := ⟨_, _, _, rfl, by decide, rd_u0, rd_m 133 (by decide +kernel)⟩
theorem fl_S_78 : rd_fl "ReinsuranceDesk$Cession" 78 2 2 := ⟨_, _, _, rfl, by decide, rd_u2, rd_m 36 (by decide +kernel)⟩
theorem fl_S_83 : rd_fl "ReinsuranceDesk$Cession" 83 1 1 := ⟨_, _, _, rfl, by decide, rd_u1, rd_m 55 (by decide +kernel)⟩
theorem fl_S_86 : rd_fl "ReinsuranceDesk$Cession" 86 1 4 := ⟨_, _, _, rfl, by decide, rd_u1, rd_m 63 (by decide +kernel)⟩
theorem fl_S_41 : rd_fl "ReinsuranceDesk$Cession" 41 0 8 := ⟨_, _, _, rfl, by decide, rd_u0, rd_m 145 (by decide +kernel)⟩
theorem fl_S_89 : rd_fl "ReinsuranceDesk$Cession" 89 2 1 := ⟨_, _, _, rfl, by decide, rd_u2, rd_m 33 (by decide +kernel)⟩
theorem kl_S_124 : Cond.constantLong "ReinsuranceDesk$Cession" 124 (Int64.ofInt (1000000)) ∈ rd_ws := rd_m 444 (by decide +kernel)
theorem kl_S_171 : Cond.constantLong "ReinsuranceDesk$Cession" 171 (Int64.ofInt (9000000)) ∈ rd_ws := rd_m 543 (by decide +kernel)
theorem ml_S_173 : rd_lS "ReinsuranceDesk$Cession" 173 x_J_min 2 := ⟨ok_J_min, rd_m 544 (by decide +kernel), rd_m 442 (by decide +kernel), by decide +kernel, by decide +kernel⟩
theorem fl_S_19 : rd_fl "ReinsuranceDesk$Cession" 19 0 2 := ⟨_, _, _, rfl, by decide, rd_u0, rd_m 135 (by decide +kernel)⟩
theorem fl_S_191 : rd_fl "ReinsuranceDesk$Cession" 191 3 4 := ⟨_, _, _, rfl, by decide, rd_u3, rd_m 103 (by decide +kernel)⟩
theorem ml_S_194 : rd_lV "ReinsuranceDesk$Cession" 194 x_T_isExcess 1 3 := ⟨ok_T_isExcess, rd_m 570 (by decide +kernel), rd_m 518 (by decide +kernel), by decide +kernel, by decide +kernel, _, _, _, rfl, rd_m 519 (by decide +kernel)⟩
theorem kl_S_189 : Cond.constantLong "ReinsuranceDesk$Cession" 189 (Int64.ofInt (100000)) ∈ rd_ws := rd_m 553 (by decide +kernel)
theorem fl_S_198 : rd_fl "ReinsuranceDesk$Cession" 198 3 5 := ⟨_, _, _, rfl, by decide, rd_u3, rd_m 105 (by decide +kernel)⟩
theorem kl_S_166 : Cond.constantLong "ReinsuranceDesk$Cession" 166 (Int64.ofInt (-1)) ∈ rd_ws := rd_m 481 (by decide +kernel)
theorem ml_S_152 : rd_lV "ReinsuranceDesk$Cession" 152 x_S_keptFrom 1 0 := ⟨ok_S_keptFrom, rd_m 482 (by decide +kernel), rd_m 484 (by decide +kernel), by decide +kernel, by decide +kernel, _, _, _, rfl, rd_ms (by decide +kernel)⟩
theorem ml_S_126 : rd_lV "ReinsuranceDesk$Cession" 126 x_S_take 3 0 := ⟨ok_S_take, rd_m 449 (by decide +kernel), rd_m 451 (by decide +kernel), by decide +kernel, by decide +kernel, _, _, _, rfl, rd_ms (by decide +kernel)⟩
theorem ml_S_168 : rd_lV "ReinsuranceDesk$Cession" 168 x_S_greatestRemainder 0 0 := ⟨ok_S_greatestRemainder, rd_m 494 (by decide +kernel), rd_m 496 (by decide +kernel), by decide +kernel, by decide +kernel, _, _, _, rfl, rd_ms (by decide +kernel)⟩
theorem ml_T_40 : rd_lS "ReinsuranceDesk$Treaties" 40 x_J_max 2 := ⟨ok_J_max, rd_m 437 (by decide +kernel), rd_m 438 (by decide +kernel), by decide +kernel, by decide +kernel⟩
theorem ml_T_46 : rd_lS "ReinsuranceDesk$Treaties" 46 x_J_min 2 := ⟨ok_J_min, rd_m 441 (by decide +kernel), rd_m 442 (by decide +kernel), by decide +kernel, by decide +kernel⟩
theorem ml_T_49 : rd_lV "ReinsuranceDesk$Treaties" 49 x_T_limitOf 1 3 := ⟨ok_T_limitOf, rd_m 465 (by decide +kernel), rd_m 466 (by decide +kernel), by decide +kernel, by decide +kernel, _, _, _, rfl, rd_m 467 (by decide +kernel)⟩
theorem ml_M_111 : rd_lV "ReinsuranceDeskModel" 111 x_M_isRisk 1 5 := ⟨ok_M_isRisk, rd_m 727 (by decide +kernel), rd_m 729 (by decide +kernel), by decide +kernel, by decide +kernel, _, _, _, rfl, rd_ms (by decide +kernel)⟩
theorem fl_M_25 : rd_fl "ReinsuranceDeskModel" 25 5 6 := ⟨_, _, _, rfl, by decide, rd_u5, rd_m 620 (by decide +kernel)⟩
theorem ml_M_199 : rd_lV "ReinsuranceDeskModel" 199 x_M_ratio 1 5 := ⟨ok_M_ratio, rd_m 852 (by decide +kernel), rd_m 854 (by decide +kernel), by decide +kernel, by decide +kernel, _, _, _, rfl, rd_ms (by decide +kernel)⟩
theorem kl_M_203 : Cond.constantLong "ReinsuranceDeskModel" 203 (Int64.ofInt (400000)) ∈ rd_ws := rd_m 861 (by decide +kernel)
theorem kl_M_205 : Cond.constantLong "ReinsuranceDeskModel" 205 (Int64.ofInt (300000)) ∈ rd_ws := rd_m 862 (by decide +kernel)
theorem ml_M_138 : rd_lV "ReinsuranceDeskModel" 138 x_M_isClaim 1 5 := ⟨ok_M_isClaim, rd_m 764 (by decide +kernel), rd_m 766 (by decide +kernel), by decide +kernel, by decide +kernel, _, _, _, rfl, rd_ms (by decide +kernel)⟩
theorem fl_M_28 : rd_fl "ReinsuranceDeskModel" 28 5 7 := ⟨_, _, _, rfl, by decide, rd_u5, rd_m 621 (by decide +kernel)⟩
theorem ml_M_130 : rd_lV "ReinsuranceDeskModel" 130 x_M_treatyYear 1 5 := ⟨ok_M_treatyYear, rd_m 750 (by decide +kernel), rd_m 752 (by decide +kernel), by decide +kernel, by decide +kernel, _, _, _, rfl, rd_ms (by decide +kernel)⟩
theorem ml_M_160 : rd_lV "ReinsuranceDeskModel" 160 x_M_counts 2 5 := ⟨ok_M_counts, rd_m 800 (by decide +kernel), rd_m 802 (by decide +kernel), by decide +kernel, by decide +kernel, _, _, _, rfl, rd_ms (by decide +kernel)⟩
theorem ml_M_164 : rd_lS "ReinsuranceDeskModel" 164 x_M_layer 3 := ⟨ok_M_layer, rd_m 816 (by decide +kernel), rd_m 817 (by decide +kernel), by decide +kernel, by decide +kernel⟩
theorem ml_M_168 : rd_lV "ReinsuranceDeskModel" 168 x_M_allowed 2 5 := ⟨ok_M_allowed, rd_m 819 (by decide +kernel), rd_m 821 (by decide +kernel), by decide +kernel, by decide +kernel, _, _, _, rfl, rd_ms (by decide +kernel)⟩
theorem fl_M_13 : rd_fl "ReinsuranceDeskModel" 13 5 2 := ⟨_, _, _, rfl, by decide, rd_u5, rd_m 616 (by decide +kernel)⟩
theorem ml_M_127 : rd_lV "ReinsuranceDeskModel" 127 x_M_isTreaty 1 5 := ⟨ok_M_isTreaty, rd_m 746 (by decide +kernel), rd_m 748 (by decide +kernel), by decide +kernel, by decide +kernel, _, _, _, rfl, rd_ms (by decide +kernel)⟩
theorem kl_M_121 : Cond.constantLong "ReinsuranceDeskModel" 121 (Int64.ofInt (43)) ∈ rd_ws := rd_m 735 (by decide +kernel)
theorem ml_M_123 : rd_lS "ReinsuranceDeskModel" 123 x_M_areSo 5 := ⟨ok_M_areSo, rd_m 736 (by decide +kernel), rd_m 737 (by decide +kernel), by decide +kernel, by decide +kernel⟩
theorem fl_S_130 : rd_fl "ReinsuranceDesk$Cession" 130 1 6 := ⟨_, _, _, rfl, by decide, rd_u1, rd_m 69 (by decide +kernel)⟩
theorem ml_S_133 : rd_lV "ReinsuranceDesk$Cession" 133 x_T_layerOf 2 3 := ⟨ok_T_layerOf, rd_m 457 (by decide +kernel), rd_m 458 (by decide +kernel), by decide +kernel, by decide +kernel, _, _, _, rfl, rd_m 459 (by decide +kernel)⟩
theorem ml_S_136 : rd_lV "ReinsuranceDesk$Cession" 136 x_T_takenOfLayers 2 3 := ⟨ok_T_takenOfLayers, rd_m 461 (by decide +kernel), rd_m 462 (by decide +kernel), by decide +kernel, by decide +kernel, _, _, _, rfl, rd_m 463 (by decide +kernel)⟩
theorem ml_S_139 : rd_lV "ReinsuranceDesk$Cession" 139 x_S_gatherEvent 1 0 := ⟨ok_S_gatherEvent, rd_m 473 (by decide +kernel), rd_m 475 (by decide +kernel), by decide +kernel, by decide +kernel, _, _, _, rfl, rd_ms (by decide +kernel)⟩
theorem ml_S_145 : rd_lV "ReinsuranceDesk$Cession" 145 x_S_startOfWindow 0 0 := ⟨ok_S_startOfWindow, rd_m 477 (by decide +kernel), rd_m 479 (by decide +kernel), by decide +kernel, by decide +kernel, _, _, _, rfl, rd_ms (by decide +kernel)⟩
theorem ml_S_149 : rd_lV "ReinsuranceDesk$Cession" 149 x_S_dropOutside 1 0 := ⟨ok_S_dropOutside, rd_m 486 (by decide +kernel), rd_m 488 (by decide +kernel), by decide +kernel, by decide +kernel, _, _, _, rfl, rd_ms (by decide +kernel)⟩
theorem ml_S_156 : rd_lV "ReinsuranceDesk$Cession" 156 x_S_takeByParts 3 0 := ⟨ok_S_takeByParts, rd_m 490 (by decide +kernel), rd_m 492 (by decide +kernel), by decide +kernel, by decide +kernel, _, _, _, rfl, rd_ms (by decide +kernel)⟩
theorem fl_S_117 : rd_fl "ReinsuranceDesk$Cession" 117 2 0 := ⟨_, _, _, rfl, by decide, rd_u2, rd_m 30 (by decide +kernel)⟩
theorem ml_S_120 : rd_lV "ReinsuranceDesk$Cession" 120 x_T_partOfRisk 2 3 := ⟨ok_T_partOfRisk, rd_m 433 (by decide +kernel), rd_m 434 (by decide +kernel), by decide +kernel, by decide +kernel, _, _, _, rfl, rd_m 435 (by decide +kernel)⟩
theorem ml_S_179 : rd_lV "ReinsuranceDesk$Cession" 179 x_S_ratioOf 1 0 := ⟨ok_S_ratioOf, rd_m 549 (by decide +kernel), rd_m 540 (by decide +kernel), by decide +kernel, by decide +kernel, _, _, _, rfl, rd_m 541 (by decide +kernel)⟩
theorem kl_S_182 : Cond.constantLong "ReinsuranceDesk$Cession" 182 (Int64.ofInt (400000)) ∈ rd_ws := rd_m 550 (by decide +kernel)
theorem ml_S_184 : rd_lS "ReinsuranceDesk$Cession" 184 x_J_max 2 := ⟨ok_J_max, rd_m 551 (by decide +kernel), rd_m 438 (by decide +kernel), by decide +kernel, by decide +kernel⟩
theorem kl_S_187 : Cond.constantLong "ReinsuranceDesk$Cession" 187 (Int64.ofInt (300000)) ∈ rd_ws := rd_m 552 (by decide +kernel)
theorem ml_M_172 : rd_lV "ReinsuranceDeskModel" 172 x_M_inWindow 3 5 := ⟨ok_M_inWindow, rd_m 827 (by decide +kernel), rd_m 829 (by decide +kernel), by decide +kernel, by decide +kernel, _, _, _, rfl, rd_ms (by decide +kernel)⟩
theorem fl_M_72 : rd_fl "ReinsuranceDeskModel" 72 5 23 := ⟨_, _, _, rfl, by decide, rd_u5, rd_m 637 (by decide +kernel)⟩
theorem ml_M_176 : rd_lV "ReinsuranceDeskModel" 176 x_M_spread 3 5 := ⟨ok_M_spread, rd_m 831 (by decide +kernel), rd_m 833 (by decide +kernel), by decide +kernel, by decide +kernel, _, _, _, rfl, rd_ms (by decide +kernel)⟩
theorem fl_S_95 : rd_fl "ReinsuranceDesk$Cession" 95 3 1 := ⟨_, _, _, rfl, by decide, rd_u3, rd_m 96 (by decide +kernel)⟩
theorem ml_S_102 : rd_lV "ReinsuranceDesk$Cession" 102 x_S_cedePremiums 1 0 := ⟨ok_S_cedePremiums, rd_m 429 (by decide +kernel), rd_m 431 (by decide +kernel), by decide +kernel, by decide +kernel, _, _, _, rfl, rd_ms (by decide +kernel)⟩
theorem ml_S_105 : rd_lV "ReinsuranceDesk$Cession" 105 x_S_cedePartOfEachClaim 1 0 := ⟨ok_S_cedePartOfEachClaim, rd_m 445 (by decide +kernel), rd_m 447 (by decide +kernel), by decide +kernel, by decide +kernel, _, _, _, rfl, rd_ms (by decide +kernel)⟩
theorem ml_S_108 : rd_lV "ReinsuranceDesk$Cession" 108 x_S_cedeExcessOfEachClaim 1 0 := ⟨ok_S_cedeExcessOfEachClaim, rd_m 453 (by decide +kernel), rd_m 455 (by decide +kernel), by decide +kernel, by decide +kernel, _, _, _, rfl, rd_ms (by decide +kernel)⟩
theorem ml_S_111 : rd_lV "ReinsuranceDesk$Cession" 111 x_S_cedeExcessOfEachEvent 1 0 := ⟨ok_S_cedeExcessOfEachEvent, rd_m 469 (by decide +kernel), rd_m 471 (by decide +kernel), by decide +kernel, by decide +kernel, _, _, _, rfl, rd_ms (by decide +kernel)⟩
theorem ml_S_114 : rd_lV "ReinsuranceDesk$Cession" 114 x_S_cedeStopLoss 1 0 := ⟨ok_S_cedeStopLoss, rd_m 498 (by decide +kernel), rd_m 500 (by decide +kernel), by decide +kernel, by decide +kernel, _, _, _, rfl, rd_ms (by decide +kernel)⟩
theorem fl_S_92 : rd_fl "ReinsuranceDesk$Cession" 92 3 0 := ⟨_, _, _, rfl, by decide, rd_u3, rd_m 94 (by decide +kernel)⟩
theorem fl_S_98 : rd_fl "ReinsuranceDesk$Cession" 98 3 2 := ⟨_, _, _, rfl, by decide, rd_u3, rd_m 99 (by decide +kernel)⟩
theorem ml_S_201 : rd_lV "ReinsuranceDesk$Cession" 201 x_T_partOf 3 3 := ⟨ok_T_partOf, rd_m 596 (by decide +kernel), rd_m 563 (by decide +kernel), by decide +kernel, by decide +kernel, _, _, _, rfl, rd_m 564 (by decide +kernel)⟩
theorem ml_S_205 : rd_lV "ReinsuranceDesk$Cession" 205 x_S_commissionOf 1 0 := ⟨ok_S_commissionOf, rd_m 597 (by decide +kernel), rd_m 546 (by decide +kernel), by decide +kernel, by decide +kernel, _, _, _, rfl, rd_m 547 (by decide +kernel)⟩
theorem ml_S_208 : rd_lV "ReinsuranceDesk$Cession" 208 x_S_reinstatementOf 1 0 := ⟨ok_S_reinstatementOf, rd_m 598 (by decide +kernel), rd_m 567 (by decide +kernel), by decide +kernel, by decide +kernel, _, _, _, rfl, rd_m 568 (by decide +kernel)⟩
theorem ml_M_180 : rd_lV "ReinsuranceDeskModel" 180 x_M_partOf 2 5 := ⟨ok_M_partOf, rd_m 804 (by decide +kernel), rd_m 806 (by decide +kernel), by decide +kernel, by decide +kernel, _, _, _, rfl, rd_ms (by decide +kernel)⟩
theorem fl_M_75 : rd_fl "ReinsuranceDeskModel" 75 5 24 := ⟨_, _, _, rfl, by decide, rd_u5, rd_m 638 (by decide +kernel)⟩
theorem ml_M_184 : rd_lV "ReinsuranceDeskModel" 184 x_M_excessOfRisks 1 5 := ⟨ok_M_excessOfRisks, rd_m 812 (by decide +kernel), rd_m 814 (by decide +kernel), by decide +kernel, by decide +kernel, _, _, _, rfl, rd_ms (by decide +kernel)⟩
theorem ml_M_188 : rd_lV "ReinsuranceDeskModel" 188 x_M_excessOfEvents 1 5 := ⟨ok_M_excessOfEvents, rd_m 823 (by decide +kernel), rd_m 825 (by decide +kernel), by decide +kernel, by decide +kernel, _, _, _, rfl, rd_ms (by decide +kernel)⟩
theorem ml_S_99 : rd_lV "ReinsuranceDesk$Cession" 99 x_S_cedeTo 1 0 := ⟨ok_S_cedeTo, rd_m 425 (by decide +kernel), rd_m 427 (by decide +kernel), by decide +kernel, by decide +kernel, _, _, _, rfl, rd_ms (by decide +kernel)⟩
theorem ml_M_191 : rd_lV "ReinsuranceDeskModel" 191 x_M_apply 1 5 := ⟨ok_M_apply, rd_m 796 (by decide +kernel), rd_m 798 (by decide +kernel), by decide +kernel, by decide +kernel, _, _, _, rfl, rd_ms (by decide +kernel)⟩
theorem ml_S_53 : rd_lV "ReinsuranceDesk$Cession" 53 x_S_begin 1 0 := ⟨ok_S_begin, rd_m 411 (by decide +kernel), rd_m 413 (by decide +kernel), by decide +kernel, by decide +kernel, _, _, _, rfl, rd_ms (by decide +kernel)⟩
theorem ml_S_57 : rd_lV "ReinsuranceDesk$Cession" 57 x_S_cedeYear 1 0 := ⟨ok_S_cedeYear, rd_m 421 (by decide +kernel), rd_m 423 (by decide +kernel), by decide +kernel, by decide +kernel, _, _, _, rfl, rd_ms (by decide +kernel)⟩
theorem fl_D_39 : rd_fl "ReinsuranceDesk" 39 4 4 := ⟨_, _, _, rfl, by decide, rd_u4, rd_m 182 (by decide +kernel)⟩
theorem fl_D_35 : rd_fl "ReinsuranceDesk" 35 4 3 := ⟨_, _, _, rfl, by decide, rd_u4, rd_m 181 (by decide +kernel)⟩
theorem ml_D_154 : rd_lV "ReinsuranceDesk" 154 x_S_workOut 1 0 := ⟨ok_S_workOut, rd_m 407 (by decide +kernel), rd_m 408 (by decide +kernel), by decide +kernel, by decide +kernel, _, _, _, rfl, rd_m 409 (by decide +kernel)⟩
theorem ml_D_216 : rd_lV "ReinsuranceDesk" 216 x_S_owedBy 2 0 := ⟨ok_S_owedBy, rd_m 592 (by decide +kernel), rd_m 593 (by decide +kernel), by decide +kernel, by decide +kernel, _, _, _, rfl, rd_m 594 (by decide +kernel)⟩
theorem fl_D_43 : rd_fl "ReinsuranceDesk" 43 4 5 := ⟨_, _, _, rfl, by decide, rd_u4, rd_m 183 (by decide +kernel)⟩
theorem ml_D_132 : rd_lV "ReinsuranceDesk" 132 x_C_has 1 1 := ⟨ok_C_has, rd_m 374 (by decide +kernel), rd_m 375 (by decide +kernel), by decide +kernel, by decide +kernel, _, _, _, rfl, rd_m 376 (by decide +kernel)⟩
theorem fl_D_26 : rd_fl "ReinsuranceDesk" 26 4 2 := ⟨_, _, _, rfl, by decide, rd_u4, rd_m 180 (by decide +kernel)⟩
theorem ml_D_107 : rd_lV "ReinsuranceDesk" 107 x_T_has 1 3 := ⟨ok_T_has, rd_m 339 (by decide +kernel), rd_m 340 (by decide +kernel), by decide +kernel, by decide +kernel, _, _, _, rfl, rd_m 341 (by decide +kernel)⟩
theorem ml_D_138 : rd_lV "ReinsuranceDesk" 138 x_D_yearOfClaim 1 4 := ⟨ok_D_yearOfClaim, rd_m 379 (by decide +kernel), rd_m 381 (by decide +kernel), by decide +kernel, by decide +kernel, _, _, _, rfl, rd_ms (by decide +kernel)⟩
theorem fl_D_163 : rd_fl "ReinsuranceDesk" 163 0 5 := ⟨_, _, _, rfl, by decide, rd_u0, rd_m 140 (by decide +kernel)⟩
theorem ml_D_62 : rd_lV "ReinsuranceDesk" 62 x_R_isTold 1 2 := ⟨ok_R_isTold, rd_m 280 (by decide +kernel), rd_m 281 (by decide +kernel), by decide +kernel, by decide +kernel, _, _, _, rfl, rd_m 282 (by decide +kernel)⟩
theorem kc_D_123 : Cond.constant "ReinsuranceDesk" 123 (Int32.ofInt (100000)) ∈ rd_ws := rd_m 356 (by decide +kernel)
theorem fl_D_126 : rd_fl "ReinsuranceDesk" 126 1 0 := ⟨_, _, _, rfl, by decide, rd_u1, rd_m 53 (by decide +kernel)⟩
theorem ml_D_129 : rd_lV "ReinsuranceDesk" 129 x_C_add 3 1 := ⟨ok_C_add, rd_m 359 (by decide +kernel), rd_m 360 (by decide +kernel), by decide +kernel, by decide +kernel, _, _, _, rfl, rd_m 361 (by decide +kernel)⟩
theorem fl_D_151 : rd_fl "ReinsuranceDesk" 151 1 2 := ⟨_, _, _, rfl, by decide, rd_u1, rd_m 58 (by decide +kernel)⟩
theorem fl_D_135 : rd_fl "ReinsuranceDesk" 135 1 5 := ⟨_, _, _, rfl, by decide, rd_u1, rd_m 67 (by decide +kernel)⟩
theorem fl_D_113 : rd_fl "ReinsuranceDesk" 113 3 2 := ⟨_, _, _, rfl, by decide, rd_u3, rd_m 100 (by decide +kernel)⟩
theorem fl_D_175 : rd_fl "ReinsuranceDesk" 175 0 6 := ⟨_, _, _, rfl, by decide, rd_u0, rd_m 142 (by decide +kernel)⟩
theorem ml_D_199 : rd_lV "ReinsuranceDesk" 199 x_T_partOf 3 3 := ⟨ok_T_partOf, rd_m 562 (by decide +kernel), rd_m 563 (by decide +kernel), by decide +kernel, by decide +kernel, _, _, _, rfl, rd_m 564 (by decide +kernel)⟩
theorem ml_D_203 : rd_lV "ReinsuranceDesk" 203 x_S_reinstatementOf 1 0 := ⟨ok_S_reinstatementOf, rd_m 566 (by decide +kernel), rd_m 567 (by decide +kernel), by decide +kernel, by decide +kernel, _, _, _, rfl, rd_m 568 (by decide +kernel)⟩
theorem fl_D_144 : rd_fl "ReinsuranceDesk" 144 1 4 := ⟨_, _, _, rfl, by decide, rd_u1, rd_m 64 (by decide +kernel)⟩
theorem fl_D_158 : rd_fl "ReinsuranceDesk" 158 0 4 := ⟨_, _, _, rfl, by decide, rd_u0, rd_m 138 (by decide +kernel)⟩
theorem ml_D_166 : rd_lV "ReinsuranceDesk" 166 x_T_isExcess 1 3 := ⟨ok_T_isExcess, rd_m 517 (by decide +kernel), rd_m 518 (by decide +kernel), by decide +kernel, by decide +kernel, _, _, _, rfl, rd_m 519 (by decide +kernel)⟩
theorem ml_D_171 : rd_lV "ReinsuranceDesk" 171 x_T_limitOf 1 3 := ⟨ok_T_limitOf, rd_m 522 (by decide +kernel), rd_m 466 (by decide +kernel), by decide +kernel, by decide +kernel, _, _, _, rfl, rd_m 467 (by decide +kernel)⟩
theorem fl_D_85 : rd_fl "ReinsuranceDesk" 85 2 1 := ⟨_, _, _, rfl, by decide, rd_u2, rd_m 32 (by decide +kernel)⟩
theorem fl_D_71 : rd_fl "ReinsuranceDesk" 71 2 0 := ⟨_, _, _, rfl, by decide, rd_u2, rd_m 29 (by decide +kernel)⟩
theorem ml_D_114 : rd_lV "ReinsuranceDesk" 114 x_T_partsOfOthers 2 3 := ⟨ok_T_partsOfOthers, rd_m 344 (by decide +kernel), rd_m 345 (by decide +kernel), by decide +kernel, by decide +kernel, _, _, _, rfl, rd_m 346 (by decide +kernel)⟩
theorem fl_D_120 : rd_fl "ReinsuranceDesk" 120 3 7 := ⟨_, _, _, rfl, by decide, rd_u3, rd_m 108 (by decide +kernel)⟩
theorem fl_D_188 : rd_fl "ReinsuranceDesk" 188 0 9 := ⟨_, _, _, rfl, by decide, rd_u0, rd_m 147 (by decide +kernel)⟩
theorem ml_D_191 : rd_lV "ReinsuranceDesk" 191 x_S_ratioOf 1 0 := ⟨ok_S_ratioOf, rd_m 539 (by decide +kernel), rd_m 540 (by decide +kernel), by decide +kernel, by decide +kernel, _, _, _, rfl, rd_m 541 (by decide +kernel)⟩
theorem ml_D_194 : rd_lV "ReinsuranceDesk" 194 x_S_commissionOf 1 0 := ⟨ok_S_commissionOf, rd_m 545 (by decide +kernel), rd_m 546 (by decide +kernel), by decide +kernel, by decide +kernel, _, _, _, rfl, rd_m 547 (by decide +kernel)⟩
theorem ml_D_88 : rd_lS "ReinsuranceDesk" 88 x_D_isShape 1 := ⟨ok_D_isShape, rd_m 319 (by decide +kernel), rd_m 320 (by decide +kernel), by decide +kernel, by decide +kernel⟩
theorem ml_D_91 : rd_lS "ReinsuranceDesk" 91 x_D_areTerms 5 := ⟨ok_D_areTerms, rd_m 322 (by decide +kernel), rd_m 323 (by decide +kernel), by decide +kernel, by decide +kernel⟩
theorem fl_D_97 : rd_fl "ReinsuranceDesk" 97 3 0 := ⟨_, _, _, rfl, by decide, rd_u3, rd_m 93 (by decide +kernel)⟩
theorem ml_D_103 : rd_lV "ReinsuranceDesk" 103 x_T_add 5 3 := ⟨ok_T_add, rd_m 328 (by decide +kernel), rd_m 329 (by decide +kernel), by decide +kernel, by decide +kernel, _, _, _, rfl, rd_m 330 (by decide +kernel)⟩
theorem ml_D_210 : rd_lV "ReinsuranceDesk" 210 x_S_workOutSupposing 3 0 := ⟨ok_S_workOutSupposing, rd_m 580 (by decide +kernel), rd_m 581 (by decide +kernel), by decide +kernel, by decide +kernel, _, _, _, rfl, rd_m 582 (by decide +kernel)⟩
theorem fl_D_178 : rd_fl "ReinsuranceDesk" 178 3 1 := ⟨_, _, _, rfl, by decide, rd_u3, rd_m 97 (by decide +kernel)⟩
theorem fl_D_183 : rd_fl "ReinsuranceDesk" 183 0 7 := ⟨_, _, _, rfl, by decide, rd_u0, rd_m 144 (by decide +kernel)⟩
theorem ml_M_194 : rd_lV "ReinsuranceDeskModel" 194 x_M_reckon 0 5 := ⟨ok_M_reckon, rd_m 788 (by decide +kernel), rd_m 790 (by decide +kernel), by decide +kernel, by decide +kernel, _, _, _, rfl, rd_ms (by decide +kernel)⟩
theorem ml_M_207 : rd_lV "ReinsuranceDeskModel" 207 x_M_commission 1 5 := ⟨ok_M_commission, rd_m 857 (by decide +kernel), rd_m 859 (by decide +kernel), by decide +kernel, by decide +kernel, _, _, _, rfl, rd_ms (by decide +kernel)⟩
theorem ml_M_214 : rd_lV "ReinsuranceDeskModel" 214 x_M_reinstatement 2 5 := ⟨ok_M_reinstatement, rd_m 871 (by decide +kernel), rd_m 873 (by decide +kernel), by decide +kernel, by decide +kernel, _, _, _, rfl, rd_ms (by decide +kernel)⟩
theorem fl_M_53 : rd_fl "ReinsuranceDeskModel" 53 5 17 := ⟨_, _, _, rfl, by decide, rd_u5, rd_m 631 (by decide +kernel)⟩
theorem ml_L_68 : rd_lV "ReinsuranceDeskLaw" 68 x_D_bill 1 4 := ⟨ok_D_bill, rd_m 587 (by decide +kernel), rd_m 588 (by decide +kernel), by decide +kernel, by decide +kernel, _, _, _, rfl, rd_m 589 (by decide +kernel)⟩
theorem ml_L_47 : rd_lV "ReinsuranceDeskLaw" 47 x_D_ceded 2 4 := ⟨ok_D_ceded, rd_m 505 (by decide +kernel), rd_m 506 (by decide +kernel), by decide +kernel, by decide +kernel, _, _, _, rfl, rd_m 507 (by decide +kernel)⟩
theorem ml_L_28 : rd_lV "ReinsuranceDeskLaw" 28 x_D_claim 3 4 := ⟨ok_D_claim, rd_m 352 (by decide +kernel), rd_m 353 (by decide +kernel), by decide +kernel, by decide +kernel, _, _, _, rfl, rd_m 354 (by decide +kernel)⟩
theorem ml_L_39 : rd_lV "ReinsuranceDeskLaw" 39 x_D_dissolve 2 4 := ⟨ok_D_dissolve, rd_m 395 (by decide +kernel), rd_m 396 (by decide +kernel), by decide +kernel, by decide +kernel, _, _, _, rfl, rd_m 397 (by decide +kernel)⟩
theorem ml_L_61 : rd_lV "ReinsuranceDeskLaw" 61 x_D_due 3 4 := ⟨ok_D_due, rd_m 557 (by decide +kernel), rd_m 558 (by decide +kernel), by decide +kernel, by decide +kernel, _, _, _, rfl, rd_m 559 (by decide +kernel)⟩
theorem ml_L_32 : rd_lV "ReinsuranceDeskLaw" 32 x_D_estimate 2 4 := ⟨ok_D_estimate, rd_m 370 (by decide +kernel), rd_m 371 (by decide +kernel), by decide +kernel, by decide +kernel, _, _, _, rfl, rd_m 372 (by decide +kernel)⟩
theorem ml_L_43 : rd_lV "ReinsuranceDeskLaw" 43 x_D_kept 1 4 := ⟨ok_D_kept, rd_m 403 (by decide +kernel), rd_m 404 (by decide +kernel), by decide +kernel, by decide +kernel, _, _, _, rfl, rd_m 405 (by decide +kernel)⟩
theorem ml_L_50 : rd_lV "ReinsuranceDeskLaw" 50 x_D_left 1 4 := ⟨ok_D_left, rd_m 513 (by decide +kernel), rd_m 514 (by decide +kernel), by decide +kernel, by decide +kernel, _, _, _, rfl, rd_m 515 (by decide +kernel)⟩
theorem ml_L_17 : rd_lV "ReinsuranceDeskLaw" 17 x_D_premium 2 4 := ⟨ok_D_premium, rd_m 303 (by decide +kernel), rd_m 304 (by decide +kernel), by decide +kernel, by decide +kernel, _, _, _, rfl, rd_m 305 (by decide +kernel)⟩
theorem ml_L_7 : rd_lV "ReinsuranceDeskLaw" 7 x_D_risk 3 4 := ⟨ok_D_risk, rd_m 202 (by decide +kernel), rd_m 203 (by decide +kernel), by decide +kernel, by decide +kernel, _, _, _, rfl, rd_m 204 (by decide +kernel)⟩
theorem ml_L_25 : rd_lV "ReinsuranceDeskLaw" 25 x_D_share 3 4 := ⟨ok_D_share, rd_m 335 (by decide +kernel), rd_m 336 (by decide +kernel), by decide +kernel, by decide +kernel, _, _, _, rfl, rd_m 337 (by decide +kernel)⟩
theorem ml_L_35 : rd_lV "ReinsuranceDeskLaw" 35 x_D_strike 1 4 := ⟨ok_D_strike, rd_m 387 (by decide +kernel), rd_m 388 (by decide +kernel), by decide +kernel, by decide +kernel, _, _, _, rfl, rd_m 389 (by decide +kernel)⟩
theorem ml_L_57 : rd_lV "ReinsuranceDeskLaw" 57 x_D_total 2 4 := ⟨ok_D_total, rd_m 534 (by decide +kernel), rd_m 535 (by decide +kernel), by decide +kernel, by decide +kernel, _, _, _, rfl, rd_m 536 (by decide +kernel)⟩
theorem ml_L_21 : rd_lV "ReinsuranceDeskLaw" 21 x_D_treaty 5 4 := ⟨ok_D_treaty, rd_m 315 (by decide +kernel), rd_m 316 (by decide +kernel), by decide +kernel, by decide +kernel, _, _, _, rfl, rd_m 317 (by decide +kernel)⟩
theorem ml_L_65 : rd_lV "ReinsuranceDeskLaw" 65 x_D_whatIf 3 4 := ⟨ok_D_whatIf, rd_m 574 (by decide +kernel), rd_m 575 (by decide +kernel), by decide +kernel, by decide +kernel, _, _, _, rfl, rd_m 576 (by decide +kernel)⟩
theorem ml_L_54 : rd_lV "ReinsuranceDeskLaw" 54 x_D_window 2 4 := ⟨ok_D_window, rd_m 526 (by decide +kernel), rd_m 527 (by decide +kernel), by decide +kernel, by decide +kernel, _, _, _, rfl, rd_m 528 (by decide +kernel)⟩
theorem ml_L_71 : rd_lV "ReinsuranceDeskLaw" 71 x_D_year 2 4 := ⟨ok_D_year, rd_m 602 (by decide +kernel), rd_m 603 (by decide +kernel), by decide +kernel, by decide +kernel, _, _, _, rfl, rd_m 604 (by decide +kernel)⟩
theorem ml_L_79 : rd_lS "ReinsuranceDeskLaw" 79 x_L_risk 4 := ⟨ok_L_risk, rd_m 197 (by decide +kernel), rd_m 198 (by decide +kernel), by decide +kernel, by decide +kernel⟩
theorem ml_L_84 : rd_lV "ReinsuranceDeskLaw" 84 x_M_risk 3 5 := ⟨ok_M_risk, rd_m 709 (by decide +kernel), rd_m 710 (by decide +kernel), by decide +kernel, by decide +kernel, _, _, _, rfl, rd_m 711 (by decide +kernel)⟩
theorem ml_L_85 : rd_lV "ReinsuranceDeskLaw" 85 x_M_thrown 0 5 := ⟨ok_M_thrown, rd_m 705 (by decide +kernel), rd_m 706 (by decide +kernel), by decide +kernel, by decide +kernel, _, _, _, rfl, rd_m 707 (by decide +kernel)⟩
theorem ml_L_89 : rd_lS "ReinsuranceDeskLaw" 89 x_L_premium 3 := ⟨ok_L_premium, rd_m 300 (by decide +kernel), rd_m 301 (by decide +kernel), by decide +kernel, by decide +kernel⟩
theorem ml_L_92 : rd_lV "ReinsuranceDeskLaw" 92 x_M_premium 2 5 := ⟨ok_M_premium, rd_m 723 (by decide +kernel), rd_m 724 (by decide +kernel), by decide +kernel, by decide +kernel, _, _, _, rfl, rd_m 725 (by decide +kernel)⟩
theorem ml_L_93 : rd_lS "ReinsuranceDeskLaw" 93 x_L_treaty 7 := ⟨ok_L_treaty, rd_m 312 (by decide +kernel), rd_m 313 (by decide +kernel), by decide +kernel, by decide +kernel⟩
theorem ml_L_96 : rd_lV "ReinsuranceDeskLaw" 96 x_M_treaty 5 5 := ⟨ok_M_treaty, rd_m 731 (by decide +kernel), rd_m 732 (by decide +kernel), by decide +kernel, by decide +kernel, _, _, _, rfl, rd_m 733 (by decide +kernel)⟩
theorem ml_L_97 : rd_lS "ReinsuranceDeskLaw" 97 x_L_share 4 := ⟨ok_L_share, rd_m 332 (by decide +kernel), rd_m 333 (by decide +kernel), by decide +kernel, by decide +kernel⟩
theorem ml_L_99 : rd_lV "ReinsuranceDeskLaw" 99 x_M_share 3 5 := ⟨ok_M_share, rd_m 742 (by decide +kernel), rd_m 743 (by decide +kernel), by decide +kernel, by decide +kernel, _, _, _, rfl, rd_m 744 (by decide +kernel)⟩
theorem ml_L_100 : rd_lS "ReinsuranceDeskLaw" 100 x_L_claim 5 := ⟨ok_L_claim, rd_m 349 (by decide +kernel), rd_m 350 (by decide +kernel), by decide +kernel, by decide +kernel⟩
theorem ml_L_103 : rd_lV "ReinsuranceDeskLaw" 103 x_M_claim 3 5 := ⟨ok_M_claim, rd_m 754 (by decide +kernel), rd_m 755 (by decide +kernel), by decide +kernel, by decide +kernel, _, _, _, rfl, rd_m 756 (by decide +kernel)⟩
theorem ml_L_104 : rd_lS "ReinsuranceDeskLaw" 104 x_L_estimate 3 := ⟨ok_L_estimate, rd_m 367 (by decide +kernel), rd_m 368 (by decide +kernel), by decide +kernel, by decide +kernel⟩
theorem ml_L_106 : rd_lV "ReinsuranceDeskLaw" 106 x_M_estimate 2 5 := ⟨ok_M_estimate, rd_m 760 (by decide +kernel), rd_m 761 (by decide +kernel), by decide +kernel, by decide +kernel, _, _, _, rfl, rd_m 762 (by decide +kernel)⟩
theorem ml_L_107 : rd_lS "ReinsuranceDeskLaw" 107 x_L_strike 2 := ⟨ok_L_strike, rd_m 384 (by decide +kernel), rd_m 385 (by decide +kernel), by decide +kernel, by decide +kernel⟩
theorem ml_L_110 : rd_lV "ReinsuranceDeskLaw" 110 x_M_strike 1 5 := ⟨ok_M_strike, rd_m 772 (by decide +kernel), rd_m 773 (by decide +kernel), by decide +kernel, by decide +kernel, _, _, _, rfl, rd_m 774 (by decide +kernel)⟩
theorem ml_L_111 : rd_lS "ReinsuranceDeskLaw" 111 x_L_dissolve 4 := ⟨ok_L_dissolve, rd_m 392 (by decide +kernel), rd_m 393 (by decide +kernel), by decide +kernel, by decide +kernel⟩
theorem ml_L_114 : rd_lV "ReinsuranceDeskLaw" 114 x_M_dissolve 2 5 := ⟨ok_M_dissolve, rd_m 776 (by decide +kernel), rd_m 777 (by decide +kernel), by decide +kernel, by decide +kernel, _, _, _, rfl, rd_m 778 (by decide +kernel)⟩
theorem ml_L_115 : rd_lS "ReinsuranceDeskLaw" 115 x_L_kept 3 := ⟨ok_L_kept, rd_m 400 (by decide +kernel), rd_m 401 (by decide +kernel), by decide +kernel, by decide +kernel⟩
theorem ml_L_118 : rd_lV "ReinsuranceDeskLaw" 118 x_M_kept 1 5 := ⟨ok_M_kept, rd_m 784 (by decide +kernel), rd_m 785 (by decide +kernel), by decide +kernel, by decide +kernel, _, _, _, rfl, rd_m 786 (by decide +kernel)⟩
theorem ml_L_119 : rd_lS "ReinsuranceDeskLaw" 119 x_L_ceded 4 := ⟨ok_L_ceded, rd_m 502 (by decide +kernel), rd_m 503 (by decide +kernel), by decide +kernel, by decide +kernel⟩
theorem ml_L_121 : rd_lV "ReinsuranceDeskLaw" 121 x_M_ceded 2 5 := ⟨ok_M_ceded, rd_m 836 (by decide +kernel), rd_m 837 (by decide +kernel), by decide +kernel, by decide +kernel, _, _, _, rfl, rd_m 838 (by decide +kernel)⟩
theorem ml_L_122 : rd_lS "ReinsuranceDeskLaw" 122 x_L_left 3 := ⟨ok_L_left, rd_m 510 (by decide +kernel), rd_m 511 (by decide +kernel), by decide +kernel, by decide +kernel⟩
theorem ml_L_124 : rd_lV "ReinsuranceDeskLaw" 124 x_M_left 1 5 := ⟨ok_M_left, rd_m 840 (by decide +kernel), rd_m 841 (by decide +kernel), by decide +kernel, by decide +kernel, _, _, _, rfl, rd_m 842 (by decide +kernel)⟩
theorem ml_L_125 : rd_lS "ReinsuranceDeskLaw" 125 x_L_window 4 := ⟨ok_L_window, rd_m 523 (by decide +kernel), rd_m 524 (by decide +kernel), by decide +kernel, by decide +kernel⟩
theorem ml_L_127 : rd_lV "ReinsuranceDeskLaw" 127 x_M_window 2 5 := ⟨ok_M_window, rd_m 844 (by decide +kernel), rd_m 845 (by decide +kernel), by decide +kernel, by decide +kernel, _, _, _, rfl, rd_m 846 (by decide +kernel)⟩
theorem ml_L_128 : rd_lS "ReinsuranceDeskLaw" 128 x_L_total 4 := ⟨ok_L_total, rd_m 531 (by decide +kernel), rd_m 532 (by decide +kernel), by decide +kernel, by decide +kernel⟩
theorem ml_L_130 : rd_lV "ReinsuranceDeskLaw" 130 x_M_total 2 5 := ⟨ok_M_total, rd_m 848 (by decide +kernel), rd_m 849 (by decide +kernel), by decide +kernel, by decide +kernel, _, _, _, rfl, rd_m 850 (by decide +kernel)⟩
theorem ml_L_131 : rd_lS "ReinsuranceDeskLaw" 131 x_L_due 5 := ⟨ok_L_due, rd_m 554 (by decide +kernel), rd_m 555 (by decide +kernel), by decide +kernel, by decide +kernel⟩
theorem ml_L_133 : rd_lV "ReinsuranceDeskLaw" 133 x_M_due 3 5 := ⟨ok_M_due, rd_m 863 (by decide +kernel), rd_m 864 (by decide +kernel), by decide +kernel, by decide +kernel, _, _, _, rfl, rd_m 865 (by decide +kernel)⟩
theorem ml_L_134 : rd_lS "ReinsuranceDeskLaw" 134 x_L_whatIf 5 := ⟨ok_L_whatIf, rd_m 571 (by decide +kernel), rd_m 572 (by decide +kernel), by decide +kernel, by decide +kernel⟩
theorem ml_L_136 : rd_lV "ReinsuranceDeskLaw" 136 x_M_whatIf 3 5 := ⟨ok_M_whatIf, rd_m 875 (by decide +kernel), rd_m 876 (by decide +kernel), by decide +kernel, by decide +kernel, _, _, _, rfl, rd_m 877 (by decide +kernel)⟩
theorem ml_L_137 : rd_lS "ReinsuranceDeskLaw" 137 x_L_bill 3 := ⟨ok_L_bill, rd_m 584 (by decide +kernel), rd_m 585 (by decide +kernel), by decide +kernel, by decide +kernel⟩
theorem ml_L_139 : rd_lV "ReinsuranceDeskLaw" 139 x_M_bill 1 5 := ⟨ok_M_bill, rd_m 879 (by decide +kernel), rd_m 880 (by decide +kernel), by decide +kernel, by decide +kernel, _, _, _, rfl, rd_m 881 (by decide +kernel)⟩
theorem ml_L_140 : rd_lS "ReinsuranceDeskLaw" 140 x_L_year 3 := ⟨ok_L_year, rd_m 599 (by decide +kernel), rd_m 600 (by decide +kernel), by decide +kernel, by decide +kernel⟩
theorem ml_L_143 : rd_lV "ReinsuranceDeskLaw" 143 x_M_year 2 5 := ⟨ok_M_year, rd_m 780 (by decide +kernel), rd_m 781 (by decide +kernel), by decide +kernel, by decide +kernel, _, _, _, rfl, rd_m 782 (by decide +kernel)⟩
end
section
/-! what the bytes say -/
theorem d_C_has_0 : decode c_C_has 0 = .ok (.iload_n 1, 1) := by decide +kernel
theorem d_C_has_1 : decode c_C_has 1 = .ok (.ifCond .lt 15, 3) := by decide +kernel
theorem d_C_has_4 : decode c_C_has 4 = .ok (.iload_n 1, 1) := by decide +kernel
theorem d_C_has_5 : decode c_C_has 5 = .ok (.aload_n 0, 1) := by decide +kernel
theorem d_C_has_6 : decode c_C_has 6 = .ok (.getfield 31, 3) := by decide +kernel
theorem d_C_has_9 : decode c_C_has 9 = .ok (.if_icmp .ge 7, 3) := by decide +kernel
theorem d_C_has_12 : decode c_C_has 12 = .ok (.iconst 1, 1) := by decide +kernel
theorem d_C_has_13 : decode c_C_has 13 = .ok (.goto 4, 3) := by decide +kernel
theorem d_C_has_16 : decode c_C_has 16 = .ok (.iconst 0, 1) := by decide +kernel
theorem d_C_has_17 : decode c_C_has 17 = .ok (.ireturn, 1) := by decide +kernel
theorem d_C_placeByHour_0 : decode c_C_placeByHour 0 = .ok (.iload_n 1, 1) := by decide +kernel
theorem d_C_placeByHour_1 : decode c_C_placeByHour 1 = .ok (.istore_n 2, 1) := by decide +kernel
theorem d_C_placeByHour_2 : decode c_C_placeByHour 2 = .ok (.iload_n 2, 1) := by decide +kernel
theorem d_C_placeByHour_3 : decode c_C_placeByHour 3 = .ok (.ifCond .le 45, 3) := by decide +kernel
theorem d_C_placeByHour_6 : decode c_C_placeByHour 6 = .ok (.aload_n 0, 1) := by decide +kernel
theorem d_C_placeByHour_7 : decode c_C_placeByHour 7 = .ok (.getfield 18, 3) := by decide +kernel
theorem d_C_placeByHour_10 : decode c_C_placeByHour 10 = .ok (.aload_n 0, 1) := by decide +kernel
theorem d_C_placeByHour_11 : decode c_C_placeByHour 11 = .ok (.getfield 28, 3) := by decide +kernel
theorem d_C_placeByHour_14 : decode c_C_placeByHour 14 = .ok (.iload_n 2, 1) := by decide +kernel
theorem d_C_placeByHour_15 : decode c_C_placeByHour 15 = .ok (.iconst 1, 1) := by decide +kernel
theorem d_C_placeByHour_16 : decode c_C_placeByHour 16 = .ok (.isub, 1) := by decide +kernel
theorem d_C_placeByHour_17 : decode c_C_placeByHour 17 = .ok (.iaload, 1) := by decide +kernel
theorem d_C_placeByHour_18 : decode c_C_placeByHour 18 = .ok (.iaload, 1) := by decide +kernel
theorem d_C_placeByHour_19 : decode c_C_placeByHour 19 = .ok (.aload_n 0, 1) := by decide +kernel
theorem d_C_placeByHour_20 : decode c_C_placeByHour 20 = .ok (.getfield 18, 3) := by decide +kernel
theorem d_C_placeByHour_23 : decode c_C_placeByHour 23 = .ok (.iload_n 1, 1) := by decide +kernel
theorem d_C_placeByHour_24 : decode c_C_placeByHour 24 = .ok (.iaload, 1) := by decide +kernel
theorem d_C_placeByHour_25 : decode c_C_placeByHour 25 = .ok (.if_icmp .le 23, 3) := by decide +kernel
theorem d_C_placeByHour_28 : decode c_C_placeByHour 28 = .ok (.aload_n 0, 1) := by decide +kernel
theorem d_C_placeByHour_29 : decode c_C_placeByHour 29 = .ok (.getfield 28, 3) := by decide +kernel
theorem d_C_placeByHour_32 : decode c_C_placeByHour 32 = .ok (.iload_n 2, 1) := by decide +kernel
theorem d_C_placeByHour_33 : decode c_C_placeByHour 33 = .ok (.aload_n 0, 1) := by decide +kernel
theorem d_C_placeByHour_34 : decode c_C_placeByHour 34 = .ok (.getfield 28, 3) := by decide +kernel
theorem d_C_placeByHour_37 : decode c_C_placeByHour 37 = .ok (.iload_n 2, 1) := by decide +kernel
theorem d_C_placeByHour_38 : decode c_C_placeByHour 38 = .ok (.iconst 1, 1) := by decide +kernel
theorem d_C_placeByHour_39 : decode c_C_placeByHour 39 = .ok (.isub, 1) := by decide +kernel
theorem d_C_placeByHour_40 : decode c_C_placeByHour 40 = .ok (.iaload, 1) := by decide +kernel
theorem d_C_placeByHour_41 : decode c_C_placeByHour 41 = .ok (.iastore, 1) := by decide +kernel
theorem d_C_placeByHour_42 : decode c_C_placeByHour 42 = .ok (.iinc 2 (-1), 3) := by decide +kernel
theorem d_C_placeByHour_45 : decode c_C_placeByHour 45 = .ok (.goto (-43), 3) := by decide +kernel
theorem d_C_placeByHour_48 : decode c_C_placeByHour 48 = .ok (.aload_n 0, 1) := by decide +kernel
theorem d_C_placeByHour_49 : decode c_C_placeByHour 49 = .ok (.getfield 28, 3) := by decide +kernel
theorem d_C_placeByHour_52 : decode c_C_placeByHour 52 = .ok (.iload_n 2, 1) := by decide +kernel
theorem d_C_placeByHour_53 : decode c_C_placeByHour 53 = .ok (.iload_n 1, 1) := by decide +kernel
theorem d_C_placeByHour_54 : decode c_C_placeByHour 54 = .ok (.iastore, 1) := by decide +kernel
theorem d_C_placeByHour_55 : decode c_C_placeByHour 55 = .ok (.return_, 1) := by decide +kernel
theorem d_J_fillI_0 : decode c_J_fillI 0 = .ok (.iconst 0, 1) := by decide +kernel
theorem d_J_fillI_1 : decode c_J_fillI 1 = .ok (.istore_n 2, 1) := by decide +kernel
theorem d_J_fillI_2 : decode c_J_fillI 2 = .ok (.aload_n 0, 1) := by decide +kernel
theorem d_J_fillI_3 : decode c_J_fillI 3 = .ok (.arraylength, 1) := by decide +kernel
theorem d_J_fillI_4 : decode c_J_fillI 4 = .ok (.istore_n 3, 1) := by decide +kernel
theorem d_J_fillI_5 : decode c_J_fillI 5 = .ok (.iload_n 2, 1) := by decide +kernel
theorem d_J_fillI_6 : decode c_J_fillI 6 = .ok (.iload_n 3, 1) := by decide +kernel
theorem d_J_fillI_7 : decode c_J_fillI 7 = .ok (.if_icmp .ge 13, 3) := by decide +kernel
theorem d_J_fillI_10 : decode c_J_fillI 10 = .ok (.aload_n 0, 1) := by decide +kernel
theorem d_J_fillI_11 : decode c_J_fillI 11 = .ok (.iload_n 2, 1) := by decide +kernel
theorem d_J_fillI_12 : decode c_J_fillI 12 = .ok (.iload_n 1, 1) := by decide +kernel
theorem d_J_fillI_13 : decode c_J_fillI 13 = .ok (.iastore, 1) := by decide +kernel
theorem d_J_fillI_14 : decode c_J_fillI 14 = .ok (.iinc 2 1, 3) := by decide +kernel
theorem d_J_fillI_17 : decode c_J_fillI 17 = .ok (.goto (-12), 3) := by decide +kernel
theorem d_J_fillI_20 : decode c_J_fillI 20 = .ok (.return_, 1) := by decide +kernel
theorem d_J_fillJ_0 : decode c_J_fillJ 0 = .ok (.iconst 0, 1) := by decide +kernel
theorem d_J_fillJ_1 : decode c_J_fillJ 1 = .ok (.istore_n 3, 1) := by decide +kernel
theorem d_J_fillJ_2 : decode c_J_fillJ 2 = .ok (.aload_n 0, 1) := by decide +kernel
theorem d_J_fillJ_3 : decode c_J_fillJ 3 = .ok (.arraylength, 1) := by decide +kernel
theorem d_J_fillJ_4 : decode c_J_fillJ 4 = .ok (.istore 4, 2) := by decide +kernel
theorem d_J_fillJ_6 : decode c_J_fillJ 6 = .ok (.iload_n 3, 1) := by decide +kernel
theorem d_J_fillJ_7 : decode c_J_fillJ 7 = .ok (.iload 4, 2) := by decide +kernel
theorem d_J_fillJ_9 : decode c_J_fillJ 9 = .ok (.if_icmp .ge 13, 3) := by decide +kernel
theorem d_J_fillJ_12 : decode c_J_fillJ 12 = .ok (.aload_n 0, 1) := by decide +kernel
theorem d_J_fillJ_13 : decode c_J_fillJ 13 = .ok (.iload_n 3, 1) := by decide +kernel
theorem d_J_fillJ_14 : decode c_J_fillJ 14 = .ok (.lload_n 1, 1) := by decide +kernel
theorem d_J_fillJ_15 : decode c_J_fillJ 15 = .ok (.lastore, 1) := by decide +kernel
theorem d_J_fillJ_16 : decode c_J_fillJ 16 = .ok (.iinc 3 1, 3) := by decide +kernel
theorem d_J_fillJ_19 : decode c_J_fillJ 19 = .ok (.goto (-13), 3) := by decide +kernel
theorem d_J_fillJ_22 : decode c_J_fillJ 22 = .ok (.return_, 1) := by decide +kernel
theorem d_J_max_0 : decode c_J_max 0 = .ok (.lload_n 0, 1) := by decide +kernel
theorem d_J_max_1 : decode c_J_max 1 = .ok (.lload_n 2, 1) := by decide +kernel
theorem d_J_max_2 : decode c_J_max 2 = .ok (.lcmp, 1) := by decide +kernel
theorem d_J_max_3 : decode c_J_max 3 = .ok (.ifCond .lt 7, 3) := by decide +kernel
theorem d_J_max_6 : decode c_J_max 6 = .ok (.lload_n 0, 1) := by decide +kernel
theorem d_J_max_7 : decode c_J_max 7 = .ok (.goto 4, 3) := by decide +kernel
theorem d_J_max_10 : decode c_J_max 10 = .ok (.lload_n 2, 1) := by decide +kernel
theorem d_J_max_11 : decode c_J_max 11 = .ok (.lreturn, 1) := by decide +kernel
theorem d_J_min_0 : decode c_J_min 0 = .ok (.lload_n 0, 1) := by decide +kernel
theorem d_J_min_1 : decode c_J_min 1 = .ok (.lload_n 2, 1) := by decide +kernel
theorem d_J_min_2 : decode c_J_min 2 = .ok (.lcmp, 1) := by decide +kernel
theorem d_J_min_3 : decode c_J_min 3 = .ok (.ifCond .gt 7, 3) := by decide +kernel
theorem d_J_min_6 : decode c_J_min 6 = .ok (.lload_n 0, 1) := by decide +kernel
theorem d_J_min_7 : decode c_J_min 7 = .ok (.goto 4, 3) := by decide +kernel
theorem d_J_min_10 : decode c_J_min 10 = .ok (.lload_n 2, 1) := by decide +kernel
theorem d_J_min_11 : decode c_J_min 11 = .ok (.lreturn, 1) := by decide +kernel
theorem d_R_isTold_0 : decode c_R_isTold 0 = .ok (.iload_n 1, 1) := by decide +kernel
theorem d_R_isTold_1 : decode c_R_isTold 1 = .ok (.ifCond .lt 22, 3) := by decide +kernel
theorem d_R_isTold_4 : decode c_R_isTold 4 = .ok (.iload_n 1, 1) := by decide +kernel
theorem d_R_isTold_5 : decode c_R_isTold 5 = .ok (.bipush 12, 2) := by decide +kernel
theorem d_R_isTold_7 : decode c_R_isTold 7 = .ok (.if_icmp .ge 16, 3) := by decide +kernel
theorem d_R_isTold_10 : decode c_R_isTold 10 = .ok (.aload_n 0, 1) := by decide +kernel
theorem d_R_isTold_11 : decode c_R_isTold 11 = .ok (.getfield 9, 3) := by decide +kernel
theorem d_R_isTold_14 : decode c_R_isTold 14 = .ok (.iload_n 1, 1) := by decide +kernel
theorem d_R_isTold_15 : decode c_R_isTold 15 = .ok (.iaload, 1) := by decide +kernel
theorem d_R_isTold_16 : decode c_R_isTold 16 = .ok (.ifCond .le 7, 3) := by decide +kernel
theorem d_R_isTold_19 : decode c_R_isTold 19 = .ok (.iconst 1, 1) := by decide +kernel
theorem d_R_isTold_20 : decode c_R_isTold 20 = .ok (.goto 4, 3) := by decide +kernel
theorem d_R_isTold_23 : decode c_R_isTold 23 = .ok (.iconst 0, 1) := by decide +kernel
theorem d_R_isTold_24 : decode c_R_isTold 24 = .ok (.ireturn, 1) := by decide +kernel
theorem d_T_add_0 : decode c_T_add 0 = .ok (.aload_n 0, 1) := by decide +kernel
theorem d_T_add_1 : decode c_T_add 1 = .ok (.getfield 34, 3) := by decide +kernel
theorem d_T_add_4 : decode c_T_add 4 = .ok (.istore 6, 2) := by decide +kernel
theorem d_T_add_6 : decode c_T_add 6 = .ok (.aload_n 0, 1) := by decide +kernel
theorem d_T_add_7 : decode c_T_add 7 = .ok (.getfield 9, 3) := by decide +kernel
theorem d_T_add_10 : decode c_T_add 10 = .ok (.iload 6, 2) := by decide +kernel
theorem d_T_add_12 : decode c_T_add 12 = .ok (.iload_n 1, 1) := by decide +kernel
theorem d_T_add_13 : decode c_T_add 13 = .ok (.bipush 10, 2) := by decide +kernel
theorem d_T_add_15 : decode c_T_add 15 = .ok (.idiv, 1) := by decide +kernel
theorem d_T_add_16 : decode c_T_add 16 = .ok (.iastore, 1) := by decide +kernel
theorem d_T_add_17 : decode c_T_add 17 = .ok (.aload_n 0, 1) := by decide +kernel
theorem d_T_add_18 : decode c_T_add 18 = .ok (.getfield 15, 3) := by decide +kernel
theorem d_T_add_21 : decode c_T_add 21 = .ok (.iload 6, 2) := by decide +kernel
theorem d_T_add_23 : decode c_T_add 23 = .ok (.iload_n 1, 1) := by decide +kernel
theorem d_T_add_24 : decode c_T_add 24 = .ok (.bipush 10, 2) := by decide +kernel
theorem d_T_add_26 : decode c_T_add 26 = .ok (.irem, 1) := by decide +kernel
theorem d_T_add_27 : decode c_T_add 27 = .ok (.iastore, 1) := by decide +kernel
theorem d_T_add_28 : decode c_T_add 28 = .ok (.aload_n 0, 1) := by decide +kernel
theorem d_T_add_29 : decode c_T_add 29 = .ok (.getfield 18, 3) := by decide +kernel
theorem d_T_add_32 : decode c_T_add 32 = .ok (.iload 6, 2) := by decide +kernel
theorem d_T_add_34 : decode c_T_add 34 = .ok (.iload_n 2, 1) := by decide +kernel
theorem d_T_add_35 : decode c_T_add 35 = .ok (.i2l, 1) := by decide +kernel
theorem d_T_add_36 : decode c_T_add 36 = .ok (.lastore, 1) := by decide +kernel
theorem d_T_add_37 : decode c_T_add 37 = .ok (.aload_n 0, 1) := by decide +kernel
theorem d_T_add_38 : decode c_T_add 38 = .ok (.getfield 22, 3) := by decide +kernel
theorem d_T_add_41 : decode c_T_add 41 = .ok (.iload 6, 2) := by decide +kernel
theorem d_T_add_43 : decode c_T_add 43 = .ok (.iload_n 3, 1) := by decide +kernel
theorem d_T_add_44 : decode c_T_add 44 = .ok (.i2l, 1) := by decide +kernel
theorem d_T_add_45 : decode c_T_add 45 = .ok (.lastore, 1) := by decide +kernel
theorem d_T_add_46 : decode c_T_add 46 = .ok (.aload_n 0, 1) := by decide +kernel
theorem d_T_add_47 : decode c_T_add 47 = .ok (.getfield 25, 3) := by decide +kernel
theorem d_T_add_50 : decode c_T_add 50 = .ok (.iload 6, 2) := by decide +kernel
theorem d_T_add_52 : decode c_T_add 52 = .ok (.iload 4, 2) := by decide +kernel
theorem d_T_add_54 : decode c_T_add 54 = .ok (.i2l, 1) := by decide +kernel
theorem d_T_add_55 : decode c_T_add 55 = .ok (.lastore, 1) := by decide +kernel
theorem d_T_add_56 : decode c_T_add 56 = .ok (.aload_n 0, 1) := by decide +kernel
theorem d_T_add_57 : decode c_T_add 57 = .ok (.getfield 28, 3) := by decide +kernel
theorem d_T_add_60 : decode c_T_add 60 = .ok (.iload 6, 2) := by decide +kernel
theorem d_T_add_62 : decode c_T_add 62 = .ok (.iload 5, 2) := by decide +kernel
theorem d_T_add_64 : decode c_T_add 64 = .ok (.i2l, 1) := by decide +kernel
theorem d_T_add_65 : decode c_T_add 65 = .ok (.lastore, 1) := by decide +kernel
theorem d_T_add_66 : decode c_T_add 66 = .ok (.aload_n 0, 1) := by decide +kernel
theorem d_T_add_67 : decode c_T_add 67 = .ok (.iload 6, 2) := by decide +kernel
theorem d_T_add_69 : decode c_T_add 69 = .ok (.iconst 1, 1) := by decide +kernel
theorem d_T_add_70 : decode c_T_add 70 = .ok (.iadd, 1) := by decide +kernel
theorem d_T_add_71 : decode c_T_add 71 = .ok (.putfield 34, 3) := by decide +kernel
theorem d_T_add_74 : decode c_T_add 74 = .ok (.iload 6, 2) := by decide +kernel
theorem d_T_add_76 : decode c_T_add 76 = .ok (.ireturn, 1) := by decide +kernel
theorem d_T_has_0 : decode c_T_has 0 = .ok (.iload_n 1, 1) := by decide +kernel
theorem d_T_has_1 : decode c_T_has 1 = .ok (.ifCond .lt 15, 3) := by decide +kernel
theorem d_T_has_4 : decode c_T_has 4 = .ok (.iload_n 1, 1) := by decide +kernel
theorem d_T_has_5 : decode c_T_has 5 = .ok (.aload_n 0, 1) := by decide +kernel
theorem d_T_has_6 : decode c_T_has 6 = .ok (.getfield 34, 3) := by decide +kernel
theorem d_T_has_9 : decode c_T_has 9 = .ok (.if_icmp .ge 7, 3) := by decide +kernel
theorem d_T_has_12 : decode c_T_has 12 = .ok (.iconst 1, 1) := by decide +kernel
theorem d_T_has_13 : decode c_T_has 13 = .ok (.goto 4, 3) := by decide +kernel
theorem d_T_has_16 : decode c_T_has 16 = .ok (.iconst 0, 1) := by decide +kernel
theorem d_T_has_17 : decode c_T_has 17 = .ok (.ireturn, 1) := by decide +kernel
theorem d_T_isExcess_0 : decode c_T_isExcess 0 = .ok (.aload_n 0, 1) := by decide +kernel
theorem d_T_isExcess_1 : decode c_T_isExcess 1 = .ok (.getfield 9, 3) := by decide +kernel
theorem d_T_isExcess_4 : decode c_T_isExcess 4 = .ok (.iload_n 1, 1) := by decide +kernel
theorem d_T_isExcess_5 : decode c_T_isExcess 5 = .ok (.iaload, 1) := by decide +kernel
theorem d_T_isExcess_6 : decode c_T_isExcess 6 = .ok (.iconst 2, 1) := by decide +kernel
theorem d_T_isExcess_7 : decode c_T_isExcess 7 = .ok (.if_icmp .eq 13, 3) := by decide +kernel
theorem d_T_isExcess_10 : decode c_T_isExcess 10 = .ok (.aload_n 0, 1) := by decide +kernel
theorem d_T_isExcess_11 : decode c_T_isExcess 11 = .ok (.getfield 9, 3) := by decide +kernel
theorem d_T_isExcess_14 : decode c_T_isExcess 14 = .ok (.iload_n 1, 1) := by decide +kernel
theorem d_T_isExcess_15 : decode c_T_isExcess 15 = .ok (.iaload, 1) := by decide +kernel
theorem d_T_isExcess_16 : decode c_T_isExcess 16 = .ok (.iconst 3, 1) := by decide +kernel
theorem d_T_isExcess_17 : decode c_T_isExcess 17 = .ok (.if_icmp .ne 7, 3) := by decide +kernel
theorem d_T_isExcess_20 : decode c_T_isExcess 20 = .ok (.iconst 1, 1) := by decide +kernel
theorem d_T_isExcess_21 : decode c_T_isExcess 21 = .ok (.goto 4, 3) := by decide +kernel
theorem d_T_isExcess_24 : decode c_T_isExcess 24 = .ok (.iconst 0, 1) := by decide +kernel
theorem d_T_isExcess_25 : decode c_T_isExcess 25 = .ok (.ireturn, 1) := by decide +kernel
theorem d_T_limitOf_0 : decode c_T_limitOf 0 = .ok (.aload_n 0, 1) := by decide +kernel
theorem d_T_limitOf_1 : decode c_T_limitOf 1 = .ok (.getfield 22, 3) := by decide +kernel
theorem d_T_limitOf_4 : decode c_T_limitOf 4 = .ok (.iload_n 1, 1) := by decide +kernel
theorem d_T_limitOf_5 : decode c_T_limitOf 5 = .ok (.laload, 1) := by decide +kernel
theorem d_T_limitOf_6 : decode c_T_limitOf 6 = .ok (.lconst 1, 1) := by decide +kernel
theorem d_T_limitOf_7 : decode c_T_limitOf 7 = .ok (.aload_n 0, 1) := by decide +kernel
theorem d_T_limitOf_8 : decode c_T_limitOf 8 = .ok (.getfield 25, 3) := by decide +kernel
theorem d_T_limitOf_11 : decode c_T_limitOf 11 = .ok (.iload_n 1, 1) := by decide +kernel
theorem d_T_limitOf_12 : decode c_T_limitOf 12 = .ok (.laload, 1) := by decide +kernel
theorem d_T_limitOf_13 : decode c_T_limitOf 13 = .ok (.ladd, 1) := by decide +kernel
theorem d_T_limitOf_14 : decode c_T_limitOf 14 = .ok (.lmul, 1) := by decide +kernel
theorem d_T_limitOf_15 : decode c_T_limitOf 15 = .ok (.lreturn, 1) := by decide +kernel
theorem d_T_partOf_0 : decode c_T_partOf 0 = .ok (.lload_n 1, 1) := by decide +kernel
theorem d_T_partOf_1 : decode c_T_partOf 1 = .ok (.aload_n 0, 1) := by decide +kernel
theorem d_T_partOf_2 : decode c_T_partOf 2 = .ok (.getfield 31, 3) := by decide +kernel
theorem d_T_partOf_5 : decode c_T_partOf 5 = .ok (.iload_n 3, 1) := by decide +kernel
theorem d_T_partOf_6 : decode c_T_partOf 6 = .ok (.bipush 6, 2) := by decide +kernel
theorem d_T_partOf_8 : decode c_T_partOf 8 = .ok (.imul, 1) := by decide +kernel
theorem d_T_partOf_9 : decode c_T_partOf 9 = .ok (.iload 4, 2) := by decide +kernel
theorem d_T_partOf_11 : decode c_T_partOf 11 = .ok (.iadd, 1) := by decide +kernel
theorem d_T_partOf_12 : decode c_T_partOf 12 = .ok (.iaload, 1) := by decide +kernel
theorem d_T_partOf_13 : decode c_T_partOf 13 = .ok (.i2l, 1) := by decide +kernel
theorem d_T_partOf_14 : decode c_T_partOf 14 = .ok (.lmul, 1) := by decide +kernel
theorem d_T_partOf_15 : decode c_T_partOf 15 = .ok (.ldc2_w 38, 3) := by decide +kernel
theorem d_T_partOf_18 : decode c_T_partOf 18 = .ok (.ldiv, 1) := by decide +kernel
theorem d_T_partOf_19 : decode c_T_partOf 19 = .ok (.lreturn, 1) := by decide +kernel
theorem d_T_partsOfOthers_0 : decode c_T_partsOfOthers 0 = .ok (.iconst 0, 1) := by decide +kernel
theorem d_T_partsOfOthers_1 : decode c_T_partsOfOthers 1 = .ok (.istore_n 3, 1) := by decide +kernel
theorem d_T_partsOfOthers_2 : decode c_T_partsOfOthers 2 = .ok (.iconst 0, 1) := by decide +kernel
theorem d_T_partsOfOthers_3 : decode c_T_partsOfOthers 3 = .ok (.istore 4, 2) := by decide +kernel
theorem d_T_partsOfOthers_5 : decode c_T_partsOfOthers 5 = .ok (.iload 4, 2) := by decide +kernel
theorem d_T_partsOfOthers_7 : decode c_T_partsOfOthers 7 = .ok (.bipush 6, 2) := by decide +kernel
theorem d_T_partsOfOthers_9 : decode c_T_partsOfOthers 9 = .ok (.if_icmp .ge 30, 3) := by decide +kernel
theorem d_T_partsOfOthers_12 : decode c_T_partsOfOthers 12 = .ok (.iload 4, 2) := by decide +kernel
theorem d_T_partsOfOthers_14 : decode c_T_partsOfOthers 14 = .ok (.iload_n 2, 1) := by decide +kernel
theorem d_T_partsOfOthers_15 : decode c_T_partsOfOthers 15 = .ok (.if_icmp .eq 18, 3) := by decide +kernel
theorem d_T_partsOfOthers_18 : decode c_T_partsOfOthers 18 = .ok (.iload_n 3, 1) := by decide +kernel
theorem d_T_partsOfOthers_19 : decode c_T_partsOfOthers 19 = .ok (.aload_n 0, 1) := by decide +kernel
theorem d_T_partsOfOthers_20 : decode c_T_partsOfOthers 20 = .ok (.getfield 31, 3) := by decide +kernel
theorem d_T_partsOfOthers_23 : decode c_T_partsOfOthers 23 = .ok (.iload_n 1, 1) := by decide +kernel
theorem d_T_partsOfOthers_24 : decode c_T_partsOfOthers 24 = .ok (.bipush 6, 2) := by decide +kernel
theorem d_T_partsOfOthers_26 : decode c_T_partsOfOthers 26 = .ok (.imul, 1) := by decide +kernel
theorem d_T_partsOfOthers_27 : decode c_T_partsOfOthers 27 = .ok (.iload 4, 2) := by decide +kernel
theorem d_T_partsOfOthers_29 : decode c_T_partsOfOthers 29 = .ok (.iadd, 1) := by decide +kernel
theorem d_T_partsOfOthers_30 : decode c_T_partsOfOthers 30 = .ok (.iaload, 1) := by decide +kernel
theorem d_T_partsOfOthers_31 : decode c_T_partsOfOthers 31 = .ok (.iadd, 1) := by decide +kernel
theorem d_T_partsOfOthers_32 : decode c_T_partsOfOthers 32 = .ok (.istore_n 3, 1) := by decide +kernel
theorem d_T_partsOfOthers_33 : decode c_T_partsOfOthers 33 = .ok (.iinc 4 1, 3) := by decide +kernel
theorem d_T_partsOfOthers_36 : decode c_T_partsOfOthers 36 = .ok (.goto (-31), 3) := by decide +kernel
theorem d_T_partsOfOthers_39 : decode c_T_partsOfOthers 39 = .ok (.iload_n 3, 1) := by decide +kernel
theorem d_T_partsOfOthers_40 : decode c_T_partsOfOthers 40 = .ok (.ireturn, 1) := by decide +kernel
theorem d_C_add_0 : decode c_C_add 0 = .ok (.aload_n 0, 1) := by decide +kernel
theorem d_C_add_1 : decode c_C_add 1 = .ok (.getfield 31, 3) := by decide +kernel
theorem d_C_add_4 : decode c_C_add 4 = .ok (.istore 4, 2) := by decide +kernel
theorem d_C_add_6 : decode c_C_add 6 = .ok (.aload_n 0, 1) := by decide +kernel
theorem d_C_add_7 : decode c_C_add 7 = .ok (.getfield 9, 3) := by decide +kernel
theorem d_C_add_10 : decode c_C_add 10 = .ok (.iload 4, 2) := by decide +kernel
theorem d_C_add_12 : decode c_C_add 12 = .ok (.iload_n 1, 1) := by decide +kernel
theorem d_C_add_13 : decode c_C_add 13 = .ok (.iastore, 1) := by decide +kernel
theorem d_C_add_14 : decode c_C_add 14 = .ok (.aload_n 0, 1) := by decide +kernel
theorem d_C_add_15 : decode c_C_add 15 = .ok (.getfield 15, 3) := by decide +kernel
theorem d_C_add_18 : decode c_C_add 18 = .ok (.iload 4, 2) := by decide +kernel
theorem d_C_add_20 : decode c_C_add 20 = .ok (.iload_n 2, 1) := by decide +kernel
theorem d_C_add_21 : decode c_C_add 21 = .ok (.iastore, 1) := by decide +kernel
theorem d_C_add_22 : decode c_C_add 22 = .ok (.aload_n 0, 1) := by decide +kernel
theorem d_C_add_23 : decode c_C_add 23 = .ok (.getfield 18, 3) := by decide +kernel
theorem d_C_add_26 : decode c_C_add 26 = .ok (.iload 4, 2) := by decide +kernel
theorem d_C_add_28 : decode c_C_add 28 = .ok (.iload_n 3, 1) := by decide +kernel
theorem d_C_add_29 : decode c_C_add 29 = .ok (.iastore, 1) := by decide +kernel
theorem d_C_add_30 : decode c_C_add 30 = .ok (.aload_n 0, 1) := by decide +kernel
theorem d_C_add_31 : decode c_C_add 31 = .ok (.iload 4, 2) := by decide +kernel
theorem d_C_add_33 : decode c_C_add 33 = .ok (.invokevirtual 35, 3) := by decide +kernel
theorem d_C_add_36 : decode c_C_add 36 = .ok (.aload_n 0, 1) := by decide +kernel
theorem d_C_add_37 : decode c_C_add 37 = .ok (.iload 4, 2) := by decide +kernel
theorem d_C_add_39 : decode c_C_add 39 = .ok (.iconst 1, 1) := by decide +kernel
theorem d_C_add_40 : decode c_C_add 40 = .ok (.iadd, 1) := by decide +kernel
theorem d_C_add_41 : decode c_C_add 41 = .ok (.putfield 31, 3) := by decide +kernel
theorem d_C_add_44 : decode c_C_add 44 = .ok (.iload 4, 2) := by decide +kernel
theorem d_C_add_46 : decode c_C_add 46 = .ok (.ireturn, 1) := by decide +kernel
theorem d_T_layerOf_0 : decode c_T_layerOf 0 = .ok (.lload_n 2, 1) := by decide +kernel
theorem d_T_layerOf_1 : decode c_T_layerOf 1 = .ok (.aload_n 0, 1) := by decide +kernel
theorem d_T_layerOf_2 : decode c_T_layerOf 2 = .ok (.getfield 18, 3) := by decide +kernel
theorem d_T_layerOf_5 : decode c_T_layerOf 5 = .ok (.iload_n 1, 1) := by decide +kernel
theorem d_T_layerOf_6 : decode c_T_layerOf 6 = .ok (.laload, 1) := by decide +kernel
theorem d_T_layerOf_7 : decode c_T_layerOf 7 = .ok (.lsub, 1) := by decide +kernel
theorem d_T_layerOf_8 : decode c_T_layerOf 8 = .ok (.lconst 0, 1) := by decide +kernel
theorem d_T_layerOf_9 : decode c_T_layerOf 9 = .ok (.invokestatic 40, 3) := by decide +kernel
theorem d_T_layerOf_12 : decode c_T_layerOf 12 = .ok (.aload_n 0, 1) := by decide +kernel
theorem d_T_layerOf_13 : decode c_T_layerOf 13 = .ok (.getfield 22, 3) := by decide +kernel
theorem d_T_layerOf_16 : decode c_T_layerOf 16 = .ok (.iload_n 1, 1) := by decide +kernel
theorem d_T_layerOf_17 : decode c_T_layerOf 17 = .ok (.laload, 1) := by decide +kernel
theorem d_T_layerOf_18 : decode c_T_layerOf 18 = .ok (.invokestatic 46, 3) := by decide +kernel
theorem d_T_layerOf_21 : decode c_T_layerOf 21 = .ok (.lreturn, 1) := by decide +kernel
theorem d_T_partOfRisk_0 : decode c_T_partOfRisk 0 = .ok (.lload_n 2, 1) := by decide +kernel
theorem d_T_partOfRisk_1 : decode c_T_partOfRisk 1 = .ok (.lconst 0, 1) := by decide +kernel
theorem d_T_partOfRisk_2 : decode c_T_partOfRisk 2 = .ok (.lcmp, 1) := by decide +kernel
theorem d_T_partOfRisk_3 : decode c_T_partOfRisk 3 = .ok (.ifCond .gt 5, 3) := by decide +kernel
theorem d_T_partOfRisk_6 : decode c_T_partOfRisk 6 = .ok (.lconst 0, 1) := by decide +kernel
theorem d_T_partOfRisk_7 : decode c_T_partOfRisk 7 = .ok (.lreturn, 1) := by decide +kernel
theorem d_T_partOfRisk_8 : decode c_T_partOfRisk 8 = .ok (.aload_n 0, 1) := by decide +kernel
theorem d_T_partOfRisk_9 : decode c_T_partOfRisk 9 = .ok (.getfield 9, 3) := by decide +kernel
theorem d_T_partOfRisk_12 : decode c_T_partOfRisk 12 = .ok (.iload_n 1, 1) := by decide +kernel
theorem d_T_partOfRisk_13 : decode c_T_partOfRisk 13 = .ok (.iaload, 1) := by decide +kernel
theorem d_T_partOfRisk_14 : decode c_T_partOfRisk 14 = .ok (.ifCond .ne 39, 3) := by decide +kernel
theorem d_T_partOfRisk_17 : decode c_T_partOfRisk 17 = .ok (.lload_n 2, 1) := by decide +kernel
theorem d_T_partOfRisk_18 : decode c_T_partOfRisk 18 = .ok (.aload_n 0, 1) := by decide +kernel
theorem d_T_partOfRisk_19 : decode c_T_partOfRisk 19 = .ok (.getfield 22, 3) := by decide +kernel
theorem d_T_partOfRisk_22 : decode c_T_partOfRisk 22 = .ok (.iload_n 1, 1) := by decide +kernel
theorem d_T_partOfRisk_23 : decode c_T_partOfRisk 23 = .ok (.laload, 1) := by decide +kernel
theorem d_T_partOfRisk_24 : decode c_T_partOfRisk 24 = .ok (.lcmp, 1) := by decide +kernel
theorem d_T_partOfRisk_25 : decode c_T_partOfRisk 25 = .ok (.ifCond .gt 12, 3) := by decide +kernel
theorem d_T_partOfRisk_28 : decode c_T_partOfRisk 28 = .ok (.aload_n 0, 1) := by decide +kernel
theorem d_T_partOfRisk_29 : decode c_T_partOfRisk 29 = .ok (.getfield 18, 3) := by decide +kernel
theorem d_T_partOfRisk_32 : decode c_T_partOfRisk 32 = .ok (.iload_n 1, 1) := by decide +kernel
theorem d_T_partOfRisk_33 : decode c_T_partOfRisk 33 = .ok (.laload, 1) := by decide +kernel
theorem d_T_partOfRisk_34 : decode c_T_partOfRisk 34 = .ok (.goto 18, 3) := by decide +kernel
theorem d_T_partOfRisk_37 : decode c_T_partOfRisk 37 = .ok (.aload_n 0, 1) := by decide +kernel
theorem d_T_partOfRisk_38 : decode c_T_partOfRisk 38 = .ok (.getfield 18, 3) := by decide +kernel
theorem d_T_partOfRisk_41 : decode c_T_partOfRisk 41 = .ok (.iload_n 1, 1) := by decide +kernel
theorem d_T_partOfRisk_42 : decode c_T_partOfRisk 42 = .ok (.laload, 1) := by decide +kernel
theorem d_T_partOfRisk_43 : decode c_T_partOfRisk 43 = .ok (.aload_n 0, 1) := by decide +kernel
theorem d_T_partOfRisk_44 : decode c_T_partOfRisk 44 = .ok (.getfield 22, 3) := by decide +kernel
theorem d_T_partOfRisk_47 : decode c_T_partOfRisk 47 = .ok (.iload_n 1, 1) := by decide +kernel
theorem d_T_partOfRisk_48 : decode c_T_partOfRisk 48 = .ok (.laload, 1) := by decide +kernel
theorem d_T_partOfRisk_49 : decode c_T_partOfRisk 49 = .ok (.lmul, 1) := by decide +kernel
theorem d_T_partOfRisk_50 : decode c_T_partOfRisk 50 = .ok (.lload_n 2, 1) := by decide +kernel
theorem d_T_partOfRisk_51 : decode c_T_partOfRisk 51 = .ok (.ldiv, 1) := by decide +kernel
theorem d_T_partOfRisk_52 : decode c_T_partOfRisk 52 = .ok (.lreturn, 1) := by decide +kernel
theorem d_T_partOfRisk_53 : decode c_T_partOfRisk 53 = .ok (.lload_n 2, 1) := by decide +kernel
theorem d_T_partOfRisk_54 : decode c_T_partOfRisk 54 = .ok (.aload_n 0, 1) := by decide +kernel
theorem d_T_partOfRisk_55 : decode c_T_partOfRisk 55 = .ok (.getfield 18, 3) := by decide +kernel
theorem d_T_partOfRisk_58 : decode c_T_partOfRisk 58 = .ok (.iload_n 1, 1) := by decide +kernel
theorem d_T_partOfRisk_59 : decode c_T_partOfRisk 59 = .ok (.laload, 1) := by decide +kernel
theorem d_T_partOfRisk_60 : decode c_T_partOfRisk 60 = .ok (.lsub, 1) := by decide +kernel
theorem d_T_partOfRisk_61 : decode c_T_partOfRisk 61 = .ok (.lconst 0, 1) := by decide +kernel
theorem d_T_partOfRisk_62 : decode c_T_partOfRisk 62 = .ok (.invokestatic 40, 3) := by decide +kernel
theorem d_T_partOfRisk_65 : decode c_T_partOfRisk 65 = .ok (.lstore 4, 2) := by decide +kernel
theorem d_T_partOfRisk_67 : decode c_T_partOfRisk 67 = .ok (.ldc2_w 38, 3) := by decide +kernel
theorem d_T_partOfRisk_70 : decode c_T_partOfRisk 70 = .ok (.lload 4, 2) := by decide +kernel
theorem d_T_partOfRisk_72 : decode c_T_partOfRisk 72 = .ok (.aload_n 0, 1) := by decide +kernel
theorem d_T_partOfRisk_73 : decode c_T_partOfRisk 73 = .ok (.getfield 18, 3) := by decide +kernel
theorem d_T_partOfRisk_76 : decode c_T_partOfRisk 76 = .ok (.iload_n 1, 1) := by decide +kernel
theorem d_T_partOfRisk_77 : decode c_T_partOfRisk 77 = .ok (.laload, 1) := by decide +kernel
theorem d_T_partOfRisk_78 : decode c_T_partOfRisk 78 = .ok (.aload_n 0, 1) := by decide +kernel
theorem d_T_partOfRisk_79 : decode c_T_partOfRisk 79 = .ok (.getfield 22, 3) := by decide +kernel
theorem d_T_partOfRisk_82 : decode c_T_partOfRisk 82 = .ok (.iload_n 1, 1) := by decide +kernel
theorem d_T_partOfRisk_83 : decode c_T_partOfRisk 83 = .ok (.laload, 1) := by decide +kernel
theorem d_T_partOfRisk_84 : decode c_T_partOfRisk 84 = .ok (.lmul, 1) := by decide +kernel
theorem d_T_partOfRisk_85 : decode c_T_partOfRisk 85 = .ok (.invokestatic 46, 3) := by decide +kernel
theorem d_T_partOfRisk_88 : decode c_T_partOfRisk 88 = .ok (.lmul, 1) := by decide +kernel
theorem d_T_partOfRisk_89 : decode c_T_partOfRisk 89 = .ok (.lload_n 2, 1) := by decide +kernel
theorem d_T_partOfRisk_90 : decode c_T_partOfRisk 90 = .ok (.ldiv, 1) := by decide +kernel
theorem d_T_partOfRisk_91 : decode c_T_partOfRisk 91 = .ok (.lreturn, 1) := by decide +kernel
theorem d_T_takenOfLayers_0 : decode c_T_takenOfLayers 0 = .ok (.lload_n 2, 1) := by decide +kernel
theorem d_T_takenOfLayers_1 : decode c_T_takenOfLayers 1 = .ok (.aload_n 0, 1) := by decide +kernel
theorem d_T_takenOfLayers_2 : decode c_T_takenOfLayers 2 = .ok (.getfield 28, 3) := by decide +kernel
theorem d_T_takenOfLayers_5 : decode c_T_takenOfLayers 5 = .ok (.iload_n 1, 1) := by decide +kernel
theorem d_T_takenOfLayers_6 : decode c_T_takenOfLayers 6 = .ok (.laload, 1) := by decide +kernel
theorem d_T_takenOfLayers_7 : decode c_T_takenOfLayers 7 = .ok (.lsub, 1) := by decide +kernel
theorem d_T_takenOfLayers_8 : decode c_T_takenOfLayers 8 = .ok (.lconst 0, 1) := by decide +kernel
theorem d_T_takenOfLayers_9 : decode c_T_takenOfLayers 9 = .ok (.invokestatic 40, 3) := by decide +kernel
theorem d_T_takenOfLayers_12 : decode c_T_takenOfLayers 12 = .ok (.aload_n 0, 1) := by decide +kernel
theorem d_T_takenOfLayers_13 : decode c_T_takenOfLayers 13 = .ok (.iload_n 1, 1) := by decide +kernel
theorem d_T_takenOfLayers_14 : decode c_T_takenOfLayers 14 = .ok (.invokevirtual 49, 3) := by decide +kernel
theorem d_T_takenOfLayers_17 : decode c_T_takenOfLayers 17 = .ok (.invokestatic 46, 3) := by decide +kernel
theorem d_T_takenOfLayers_20 : decode c_T_takenOfLayers 20 = .ok (.lreturn, 1) := by decide +kernel
end
section
/-! what the bytes say -/
theorem d_S_dropOutside_0 : decode c_S_dropOutside 0 = .ok (.iconst 0, 1) := by decide +kernel
theorem d_S_dropOutside_1 : decode c_S_dropOutside 1 = .ok (.istore_n 2, 1) := by decide +kernel
theorem d_S_dropOutside_2 : decode c_S_dropOutside 2 = .ok (.iconst 0, 1) := by decide +kernel
theorem d_S_dropOutside_3 : decode c_S_dropOutside 3 = .ok (.istore_n 3, 1) := by decide +kernel
theorem d_S_dropOutside_4 : decode c_S_dropOutside 4 = .ok (.iload_n 3, 1) := by decide +kernel
theorem d_S_dropOutside_5 : decode c_S_dropOutside 5 = .ok (.aload_n 0, 1) := by decide +kernel
theorem d_S_dropOutside_6 : decode c_S_dropOutside 6 = .ok (.getfield 142, 3) := by decide +kernel
theorem d_S_dropOutside_9 : decode c_S_dropOutside 9 = .ok (.if_icmp .ge 55, 3) := by decide +kernel
theorem d_S_dropOutside_12 : decode c_S_dropOutside 12 = .ok (.aload_n 0, 1) := by decide +kernel
theorem d_S_dropOutside_13 : decode c_S_dropOutside 13 = .ok (.getfield 15, 3) := by decide +kernel
theorem d_S_dropOutside_16 : decode c_S_dropOutside 16 = .ok (.getfield 163, 3) := by decide +kernel
theorem d_S_dropOutside_19 : decode c_S_dropOutside 19 = .ok (.aload_n 0, 1) := by decide +kernel
theorem d_S_dropOutside_20 : decode c_S_dropOutside 20 = .ok (.getfield 47, 3) := by decide +kernel
theorem d_S_dropOutside_23 : decode c_S_dropOutside 23 = .ok (.iload_n 3, 1) := by decide +kernel
theorem d_S_dropOutside_24 : decode c_S_dropOutside 24 = .ok (.iaload, 1) := by decide +kernel
theorem d_S_dropOutside_25 : decode c_S_dropOutside 25 = .ok (.iaload, 1) := by decide +kernel
theorem d_S_dropOutside_26 : decode c_S_dropOutside 26 = .ok (.istore 4, 2) := by decide +kernel
theorem d_S_dropOutside_28 : decode c_S_dropOutside 28 = .ok (.iload 4, 2) := by decide +kernel
theorem d_S_dropOutside_30 : decode c_S_dropOutside 30 = .ok (.iload_n 1, 1) := by decide +kernel
theorem d_S_dropOutside_31 : decode c_S_dropOutside 31 = .ok (.if_icmp .lt 27, 3) := by decide +kernel
theorem d_S_dropOutside_34 : decode c_S_dropOutside 34 = .ok (.iload 4, 2) := by decide +kernel
theorem d_S_dropOutside_36 : decode c_S_dropOutside 36 = .ok (.iload_n 1, 1) := by decide +kernel
theorem d_S_dropOutside_37 : decode c_S_dropOutside 37 = .ok (.bipush 72, 2) := by decide +kernel
theorem d_S_dropOutside_39 : decode c_S_dropOutside 39 = .ok (.iadd, 1) := by decide +kernel
theorem d_S_dropOutside_40 : decode c_S_dropOutside 40 = .ok (.if_icmp .ge 18, 3) := by decide +kernel
theorem d_S_dropOutside_43 : decode c_S_dropOutside 43 = .ok (.aload_n 0, 1) := by decide +kernel
theorem d_S_dropOutside_44 : decode c_S_dropOutside 44 = .ok (.getfield 47, 3) := by decide +kernel
theorem d_S_dropOutside_47 : decode c_S_dropOutside 47 = .ok (.iload_n 2, 1) := by decide +kernel
theorem d_S_dropOutside_48 : decode c_S_dropOutside 48 = .ok (.aload_n 0, 1) := by decide +kernel
theorem d_S_dropOutside_49 : decode c_S_dropOutside 49 = .ok (.getfield 47, 3) := by decide +kernel
theorem d_S_dropOutside_52 : decode c_S_dropOutside 52 = .ok (.iload_n 3, 1) := by decide +kernel
theorem d_S_dropOutside_53 : decode c_S_dropOutside 53 = .ok (.iaload, 1) := by decide +kernel
theorem d_S_dropOutside_54 : decode c_S_dropOutside 54 = .ok (.iastore, 1) := by decide +kernel
theorem d_S_dropOutside_55 : decode c_S_dropOutside 55 = .ok (.iinc 2 1, 3) := by decide +kernel
theorem d_S_dropOutside_58 : decode c_S_dropOutside 58 = .ok (.iinc 3 1, 3) := by decide +kernel
theorem d_S_dropOutside_61 : decode c_S_dropOutside 61 = .ok (.goto (-57), 3) := by decide +kernel
theorem d_S_dropOutside_64 : decode c_S_dropOutside 64 = .ok (.aload_n 0, 1) := by decide +kernel
theorem d_S_dropOutside_65 : decode c_S_dropOutside 65 = .ok (.iload_n 2, 1) := by decide +kernel
theorem d_S_dropOutside_66 : decode c_S_dropOutside 66 = .ok (.putfield 142, 3) := by decide +kernel
theorem d_S_dropOutside_69 : decode c_S_dropOutside 69 = .ok (.return_, 1) := by decide +kernel
theorem d_S_gatherEvent_0 : decode c_S_gatherEvent 0 = .ok (.aload_n 0, 1) := by decide +kernel
theorem d_S_gatherEvent_1 : decode c_S_gatherEvent 1 = .ok (.iconst 0, 1) := by decide +kernel
theorem d_S_gatherEvent_2 : decode c_S_gatherEvent 2 = .ok (.putfield 142, 3) := by decide +kernel
theorem d_S_gatherEvent_5 : decode c_S_gatherEvent 5 = .ok (.iconst 0, 1) := by decide +kernel
theorem d_S_gatherEvent_6 : decode c_S_gatherEvent 6 = .ok (.istore_n 2, 1) := by decide +kernel
theorem d_S_gatherEvent_7 : decode c_S_gatherEvent 7 = .ok (.iload_n 2, 1) := by decide +kernel
theorem d_S_gatherEvent_8 : decode c_S_gatherEvent 8 = .ok (.aload_n 0, 1) := by decide +kernel
theorem d_S_gatherEvent_9 : decode c_S_gatherEvent 9 = .ok (.getfield 15, 3) := by decide +kernel
theorem d_S_gatherEvent_12 : decode c_S_gatherEvent 12 = .ok (.getfield 69, 3) := by decide +kernel
theorem d_S_gatherEvent_15 : decode c_S_gatherEvent 15 = .ok (.if_icmp .ge 51, 3) := by decide +kernel
theorem d_S_gatherEvent_18 : decode c_S_gatherEvent 18 = .ok (.aload_n 0, 1) := by decide +kernel
theorem d_S_gatherEvent_19 : decode c_S_gatherEvent 19 = .ok (.getfield 23, 3) := by decide +kernel
theorem d_S_gatherEvent_22 : decode c_S_gatherEvent 22 = .ok (.iload_n 2, 1) := by decide +kernel
theorem d_S_gatherEvent_23 : decode c_S_gatherEvent 23 = .ok (.baload, 1) := by decide +kernel
theorem d_S_gatherEvent_24 : decode c_S_gatherEvent 24 = .ok (.ifCond .eq 36, 3) := by decide +kernel
theorem d_S_gatherEvent_27 : decode c_S_gatherEvent 27 = .ok (.aload_n 0, 1) := by decide +kernel
theorem d_S_gatherEvent_28 : decode c_S_gatherEvent 28 = .ok (.getfield 15, 3) := by decide +kernel
theorem d_S_gatherEvent_31 : decode c_S_gatherEvent 31 = .ok (.getfield 160, 3) := by decide +kernel
theorem d_S_gatherEvent_34 : decode c_S_gatherEvent 34 = .ok (.iload_n 2, 1) := by decide +kernel
theorem d_S_gatherEvent_35 : decode c_S_gatherEvent 35 = .ok (.iaload, 1) := by decide +kernel
theorem d_S_gatherEvent_36 : decode c_S_gatherEvent 36 = .ok (.iload_n 1, 1) := by decide +kernel
theorem d_S_gatherEvent_37 : decode c_S_gatherEvent 37 = .ok (.if_icmp .ne 23, 3) := by decide +kernel
theorem d_S_gatherEvent_40 : decode c_S_gatherEvent 40 = .ok (.aload_n 0, 1) := by decide +kernel
theorem d_S_gatherEvent_41 : decode c_S_gatherEvent 41 = .ok (.getfield 47, 3) := by decide +kernel
theorem d_S_gatherEvent_44 : decode c_S_gatherEvent 44 = .ok (.aload_n 0, 1) := by decide +kernel
theorem d_S_gatherEvent_45 : decode c_S_gatherEvent 45 = .ok (.getfield 142, 3) := by decide +kernel
theorem d_S_gatherEvent_48 : decode c_S_gatherEvent 48 = .ok (.iload_n 2, 1) := by decide +kernel
theorem d_S_gatherEvent_49 : decode c_S_gatherEvent 49 = .ok (.iastore, 1) := by decide +kernel
theorem d_S_gatherEvent_50 : decode c_S_gatherEvent 50 = .ok (.aload_n 0, 1) := by decide +kernel
theorem d_S_gatherEvent_51 : decode c_S_gatherEvent 51 = .ok (.dup, 1) := by decide +kernel
theorem d_S_gatherEvent_52 : decode c_S_gatherEvent 52 = .ok (.getfield 142, 3) := by decide +kernel
theorem d_S_gatherEvent_55 : decode c_S_gatherEvent 55 = .ok (.iconst 1, 1) := by decide +kernel
theorem d_S_gatherEvent_56 : decode c_S_gatherEvent 56 = .ok (.iadd, 1) := by decide +kernel
theorem d_S_gatherEvent_57 : decode c_S_gatherEvent 57 = .ok (.putfield 142, 3) := by decide +kernel
theorem d_S_gatherEvent_60 : decode c_S_gatherEvent 60 = .ok (.iinc 2 1, 3) := by decide +kernel
theorem d_S_gatherEvent_63 : decode c_S_gatherEvent 63 = .ok (.goto (-56), 3) := by decide +kernel
theorem d_S_gatherEvent_66 : decode c_S_gatherEvent 66 = .ok (.return_, 1) := by decide +kernel
theorem d_S_greatestRemainder_0 : decode c_S_greatestRemainder 0 = .ok (.iconst 0, 1) := by decide +kernel
theorem d_S_greatestRemainder_1 : decode c_S_greatestRemainder 1 = .ok (.istore_n 1, 1) := by decide +kernel
theorem d_S_greatestRemainder_2 : decode c_S_greatestRemainder 2 = .ok (.iconst 1, 1) := by decide +kernel
theorem d_S_greatestRemainder_3 : decode c_S_greatestRemainder 3 = .ok (.istore_n 2, 1) := by decide +kernel
theorem d_S_greatestRemainder_4 : decode c_S_greatestRemainder 4 = .ok (.iload_n 2, 1) := by decide +kernel
theorem d_S_greatestRemainder_5 : decode c_S_greatestRemainder 5 = .ok (.aload_n 0, 1) := by decide +kernel
theorem d_S_greatestRemainder_6 : decode c_S_greatestRemainder 6 = .ok (.getfield 142, 3) := by decide +kernel
theorem d_S_greatestRemainder_9 : decode c_S_greatestRemainder 9 = .ok (.if_icmp .ge 27, 3) := by decide +kernel
theorem d_S_greatestRemainder_12 : decode c_S_greatestRemainder 12 = .ok (.aload_n 0, 1) := by decide +kernel
theorem d_S_greatestRemainder_13 : decode c_S_greatestRemainder 13 = .ok (.getfield 50, 3) := by decide +kernel
theorem d_S_greatestRemainder_16 : decode c_S_greatestRemainder 16 = .ok (.iload_n 2, 1) := by decide +kernel
theorem d_S_greatestRemainder_17 : decode c_S_greatestRemainder 17 = .ok (.laload, 1) := by decide +kernel
theorem d_S_greatestRemainder_18 : decode c_S_greatestRemainder 18 = .ok (.aload_n 0, 1) := by decide +kernel
theorem d_S_greatestRemainder_19 : decode c_S_greatestRemainder 19 = .ok (.getfield 50, 3) := by decide +kernel
theorem d_S_greatestRemainder_22 : decode c_S_greatestRemainder 22 = .ok (.iload_n 1, 1) := by decide +kernel
theorem d_S_greatestRemainder_23 : decode c_S_greatestRemainder 23 = .ok (.laload, 1) := by decide +kernel
theorem d_S_greatestRemainder_24 : decode c_S_greatestRemainder 24 = .ok (.lcmp, 1) := by decide +kernel
theorem d_S_greatestRemainder_25 : decode c_S_greatestRemainder 25 = .ok (.ifCond .le 5, 3) := by decide +kernel
theorem d_S_greatestRemainder_28 : decode c_S_greatestRemainder 28 = .ok (.iload_n 2, 1) := by decide +kernel
theorem d_S_greatestRemainder_29 : decode c_S_greatestRemainder 29 = .ok (.istore_n 1, 1) := by decide +kernel
theorem d_S_greatestRemainder_30 : decode c_S_greatestRemainder 30 = .ok (.iinc 2 1, 3) := by decide +kernel
theorem d_S_greatestRemainder_33 : decode c_S_greatestRemainder 33 = .ok (.goto (-29), 3) := by decide +kernel
theorem d_S_greatestRemainder_36 : decode c_S_greatestRemainder 36 = .ok (.iload_n 1, 1) := by decide +kernel
theorem d_S_greatestRemainder_37 : decode c_S_greatestRemainder 37 = .ok (.ireturn, 1) := by decide +kernel
theorem d_S_keptFrom_0 : decode c_S_keptFrom 0 = .ok (.lconst 0, 1) := by decide +kernel
theorem d_S_keptFrom_1 : decode c_S_keptFrom 1 = .ok (.lstore_n 2, 1) := by decide +kernel
theorem d_S_keptFrom_2 : decode c_S_keptFrom 2 = .ok (.iconst 0, 1) := by decide +kernel
theorem d_S_keptFrom_3 : decode c_S_keptFrom 3 = .ok (.istore 4, 2) := by decide +kernel
theorem d_S_keptFrom_5 : decode c_S_keptFrom 5 = .ok (.iload 4, 2) := by decide +kernel
theorem d_S_keptFrom_7 : decode c_S_keptFrom 7 = .ok (.aload_n 0, 1) := by decide +kernel
theorem d_S_keptFrom_8 : decode c_S_keptFrom 8 = .ok (.getfield 142, 3) := by decide +kernel
theorem d_S_keptFrom_11 : decode c_S_keptFrom 11 = .ok (.if_icmp .ge 57, 3) := by decide +kernel
theorem d_S_keptFrom_14 : decode c_S_keptFrom 14 = .ok (.aload_n 0, 1) := by decide +kernel
theorem d_S_keptFrom_15 : decode c_S_keptFrom 15 = .ok (.getfield 15, 3) := by decide +kernel
theorem d_S_keptFrom_18 : decode c_S_keptFrom 18 = .ok (.getfield 163, 3) := by decide +kernel
theorem d_S_keptFrom_21 : decode c_S_keptFrom 21 = .ok (.aload_n 0, 1) := by decide +kernel
theorem d_S_keptFrom_22 : decode c_S_keptFrom 22 = .ok (.getfield 47, 3) := by decide +kernel
theorem d_S_keptFrom_25 : decode c_S_keptFrom 25 = .ok (.iload 4, 2) := by decide +kernel
theorem d_S_keptFrom_27 : decode c_S_keptFrom 27 = .ok (.iaload, 1) := by decide +kernel
theorem d_S_keptFrom_28 : decode c_S_keptFrom 28 = .ok (.iaload, 1) := by decide +kernel
theorem d_S_keptFrom_29 : decode c_S_keptFrom 29 = .ok (.istore 5, 2) := by decide +kernel
theorem d_S_keptFrom_31 : decode c_S_keptFrom 31 = .ok (.iload 5, 2) := by decide +kernel
theorem d_S_keptFrom_33 : decode c_S_keptFrom 33 = .ok (.iload_n 1, 1) := by decide +kernel
theorem d_S_keptFrom_34 : decode c_S_keptFrom 34 = .ok (.if_icmp .lt 28, 3) := by decide +kernel
theorem d_S_keptFrom_37 : decode c_S_keptFrom 37 = .ok (.iload 5, 2) := by decide +kernel
theorem d_S_keptFrom_39 : decode c_S_keptFrom 39 = .ok (.iload_n 1, 1) := by decide +kernel
theorem d_S_keptFrom_40 : decode c_S_keptFrom 40 = .ok (.bipush 72, 2) := by decide +kernel
theorem d_S_keptFrom_42 : decode c_S_keptFrom 42 = .ok (.iadd, 1) := by decide +kernel
theorem d_S_keptFrom_43 : decode c_S_keptFrom 43 = .ok (.if_icmp .ge 19, 3) := by decide +kernel
theorem d_S_keptFrom_46 : decode c_S_keptFrom 46 = .ok (.lload_n 2, 1) := by decide +kernel
theorem d_S_keptFrom_47 : decode c_S_keptFrom 47 = .ok (.aload_n 0, 1) := by decide +kernel
theorem d_S_keptFrom_48 : decode c_S_keptFrom 48 = .ok (.getfield 27, 3) := by decide +kernel
theorem d_S_keptFrom_51 : decode c_S_keptFrom 51 = .ok (.aload_n 0, 1) := by decide +kernel
theorem d_S_keptFrom_52 : decode c_S_keptFrom 52 = .ok (.getfield 47, 3) := by decide +kernel
theorem d_S_keptFrom_55 : decode c_S_keptFrom 55 = .ok (.iload 4, 2) := by decide +kernel
theorem d_S_keptFrom_57 : decode c_S_keptFrom 57 = .ok (.iaload, 1) := by decide +kernel
theorem d_S_keptFrom_58 : decode c_S_keptFrom 58 = .ok (.iaload, 1) := by decide +kernel
theorem d_S_keptFrom_59 : decode c_S_keptFrom 59 = .ok (.i2l, 1) := by decide +kernel
theorem d_S_keptFrom_60 : decode c_S_keptFrom 60 = .ok (.ladd, 1) := by decide +kernel
theorem d_S_keptFrom_61 : decode c_S_keptFrom 61 = .ok (.lstore_n 2, 1) := by decide +kernel
theorem d_S_keptFrom_62 : decode c_S_keptFrom 62 = .ok (.iinc 4 1, 3) := by decide +kernel
theorem d_S_keptFrom_65 : decode c_S_keptFrom 65 = .ok (.goto (-60), 3) := by decide +kernel
theorem d_S_keptFrom_68 : decode c_S_keptFrom 68 = .ok (.lload_n 2, 1) := by decide +kernel
theorem d_S_keptFrom_69 : decode c_S_keptFrom 69 = .ok (.lreturn, 1) := by decide +kernel
theorem d_S_take_0 : decode c_S_take 0 = .ok (.aload_n 0, 1) := by decide +kernel
theorem d_S_take_1 : decode c_S_take 1 = .ok (.getfield 27, 3) := by decide +kernel
theorem d_S_take_4 : decode c_S_take 4 = .ok (.iload_n 2, 1) := by decide +kernel
theorem d_S_take_5 : decode c_S_take 5 = .ok (.dup2, 1) := by decide +kernel
theorem d_S_take_6 : decode c_S_take 6 = .ok (.iaload, 1) := by decide +kernel
theorem d_S_take_7 : decode c_S_take 7 = .ok (.lload_n 3, 1) := by decide +kernel
theorem d_S_take_8 : decode c_S_take 8 = .ok (.l2i, 1) := by decide +kernel
theorem d_S_take_9 : decode c_S_take 9 = .ok (.isub, 1) := by decide +kernel
theorem d_S_take_10 : decode c_S_take 10 = .ok (.iastore, 1) := by decide +kernel
theorem d_S_take_11 : decode c_S_take 11 = .ok (.aload_n 0, 1) := by decide +kernel
theorem d_S_take_12 : decode c_S_take 12 = .ok (.getfield 31, 3) := by decide +kernel
theorem d_S_take_15 : decode c_S_take 15 = .ok (.iload_n 1, 1) := by decide +kernel
theorem d_S_take_16 : decode c_S_take 16 = .ok (.bipush 40, 2) := by decide +kernel
theorem d_S_take_18 : decode c_S_take 18 = .ok (.imul, 1) := by decide +kernel
theorem d_S_take_19 : decode c_S_take 19 = .ok (.iload_n 2, 1) := by decide +kernel
theorem d_S_take_20 : decode c_S_take 20 = .ok (.iadd, 1) := by decide +kernel
theorem d_S_take_21 : decode c_S_take 21 = .ok (.dup2, 1) := by decide +kernel
theorem d_S_take_22 : decode c_S_take 22 = .ok (.iaload, 1) := by decide +kernel
theorem d_S_take_23 : decode c_S_take 23 = .ok (.lload_n 3, 1) := by decide +kernel
theorem d_S_take_24 : decode c_S_take 24 = .ok (.l2i, 1) := by decide +kernel
theorem d_S_take_25 : decode c_S_take 25 = .ok (.iadd, 1) := by decide +kernel
theorem d_S_take_26 : decode c_S_take 26 = .ok (.iastore, 1) := by decide +kernel
theorem d_S_take_27 : decode c_S_take 27 = .ok (.aload_n 0, 1) := by decide +kernel
theorem d_S_take_28 : decode c_S_take 28 = .ok (.getfield 34, 3) := by decide +kernel
theorem d_S_take_31 : decode c_S_take 31 = .ok (.iload_n 1, 1) := by decide +kernel
theorem d_S_take_32 : decode c_S_take 32 = .ok (.dup2, 1) := by decide +kernel
theorem d_S_take_33 : decode c_S_take 33 = .ok (.laload, 1) := by decide +kernel
theorem d_S_take_34 : decode c_S_take 34 = .ok (.lload_n 3, 1) := by decide +kernel
theorem d_S_take_35 : decode c_S_take 35 = .ok (.ladd, 1) := by decide +kernel
theorem d_S_take_36 : decode c_S_take 36 = .ok (.lastore, 1) := by decide +kernel
theorem d_S_take_37 : decode c_S_take 37 = .ok (.return_, 1) := by decide +kernel
theorem d_S_begin_0 : decode c_S_begin 0 = .ok (.aload_n 0, 1) := by decide +kernel
theorem d_S_begin_1 : decode c_S_begin 1 = .ok (.getfield 31, 3) := by decide +kernel
theorem d_S_begin_4 : decode c_S_begin 4 = .ok (.iconst 0, 1) := by decide +kernel
theorem d_S_begin_5 : decode c_S_begin 5 = .ok (.invokestatic 60, 3) := by decide +kernel
theorem d_S_begin_8 : decode c_S_begin 8 = .ok (.aload_n 0, 1) := by decide +kernel
theorem d_S_begin_9 : decode c_S_begin 9 = .ok (.getfield 34, 3) := by decide +kernel
theorem d_S_begin_12 : decode c_S_begin 12 = .ok (.lconst 0, 1) := by decide +kernel
theorem d_S_begin_13 : decode c_S_begin 13 = .ok (.invokestatic 66, 3) := by decide +kernel
theorem d_S_begin_16 : decode c_S_begin 16 = .ok (.aload_n 0, 1) := by decide +kernel
theorem d_S_begin_17 : decode c_S_begin 17 = .ok (.getfield 44, 3) := by decide +kernel
theorem d_S_begin_20 : decode c_S_begin 20 = .ok (.lconst 0, 1) := by decide +kernel
theorem d_S_begin_21 : decode c_S_begin 21 = .ok (.invokestatic 66, 3) := by decide +kernel
theorem d_S_begin_24 : decode c_S_begin 24 = .ok (.aload_n 0, 1) := by decide +kernel
theorem d_S_begin_25 : decode c_S_begin 25 = .ok (.getfield 38, 3) := by decide +kernel
theorem d_S_begin_28 : decode c_S_begin 28 = .ok (.iconst (-1), 1) := by decide +kernel
theorem d_S_begin_29 : decode c_S_begin 29 = .ok (.invokestatic 60, 3) := by decide +kernel
theorem d_S_begin_32 : decode c_S_begin 32 = .ok (.iconst 0, 1) := by decide +kernel
theorem d_S_begin_33 : decode c_S_begin 33 = .ok (.istore_n 2, 1) := by decide +kernel
theorem d_S_begin_34 : decode c_S_begin 34 = .ok (.iload_n 2, 1) := by decide +kernel
theorem d_S_begin_35 : decode c_S_begin 35 = .ok (.aload_n 0, 1) := by decide +kernel
theorem d_S_begin_36 : decode c_S_begin 36 = .ok (.getfield 15, 3) := by decide +kernel
theorem d_S_begin_39 : decode c_S_begin 39 = .ok (.getfield 69, 3) := by decide +kernel
theorem d_S_begin_42 : decode c_S_begin 42 = .ok (.if_icmp .ge 81, 3) := by decide +kernel
theorem d_S_begin_45 : decode c_S_begin 45 = .ok (.aload_n 0, 1) := by decide +kernel
theorem d_S_begin_46 : decode c_S_begin 46 = .ok (.getfield 23, 3) := by decide +kernel
theorem d_S_begin_49 : decode c_S_begin 49 = .ok (.iload_n 2, 1) := by decide +kernel
theorem d_S_begin_50 : decode c_S_begin 50 = .ok (.aload_n 0, 1) := by decide +kernel
theorem d_S_begin_51 : decode c_S_begin 51 = .ok (.getfield 15, 3) := by decide +kernel
theorem d_S_begin_54 : decode c_S_begin 54 = .ok (.getfield 75, 3) := by decide +kernel
theorem d_S_begin_57 : decode c_S_begin 57 = .ok (.iload_n 2, 1) := by decide +kernel
theorem d_S_begin_58 : decode c_S_begin 58 = .ok (.baload, 1) := by decide +kernel
theorem d_S_begin_59 : decode c_S_begin 59 = .ok (.ifCond .ne 28, 3) := by decide +kernel
theorem d_S_begin_62 : decode c_S_begin 62 = .ok (.aload_n 0, 1) := by decide +kernel
theorem d_S_begin_63 : decode c_S_begin 63 = .ok (.getfield 9, 3) := by decide +kernel
theorem d_S_begin_66 : decode c_S_begin 66 = .ok (.getfield 78, 3) := by decide +kernel
theorem d_S_begin_69 : decode c_S_begin 69 = .ok (.aload_n 0, 1) := by decide +kernel
theorem d_S_begin_70 : decode c_S_begin 70 = .ok (.getfield 15, 3) := by decide +kernel
theorem d_S_begin_73 : decode c_S_begin 73 = .ok (.getfield 83, 3) := by decide +kernel
theorem d_S_begin_76 : decode c_S_begin 76 = .ok (.iload_n 2, 1) := by decide +kernel
theorem d_S_begin_77 : decode c_S_begin 77 = .ok (.iaload, 1) := by decide +kernel
theorem d_S_begin_78 : decode c_S_begin 78 = .ok (.iaload, 1) := by decide +kernel
theorem d_S_begin_79 : decode c_S_begin 79 = .ok (.iload_n 1, 1) := by decide +kernel
theorem d_S_begin_80 : decode c_S_begin 80 = .ok (.if_icmp .ne 7, 3) := by decide +kernel
theorem d_S_begin_83 : decode c_S_begin 83 = .ok (.iconst 1, 1) := by decide +kernel
theorem d_S_begin_84 : decode c_S_begin 84 = .ok (.goto 4, 3) := by decide +kernel
theorem d_S_begin_87 : decode c_S_begin 87 = .ok (.iconst 0, 1) := by decide +kernel
theorem d_S_begin_88 : decode c_S_begin 88 = .ok (.bastore, 1) := by decide +kernel
theorem d_S_begin_89 : decode c_S_begin 89 = .ok (.aload_n 0, 1) := by decide +kernel
theorem d_S_begin_90 : decode c_S_begin 90 = .ok (.getfield 27, 3) := by decide +kernel
theorem d_S_begin_93 : decode c_S_begin 93 = .ok (.iload_n 2, 1) := by decide +kernel
theorem d_S_begin_94 : decode c_S_begin 94 = .ok (.aload_n 0, 1) := by decide +kernel
theorem d_S_begin_95 : decode c_S_begin 95 = .ok (.getfield 23, 3) := by decide +kernel
theorem d_S_begin_98 : decode c_S_begin 98 = .ok (.iload_n 2, 1) := by decide +kernel
theorem d_S_begin_99 : decode c_S_begin 99 = .ok (.baload, 1) := by decide +kernel
theorem d_S_begin_100 : decode c_S_begin 100 = .ok (.ifCond .eq 15, 3) := by decide +kernel
theorem d_S_begin_103 : decode c_S_begin 103 = .ok (.aload_n 0, 1) := by decide +kernel
theorem d_S_begin_104 : decode c_S_begin 104 = .ok (.getfield 15, 3) := by decide +kernel
theorem d_S_begin_107 : decode c_S_begin 107 = .ok (.getfield 86, 3) := by decide +kernel
theorem d_S_begin_110 : decode c_S_begin 110 = .ok (.iload_n 2, 1) := by decide +kernel
theorem d_S_begin_111 : decode c_S_begin 111 = .ok (.iaload, 1) := by decide +kernel
theorem d_S_begin_112 : decode c_S_begin 112 = .ok (.goto 4, 3) := by decide +kernel
theorem d_S_begin_115 : decode c_S_begin 115 = .ok (.iconst 0, 1) := by decide +kernel
theorem d_S_begin_116 : decode c_S_begin 116 = .ok (.iastore, 1) := by decide +kernel
theorem d_S_begin_117 : decode c_S_begin 117 = .ok (.iinc 2 1, 3) := by decide +kernel
theorem d_S_begin_120 : decode c_S_begin 120 = .ok (.goto (-86), 3) := by decide +kernel
theorem d_S_begin_123 : decode c_S_begin 123 = .ok (.iconst 0, 1) := by decide +kernel
theorem d_S_begin_124 : decode c_S_begin 124 = .ok (.istore_n 2, 1) := by decide +kernel
theorem d_S_begin_125 : decode c_S_begin 125 = .ok (.iload_n 2, 1) := by decide +kernel
theorem d_S_begin_126 : decode c_S_begin 126 = .ok (.bipush 12, 2) := by decide +kernel
theorem d_S_begin_128 : decode c_S_begin 128 = .ok (.if_icmp .ge 42, 3) := by decide +kernel
theorem d_S_begin_131 : decode c_S_begin 131 = .ok (.aload_n 0, 1) := by decide +kernel
theorem d_S_begin_132 : decode c_S_begin 132 = .ok (.getfield 41, 3) := by decide +kernel
theorem d_S_begin_135 : decode c_S_begin 135 = .ok (.iload_n 2, 1) := by decide +kernel
theorem d_S_begin_136 : decode c_S_begin 136 = .ok (.aload_n 0, 1) := by decide +kernel
theorem d_S_begin_137 : decode c_S_begin 137 = .ok (.getfield 9, 3) := by decide +kernel
theorem d_S_begin_140 : decode c_S_begin 140 = .ok (.getfield 78, 3) := by decide +kernel
theorem d_S_begin_143 : decode c_S_begin 143 = .ok (.iload_n 2, 1) := by decide +kernel
theorem d_S_begin_144 : decode c_S_begin 144 = .ok (.iaload, 1) := by decide +kernel
theorem d_S_begin_145 : decode c_S_begin 145 = .ok (.iload_n 1, 1) := by decide +kernel
theorem d_S_begin_146 : decode c_S_begin 146 = .ok (.if_icmp .ne 16, 3) := by decide +kernel
theorem d_S_begin_149 : decode c_S_begin 149 = .ok (.aload_n 0, 1) := by decide +kernel
theorem d_S_begin_150 : decode c_S_begin 150 = .ok (.getfield 9, 3) := by decide +kernel
theorem d_S_begin_153 : decode c_S_begin 153 = .ok (.getfield 89, 3) := by decide +kernel
theorem d_S_begin_156 : decode c_S_begin 156 = .ok (.iload_n 2, 1) := by decide +kernel
theorem d_S_begin_157 : decode c_S_begin 157 = .ok (.iaload, 1) := by decide +kernel
theorem d_S_begin_158 : decode c_S_begin 158 = .ok (.i2l, 1) := by decide +kernel
theorem d_S_begin_159 : decode c_S_begin 159 = .ok (.goto 4, 3) := by decide +kernel
theorem d_S_begin_162 : decode c_S_begin 162 = .ok (.lconst 0, 1) := by decide +kernel
theorem d_S_begin_163 : decode c_S_begin 163 = .ok (.lastore, 1) := by decide +kernel
theorem d_S_begin_164 : decode c_S_begin 164 = .ok (.iinc 2 1, 3) := by decide +kernel
theorem d_S_begin_167 : decode c_S_begin 167 = .ok (.goto (-42), 3) := by decide +kernel
theorem d_S_begin_170 : decode c_S_begin 170 = .ok (.return_, 1) := by decide +kernel
theorem d_S_ratioOf_0 : decode c_S_ratioOf 0 = .ok (.aload_n 0, 1) := by decide +kernel
theorem d_S_ratioOf_1 : decode c_S_ratioOf 1 = .ok (.getfield 44, 3) := by decide +kernel
theorem d_S_ratioOf_4 : decode c_S_ratioOf 4 = .ok (.iload_n 1, 1) := by decide +kernel
theorem d_S_ratioOf_5 : decode c_S_ratioOf 5 = .ok (.laload, 1) := by decide +kernel
theorem d_S_ratioOf_6 : decode c_S_ratioOf 6 = .ok (.lconst 0, 1) := by decide +kernel
theorem d_S_ratioOf_7 : decode c_S_ratioOf 7 = .ok (.lcmp, 1) := by decide +kernel
theorem d_S_ratioOf_8 : decode c_S_ratioOf 8 = .ok (.ifCond .gt 5, 3) := by decide +kernel
theorem d_S_ratioOf_11 : decode c_S_ratioOf 11 = .ok (.lconst 0, 1) := by decide +kernel
theorem d_S_ratioOf_12 : decode c_S_ratioOf 12 = .ok (.lreturn, 1) := by decide +kernel
theorem d_S_ratioOf_13 : decode c_S_ratioOf 13 = .ok (.aload_n 0, 1) := by decide +kernel
theorem d_S_ratioOf_14 : decode c_S_ratioOf 14 = .ok (.getfield 34, 3) := by decide +kernel
theorem d_S_ratioOf_17 : decode c_S_ratioOf 17 = .ok (.iload_n 1, 1) := by decide +kernel
theorem d_S_ratioOf_18 : decode c_S_ratioOf 18 = .ok (.laload, 1) := by decide +kernel
theorem d_S_ratioOf_19 : decode c_S_ratioOf 19 = .ok (.ldc2_w 124, 3) := by decide +kernel
theorem d_S_ratioOf_22 : decode c_S_ratioOf 22 = .ok (.lmul, 1) := by decide +kernel
theorem d_S_ratioOf_23 : decode c_S_ratioOf 23 = .ok (.aload_n 0, 1) := by decide +kernel
theorem d_S_ratioOf_24 : decode c_S_ratioOf 24 = .ok (.getfield 44, 3) := by decide +kernel
theorem d_S_ratioOf_27 : decode c_S_ratioOf 27 = .ok (.iload_n 1, 1) := by decide +kernel
theorem d_S_ratioOf_28 : decode c_S_ratioOf 28 = .ok (.laload, 1) := by decide +kernel
theorem d_S_ratioOf_29 : decode c_S_ratioOf 29 = .ok (.ldiv, 1) := by decide +kernel
theorem d_S_ratioOf_30 : decode c_S_ratioOf 30 = .ok (.ldc2_w 171, 3) := by decide +kernel
theorem d_S_ratioOf_33 : decode c_S_ratioOf 33 = .ok (.invokestatic 173, 3) := by decide +kernel
theorem d_S_ratioOf_36 : decode c_S_ratioOf 36 = .ok (.lreturn, 1) := by decide +kernel
theorem d_S_reinstatementOf_0 : decode c_S_reinstatementOf 0 = .ok (.aload_n 0, 1) := by decide +kernel
theorem d_S_reinstatementOf_1 : decode c_S_reinstatementOf 1 = .ok (.getfield 19, 3) := by decide +kernel
theorem d_S_reinstatementOf_4 : decode c_S_reinstatementOf 4 = .ok (.getfield 191, 3) := by decide +kernel
theorem d_S_reinstatementOf_7 : decode c_S_reinstatementOf 7 = .ok (.iload_n 1, 1) := by decide +kernel
theorem d_S_reinstatementOf_8 : decode c_S_reinstatementOf 8 = .ok (.laload, 1) := by decide +kernel
theorem d_S_reinstatementOf_9 : decode c_S_reinstatementOf 9 = .ok (.lstore_n 2, 1) := by decide +kernel
theorem d_S_reinstatementOf_10 : decode c_S_reinstatementOf 10 = .ok (.aload_n 0, 1) := by decide +kernel
theorem d_S_reinstatementOf_11 : decode c_S_reinstatementOf 11 = .ok (.getfield 19, 3) := by decide +kernel
theorem d_S_reinstatementOf_14 : decode c_S_reinstatementOf 14 = .ok (.iload_n 1, 1) := by decide +kernel
theorem d_S_reinstatementOf_15 : decode c_S_reinstatementOf 15 = .ok (.invokevirtual 194, 3) := by decide +kernel
theorem d_S_reinstatementOf_18 : decode c_S_reinstatementOf 18 = .ok (.ifCond .eq 9, 3) := by decide +kernel
theorem d_S_reinstatementOf_21 : decode c_S_reinstatementOf 21 = .ok (.lload_n 2, 1) := by decide +kernel
theorem d_S_reinstatementOf_22 : decode c_S_reinstatementOf 22 = .ok (.lconst 0, 1) := by decide +kernel
theorem d_S_reinstatementOf_23 : decode c_S_reinstatementOf 23 = .ok (.lcmp, 1) := by decide +kernel
theorem d_S_reinstatementOf_24 : decode c_S_reinstatementOf 24 = .ok (.ifCond .gt 5, 3) := by decide +kernel
theorem d_S_reinstatementOf_27 : decode c_S_reinstatementOf 27 = .ok (.lconst 0, 1) := by decide +kernel
theorem d_S_reinstatementOf_28 : decode c_S_reinstatementOf 28 = .ok (.lreturn, 1) := by decide +kernel
theorem d_S_reinstatementOf_29 : decode c_S_reinstatementOf 29 = .ok (.lload_n 2, 1) := by decide +kernel
theorem d_S_reinstatementOf_30 : decode c_S_reinstatementOf 30 = .ok (.ldc2_w 189, 3) := by decide +kernel
theorem d_S_reinstatementOf_33 : decode c_S_reinstatementOf 33 = .ok (.lmul, 1) := by decide +kernel
theorem d_S_reinstatementOf_34 : decode c_S_reinstatementOf 34 = .ok (.ldc2_w 124, 3) := by decide +kernel
theorem d_S_reinstatementOf_37 : decode c_S_reinstatementOf 37 = .ok (.ldiv, 1) := by decide +kernel
theorem d_S_reinstatementOf_38 : decode c_S_reinstatementOf 38 = .ok (.lstore 4, 2) := by decide +kernel
theorem d_S_reinstatementOf_40 : decode c_S_reinstatementOf 40 = .ok (.lload 4, 2) := by decide +kernel
theorem d_S_reinstatementOf_42 : decode c_S_reinstatementOf 42 = .ok (.aload_n 0, 1) := by decide +kernel
theorem d_S_reinstatementOf_43 : decode c_S_reinstatementOf 43 = .ok (.getfield 34, 3) := by decide +kernel
theorem d_S_reinstatementOf_46 : decode c_S_reinstatementOf 46 = .ok (.iload_n 1, 1) := by decide +kernel
theorem d_S_reinstatementOf_47 : decode c_S_reinstatementOf 47 = .ok (.laload, 1) := by decide +kernel
theorem d_S_reinstatementOf_48 : decode c_S_reinstatementOf 48 = .ok (.lload_n 2, 1) := by decide +kernel
theorem d_S_reinstatementOf_49 : decode c_S_reinstatementOf 49 = .ok (.aload_n 0, 1) := by decide +kernel
theorem d_S_reinstatementOf_50 : decode c_S_reinstatementOf 50 = .ok (.getfield 19, 3) := by decide +kernel
theorem d_S_reinstatementOf_53 : decode c_S_reinstatementOf 53 = .ok (.getfield 198, 3) := by decide +kernel
theorem d_S_reinstatementOf_56 : decode c_S_reinstatementOf 56 = .ok (.iload_n 1, 1) := by decide +kernel
theorem d_S_reinstatementOf_57 : decode c_S_reinstatementOf 57 = .ok (.laload, 1) := by decide +kernel
theorem d_S_reinstatementOf_58 : decode c_S_reinstatementOf 58 = .ok (.lmul, 1) := by decide +kernel
theorem d_S_reinstatementOf_59 : decode c_S_reinstatementOf 59 = .ok (.invokestatic 173, 3) := by decide +kernel
theorem d_S_reinstatementOf_62 : decode c_S_reinstatementOf 62 = .ok (.lmul, 1) := by decide +kernel
theorem d_S_reinstatementOf_63 : decode c_S_reinstatementOf 63 = .ok (.lload_n 2, 1) := by decide +kernel
theorem d_S_reinstatementOf_64 : decode c_S_reinstatementOf 64 = .ok (.ldiv, 1) := by decide +kernel
theorem d_S_reinstatementOf_65 : decode c_S_reinstatementOf 65 = .ok (.lreturn, 1) := by decide +kernel
theorem d_S_startOfWindow_0 : decode c_S_startOfWindow 0 = .ok (.iconst (-1), 1) := by decide +kernel
theorem d_S_startOfWindow_1 : decode c_S_startOfWindow 1 = .ok (.istore_n 1, 1) := by decide +kernel
theorem d_S_startOfWindow_2 : decode c_S_startOfWindow 2 = .ok (.ldc2_w 166, 3) := by decide +kernel
theorem d_S_startOfWindow_5 : decode c_S_startOfWindow 5 = .ok (.lstore_n 2, 1) := by decide +kernel
theorem d_S_startOfWindow_6 : decode c_S_startOfWindow 6 = .ok (.iconst 0, 1) := by decide +kernel
theorem d_S_startOfWindow_7 : decode c_S_startOfWindow 7 = .ok (.istore 4, 2) := by decide +kernel
theorem d_S_startOfWindow_9 : decode c_S_startOfWindow 9 = .ok (.iload 4, 2) := by decide +kernel
theorem d_S_startOfWindow_11 : decode c_S_startOfWindow 11 = .ok (.aload_n 0, 1) := by decide +kernel
theorem d_S_startOfWindow_12 : decode c_S_startOfWindow 12 = .ok (.getfield 142, 3) := by decide +kernel
theorem d_S_startOfWindow_15 : decode c_S_startOfWindow 15 = .ok (.if_icmp .ge 60, 3) := by decide +kernel
theorem d_S_startOfWindow_18 : decode c_S_startOfWindow 18 = .ok (.aload_n 0, 1) := by decide +kernel
theorem d_S_startOfWindow_19 : decode c_S_startOfWindow 19 = .ok (.getfield 15, 3) := by decide +kernel
theorem d_S_startOfWindow_22 : decode c_S_startOfWindow 22 = .ok (.getfield 163, 3) := by decide +kernel
theorem d_S_startOfWindow_25 : decode c_S_startOfWindow 25 = .ok (.aload_n 0, 1) := by decide +kernel
theorem d_S_startOfWindow_26 : decode c_S_startOfWindow 26 = .ok (.getfield 47, 3) := by decide +kernel
theorem d_S_startOfWindow_29 : decode c_S_startOfWindow 29 = .ok (.iload 4, 2) := by decide +kernel
theorem d_S_startOfWindow_31 : decode c_S_startOfWindow 31 = .ok (.iaload, 1) := by decide +kernel
theorem d_S_startOfWindow_32 : decode c_S_startOfWindow 32 = .ok (.iaload, 1) := by decide +kernel
theorem d_S_startOfWindow_33 : decode c_S_startOfWindow 33 = .ok (.istore 5, 2) := by decide +kernel
theorem d_S_startOfWindow_35 : decode c_S_startOfWindow 35 = .ok (.aload_n 0, 1) := by decide +kernel
theorem d_S_startOfWindow_36 : decode c_S_startOfWindow 36 = .ok (.iload 5, 2) := by decide +kernel
theorem d_S_startOfWindow_38 : decode c_S_startOfWindow 38 = .ok (.invokevirtual 152, 3) := by decide +kernel
theorem d_S_startOfWindow_41 : decode c_S_startOfWindow 41 = .ok (.lstore 6, 2) := by decide +kernel
theorem d_S_startOfWindow_43 : decode c_S_startOfWindow 43 = .ok (.lload 6, 2) := by decide +kernel
theorem d_S_startOfWindow_45 : decode c_S_startOfWindow 45 = .ok (.lload_n 2, 1) := by decide +kernel
theorem d_S_startOfWindow_46 : decode c_S_startOfWindow 46 = .ok (.lcmp, 1) := by decide +kernel
theorem d_S_startOfWindow_47 : decode c_S_startOfWindow 47 = .ok (.ifCond .gt 16, 3) := by decide +kernel
theorem d_S_startOfWindow_50 : decode c_S_startOfWindow 50 = .ok (.lload 6, 2) := by decide +kernel
theorem d_S_startOfWindow_52 : decode c_S_startOfWindow 52 = .ok (.lload_n 2, 1) := by decide +kernel
theorem d_S_startOfWindow_53 : decode c_S_startOfWindow 53 = .ok (.lcmp, 1) := by decide +kernel
theorem d_S_startOfWindow_54 : decode c_S_startOfWindow 54 = .ok (.ifCond .ne 15, 3) := by decide +kernel
theorem d_S_startOfWindow_57 : decode c_S_startOfWindow 57 = .ok (.iload 5, 2) := by decide +kernel
theorem d_S_startOfWindow_59 : decode c_S_startOfWindow 59 = .ok (.iload_n 1, 1) := by decide +kernel
theorem d_S_startOfWindow_60 : decode c_S_startOfWindow 60 = .ok (.if_icmp .ge 9, 3) := by decide +kernel
theorem d_S_startOfWindow_63 : decode c_S_startOfWindow 63 = .ok (.iload 5, 2) := by decide +kernel
theorem d_S_startOfWindow_65 : decode c_S_startOfWindow 65 = .ok (.istore_n 1, 1) := by decide +kernel
theorem d_S_startOfWindow_66 : decode c_S_startOfWindow 66 = .ok (.lload 6, 2) := by decide +kernel
theorem d_S_startOfWindow_68 : decode c_S_startOfWindow 68 = .ok (.lstore_n 2, 1) := by decide +kernel
theorem d_S_startOfWindow_69 : decode c_S_startOfWindow 69 = .ok (.iinc 4 1, 3) := by decide +kernel
theorem d_S_startOfWindow_72 : decode c_S_startOfWindow 72 = .ok (.goto (-63), 3) := by decide +kernel
theorem d_S_startOfWindow_75 : decode c_S_startOfWindow 75 = .ok (.iload_n 1, 1) := by decide +kernel
theorem d_S_startOfWindow_76 : decode c_S_startOfWindow 76 = .ok (.ireturn, 1) := by decide +kernel
theorem d_S_takeByParts_0 : decode c_S_takeByParts 0 = .ok (.lload 4, 2) := by decide +kernel
theorem d_S_takeByParts_2 : decode c_S_takeByParts 2 = .ok (.lconst 0, 1) := by decide +kernel
theorem d_S_takeByParts_3 : decode c_S_takeByParts 3 = .ok (.lcmp, 1) := by decide +kernel
theorem d_S_takeByParts_4 : decode c_S_takeByParts 4 = .ok (.ifCond .gt 4, 3) := by decide +kernel
theorem d_S_takeByParts_7 : decode c_S_takeByParts 7 = .ok (.return_, 1) := by decide +kernel
theorem d_S_takeByParts_8 : decode c_S_takeByParts 8 = .ok (.lload_n 2, 1) := by decide +kernel
theorem d_S_takeByParts_9 : decode c_S_takeByParts 9 = .ok (.lstore 6, 2) := by decide +kernel
theorem d_S_takeByParts_11 : decode c_S_takeByParts 11 = .ok (.iconst 0, 1) := by decide +kernel
theorem d_S_takeByParts_12 : decode c_S_takeByParts 12 = .ok (.istore 8, 2) := by decide +kernel
theorem d_S_takeByParts_14 : decode c_S_takeByParts 14 = .ok (.iload 8, 2) := by decide +kernel
theorem d_S_takeByParts_16 : decode c_S_takeByParts 16 = .ok (.aload_n 0, 1) := by decide +kernel
theorem d_S_takeByParts_17 : decode c_S_takeByParts 17 = .ok (.getfield 142, 3) := by decide +kernel
theorem d_S_takeByParts_20 : decode c_S_takeByParts 20 = .ok (.if_icmp .ge 65, 3) := by decide +kernel
theorem d_S_takeByParts_23 : decode c_S_takeByParts 23 = .ok (.aload_n 0, 1) := by decide +kernel
theorem d_S_takeByParts_24 : decode c_S_takeByParts 24 = .ok (.getfield 27, 3) := by decide +kernel
theorem d_S_takeByParts_27 : decode c_S_takeByParts 27 = .ok (.aload_n 0, 1) := by decide +kernel
theorem d_S_takeByParts_28 : decode c_S_takeByParts 28 = .ok (.getfield 47, 3) := by decide +kernel
theorem d_S_takeByParts_31 : decode c_S_takeByParts 31 = .ok (.iload 8, 2) := by decide +kernel
theorem d_S_takeByParts_33 : decode c_S_takeByParts 33 = .ok (.iaload, 1) := by decide +kernel
theorem d_S_takeByParts_34 : decode c_S_takeByParts 34 = .ok (.iaload, 1) := by decide +kernel
theorem d_S_takeByParts_35 : decode c_S_takeByParts 35 = .ok (.i2l, 1) := by decide +kernel
theorem d_S_takeByParts_36 : decode c_S_takeByParts 36 = .ok (.lload_n 2, 1) := by decide +kernel
theorem d_S_takeByParts_37 : decode c_S_takeByParts 37 = .ok (.lmul, 1) := by decide +kernel
theorem d_S_takeByParts_38 : decode c_S_takeByParts 38 = .ok (.lstore 9, 2) := by decide +kernel
theorem d_S_takeByParts_40 : decode c_S_takeByParts 40 = .ok (.aload_n 0, 1) := by decide +kernel
theorem d_S_takeByParts_41 : decode c_S_takeByParts 41 = .ok (.getfield 50, 3) := by decide +kernel
theorem d_S_takeByParts_44 : decode c_S_takeByParts 44 = .ok (.iload 8, 2) := by decide +kernel
theorem d_S_takeByParts_46 : decode c_S_takeByParts 46 = .ok (.lload 9, 2) := by decide +kernel
theorem d_S_takeByParts_48 : decode c_S_takeByParts 48 = .ok (.lload 4, 2) := by decide +kernel
theorem d_S_takeByParts_50 : decode c_S_takeByParts 50 = .ok (.lrem, 1) := by decide +kernel
theorem d_S_takeByParts_51 : decode c_S_takeByParts 51 = .ok (.lastore, 1) := by decide +kernel
theorem d_S_takeByParts_52 : decode c_S_takeByParts 52 = .ok (.aload_n 0, 1) := by decide +kernel
theorem d_S_takeByParts_53 : decode c_S_takeByParts 53 = .ok (.iload_n 1, 1) := by decide +kernel
theorem d_S_takeByParts_54 : decode c_S_takeByParts 54 = .ok (.aload_n 0, 1) := by decide +kernel
theorem d_S_takeByParts_55 : decode c_S_takeByParts 55 = .ok (.getfield 47, 3) := by decide +kernel
theorem d_S_takeByParts_58 : decode c_S_takeByParts 58 = .ok (.iload 8, 2) := by decide +kernel
theorem d_S_takeByParts_60 : decode c_S_takeByParts 60 = .ok (.iaload, 1) := by decide +kernel
theorem d_S_takeByParts_61 : decode c_S_takeByParts 61 = .ok (.lload 9, 2) := by decide +kernel
theorem d_S_takeByParts_63 : decode c_S_takeByParts 63 = .ok (.lload 4, 2) := by decide +kernel
theorem d_S_takeByParts_65 : decode c_S_takeByParts 65 = .ok (.ldiv, 1) := by decide +kernel
theorem d_S_takeByParts_66 : decode c_S_takeByParts 66 = .ok (.invokevirtual 126, 3) := by decide +kernel
theorem d_S_takeByParts_69 : decode c_S_takeByParts 69 = .ok (.lload 6, 2) := by decide +kernel
theorem d_S_takeByParts_71 : decode c_S_takeByParts 71 = .ok (.lload 9, 2) := by decide +kernel
theorem d_S_takeByParts_73 : decode c_S_takeByParts 73 = .ok (.lload 4, 2) := by decide +kernel
theorem d_S_takeByParts_75 : decode c_S_takeByParts 75 = .ok (.ldiv, 1) := by decide +kernel
theorem d_S_takeByParts_76 : decode c_S_takeByParts 76 = .ok (.lsub, 1) := by decide +kernel
theorem d_S_takeByParts_77 : decode c_S_takeByParts 77 = .ok (.lstore 6, 2) := by decide +kernel
theorem d_S_takeByParts_79 : decode c_S_takeByParts 79 = .ok (.iinc 8 1, 3) := by decide +kernel
theorem d_S_takeByParts_82 : decode c_S_takeByParts 82 = .ok (.goto (-68), 3) := by decide +kernel
theorem d_S_takeByParts_85 : decode c_S_takeByParts 85 = .ok (.iconst 0, 1) := by decide +kernel
theorem d_S_takeByParts_86 : decode c_S_takeByParts 86 = .ok (.istore 8, 2) := by decide +kernel
theorem d_S_takeByParts_88 : decode c_S_takeByParts 88 = .ok (.iload 8, 2) := by decide +kernel
theorem d_S_takeByParts_90 : decode c_S_takeByParts 90 = .ok (.i2l, 1) := by decide +kernel
theorem d_S_takeByParts_91 : decode c_S_takeByParts 91 = .ok (.lload 6, 2) := by decide +kernel
theorem d_S_takeByParts_93 : decode c_S_takeByParts 93 = .ok (.lcmp, 1) := by decide +kernel
theorem d_S_takeByParts_94 : decode c_S_takeByParts 94 = .ok (.ifCond .ge 47, 3) := by decide +kernel
theorem d_S_takeByParts_97 : decode c_S_takeByParts 97 = .ok (.iload 8, 2) := by decide +kernel
theorem d_S_takeByParts_99 : decode c_S_takeByParts 99 = .ok (.aload_n 0, 1) := by decide +kernel
theorem d_S_takeByParts_100 : decode c_S_takeByParts 100 = .ok (.getfield 142, 3) := by decide +kernel
theorem d_S_takeByParts_103 : decode c_S_takeByParts 103 = .ok (.if_icmp .ge 38, 3) := by decide +kernel
theorem d_S_takeByParts_106 : decode c_S_takeByParts 106 = .ok (.aload_n 0, 1) := by decide +kernel
theorem d_S_takeByParts_107 : decode c_S_takeByParts 107 = .ok (.invokevirtual 168, 3) := by decide +kernel
theorem d_S_takeByParts_110 : decode c_S_takeByParts 110 = .ok (.istore 9, 2) := by decide +kernel
theorem d_S_takeByParts_112 : decode c_S_takeByParts 112 = .ok (.aload_n 0, 1) := by decide +kernel
theorem d_S_takeByParts_113 : decode c_S_takeByParts 113 = .ok (.iload_n 1, 1) := by decide +kernel
theorem d_S_takeByParts_114 : decode c_S_takeByParts 114 = .ok (.aload_n 0, 1) := by decide +kernel
theorem d_S_takeByParts_115 : decode c_S_takeByParts 115 = .ok (.getfield 47, 3) := by decide +kernel
theorem d_S_takeByParts_118 : decode c_S_takeByParts 118 = .ok (.iload 9, 2) := by decide +kernel
theorem d_S_takeByParts_120 : decode c_S_takeByParts 120 = .ok (.iaload, 1) := by decide +kernel
theorem d_S_takeByParts_121 : decode c_S_takeByParts 121 = .ok (.lconst 1, 1) := by decide +kernel
theorem d_S_takeByParts_122 : decode c_S_takeByParts 122 = .ok (.invokevirtual 126, 3) := by decide +kernel
theorem d_S_takeByParts_125 : decode c_S_takeByParts 125 = .ok (.aload_n 0, 1) := by decide +kernel
theorem d_S_takeByParts_126 : decode c_S_takeByParts 126 = .ok (.getfield 50, 3) := by decide +kernel
theorem d_S_takeByParts_129 : decode c_S_takeByParts 129 = .ok (.iload 9, 2) := by decide +kernel
theorem d_S_takeByParts_131 : decode c_S_takeByParts 131 = .ok (.ldc2_w 166, 3) := by decide +kernel
theorem d_S_takeByParts_134 : decode c_S_takeByParts 134 = .ok (.lastore, 1) := by decide +kernel
theorem d_S_takeByParts_135 : decode c_S_takeByParts 135 = .ok (.iinc 8 1, 3) := by decide +kernel
theorem d_S_takeByParts_138 : decode c_S_takeByParts 138 = .ok (.goto (-50), 3) := by decide +kernel
theorem d_S_takeByParts_141 : decode c_S_takeByParts 141 = .ok (.return_, 1) := by decide +kernel
theorem d_S_cedeExcessOfEachClaim_0 : decode c_S_cedeExcessOfEachClaim 0 = .ok (.lconst 0, 1) := by decide +kernel
theorem d_S_cedeExcessOfEachClaim_1 : decode c_S_cedeExcessOfEachClaim 1 = .ok (.lstore_n 2, 1) := by decide +kernel
theorem d_S_cedeExcessOfEachClaim_2 : decode c_S_cedeExcessOfEachClaim 2 = .ok (.iconst 0, 1) := by decide +kernel
theorem d_S_cedeExcessOfEachClaim_3 : decode c_S_cedeExcessOfEachClaim 3 = .ok (.istore 4, 2) := by decide +kernel
theorem d_S_cedeExcessOfEachClaim_5 : decode c_S_cedeExcessOfEachClaim 5 = .ok (.iload 4, 2) := by decide +kernel
theorem d_S_cedeExcessOfEachClaim_7 : decode c_S_cedeExcessOfEachClaim 7 = .ok (.aload_n 0, 1) := by decide +kernel
theorem d_S_cedeExcessOfEachClaim_8 : decode c_S_cedeExcessOfEachClaim 8 = .ok (.getfield 15, 3) := by decide +kernel
theorem d_S_cedeExcessOfEachClaim_11 : decode c_S_cedeExcessOfEachClaim 11 = .ok (.getfield 69, 3) := by decide +kernel
theorem d_S_cedeExcessOfEachClaim_14 : decode c_S_cedeExcessOfEachClaim 14 = .ok (.if_icmp .ge 73, 3) := by decide +kernel
theorem d_S_cedeExcessOfEachClaim_17 : decode c_S_cedeExcessOfEachClaim 17 = .ok (.aload_n 0, 1) := by decide +kernel
theorem d_S_cedeExcessOfEachClaim_18 : decode c_S_cedeExcessOfEachClaim 18 = .ok (.getfield 15, 3) := by decide +kernel
theorem d_S_cedeExcessOfEachClaim_21 : decode c_S_cedeExcessOfEachClaim 21 = .ok (.getfield 130, 3) := by decide +kernel
theorem d_S_cedeExcessOfEachClaim_24 : decode c_S_cedeExcessOfEachClaim 24 = .ok (.iload 4, 2) := by decide +kernel
theorem d_S_cedeExcessOfEachClaim_26 : decode c_S_cedeExcessOfEachClaim 26 = .ok (.iaload, 1) := by decide +kernel
theorem d_S_cedeExcessOfEachClaim_27 : decode c_S_cedeExcessOfEachClaim 27 = .ok (.istore 5, 2) := by decide +kernel
theorem d_S_cedeExcessOfEachClaim_29 : decode c_S_cedeExcessOfEachClaim 29 = .ok (.aload_n 0, 1) := by decide +kernel
theorem d_S_cedeExcessOfEachClaim_30 : decode c_S_cedeExcessOfEachClaim 30 = .ok (.getfield 23, 3) := by decide +kernel
theorem d_S_cedeExcessOfEachClaim_33 : decode c_S_cedeExcessOfEachClaim 33 = .ok (.iload 5, 2) := by decide +kernel
theorem d_S_cedeExcessOfEachClaim_35 : decode c_S_cedeExcessOfEachClaim 35 = .ok (.baload, 1) := by decide +kernel
theorem d_S_cedeExcessOfEachClaim_36 : decode c_S_cedeExcessOfEachClaim 36 = .ok (.ifCond .eq 45, 3) := by decide +kernel
theorem d_S_cedeExcessOfEachClaim_39 : decode c_S_cedeExcessOfEachClaim 39 = .ok (.lload_n 2, 1) := by decide +kernel
theorem d_S_cedeExcessOfEachClaim_40 : decode c_S_cedeExcessOfEachClaim 40 = .ok (.aload_n 0, 1) := by decide +kernel
theorem d_S_cedeExcessOfEachClaim_41 : decode c_S_cedeExcessOfEachClaim 41 = .ok (.getfield 19, 3) := by decide +kernel
theorem d_S_cedeExcessOfEachClaim_44 : decode c_S_cedeExcessOfEachClaim 44 = .ok (.iload_n 1, 1) := by decide +kernel
theorem d_S_cedeExcessOfEachClaim_45 : decode c_S_cedeExcessOfEachClaim 45 = .ok (.aload_n 0, 1) := by decide +kernel
theorem d_S_cedeExcessOfEachClaim_46 : decode c_S_cedeExcessOfEachClaim 46 = .ok (.getfield 27, 3) := by decide +kernel
theorem d_S_cedeExcessOfEachClaim_49 : decode c_S_cedeExcessOfEachClaim 49 = .ok (.iload 5, 2) := by decide +kernel
theorem d_S_cedeExcessOfEachClaim_51 : decode c_S_cedeExcessOfEachClaim 51 = .ok (.iaload, 1) := by decide +kernel
theorem d_S_cedeExcessOfEachClaim_52 : decode c_S_cedeExcessOfEachClaim 52 = .ok (.i2l, 1) := by decide +kernel
theorem d_S_cedeExcessOfEachClaim_53 : decode c_S_cedeExcessOfEachClaim 53 = .ok (.invokevirtual 133, 3) := by decide +kernel
theorem d_S_cedeExcessOfEachClaim_56 : decode c_S_cedeExcessOfEachClaim 56 = .ok (.ladd, 1) := by decide +kernel
theorem d_S_cedeExcessOfEachClaim_57 : decode c_S_cedeExcessOfEachClaim 57 = .ok (.lstore_n 2, 1) := by decide +kernel
theorem d_S_cedeExcessOfEachClaim_58 : decode c_S_cedeExcessOfEachClaim 58 = .ok (.aload_n 0, 1) := by decide +kernel
theorem d_S_cedeExcessOfEachClaim_59 : decode c_S_cedeExcessOfEachClaim 59 = .ok (.iload_n 1, 1) := by decide +kernel
theorem d_S_cedeExcessOfEachClaim_60 : decode c_S_cedeExcessOfEachClaim 60 = .ok (.iload 5, 2) := by decide +kernel
theorem d_S_cedeExcessOfEachClaim_62 : decode c_S_cedeExcessOfEachClaim 62 = .ok (.aload_n 0, 1) := by decide +kernel
theorem d_S_cedeExcessOfEachClaim_63 : decode c_S_cedeExcessOfEachClaim 63 = .ok (.getfield 19, 3) := by decide +kernel
theorem d_S_cedeExcessOfEachClaim_66 : decode c_S_cedeExcessOfEachClaim 66 = .ok (.iload_n 1, 1) := by decide +kernel
theorem d_S_cedeExcessOfEachClaim_67 : decode c_S_cedeExcessOfEachClaim 67 = .ok (.lload_n 2, 1) := by decide +kernel
theorem d_S_cedeExcessOfEachClaim_68 : decode c_S_cedeExcessOfEachClaim 68 = .ok (.invokevirtual 136, 3) := by decide +kernel
theorem d_S_cedeExcessOfEachClaim_71 : decode c_S_cedeExcessOfEachClaim 71 = .ok (.aload_n 0, 1) := by decide +kernel
theorem d_S_cedeExcessOfEachClaim_72 : decode c_S_cedeExcessOfEachClaim 72 = .ok (.getfield 34, 3) := by decide +kernel
theorem d_S_cedeExcessOfEachClaim_75 : decode c_S_cedeExcessOfEachClaim 75 = .ok (.iload_n 1, 1) := by decide +kernel
theorem d_S_cedeExcessOfEachClaim_76 : decode c_S_cedeExcessOfEachClaim 76 = .ok (.laload, 1) := by decide +kernel
theorem d_S_cedeExcessOfEachClaim_77 : decode c_S_cedeExcessOfEachClaim 77 = .ok (.lsub, 1) := by decide +kernel
theorem d_S_cedeExcessOfEachClaim_78 : decode c_S_cedeExcessOfEachClaim 78 = .ok (.invokevirtual 126, 3) := by decide +kernel
theorem d_S_cedeExcessOfEachClaim_81 : decode c_S_cedeExcessOfEachClaim 81 = .ok (.iinc 4 1, 3) := by decide +kernel
theorem d_S_cedeExcessOfEachClaim_84 : decode c_S_cedeExcessOfEachClaim 84 = .ok (.goto (-79), 3) := by decide +kernel
theorem d_S_cedeExcessOfEachClaim_87 : decode c_S_cedeExcessOfEachClaim 87 = .ok (.return_, 1) := by decide +kernel
theorem d_S_cedeExcessOfEachEvent_0 : decode c_S_cedeExcessOfEachEvent 0 = .ok (.lconst 0, 1) := by decide +kernel
theorem d_S_cedeExcessOfEachEvent_1 : decode c_S_cedeExcessOfEachEvent 1 = .ok (.lstore_n 2, 1) := by decide +kernel
theorem d_S_cedeExcessOfEachEvent_2 : decode c_S_cedeExcessOfEachEvent 2 = .ok (.iconst 1, 1) := by decide +kernel
theorem d_S_cedeExcessOfEachEvent_3 : decode c_S_cedeExcessOfEachEvent 3 = .ok (.istore 4, 2) := by decide +kernel
theorem d_S_cedeExcessOfEachEvent_5 : decode c_S_cedeExcessOfEachEvent 5 = .ok (.iload 4, 2) := by decide +kernel
theorem d_S_cedeExcessOfEachEvent_7 : decode c_S_cedeExcessOfEachEvent 7 = .ok (.bipush 10, 2) := by decide +kernel
theorem d_S_cedeExcessOfEachEvent_9 : decode c_S_cedeExcessOfEachEvent 9 = .ok (.if_icmp .ge 92, 3) := by decide +kernel
theorem d_S_cedeExcessOfEachEvent_12 : decode c_S_cedeExcessOfEachEvent 12 = .ok (.aload_n 0, 1) := by decide +kernel
theorem d_S_cedeExcessOfEachEvent_13 : decode c_S_cedeExcessOfEachEvent 13 = .ok (.iload 4, 2) := by decide +kernel
theorem d_S_cedeExcessOfEachEvent_15 : decode c_S_cedeExcessOfEachEvent 15 = .ok (.invokevirtual 139, 3) := by decide +kernel
theorem d_S_cedeExcessOfEachEvent_18 : decode c_S_cedeExcessOfEachEvent 18 = .ok (.aload_n 0, 1) := by decide +kernel
theorem d_S_cedeExcessOfEachEvent_19 : decode c_S_cedeExcessOfEachEvent 19 = .ok (.getfield 142, 3) := by decide +kernel
theorem d_S_cedeExcessOfEachEvent_22 : decode c_S_cedeExcessOfEachEvent 22 = .ok (.ifCond .le 73, 3) := by decide +kernel
theorem d_S_cedeExcessOfEachEvent_25 : decode c_S_cedeExcessOfEachEvent 25 = .ok (.aload_n 0, 1) := by decide +kernel
theorem d_S_cedeExcessOfEachEvent_26 : decode c_S_cedeExcessOfEachEvent 26 = .ok (.invokevirtual 145, 3) := by decide +kernel
theorem d_S_cedeExcessOfEachEvent_29 : decode c_S_cedeExcessOfEachEvent 29 = .ok (.istore 5, 2) := by decide +kernel
theorem d_S_cedeExcessOfEachEvent_31 : decode c_S_cedeExcessOfEachEvent 31 = .ok (.aload_n 0, 1) := by decide +kernel
theorem d_S_cedeExcessOfEachEvent_32 : decode c_S_cedeExcessOfEachEvent 32 = .ok (.getfield 38, 3) := by decide +kernel
theorem d_S_cedeExcessOfEachEvent_35 : decode c_S_cedeExcessOfEachEvent 35 = .ok (.iload_n 1, 1) := by decide +kernel
theorem d_S_cedeExcessOfEachEvent_36 : decode c_S_cedeExcessOfEachEvent 36 = .ok (.bipush 10, 2) := by decide +kernel
theorem d_S_cedeExcessOfEachEvent_38 : decode c_S_cedeExcessOfEachEvent 38 = .ok (.imul, 1) := by decide +kernel
theorem d_S_cedeExcessOfEachEvent_39 : decode c_S_cedeExcessOfEachEvent 39 = .ok (.iload 4, 2) := by decide +kernel
theorem d_S_cedeExcessOfEachEvent_41 : decode c_S_cedeExcessOfEachEvent 41 = .ok (.iadd, 1) := by decide +kernel
theorem d_S_cedeExcessOfEachEvent_42 : decode c_S_cedeExcessOfEachEvent 42 = .ok (.iload 5, 2) := by decide +kernel
theorem d_S_cedeExcessOfEachEvent_44 : decode c_S_cedeExcessOfEachEvent 44 = .ok (.iastore, 1) := by decide +kernel
theorem d_S_cedeExcessOfEachEvent_45 : decode c_S_cedeExcessOfEachEvent 45 = .ok (.aload_n 0, 1) := by decide +kernel
theorem d_S_cedeExcessOfEachEvent_46 : decode c_S_cedeExcessOfEachEvent 46 = .ok (.iload 5, 2) := by decide +kernel
theorem d_S_cedeExcessOfEachEvent_48 : decode c_S_cedeExcessOfEachEvent 48 = .ok (.invokevirtual 149, 3) := by decide +kernel
theorem d_S_cedeExcessOfEachEvent_51 : decode c_S_cedeExcessOfEachEvent 51 = .ok (.lload_n 2, 1) := by decide +kernel
theorem d_S_cedeExcessOfEachEvent_52 : decode c_S_cedeExcessOfEachEvent 52 = .ok (.aload_n 0, 1) := by decide +kernel
theorem d_S_cedeExcessOfEachEvent_53 : decode c_S_cedeExcessOfEachEvent 53 = .ok (.getfield 19, 3) := by decide +kernel
theorem d_S_cedeExcessOfEachEvent_56 : decode c_S_cedeExcessOfEachEvent 56 = .ok (.iload_n 1, 1) := by decide +kernel
theorem d_S_cedeExcessOfEachEvent_57 : decode c_S_cedeExcessOfEachEvent 57 = .ok (.aload_n 0, 1) := by decide +kernel
theorem d_S_cedeExcessOfEachEvent_58 : decode c_S_cedeExcessOfEachEvent 58 = .ok (.iload 5, 2) := by decide +kernel
theorem d_S_cedeExcessOfEachEvent_60 : decode c_S_cedeExcessOfEachEvent 60 = .ok (.invokevirtual 152, 3) := by decide +kernel
theorem d_S_cedeExcessOfEachEvent_63 : decode c_S_cedeExcessOfEachEvent 63 = .ok (.invokevirtual 133, 3) := by decide +kernel
theorem d_S_cedeExcessOfEachEvent_66 : decode c_S_cedeExcessOfEachEvent 66 = .ok (.ladd, 1) := by decide +kernel
theorem d_S_cedeExcessOfEachEvent_67 : decode c_S_cedeExcessOfEachEvent 67 = .ok (.lstore_n 2, 1) := by decide +kernel
theorem d_S_cedeExcessOfEachEvent_68 : decode c_S_cedeExcessOfEachEvent 68 = .ok (.aload_n 0, 1) := by decide +kernel
theorem d_S_cedeExcessOfEachEvent_69 : decode c_S_cedeExcessOfEachEvent 69 = .ok (.iload_n 1, 1) := by decide +kernel
theorem d_S_cedeExcessOfEachEvent_70 : decode c_S_cedeExcessOfEachEvent 70 = .ok (.aload_n 0, 1) := by decide +kernel
theorem d_S_cedeExcessOfEachEvent_71 : decode c_S_cedeExcessOfEachEvent 71 = .ok (.getfield 19, 3) := by decide +kernel
theorem d_S_cedeExcessOfEachEvent_74 : decode c_S_cedeExcessOfEachEvent 74 = .ok (.iload_n 1, 1) := by decide +kernel
theorem d_S_cedeExcessOfEachEvent_75 : decode c_S_cedeExcessOfEachEvent 75 = .ok (.lload_n 2, 1) := by decide +kernel
theorem d_S_cedeExcessOfEachEvent_76 : decode c_S_cedeExcessOfEachEvent 76 = .ok (.invokevirtual 136, 3) := by decide +kernel
theorem d_S_cedeExcessOfEachEvent_79 : decode c_S_cedeExcessOfEachEvent 79 = .ok (.aload_n 0, 1) := by decide +kernel
theorem d_S_cedeExcessOfEachEvent_80 : decode c_S_cedeExcessOfEachEvent 80 = .ok (.getfield 34, 3) := by decide +kernel
theorem d_S_cedeExcessOfEachEvent_83 : decode c_S_cedeExcessOfEachEvent 83 = .ok (.iload_n 1, 1) := by decide +kernel
theorem d_S_cedeExcessOfEachEvent_84 : decode c_S_cedeExcessOfEachEvent 84 = .ok (.laload, 1) := by decide +kernel
theorem d_S_cedeExcessOfEachEvent_85 : decode c_S_cedeExcessOfEachEvent 85 = .ok (.lsub, 1) := by decide +kernel
theorem d_S_cedeExcessOfEachEvent_86 : decode c_S_cedeExcessOfEachEvent 86 = .ok (.aload_n 0, 1) := by decide +kernel
theorem d_S_cedeExcessOfEachEvent_87 : decode c_S_cedeExcessOfEachEvent 87 = .ok (.iload 5, 2) := by decide +kernel
theorem d_S_cedeExcessOfEachEvent_89 : decode c_S_cedeExcessOfEachEvent 89 = .ok (.invokevirtual 152, 3) := by decide +kernel
theorem d_S_cedeExcessOfEachEvent_92 : decode c_S_cedeExcessOfEachEvent 92 = .ok (.invokevirtual 156, 3) := by decide +kernel
theorem d_S_cedeExcessOfEachEvent_95 : decode c_S_cedeExcessOfEachEvent 95 = .ok (.iinc 4 1, 3) := by decide +kernel
theorem d_S_cedeExcessOfEachEvent_98 : decode c_S_cedeExcessOfEachEvent 98 = .ok (.goto (-93), 3) := by decide +kernel
theorem d_S_cedeExcessOfEachEvent_101 : decode c_S_cedeExcessOfEachEvent 101 = .ok (.return_, 1) := by decide +kernel
theorem d_S_cedePartOfEachClaim_0 : decode c_S_cedePartOfEachClaim 0 = .ok (.iconst 0, 1) := by decide +kernel
theorem d_S_cedePartOfEachClaim_1 : decode c_S_cedePartOfEachClaim 1 = .ok (.istore_n 2, 1) := by decide +kernel
theorem d_S_cedePartOfEachClaim_2 : decode c_S_cedePartOfEachClaim 2 = .ok (.iload_n 2, 1) := by decide +kernel
theorem d_S_cedePartOfEachClaim_3 : decode c_S_cedePartOfEachClaim 3 = .ok (.aload_n 0, 1) := by decide +kernel
theorem d_S_cedePartOfEachClaim_4 : decode c_S_cedePartOfEachClaim 4 = .ok (.getfield 15, 3) := by decide +kernel
theorem d_S_cedePartOfEachClaim_7 : decode c_S_cedePartOfEachClaim 7 = .ok (.getfield 69, 3) := by decide +kernel
theorem d_S_cedePartOfEachClaim_10 : decode c_S_cedePartOfEachClaim 10 = .ok (.if_icmp .ge 64, 3) := by decide +kernel
theorem d_S_cedePartOfEachClaim_13 : decode c_S_cedePartOfEachClaim 13 = .ok (.aload_n 0, 1) := by decide +kernel
theorem d_S_cedePartOfEachClaim_14 : decode c_S_cedePartOfEachClaim 14 = .ok (.getfield 23, 3) := by decide +kernel
theorem d_S_cedePartOfEachClaim_17 : decode c_S_cedePartOfEachClaim 17 = .ok (.iload_n 2, 1) := by decide +kernel
theorem d_S_cedePartOfEachClaim_18 : decode c_S_cedePartOfEachClaim 18 = .ok (.baload, 1) := by decide +kernel
theorem d_S_cedePartOfEachClaim_19 : decode c_S_cedePartOfEachClaim 19 = .ok (.ifCond .eq 49, 3) := by decide +kernel
theorem d_S_cedePartOfEachClaim_22 : decode c_S_cedePartOfEachClaim 22 = .ok (.aload_n 0, 1) := by decide +kernel
theorem d_S_cedePartOfEachClaim_23 : decode c_S_cedePartOfEachClaim 23 = .ok (.getfield 19, 3) := by decide +kernel
theorem d_S_cedePartOfEachClaim_26 : decode c_S_cedePartOfEachClaim 26 = .ok (.iload_n 1, 1) := by decide +kernel
theorem d_S_cedePartOfEachClaim_27 : decode c_S_cedePartOfEachClaim 27 = .ok (.aload_n 0, 1) := by decide +kernel
theorem d_S_cedePartOfEachClaim_28 : decode c_S_cedePartOfEachClaim 28 = .ok (.getfield 9, 3) := by decide +kernel
theorem d_S_cedePartOfEachClaim_31 : decode c_S_cedePartOfEachClaim 31 = .ok (.getfield 117, 3) := by decide +kernel
theorem d_S_cedePartOfEachClaim_34 : decode c_S_cedePartOfEachClaim 34 = .ok (.aload_n 0, 1) := by decide +kernel
theorem d_S_cedePartOfEachClaim_35 : decode c_S_cedePartOfEachClaim 35 = .ok (.getfield 15, 3) := by decide +kernel
theorem d_S_cedePartOfEachClaim_38 : decode c_S_cedePartOfEachClaim 38 = .ok (.getfield 83, 3) := by decide +kernel
theorem d_S_cedePartOfEachClaim_41 : decode c_S_cedePartOfEachClaim 41 = .ok (.iload_n 2, 1) := by decide +kernel
theorem d_S_cedePartOfEachClaim_42 : decode c_S_cedePartOfEachClaim 42 = .ok (.iaload, 1) := by decide +kernel
theorem d_S_cedePartOfEachClaim_43 : decode c_S_cedePartOfEachClaim 43 = .ok (.iaload, 1) := by decide +kernel
theorem d_S_cedePartOfEachClaim_44 : decode c_S_cedePartOfEachClaim 44 = .ok (.i2l, 1) := by decide +kernel
theorem d_S_cedePartOfEachClaim_45 : decode c_S_cedePartOfEachClaim 45 = .ok (.invokevirtual 120, 3) := by decide +kernel
theorem d_S_cedePartOfEachClaim_48 : decode c_S_cedePartOfEachClaim 48 = .ok (.lstore_n 3, 1) := by decide +kernel
theorem d_S_cedePartOfEachClaim_49 : decode c_S_cedePartOfEachClaim 49 = .ok (.aload_n 0, 1) := by decide +kernel
theorem d_S_cedePartOfEachClaim_50 : decode c_S_cedePartOfEachClaim 50 = .ok (.iload_n 1, 1) := by decide +kernel
theorem d_S_cedePartOfEachClaim_51 : decode c_S_cedePartOfEachClaim 51 = .ok (.iload_n 2, 1) := by decide +kernel
theorem d_S_cedePartOfEachClaim_52 : decode c_S_cedePartOfEachClaim 52 = .ok (.aload_n 0, 1) := by decide +kernel
theorem d_S_cedePartOfEachClaim_53 : decode c_S_cedePartOfEachClaim 53 = .ok (.getfield 27, 3) := by decide +kernel
theorem d_S_cedePartOfEachClaim_56 : decode c_S_cedePartOfEachClaim 56 = .ok (.iload_n 2, 1) := by decide +kernel
theorem d_S_cedePartOfEachClaim_57 : decode c_S_cedePartOfEachClaim 57 = .ok (.iaload, 1) := by decide +kernel
theorem d_S_cedePartOfEachClaim_58 : decode c_S_cedePartOfEachClaim 58 = .ok (.i2l, 1) := by decide +kernel
theorem d_S_cedePartOfEachClaim_59 : decode c_S_cedePartOfEachClaim 59 = .ok (.lload_n 3, 1) := by decide +kernel
theorem d_S_cedePartOfEachClaim_60 : decode c_S_cedePartOfEachClaim 60 = .ok (.lmul, 1) := by decide +kernel
theorem d_S_cedePartOfEachClaim_61 : decode c_S_cedePartOfEachClaim 61 = .ok (.ldc2_w 124, 3) := by decide +kernel
theorem d_S_cedePartOfEachClaim_64 : decode c_S_cedePartOfEachClaim 64 = .ok (.ldiv, 1) := by decide +kernel
theorem d_S_cedePartOfEachClaim_65 : decode c_S_cedePartOfEachClaim 65 = .ok (.invokevirtual 126, 3) := by decide +kernel
theorem d_S_cedePartOfEachClaim_68 : decode c_S_cedePartOfEachClaim 68 = .ok (.iinc 2 1, 3) := by decide +kernel
theorem d_S_cedePartOfEachClaim_71 : decode c_S_cedePartOfEachClaim 71 = .ok (.goto (-69), 3) := by decide +kernel
theorem d_S_cedePartOfEachClaim_74 : decode c_S_cedePartOfEachClaim 74 = .ok (.return_, 1) := by decide +kernel
theorem d_S_cedePremiums_0 : decode c_S_cedePremiums 0 = .ok (.iconst 0, 1) := by decide +kernel
theorem d_S_cedePremiums_1 : decode c_S_cedePremiums 1 = .ok (.istore_n 2, 1) := by decide +kernel
theorem d_S_cedePremiums_2 : decode c_S_cedePremiums 2 = .ok (.iload_n 2, 1) := by decide +kernel
theorem d_S_cedePremiums_3 : decode c_S_cedePremiums 3 = .ok (.bipush 12, 2) := by decide +kernel
theorem d_S_cedePremiums_5 : decode c_S_cedePremiums 5 = .ok (.if_icmp .ge 59, 3) := by decide +kernel
theorem d_S_cedePremiums_8 : decode c_S_cedePremiums 8 = .ok (.aload_n 0, 1) := by decide +kernel
theorem d_S_cedePremiums_9 : decode c_S_cedePremiums 9 = .ok (.getfield 41, 3) := by decide +kernel
theorem d_S_cedePremiums_12 : decode c_S_cedePremiums 12 = .ok (.iload_n 2, 1) := by decide +kernel
theorem d_S_cedePremiums_13 : decode c_S_cedePremiums 13 = .ok (.laload, 1) := by decide +kernel
theorem d_S_cedePremiums_14 : decode c_S_cedePremiums 14 = .ok (.aload_n 0, 1) := by decide +kernel
theorem d_S_cedePremiums_15 : decode c_S_cedePremiums 15 = .ok (.getfield 19, 3) := by decide +kernel
theorem d_S_cedePremiums_18 : decode c_S_cedePremiums 18 = .ok (.iload_n 1, 1) := by decide +kernel
theorem d_S_cedePremiums_19 : decode c_S_cedePremiums 19 = .ok (.aload_n 0, 1) := by decide +kernel
theorem d_S_cedePremiums_20 : decode c_S_cedePremiums 20 = .ok (.getfield 9, 3) := by decide +kernel
theorem d_S_cedePremiums_23 : decode c_S_cedePremiums 23 = .ok (.getfield 117, 3) := by decide +kernel
theorem d_S_cedePremiums_26 : decode c_S_cedePremiums 26 = .ok (.iload_n 2, 1) := by decide +kernel
theorem d_S_cedePremiums_27 : decode c_S_cedePremiums 27 = .ok (.iaload, 1) := by decide +kernel
theorem d_S_cedePremiums_28 : decode c_S_cedePremiums 28 = .ok (.i2l, 1) := by decide +kernel
theorem d_S_cedePremiums_29 : decode c_S_cedePremiums 29 = .ok (.invokevirtual 120, 3) := by decide +kernel
theorem d_S_cedePremiums_32 : decode c_S_cedePremiums 32 = .ok (.lmul, 1) := by decide +kernel
theorem d_S_cedePremiums_33 : decode c_S_cedePremiums 33 = .ok (.ldc2_w 124, 3) := by decide +kernel
theorem d_S_cedePremiums_36 : decode c_S_cedePremiums 36 = .ok (.ldiv, 1) := by decide +kernel
theorem d_S_cedePremiums_37 : decode c_S_cedePremiums 37 = .ok (.lstore_n 3, 1) := by decide +kernel
theorem d_S_cedePremiums_38 : decode c_S_cedePremiums 38 = .ok (.aload_n 0, 1) := by decide +kernel
theorem d_S_cedePremiums_39 : decode c_S_cedePremiums 39 = .ok (.getfield 41, 3) := by decide +kernel
theorem d_S_cedePremiums_42 : decode c_S_cedePremiums 42 = .ok (.iload_n 2, 1) := by decide +kernel
theorem d_S_cedePremiums_43 : decode c_S_cedePremiums 43 = .ok (.dup2, 1) := by decide +kernel
theorem d_S_cedePremiums_44 : decode c_S_cedePremiums 44 = .ok (.laload, 1) := by decide +kernel
theorem d_S_cedePremiums_45 : decode c_S_cedePremiums 45 = .ok (.lload_n 3, 1) := by decide +kernel
theorem d_S_cedePremiums_46 : decode c_S_cedePremiums 46 = .ok (.lsub, 1) := by decide +kernel
theorem d_S_cedePremiums_47 : decode c_S_cedePremiums 47 = .ok (.lastore, 1) := by decide +kernel
theorem d_S_cedePremiums_48 : decode c_S_cedePremiums 48 = .ok (.aload_n 0, 1) := by decide +kernel
theorem d_S_cedePremiums_49 : decode c_S_cedePremiums 49 = .ok (.getfield 44, 3) := by decide +kernel
theorem d_S_cedePremiums_52 : decode c_S_cedePremiums 52 = .ok (.iload_n 1, 1) := by decide +kernel
theorem d_S_cedePremiums_53 : decode c_S_cedePremiums 53 = .ok (.dup2, 1) := by decide +kernel
theorem d_S_cedePremiums_54 : decode c_S_cedePremiums 54 = .ok (.laload, 1) := by decide +kernel
theorem d_S_cedePremiums_55 : decode c_S_cedePremiums 55 = .ok (.lload_n 3, 1) := by decide +kernel
theorem d_S_cedePremiums_56 : decode c_S_cedePremiums 56 = .ok (.ladd, 1) := by decide +kernel
theorem d_S_cedePremiums_57 : decode c_S_cedePremiums 57 = .ok (.lastore, 1) := by decide +kernel
theorem d_S_cedePremiums_58 : decode c_S_cedePremiums 58 = .ok (.iinc 2 1, 3) := by decide +kernel
theorem d_S_cedePremiums_61 : decode c_S_cedePremiums 61 = .ok (.goto (-59), 3) := by decide +kernel
theorem d_S_cedePremiums_64 : decode c_S_cedePremiums 64 = .ok (.return_, 1) := by decide +kernel
theorem d_S_cedeStopLoss_0 : decode c_S_cedeStopLoss 0 = .ok (.aload_n 0, 1) := by decide +kernel
theorem d_S_cedeStopLoss_1 : decode c_S_cedeStopLoss 1 = .ok (.iconst 0, 1) := by decide +kernel
theorem d_S_cedeStopLoss_2 : decode c_S_cedeStopLoss 2 = .ok (.putfield 142, 3) := by decide +kernel
theorem d_S_cedeStopLoss_5 : decode c_S_cedeStopLoss 5 = .ok (.lconst 0, 1) := by decide +kernel
theorem d_S_cedeStopLoss_6 : decode c_S_cedeStopLoss 6 = .ok (.lstore_n 2, 1) := by decide +kernel
theorem d_S_cedeStopLoss_7 : decode c_S_cedeStopLoss 7 = .ok (.iconst 0, 1) := by decide +kernel
theorem d_S_cedeStopLoss_8 : decode c_S_cedeStopLoss 8 = .ok (.istore 4, 2) := by decide +kernel
theorem d_S_cedeStopLoss_10 : decode c_S_cedeStopLoss 10 = .ok (.iload 4, 2) := by decide +kernel
theorem d_S_cedeStopLoss_12 : decode c_S_cedeStopLoss 12 = .ok (.aload_n 0, 1) := by decide +kernel
theorem d_S_cedeStopLoss_13 : decode c_S_cedeStopLoss 13 = .ok (.getfield 15, 3) := by decide +kernel
theorem d_S_cedeStopLoss_16 : decode c_S_cedeStopLoss 16 = .ok (.getfield 69, 3) := by decide +kernel
theorem d_S_cedeStopLoss_19 : decode c_S_cedeStopLoss 19 = .ok (.if_icmp .ge 51, 3) := by decide +kernel
theorem d_S_cedeStopLoss_22 : decode c_S_cedeStopLoss 22 = .ok (.aload_n 0, 1) := by decide +kernel
theorem d_S_cedeStopLoss_23 : decode c_S_cedeStopLoss 23 = .ok (.getfield 23, 3) := by decide +kernel
theorem d_S_cedeStopLoss_26 : decode c_S_cedeStopLoss 26 = .ok (.iload 4, 2) := by decide +kernel
theorem d_S_cedeStopLoss_28 : decode c_S_cedeStopLoss 28 = .ok (.baload, 1) := by decide +kernel
theorem d_S_cedeStopLoss_29 : decode c_S_cedeStopLoss 29 = .ok (.ifCond .eq 35, 3) := by decide +kernel
theorem d_S_cedeStopLoss_32 : decode c_S_cedeStopLoss 32 = .ok (.aload_n 0, 1) := by decide +kernel
theorem d_S_cedeStopLoss_33 : decode c_S_cedeStopLoss 33 = .ok (.getfield 47, 3) := by decide +kernel
theorem d_S_cedeStopLoss_36 : decode c_S_cedeStopLoss 36 = .ok (.aload_n 0, 1) := by decide +kernel
theorem d_S_cedeStopLoss_37 : decode c_S_cedeStopLoss 37 = .ok (.getfield 142, 3) := by decide +kernel
theorem d_S_cedeStopLoss_40 : decode c_S_cedeStopLoss 40 = .ok (.iload 4, 2) := by decide +kernel
theorem d_S_cedeStopLoss_42 : decode c_S_cedeStopLoss 42 = .ok (.iastore, 1) := by decide +kernel
theorem d_S_cedeStopLoss_43 : decode c_S_cedeStopLoss 43 = .ok (.aload_n 0, 1) := by decide +kernel
theorem d_S_cedeStopLoss_44 : decode c_S_cedeStopLoss 44 = .ok (.dup, 1) := by decide +kernel
theorem d_S_cedeStopLoss_45 : decode c_S_cedeStopLoss 45 = .ok (.getfield 142, 3) := by decide +kernel
theorem d_S_cedeStopLoss_48 : decode c_S_cedeStopLoss 48 = .ok (.iconst 1, 1) := by decide +kernel
theorem d_S_cedeStopLoss_49 : decode c_S_cedeStopLoss 49 = .ok (.iadd, 1) := by decide +kernel
theorem d_S_cedeStopLoss_50 : decode c_S_cedeStopLoss 50 = .ok (.putfield 142, 3) := by decide +kernel
theorem d_S_cedeStopLoss_53 : decode c_S_cedeStopLoss 53 = .ok (.lload_n 2, 1) := by decide +kernel
theorem d_S_cedeStopLoss_54 : decode c_S_cedeStopLoss 54 = .ok (.aload_n 0, 1) := by decide +kernel
theorem d_S_cedeStopLoss_55 : decode c_S_cedeStopLoss 55 = .ok (.getfield 27, 3) := by decide +kernel
theorem d_S_cedeStopLoss_58 : decode c_S_cedeStopLoss 58 = .ok (.iload 4, 2) := by decide +kernel
theorem d_S_cedeStopLoss_60 : decode c_S_cedeStopLoss 60 = .ok (.iaload, 1) := by decide +kernel
theorem d_S_cedeStopLoss_61 : decode c_S_cedeStopLoss 61 = .ok (.i2l, 1) := by decide +kernel
theorem d_S_cedeStopLoss_62 : decode c_S_cedeStopLoss 62 = .ok (.ladd, 1) := by decide +kernel
theorem d_S_cedeStopLoss_63 : decode c_S_cedeStopLoss 63 = .ok (.lstore_n 2, 1) := by decide +kernel
theorem d_S_cedeStopLoss_64 : decode c_S_cedeStopLoss 64 = .ok (.iinc 4 1, 3) := by decide +kernel
theorem d_S_cedeStopLoss_67 : decode c_S_cedeStopLoss 67 = .ok (.goto (-57), 3) := by decide +kernel
theorem d_S_cedeStopLoss_70 : decode c_S_cedeStopLoss 70 = .ok (.aload_n 0, 1) := by decide +kernel
theorem d_S_cedeStopLoss_71 : decode c_S_cedeStopLoss 71 = .ok (.iload_n 1, 1) := by decide +kernel
theorem d_S_cedeStopLoss_72 : decode c_S_cedeStopLoss 72 = .ok (.aload_n 0, 1) := by decide +kernel
theorem d_S_cedeStopLoss_73 : decode c_S_cedeStopLoss 73 = .ok (.getfield 19, 3) := by decide +kernel
theorem d_S_cedeStopLoss_76 : decode c_S_cedeStopLoss 76 = .ok (.iload_n 1, 1) := by decide +kernel
theorem d_S_cedeStopLoss_77 : decode c_S_cedeStopLoss 77 = .ok (.lload_n 2, 1) := by decide +kernel
theorem d_S_cedeStopLoss_78 : decode c_S_cedeStopLoss 78 = .ok (.invokevirtual 133, 3) := by decide +kernel
theorem d_S_cedeStopLoss_81 : decode c_S_cedeStopLoss 81 = .ok (.lload_n 2, 1) := by decide +kernel
theorem d_S_cedeStopLoss_82 : decode c_S_cedeStopLoss 82 = .ok (.invokevirtual 156, 3) := by decide +kernel
theorem d_S_cedeStopLoss_85 : decode c_S_cedeStopLoss 85 = .ok (.return_, 1) := by decide +kernel
theorem d_S_commissionOf_0 : decode c_S_commissionOf 0 = .ok (.aload_n 0, 1) := by decide +kernel
theorem d_S_commissionOf_1 : decode c_S_commissionOf 1 = .ok (.iload_n 1, 1) := by decide +kernel
theorem d_S_commissionOf_2 : decode c_S_commissionOf 2 = .ok (.invokevirtual 179, 3) := by decide +kernel
theorem d_S_commissionOf_5 : decode c_S_commissionOf 5 = .ok (.ldc2_w 182, 3) := by decide +kernel
theorem d_S_commissionOf_8 : decode c_S_commissionOf 8 = .ok (.lsub, 1) := by decide +kernel
theorem d_S_commissionOf_9 : decode c_S_commissionOf 9 = .ok (.lconst 0, 1) := by decide +kernel
theorem d_S_commissionOf_10 : decode c_S_commissionOf 10 = .ok (.invokestatic 184, 3) := by decide +kernel
theorem d_S_commissionOf_13 : decode c_S_commissionOf 13 = .ok (.lstore_n 2, 1) := by decide +kernel
theorem d_S_commissionOf_14 : decode c_S_commissionOf 14 = .ok (.ldc2_w 187, 3) := by decide +kernel
theorem d_S_commissionOf_17 : decode c_S_commissionOf 17 = .ok (.lload_n 2, 1) := by decide +kernel
theorem d_S_commissionOf_18 : decode c_S_commissionOf 18 = .ok (.lsub, 1) := by decide +kernel
theorem d_S_commissionOf_19 : decode c_S_commissionOf 19 = .ok (.ldc2_w 189, 3) := by decide +kernel
theorem d_S_commissionOf_22 : decode c_S_commissionOf 22 = .ok (.invokestatic 184, 3) := by decide +kernel
theorem d_S_commissionOf_25 : decode c_S_commissionOf 25 = .ok (.lstore 4, 2) := by decide +kernel
theorem d_S_commissionOf_27 : decode c_S_commissionOf 27 = .ok (.aload_n 0, 1) := by decide +kernel
theorem d_S_commissionOf_28 : decode c_S_commissionOf 28 = .ok (.getfield 44, 3) := by decide +kernel
theorem d_S_commissionOf_31 : decode c_S_commissionOf 31 = .ok (.iload_n 1, 1) := by decide +kernel
theorem d_S_commissionOf_32 : decode c_S_commissionOf 32 = .ok (.laload, 1) := by decide +kernel
theorem d_S_commissionOf_33 : decode c_S_commissionOf 33 = .ok (.lload 4, 2) := by decide +kernel
theorem d_S_commissionOf_35 : decode c_S_commissionOf 35 = .ok (.lmul, 1) := by decide +kernel
theorem d_S_commissionOf_36 : decode c_S_commissionOf 36 = .ok (.ldc2_w 124, 3) := by decide +kernel
theorem d_S_commissionOf_39 : decode c_S_commissionOf 39 = .ok (.ldiv, 1) := by decide +kernel
theorem d_S_commissionOf_40 : decode c_S_commissionOf 40 = .ok (.lreturn, 1) := by decide +kernel
theorem d_S_cedeTo_0 : decode c_S_cedeTo 0 = .ok (.aload_n 0, 1) := by decide +kernel
theorem d_S_cedeTo_1 : decode c_S_cedeTo 1 = .ok (.getfield 19, 3) := by decide +kernel
theorem d_S_cedeTo_4 : decode c_S_cedeTo 4 = .ok (.getfield 95, 3) := by decide +kernel
theorem d_S_cedeTo_7 : decode c_S_cedeTo 7 = .ok (.iload_n 1, 1) := by decide +kernel
theorem d_S_cedeTo_8 : decode c_S_cedeTo 8 = .ok (.iaload, 1) := by decide +kernel
theorem d_S_cedeTo_9 : decode c_S_cedeTo 9 = .ok (.tableswitch 60 0 3 #[31, 31, 44, 52], 31) := by decide +kernel
theorem d_S_cedeTo_40 : decode c_S_cedeTo 40 = .ok (.aload_n 0, 1) := by decide +kernel
theorem d_S_cedeTo_41 : decode c_S_cedeTo 41 = .ok (.iload_n 1, 1) := by decide +kernel
theorem d_S_cedeTo_42 : decode c_S_cedeTo 42 = .ok (.invokevirtual 102, 3) := by decide +kernel
theorem d_S_cedeTo_45 : decode c_S_cedeTo 45 = .ok (.aload_n 0, 1) := by decide +kernel
theorem d_S_cedeTo_46 : decode c_S_cedeTo 46 = .ok (.iload_n 1, 1) := by decide +kernel
theorem d_S_cedeTo_47 : decode c_S_cedeTo 47 = .ok (.invokevirtual 105, 3) := by decide +kernel
theorem d_S_cedeTo_50 : decode c_S_cedeTo 50 = .ok (.goto 24, 3) := by decide +kernel
theorem d_S_cedeTo_53 : decode c_S_cedeTo 53 = .ok (.aload_n 0, 1) := by decide +kernel
theorem d_S_cedeTo_54 : decode c_S_cedeTo 54 = .ok (.iload_n 1, 1) := by decide +kernel
theorem d_S_cedeTo_55 : decode c_S_cedeTo 55 = .ok (.invokevirtual 108, 3) := by decide +kernel
theorem d_S_cedeTo_58 : decode c_S_cedeTo 58 = .ok (.goto 16, 3) := by decide +kernel
theorem d_S_cedeTo_61 : decode c_S_cedeTo 61 = .ok (.aload_n 0, 1) := by decide +kernel
theorem d_S_cedeTo_62 : decode c_S_cedeTo 62 = .ok (.iload_n 1, 1) := by decide +kernel
theorem d_S_cedeTo_63 : decode c_S_cedeTo 63 = .ok (.invokevirtual 111, 3) := by decide +kernel
theorem d_S_cedeTo_66 : decode c_S_cedeTo 66 = .ok (.goto 8, 3) := by decide +kernel
theorem d_S_cedeTo_69 : decode c_S_cedeTo 69 = .ok (.aload_n 0, 1) := by decide +kernel
theorem d_S_cedeTo_70 : decode c_S_cedeTo 70 = .ok (.iload_n 1, 1) := by decide +kernel
theorem d_S_cedeTo_71 : decode c_S_cedeTo 71 = .ok (.invokevirtual 114, 3) := by decide +kernel
theorem d_S_cedeTo_74 : decode c_S_cedeTo 74 = .ok (.return_, 1) := by decide +kernel
theorem d_S_owedBy_0 : decode c_S_owedBy 0 = .ok (.lconst 0, 1) := by decide +kernel
theorem d_S_owedBy_1 : decode c_S_owedBy 1 = .ok (.lstore_n 3, 1) := by decide +kernel
theorem d_S_owedBy_2 : decode c_S_owedBy 2 = .ok (.iconst 0, 1) := by decide +kernel
theorem d_S_owedBy_3 : decode c_S_owedBy 3 = .ok (.istore 5, 2) := by decide +kernel
theorem d_S_owedBy_5 : decode c_S_owedBy 5 = .ok (.iload 5, 2) := by decide +kernel
theorem d_S_owedBy_7 : decode c_S_owedBy 7 = .ok (.aload_n 0, 1) := by decide +kernel
theorem d_S_owedBy_8 : decode c_S_owedBy 8 = .ok (.getfield 19, 3) := by decide +kernel
theorem d_S_owedBy_11 : decode c_S_owedBy 11 = .ok (.getfield 92, 3) := by decide +kernel
theorem d_S_owedBy_14 : decode c_S_owedBy 14 = .ok (.if_icmp .ge 101, 3) := by decide +kernel
theorem d_S_owedBy_17 : decode c_S_owedBy 17 = .ok (.aload_n 0, 1) := by decide +kernel
theorem d_S_owedBy_18 : decode c_S_owedBy 18 = .ok (.getfield 19, 3) := by decide +kernel
theorem d_S_owedBy_21 : decode c_S_owedBy 21 = .ok (.getfield 98, 3) := by decide +kernel
theorem d_S_owedBy_24 : decode c_S_owedBy 24 = .ok (.iload 5, 2) := by decide +kernel
theorem d_S_owedBy_26 : decode c_S_owedBy 26 = .ok (.iaload, 1) := by decide +kernel
theorem d_S_owedBy_27 : decode c_S_owedBy 27 = .ok (.iload_n 2, 1) := by decide +kernel
theorem d_S_owedBy_28 : decode c_S_owedBy 28 = .ok (.if_icmp .ne 81, 3) := by decide +kernel
theorem d_S_owedBy_31 : decode c_S_owedBy 31 = .ok (.lload_n 3, 1) := by decide +kernel
theorem d_S_owedBy_32 : decode c_S_owedBy 32 = .ok (.aload_n 0, 1) := by decide +kernel
theorem d_S_owedBy_33 : decode c_S_owedBy 33 = .ok (.getfield 19, 3) := by decide +kernel
theorem d_S_owedBy_36 : decode c_S_owedBy 36 = .ok (.aload_n 0, 1) := by decide +kernel
theorem d_S_owedBy_37 : decode c_S_owedBy 37 = .ok (.getfield 34, 3) := by decide +kernel
theorem d_S_owedBy_40 : decode c_S_owedBy 40 = .ok (.iload 5, 2) := by decide +kernel
theorem d_S_owedBy_42 : decode c_S_owedBy 42 = .ok (.laload, 1) := by decide +kernel
theorem d_S_owedBy_43 : decode c_S_owedBy 43 = .ok (.iload 5, 2) := by decide +kernel
theorem d_S_owedBy_45 : decode c_S_owedBy 45 = .ok (.iload_n 1, 1) := by decide +kernel
theorem d_S_owedBy_46 : decode c_S_owedBy 46 = .ok (.invokevirtual 201, 3) := by decide +kernel
theorem d_S_owedBy_49 : decode c_S_owedBy 49 = .ok (.ladd, 1) := by decide +kernel
theorem d_S_owedBy_50 : decode c_S_owedBy 50 = .ok (.lstore_n 3, 1) := by decide +kernel
theorem d_S_owedBy_51 : decode c_S_owedBy 51 = .ok (.lload_n 3, 1) := by decide +kernel
theorem d_S_owedBy_52 : decode c_S_owedBy 52 = .ok (.aload_n 0, 1) := by decide +kernel
theorem d_S_owedBy_53 : decode c_S_owedBy 53 = .ok (.getfield 19, 3) := by decide +kernel
theorem d_S_owedBy_56 : decode c_S_owedBy 56 = .ok (.aload_n 0, 1) := by decide +kernel
theorem d_S_owedBy_57 : decode c_S_owedBy 57 = .ok (.iload 5, 2) := by decide +kernel
theorem d_S_owedBy_59 : decode c_S_owedBy 59 = .ok (.invokevirtual 205, 3) := by decide +kernel
theorem d_S_owedBy_62 : decode c_S_owedBy 62 = .ok (.iload 5, 2) := by decide +kernel
theorem d_S_owedBy_64 : decode c_S_owedBy 64 = .ok (.iload_n 1, 1) := by decide +kernel
theorem d_S_owedBy_65 : decode c_S_owedBy 65 = .ok (.invokevirtual 201, 3) := by decide +kernel
theorem d_S_owedBy_68 : decode c_S_owedBy 68 = .ok (.ladd, 1) := by decide +kernel
theorem d_S_owedBy_69 : decode c_S_owedBy 69 = .ok (.lstore_n 3, 1) := by decide +kernel
theorem d_S_owedBy_70 : decode c_S_owedBy 70 = .ok (.lload_n 3, 1) := by decide +kernel
theorem d_S_owedBy_71 : decode c_S_owedBy 71 = .ok (.aload_n 0, 1) := by decide +kernel
theorem d_S_owedBy_72 : decode c_S_owedBy 72 = .ok (.getfield 19, 3) := by decide +kernel
theorem d_S_owedBy_75 : decode c_S_owedBy 75 = .ok (.aload_n 0, 1) := by decide +kernel
theorem d_S_owedBy_76 : decode c_S_owedBy 76 = .ok (.getfield 44, 3) := by decide +kernel
theorem d_S_owedBy_79 : decode c_S_owedBy 79 = .ok (.iload 5, 2) := by decide +kernel
theorem d_S_owedBy_81 : decode c_S_owedBy 81 = .ok (.laload, 1) := by decide +kernel
theorem d_S_owedBy_82 : decode c_S_owedBy 82 = .ok (.iload 5, 2) := by decide +kernel
theorem d_S_owedBy_84 : decode c_S_owedBy 84 = .ok (.iload_n 1, 1) := by decide +kernel
theorem d_S_owedBy_85 : decode c_S_owedBy 85 = .ok (.invokevirtual 201, 3) := by decide +kernel
theorem d_S_owedBy_88 : decode c_S_owedBy 88 = .ok (.lsub, 1) := by decide +kernel
theorem d_S_owedBy_89 : decode c_S_owedBy 89 = .ok (.lstore_n 3, 1) := by decide +kernel
theorem d_S_owedBy_90 : decode c_S_owedBy 90 = .ok (.lload_n 3, 1) := by decide +kernel
theorem d_S_owedBy_91 : decode c_S_owedBy 91 = .ok (.aload_n 0, 1) := by decide +kernel
theorem d_S_owedBy_92 : decode c_S_owedBy 92 = .ok (.getfield 19, 3) := by decide +kernel
theorem d_S_owedBy_95 : decode c_S_owedBy 95 = .ok (.aload_n 0, 1) := by decide +kernel
theorem d_S_owedBy_96 : decode c_S_owedBy 96 = .ok (.iload 5, 2) := by decide +kernel
theorem d_S_owedBy_98 : decode c_S_owedBy 98 = .ok (.invokevirtual 208, 3) := by decide +kernel
theorem d_S_owedBy_101 : decode c_S_owedBy 101 = .ok (.iload 5, 2) := by decide +kernel
theorem d_S_owedBy_103 : decode c_S_owedBy 103 = .ok (.iload_n 1, 1) := by decide +kernel
theorem d_S_owedBy_104 : decode c_S_owedBy 104 = .ok (.invokevirtual 201, 3) := by decide +kernel
theorem d_S_owedBy_107 : decode c_S_owedBy 107 = .ok (.lsub, 1) := by decide +kernel
theorem d_S_owedBy_108 : decode c_S_owedBy 108 = .ok (.lstore_n 3, 1) := by decide +kernel
theorem d_S_owedBy_109 : decode c_S_owedBy 109 = .ok (.iinc 5 1, 3) := by decide +kernel
theorem d_S_owedBy_112 : decode c_S_owedBy 112 = .ok (.goto (-107), 3) := by decide +kernel
theorem d_S_owedBy_115 : decode c_S_owedBy 115 = .ok (.lload_n 3, 1) := by decide +kernel
theorem d_S_owedBy_116 : decode c_S_owedBy 116 = .ok (.lreturn, 1) := by decide +kernel
theorem d_S_cedeYear_0 : decode c_S_cedeYear 0 = .ok (.iconst 0, 1) := by decide +kernel
theorem d_S_cedeYear_1 : decode c_S_cedeYear 1 = .ok (.istore_n 2, 1) := by decide +kernel
theorem d_S_cedeYear_2 : decode c_S_cedeYear 2 = .ok (.iload_n 2, 1) := by decide +kernel
theorem d_S_cedeYear_3 : decode c_S_cedeYear 3 = .ok (.iconst 5, 1) := by decide +kernel
theorem d_S_cedeYear_4 : decode c_S_cedeYear 4 = .ok (.if_icmp .ge 59, 3) := by decide +kernel
theorem d_S_cedeYear_7 : decode c_S_cedeYear 7 = .ok (.iconst 0, 1) := by decide +kernel
theorem d_S_cedeYear_8 : decode c_S_cedeYear 8 = .ok (.istore_n 3, 1) := by decide +kernel
theorem d_S_cedeYear_9 : decode c_S_cedeYear 9 = .ok (.iload_n 3, 1) := by decide +kernel
theorem d_S_cedeYear_10 : decode c_S_cedeYear 10 = .ok (.aload_n 0, 1) := by decide +kernel
theorem d_S_cedeYear_11 : decode c_S_cedeYear 11 = .ok (.getfield 19, 3) := by decide +kernel
theorem d_S_cedeYear_14 : decode c_S_cedeYear 14 = .ok (.getfield 92, 3) := by decide +kernel
theorem d_S_cedeYear_17 : decode c_S_cedeYear 17 = .ok (.if_icmp .ge 40, 3) := by decide +kernel
theorem d_S_cedeYear_20 : decode c_S_cedeYear 20 = .ok (.aload_n 0, 1) := by decide +kernel
theorem d_S_cedeYear_21 : decode c_S_cedeYear 21 = .ok (.getfield 19, 3) := by decide +kernel
theorem d_S_cedeYear_24 : decode c_S_cedeYear 24 = .ok (.getfield 95, 3) := by decide +kernel
theorem d_S_cedeYear_27 : decode c_S_cedeYear 27 = .ok (.iload_n 3, 1) := by decide +kernel
theorem d_S_cedeYear_28 : decode c_S_cedeYear 28 = .ok (.iaload, 1) := by decide +kernel
theorem d_S_cedeYear_29 : decode c_S_cedeYear 29 = .ok (.iload_n 2, 1) := by decide +kernel
theorem d_S_cedeYear_30 : decode c_S_cedeYear 30 = .ok (.if_icmp .ne 21, 3) := by decide +kernel
theorem d_S_cedeYear_33 : decode c_S_cedeYear 33 = .ok (.aload_n 0, 1) := by decide +kernel
theorem d_S_cedeYear_34 : decode c_S_cedeYear 34 = .ok (.getfield 19, 3) := by decide +kernel
theorem d_S_cedeYear_37 : decode c_S_cedeYear 37 = .ok (.getfield 98, 3) := by decide +kernel
theorem d_S_cedeYear_40 : decode c_S_cedeYear 40 = .ok (.iload_n 3, 1) := by decide +kernel
theorem d_S_cedeYear_41 : decode c_S_cedeYear 41 = .ok (.iaload, 1) := by decide +kernel
theorem d_S_cedeYear_42 : decode c_S_cedeYear 42 = .ok (.iload_n 1, 1) := by decide +kernel
theorem d_S_cedeYear_43 : decode c_S_cedeYear 43 = .ok (.if_icmp .ne 8, 3) := by decide +kernel
theorem d_S_cedeYear_46 : decode c_S_cedeYear 46 = .ok (.aload_n 0, 1) := by decide +kernel
theorem d_S_cedeYear_47 : decode c_S_cedeYear 47 = .ok (.iload_n 3, 1) := by decide +kernel
theorem d_S_cedeYear_48 : decode c_S_cedeYear 48 = .ok (.invokevirtual 99, 3) := by decide +kernel
theorem d_S_cedeYear_51 : decode c_S_cedeYear 51 = .ok (.iinc 3 1, 3) := by decide +kernel
theorem d_S_cedeYear_54 : decode c_S_cedeYear 54 = .ok (.goto (-45), 3) := by decide +kernel
theorem d_S_cedeYear_57 : decode c_S_cedeYear 57 = .ok (.iinc 2 1, 3) := by decide +kernel
theorem d_S_cedeYear_60 : decode c_S_cedeYear 60 = .ok (.goto (-58), 3) := by decide +kernel
theorem d_S_cedeYear_63 : decode c_S_cedeYear 63 = .ok (.return_, 1) := by decide +kernel
theorem d_S_workOut_0 : decode c_S_workOut 0 = .ok (.aload_n 0, 1) := by decide +kernel
theorem d_S_workOut_1 : decode c_S_workOut 1 = .ok (.iload_n 1, 1) := by decide +kernel
theorem d_S_workOut_2 : decode c_S_workOut 2 = .ok (.invokevirtual 53, 3) := by decide +kernel
theorem d_S_workOut_5 : decode c_S_workOut 5 = .ok (.aload_n 0, 1) := by decide +kernel
theorem d_S_workOut_6 : decode c_S_workOut 6 = .ok (.iload_n 1, 1) := by decide +kernel
theorem d_S_workOut_7 : decode c_S_workOut 7 = .ok (.invokevirtual 57, 3) := by decide +kernel
theorem d_S_workOut_10 : decode c_S_workOut 10 = .ok (.return_, 1) := by decide +kernel
theorem d_S_workOutSupposing_0 : decode c_S_workOutSupposing 0 = .ok (.aload_n 0, 1) := by decide +kernel
theorem d_S_workOutSupposing_1 : decode c_S_workOutSupposing 1 = .ok (.iload_n 1, 1) := by decide +kernel
theorem d_S_workOutSupposing_2 : decode c_S_workOutSupposing 2 = .ok (.invokevirtual 53, 3) := by decide +kernel
theorem d_S_workOutSupposing_5 : decode c_S_workOutSupposing 5 = .ok (.aload_n 0, 1) := by decide +kernel
theorem d_S_workOutSupposing_6 : decode c_S_workOutSupposing 6 = .ok (.getfield 27, 3) := by decide +kernel
theorem d_S_workOutSupposing_9 : decode c_S_workOutSupposing 9 = .ok (.iload_n 2, 1) := by decide +kernel
theorem d_S_workOutSupposing_10 : decode c_S_workOutSupposing 10 = .ok (.iload_n 3, 1) := by decide +kernel
theorem d_S_workOutSupposing_11 : decode c_S_workOutSupposing 11 = .ok (.iastore, 1) := by decide +kernel
theorem d_S_workOutSupposing_12 : decode c_S_workOutSupposing 12 = .ok (.aload_n 0, 1) := by decide +kernel
theorem d_S_workOutSupposing_13 : decode c_S_workOutSupposing 13 = .ok (.iload_n 1, 1) := by decide +kernel
theorem d_S_workOutSupposing_14 : decode c_S_workOutSupposing 14 = .ok (.invokevirtual 57, 3) := by decide +kernel
theorem d_S_workOutSupposing_17 : decode c_S_workOutSupposing 17 = .ok (.return_, 1) := by decide +kernel
end
section
/-! what the bytes say -/
theorem d_D_isAmount_0 : decode c_D_isAmount 0 = .ok (.iload_n 0, 1) := by decide +kernel
theorem d_D_isAmount_1 : decode c_D_isAmount 1 = .ok (.ifCond .lt 13, 3) := by decide +kernel
theorem d_D_isAmount_4 : decode c_D_isAmount 4 = .ok (.iload_n 0, 1) := by decide +kernel
theorem d_D_isAmount_5 : decode c_D_isAmount 5 = .ok (.ldc 51, 2) := by decide +kernel
theorem d_D_isAmount_7 : decode c_D_isAmount 7 = .ok (.if_icmp .gt 7, 3) := by decide +kernel
theorem d_D_isAmount_10 : decode c_D_isAmount 10 = .ok (.iconst 1, 1) := by decide +kernel
theorem d_D_isAmount_11 : decode c_D_isAmount 11 = .ok (.goto 4, 3) := by decide +kernel
theorem d_D_isAmount_14 : decode c_D_isAmount 14 = .ok (.iconst 0, 1) := by decide +kernel
theorem d_D_isAmount_15 : decode c_D_isAmount 15 = .ok (.ireturn, 1) := by decide +kernel
theorem d_D_isBelow_0 : decode c_D_isBelow 0 = .ok (.iload_n 0, 1) := by decide +kernel
theorem d_D_isBelow_1 : decode c_D_isBelow 1 = .ok (.ifCond .lt 12, 3) := by decide +kernel
theorem d_D_isBelow_4 : decode c_D_isBelow 4 = .ok (.iload_n 0, 1) := by decide +kernel
theorem d_D_isBelow_5 : decode c_D_isBelow 5 = .ok (.iload_n 1, 1) := by decide +kernel
theorem d_D_isBelow_6 : decode c_D_isBelow 6 = .ok (.if_icmp .ge 7, 3) := by decide +kernel
theorem d_D_isBelow_9 : decode c_D_isBelow 9 = .ok (.iconst 1, 1) := by decide +kernel
theorem d_D_isBelow_10 : decode c_D_isBelow 10 = .ok (.goto 4, 3) := by decide +kernel
theorem d_D_isBelow_13 : decode c_D_isBelow 13 = .ok (.iconst 0, 1) := by decide +kernel
theorem d_D_isBelow_14 : decode c_D_isBelow 14 = .ok (.ireturn, 1) := by decide +kernel
theorem d_D_isFromOne_0 : decode c_D_isFromOne 0 = .ok (.iload_n 0, 1) := by decide +kernel
theorem d_D_isFromOne_1 : decode c_D_isFromOne 1 = .ok (.iconst 1, 1) := by decide +kernel
theorem d_D_isFromOne_2 : decode c_D_isFromOne 2 = .ok (.if_icmp .lt 12, 3) := by decide +kernel
theorem d_D_isFromOne_5 : decode c_D_isFromOne 5 = .ok (.iload_n 0, 1) := by decide +kernel
theorem d_D_isFromOne_6 : decode c_D_isFromOne 6 = .ok (.iload_n 1, 1) := by decide +kernel
theorem d_D_isFromOne_7 : decode c_D_isFromOne 7 = .ok (.if_icmp .gt 7, 3) := by decide +kernel
theorem d_D_isFromOne_10 : decode c_D_isFromOne 10 = .ok (.iconst 1, 1) := by decide +kernel
theorem d_D_isFromOne_11 : decode c_D_isFromOne 11 = .ok (.goto 4, 3) := by decide +kernel
theorem d_D_isFromOne_14 : decode c_D_isFromOne 14 = .ok (.iconst 0, 1) := by decide +kernel
theorem d_D_isFromOne_15 : decode c_D_isFromOne 15 = .ok (.ireturn, 1) := by decide +kernel
theorem d_D_yearOfClaim_0 : decode c_D_yearOfClaim 0 = .ok (.aload_n 0, 1) := by decide +kernel
theorem d_D_yearOfClaim_1 : decode c_D_yearOfClaim 1 = .ok (.getfield 10, 3) := by decide +kernel
theorem d_D_yearOfClaim_4 : decode c_D_yearOfClaim 4 = .ok (.getfield 75, 3) := by decide +kernel
theorem d_D_yearOfClaim_7 : decode c_D_yearOfClaim 7 = .ok (.aload_n 0, 1) := by decide +kernel
theorem d_D_yearOfClaim_8 : decode c_D_yearOfClaim 8 = .ok (.getfield 19, 3) := by decide +kernel
theorem d_D_yearOfClaim_11 : decode c_D_yearOfClaim 11 = .ok (.getfield 224, 3) := by decide +kernel
theorem d_D_yearOfClaim_14 : decode c_D_yearOfClaim 14 = .ok (.iload_n 1, 1) := by decide +kernel
theorem d_D_yearOfClaim_15 : decode c_D_yearOfClaim 15 = .ok (.iaload, 1) := by decide +kernel
theorem d_D_yearOfClaim_16 : decode c_D_yearOfClaim 16 = .ok (.iaload, 1) := by decide +kernel
theorem d_D_yearOfClaim_17 : decode c_D_yearOfClaim 17 = .ok (.ireturn, 1) := by decide +kernel
theorem d_D_areTerms_0 : decode c_D_areTerms 0 = .ok (.iload_n 0, 1) := by decide +kernel
theorem d_D_areTerms_1 : decode c_D_areTerms 1 = .ok (.tableswitch 136 0 3 #[31, 64, 97, 97], 31) := by decide +kernel
theorem d_D_areTerms_32 : decode c_D_areTerms 32 = .ok (.iload_n 1, 1) := by decide +kernel
theorem d_D_areTerms_33 : decode c_D_areTerms 33 = .ok (.ldc 110, 2) := by decide +kernel
theorem d_D_areTerms_35 : decode c_D_areTerms 35 = .ok (.invokestatic 52, 3) := by decide +kernel
theorem d_D_areTerms_38 : decode c_D_areTerms 38 = .ok (.ifCond .eq 25, 3) := by decide +kernel
theorem d_D_areTerms_41 : decode c_D_areTerms 41 = .ok (.iload_n 2, 1) := by decide +kernel
theorem d_D_areTerms_42 : decode c_D_areTerms 42 = .ok (.ldc 51, 2) := by decide +kernel
theorem d_D_areTerms_44 : decode c_D_areTerms 44 = .ok (.invokestatic 52, 3) := by decide +kernel
theorem d_D_areTerms_47 : decode c_D_areTerms 47 = .ok (.ifCond .eq 16, 3) := by decide +kernel
theorem d_D_areTerms_50 : decode c_D_areTerms 50 = .ok (.iload_n 3, 1) := by decide +kernel
theorem d_D_areTerms_51 : decode c_D_areTerms 51 = .ok (.ifCond .ne 12, 3) := by decide +kernel
theorem d_D_areTerms_54 : decode c_D_areTerms 54 = .ok (.iload 4, 2) := by decide +kernel
theorem d_D_areTerms_56 : decode c_D_areTerms 56 = .ok (.ifCond .ne 7, 3) := by decide +kernel
theorem d_D_areTerms_59 : decode c_D_areTerms 59 = .ok (.iconst 1, 1) := by decide +kernel
theorem d_D_areTerms_60 : decode c_D_areTerms 60 = .ok (.goto 4, 3) := by decide +kernel
theorem d_D_areTerms_63 : decode c_D_areTerms 63 = .ok (.iconst 0, 1) := by decide +kernel
theorem d_D_areTerms_64 : decode c_D_areTerms 64 = .ok (.ireturn, 1) := by decide +kernel
theorem d_D_areTerms_65 : decode c_D_areTerms 65 = .ok (.iload_n 1, 1) := by decide +kernel
theorem d_D_areTerms_66 : decode c_D_areTerms 66 = .ok (.ldc 51, 2) := by decide +kernel
theorem d_D_areTerms_68 : decode c_D_areTerms 68 = .ok (.invokestatic 52, 3) := by decide +kernel
theorem d_D_areTerms_71 : decode c_D_areTerms 71 = .ok (.ifCond .eq 25, 3) := by decide +kernel
theorem d_D_areTerms_74 : decode c_D_areTerms 74 = .ok (.iload_n 2, 1) := by decide +kernel
theorem d_D_areTerms_75 : decode c_D_areTerms 75 = .ok (.bipush 20, 2) := by decide +kernel
theorem d_D_areTerms_77 : decode c_D_areTerms 77 = .ok (.invokestatic 52, 3) := by decide +kernel
theorem d_D_areTerms_80 : decode c_D_areTerms 80 = .ok (.ifCond .eq 16, 3) := by decide +kernel
theorem d_D_areTerms_83 : decode c_D_areTerms 83 = .ok (.iload_n 3, 1) := by decide +kernel
theorem d_D_areTerms_84 : decode c_D_areTerms 84 = .ok (.ifCond .ne 12, 3) := by decide +kernel
theorem d_D_areTerms_87 : decode c_D_areTerms 87 = .ok (.iload 4, 2) := by decide +kernel
theorem d_D_areTerms_89 : decode c_D_areTerms 89 = .ok (.ifCond .ne 7, 3) := by decide +kernel
theorem d_D_areTerms_92 : decode c_D_areTerms 92 = .ok (.iconst 1, 1) := by decide +kernel
theorem d_D_areTerms_93 : decode c_D_areTerms 93 = .ok (.goto 4, 3) := by decide +kernel
theorem d_D_areTerms_96 : decode c_D_areTerms 96 = .ok (.iconst 0, 1) := by decide +kernel
theorem d_D_areTerms_97 : decode c_D_areTerms 97 = .ok (.ireturn, 1) := by decide +kernel
theorem d_D_areTerms_98 : decode c_D_areTerms 98 = .ok (.iload_n 1, 1) := by decide +kernel
theorem d_D_areTerms_99 : decode c_D_areTerms 99 = .ok (.invokestatic 78, 3) := by decide +kernel
theorem d_D_areTerms_102 : decode c_D_areTerms 102 = .ok (.ifCond .eq 33, 3) := by decide +kernel
theorem d_D_areTerms_105 : decode c_D_areTerms 105 = .ok (.iload_n 2, 1) := by decide +kernel
theorem d_D_areTerms_106 : decode c_D_areTerms 106 = .ok (.ldc 51, 2) := by decide +kernel
theorem d_D_areTerms_108 : decode c_D_areTerms 108 = .ok (.invokestatic 52, 3) := by decide +kernel
theorem d_D_areTerms_111 : decode c_D_areTerms 111 = .ok (.ifCond .eq 24, 3) := by decide +kernel
theorem d_D_areTerms_114 : decode c_D_areTerms 114 = .ok (.iload_n 3, 1) := by decide +kernel
theorem d_D_areTerms_115 : decode c_D_areTerms 115 = .ok (.bipush 6, 2) := by decide +kernel
theorem d_D_areTerms_117 : decode c_D_areTerms 117 = .ok (.invokestatic 47, 3) := by decide +kernel
theorem d_D_areTerms_120 : decode c_D_areTerms 120 = .ok (.ifCond .eq 15, 3) := by decide +kernel
theorem d_D_areTerms_123 : decode c_D_areTerms 123 = .ok (.iload 4, 2) := by decide +kernel
theorem d_D_areTerms_125 : decode c_D_areTerms 125 = .ok (.invokestatic 78, 3) := by decide +kernel
theorem d_D_areTerms_128 : decode c_D_areTerms 128 = .ok (.ifCond .eq 7, 3) := by decide +kernel
theorem d_D_areTerms_131 : decode c_D_areTerms 131 = .ok (.iconst 1, 1) := by decide +kernel
theorem d_D_areTerms_132 : decode c_D_areTerms 132 = .ok (.goto 4, 3) := by decide +kernel
theorem d_D_areTerms_135 : decode c_D_areTerms 135 = .ok (.iconst 0, 1) := by decide +kernel
theorem d_D_areTerms_136 : decode c_D_areTerms 136 = .ok (.ireturn, 1) := by decide +kernel
theorem d_D_areTerms_137 : decode c_D_areTerms 137 = .ok (.iload_n 1, 1) := by decide +kernel
theorem d_D_areTerms_138 : decode c_D_areTerms 138 = .ok (.invokestatic 78, 3) := by decide +kernel
theorem d_D_areTerms_141 : decode c_D_areTerms 141 = .ok (.ifCond .eq 25, 3) := by decide +kernel
theorem d_D_areTerms_144 : decode c_D_areTerms 144 = .ok (.iload_n 2, 1) := by decide +kernel
theorem d_D_areTerms_145 : decode c_D_areTerms 145 = .ok (.ldc 51, 2) := by decide +kernel
theorem d_D_areTerms_147 : decode c_D_areTerms 147 = .ok (.invokestatic 52, 3) := by decide +kernel
theorem d_D_areTerms_150 : decode c_D_areTerms 150 = .ok (.ifCond .eq 16, 3) := by decide +kernel
theorem d_D_areTerms_153 : decode c_D_areTerms 153 = .ok (.iload_n 3, 1) := by decide +kernel
theorem d_D_areTerms_154 : decode c_D_areTerms 154 = .ok (.ifCond .ne 12, 3) := by decide +kernel
theorem d_D_areTerms_157 : decode c_D_areTerms 157 = .ok (.iload 4, 2) := by decide +kernel
theorem d_D_areTerms_159 : decode c_D_areTerms 159 = .ok (.ifCond .ne 7, 3) := by decide +kernel
theorem d_D_areTerms_162 : decode c_D_areTerms 162 = .ok (.iconst 1, 1) := by decide +kernel
theorem d_D_areTerms_163 : decode c_D_areTerms 163 = .ok (.goto 4, 3) := by decide +kernel
theorem d_D_areTerms_166 : decode c_D_areTerms 166 = .ok (.iconst 0, 1) := by decide +kernel
theorem d_D_areTerms_167 : decode c_D_areTerms 167 = .ok (.ireturn, 1) := by decide +kernel
theorem d_D_isShape_0 : decode c_D_isShape 0 = .ok (.iload_n 0, 1) := by decide +kernel
theorem d_D_isShape_1 : decode c_D_isShape 1 = .ok (.bipush 50, 2) := by decide +kernel
theorem d_D_isShape_3 : decode c_D_isShape 3 = .ok (.invokestatic 47, 3) := by decide +kernel
theorem d_D_isShape_6 : decode c_D_isShape 6 = .ok (.ifCond .eq 15, 3) := by decide +kernel
theorem d_D_isShape_9 : decode c_D_isShape 9 = .ok (.iload_n 0, 1) := by decide +kernel
theorem d_D_isShape_10 : decode c_D_isShape 10 = .ok (.bipush 10, 2) := by decide +kernel
theorem d_D_isShape_12 : decode c_D_isShape 12 = .ok (.irem, 1) := by decide +kernel
theorem d_D_isShape_13 : decode c_D_isShape 13 = .ok (.iconst 4, 1) := by decide +kernel
theorem d_D_isShape_14 : decode c_D_isShape 14 = .ok (.if_icmp .ge 7, 3) := by decide +kernel
theorem d_D_isShape_17 : decode c_D_isShape 17 = .ok (.iconst 1, 1) := by decide +kernel
theorem d_D_isShape_18 : decode c_D_isShape 18 = .ok (.goto 4, 3) := by decide +kernel
theorem d_D_isShape_21 : decode c_D_isShape 21 = .ok (.iconst 0, 1) := by decide +kernel
theorem d_D_isShape_22 : decode c_D_isShape 22 = .ok (.ireturn, 1) := by decide +kernel
theorem d_D_bill_0 : decode c_D_bill 0 = .ok (.iload_n 1, 1) := by decide +kernel
theorem d_D_bill_1 : decode c_D_bill 1 = .ok (.bipush 6, 2) := by decide +kernel
theorem d_D_bill_3 : decode c_D_bill 3 = .ok (.invokestatic 47, 3) := by decide +kernel
theorem d_D_bill_6 : decode c_D_bill 6 = .ok (.ifCond .ne 13, 3) := by decide +kernel
theorem d_D_bill_9 : decode c_D_bill 9 = .ok (.new 55, 3) := by decide +kernel
theorem d_D_bill_12 : decode c_D_bill 12 = .ok (.dup, 1) := by decide +kernel
theorem d_D_bill_13 : decode c_D_bill 13 = .ok (.ldc 214, 2) := by decide +kernel
theorem d_D_bill_15 : decode c_D_bill 15 = .ok (.invokespecial 59, 3) := by decide +kernel
theorem d_D_bill_18 : decode c_D_bill 18 = .ok (.athrow, 1) := by decide +kernel
theorem d_D_bill_19 : decode c_D_bill 19 = .ok (.lconst 0, 1) := by decide +kernel
theorem d_D_bill_20 : decode c_D_bill 20 = .ok (.lstore_n 2, 1) := by decide +kernel
theorem d_D_bill_21 : decode c_D_bill 21 = .ok (.iconst 0, 1) := by decide +kernel
theorem d_D_bill_22 : decode c_D_bill 22 = .ok (.istore 4, 2) := by decide +kernel
theorem d_D_bill_24 : decode c_D_bill 24 = .ok (.iload 4, 2) := by decide +kernel
theorem d_D_bill_26 : decode c_D_bill 26 = .ok (.iconst 4, 1) := by decide +kernel
theorem d_D_bill_27 : decode c_D_bill 27 = .ok (.if_icmp .ge 41, 3) := by decide +kernel
theorem d_D_bill_30 : decode c_D_bill 30 = .ok (.aload_n 0, 1) := by decide +kernel
theorem d_D_bill_31 : decode c_D_bill 31 = .ok (.getfield 39, 3) := by decide +kernel
theorem d_D_bill_34 : decode c_D_bill 34 = .ok (.iload 4, 2) := by decide +kernel
theorem d_D_bill_36 : decode c_D_bill 36 = .ok (.baload, 1) := by decide +kernel
theorem d_D_bill_37 : decode c_D_bill 37 = .ok (.ifCond .ne 25, 3) := by decide +kernel
theorem d_D_bill_40 : decode c_D_bill 40 = .ok (.aload_n 0, 1) := by decide +kernel
theorem d_D_bill_41 : decode c_D_bill 41 = .ok (.getfield 35, 3) := by decide +kernel
theorem d_D_bill_44 : decode c_D_bill 44 = .ok (.iload 4, 2) := by decide +kernel
theorem d_D_bill_46 : decode c_D_bill 46 = .ok (.invokevirtual 154, 3) := by decide +kernel
theorem d_D_bill_49 : decode c_D_bill 49 = .ok (.lload_n 2, 1) := by decide +kernel
theorem d_D_bill_50 : decode c_D_bill 50 = .ok (.aload_n 0, 1) := by decide +kernel
theorem d_D_bill_51 : decode c_D_bill 51 = .ok (.getfield 35, 3) := by decide +kernel
theorem d_D_bill_54 : decode c_D_bill 54 = .ok (.iload_n 1, 1) := by decide +kernel
theorem d_D_bill_55 : decode c_D_bill 55 = .ok (.iload 4, 2) := by decide +kernel
theorem d_D_bill_57 : decode c_D_bill 57 = .ok (.invokevirtual 216, 3) := by decide +kernel
theorem d_D_bill_60 : decode c_D_bill 60 = .ok (.ladd, 1) := by decide +kernel
theorem d_D_bill_61 : decode c_D_bill 61 = .ok (.lstore_n 2, 1) := by decide +kernel
theorem d_D_bill_62 : decode c_D_bill 62 = .ok (.iinc 4 1, 3) := by decide +kernel
theorem d_D_bill_65 : decode c_D_bill 65 = .ok (.goto (-41), 3) := by decide +kernel
theorem d_D_bill_68 : decode c_D_bill 68 = .ok (.lload_n 2, 1) := by decide +kernel
theorem d_D_bill_69 : decode c_D_bill 69 = .ok (.aload_n 0, 1) := by decide +kernel
theorem d_D_bill_70 : decode c_D_bill 70 = .ok (.getfield 43, 3) := by decide +kernel
theorem d_D_bill_73 : decode c_D_bill 73 = .ok (.iload_n 1, 1) := by decide +kernel
theorem d_D_bill_74 : decode c_D_bill 74 = .ok (.laload, 1) := by decide +kernel
theorem d_D_bill_75 : decode c_D_bill 75 = .ok (.lsub, 1) := by decide +kernel
theorem d_D_bill_76 : decode c_D_bill 76 = .ok (.lstore 4, 2) := by decide +kernel
theorem d_D_bill_78 : decode c_D_bill 78 = .ok (.aload_n 0, 1) := by decide +kernel
theorem d_D_bill_79 : decode c_D_bill 79 = .ok (.getfield 43, 3) := by decide +kernel
theorem d_D_bill_82 : decode c_D_bill 82 = .ok (.iload_n 1, 1) := by decide +kernel
theorem d_D_bill_83 : decode c_D_bill 83 = .ok (.lload_n 2, 1) := by decide +kernel
theorem d_D_bill_84 : decode c_D_bill 84 = .ok (.lastore, 1) := by decide +kernel
theorem d_D_bill_85 : decode c_D_bill 85 = .ok (.lload 4, 2) := by decide +kernel
theorem d_D_bill_87 : decode c_D_bill 87 = .ok (.lreturn, 1) := by decide +kernel
theorem d_D_ceded_0 : decode c_D_ceded 0 = .ok (.aload_n 0, 1) := by decide +kernel
theorem d_D_ceded_1 : decode c_D_ceded 1 = .ok (.getfield 19, 3) := by decide +kernel
theorem d_D_ceded_4 : decode c_D_ceded 4 = .ok (.iload_n 1, 1) := by decide +kernel
theorem d_D_ceded_5 : decode c_D_ceded 5 = .ok (.invokevirtual 132, 3) := by decide +kernel
theorem d_D_ceded_8 : decode c_D_ceded 8 = .ok (.ifCond .eq 14, 3) := by decide +kernel
theorem d_D_ceded_11 : decode c_D_ceded 11 = .ok (.aload_n 0, 1) := by decide +kernel
theorem d_D_ceded_12 : decode c_D_ceded 12 = .ok (.getfield 26, 3) := by decide +kernel
theorem d_D_ceded_15 : decode c_D_ceded 15 = .ok (.iload_n 2, 1) := by decide +kernel
theorem d_D_ceded_16 : decode c_D_ceded 16 = .ok (.invokevirtual 107, 3) := by decide +kernel
theorem d_D_ceded_19 : decode c_D_ceded 19 = .ok (.ifCond .ne 13, 3) := by decide +kernel
theorem d_D_ceded_22 : decode c_D_ceded 22 = .ok (.new 55, 3) := by decide +kernel
theorem d_D_ceded_25 : decode c_D_ceded 25 = .ok (.dup, 1) := by decide +kernel
theorem d_D_ceded_26 : decode c_D_ceded 26 = .ok (.ldc 161, 2) := by decide +kernel
theorem d_D_ceded_28 : decode c_D_ceded 28 = .ok (.invokespecial 59, 3) := by decide +kernel
theorem d_D_ceded_31 : decode c_D_ceded 31 = .ok (.athrow, 1) := by decide +kernel
theorem d_D_ceded_32 : decode c_D_ceded 32 = .ok (.aload_n 0, 1) := by decide +kernel
theorem d_D_ceded_33 : decode c_D_ceded 33 = .ok (.getfield 35, 3) := by decide +kernel
theorem d_D_ceded_36 : decode c_D_ceded 36 = .ok (.aload_n 0, 1) := by decide +kernel
theorem d_D_ceded_37 : decode c_D_ceded 37 = .ok (.iload_n 1, 1) := by decide +kernel
theorem d_D_ceded_38 : decode c_D_ceded 38 = .ok (.invokevirtual 138, 3) := by decide +kernel
theorem d_D_ceded_41 : decode c_D_ceded 41 = .ok (.invokevirtual 154, 3) := by decide +kernel
theorem d_D_ceded_44 : decode c_D_ceded 44 = .ok (.aload_n 0, 1) := by decide +kernel
theorem d_D_ceded_45 : decode c_D_ceded 45 = .ok (.getfield 35, 3) := by decide +kernel
theorem d_D_ceded_48 : decode c_D_ceded 48 = .ok (.getfield 163, 3) := by decide +kernel
theorem d_D_ceded_51 : decode c_D_ceded 51 = .ok (.iload_n 2, 1) := by decide +kernel
theorem d_D_ceded_52 : decode c_D_ceded 52 = .ok (.bipush 40, 2) := by decide +kernel
theorem d_D_ceded_54 : decode c_D_ceded 54 = .ok (.imul, 1) := by decide +kernel
theorem d_D_ceded_55 : decode c_D_ceded 55 = .ok (.iload_n 1, 1) := by decide +kernel
theorem d_D_ceded_56 : decode c_D_ceded 56 = .ok (.iadd, 1) := by decide +kernel
theorem d_D_ceded_57 : decode c_D_ceded 57 = .ok (.iaload, 1) := by decide +kernel
theorem d_D_ceded_58 : decode c_D_ceded 58 = .ok (.ireturn, 1) := by decide +kernel
theorem d_D_claim_0 : decode c_D_claim 0 = .ok (.aload_n 0, 1) := by decide +kernel
theorem d_D_claim_1 : decode c_D_claim 1 = .ok (.getfield 10, 3) := by decide +kernel
theorem d_D_claim_4 : decode c_D_claim 4 = .ok (.iload_n 1, 1) := by decide +kernel
theorem d_D_claim_5 : decode c_D_claim 5 = .ok (.invokevirtual 62, 3) := by decide +kernel
theorem d_D_claim_8 : decode c_D_claim 8 = .ok (.ifCond .eq 22, 3) := by decide +kernel
theorem d_D_claim_11 : decode c_D_claim 11 = .ok (.iload_n 2, 1) := by decide +kernel
theorem d_D_claim_12 : decode c_D_claim 12 = .ok (.bipush 10, 2) := by decide +kernel
theorem d_D_claim_14 : decode c_D_claim 14 = .ok (.invokestatic 47, 3) := by decide +kernel
theorem d_D_claim_17 : decode c_D_claim 17 = .ok (.ifCond .eq 13, 3) := by decide +kernel
theorem d_D_claim_20 : decode c_D_claim 20 = .ok (.iload_n 3, 1) := by decide +kernel
theorem d_D_claim_21 : decode c_D_claim 21 = .ok (.ifCond .lt 9, 3) := by decide +kernel
theorem d_D_claim_24 : decode c_D_claim 24 = .ok (.iload_n 3, 1) := by decide +kernel
theorem d_D_claim_25 : decode c_D_claim 25 = .ok (.ldc 123, 2) := by decide +kernel
theorem d_D_claim_27 : decode c_D_claim 27 = .ok (.if_icmp .le 13, 3) := by decide +kernel
theorem d_D_claim_30 : decode c_D_claim 30 = .ok (.new 55, 3) := by decide +kernel
theorem d_D_claim_33 : decode c_D_claim 33 = .ok (.dup, 1) := by decide +kernel
theorem d_D_claim_34 : decode c_D_claim 34 = .ok (.ldc 124, 2) := by decide +kernel
theorem d_D_claim_36 : decode c_D_claim 36 = .ok (.invokespecial 59, 3) := by decide +kernel
theorem d_D_claim_39 : decode c_D_claim 39 = .ok (.athrow, 1) := by decide +kernel
theorem d_D_claim_40 : decode c_D_claim 40 = .ok (.aload_n 0, 1) := by decide +kernel
theorem d_D_claim_41 : decode c_D_claim 41 = .ok (.getfield 19, 3) := by decide +kernel
theorem d_D_claim_44 : decode c_D_claim 44 = .ok (.getfield 126, 3) := by decide +kernel
theorem d_D_claim_47 : decode c_D_claim 47 = .ok (.bipush 40, 2) := by decide +kernel
theorem d_D_claim_49 : decode c_D_claim 49 = .ok (.if_icmp .ge 20, 3) := by decide +kernel
theorem d_D_claim_52 : decode c_D_claim 52 = .ok (.aload_n 0, 1) := by decide +kernel
theorem d_D_claim_53 : decode c_D_claim 53 = .ok (.getfield 39, 3) := by decide +kernel
theorem d_D_claim_56 : decode c_D_claim 56 = .ok (.aload_n 0, 1) := by decide +kernel
theorem d_D_claim_57 : decode c_D_claim 57 = .ok (.getfield 10, 3) := by decide +kernel
theorem d_D_claim_60 : decode c_D_claim 60 = .ok (.getfield 75, 3) := by decide +kernel
theorem d_D_claim_63 : decode c_D_claim 63 = .ok (.iload_n 1, 1) := by decide +kernel
theorem d_D_claim_64 : decode c_D_claim 64 = .ok (.iaload, 1) := by decide +kernel
theorem d_D_claim_65 : decode c_D_claim 65 = .ok (.baload, 1) := by decide +kernel
theorem d_D_claim_66 : decode c_D_claim 66 = .ok (.ifCond .eq 13, 3) := by decide +kernel
theorem d_D_claim_69 : decode c_D_claim 69 = .ok (.new 66, 3) := by decide +kernel
theorem d_D_claim_72 : decode c_D_claim 72 = .ok (.dup, 1) := by decide +kernel
theorem d_D_claim_73 : decode c_D_claim 73 = .ok (.ldc 127, 2) := by decide +kernel
theorem d_D_claim_75 : decode c_D_claim 75 = .ok (.invokespecial 70, 3) := by decide +kernel
theorem d_D_claim_78 : decode c_D_claim 78 = .ok (.athrow, 1) := by decide +kernel
theorem d_D_claim_79 : decode c_D_claim 79 = .ok (.aload_n 0, 1) := by decide +kernel
theorem d_D_claim_80 : decode c_D_claim 80 = .ok (.getfield 19, 3) := by decide +kernel
theorem d_D_claim_83 : decode c_D_claim 83 = .ok (.iload_n 1, 1) := by decide +kernel
theorem d_D_claim_84 : decode c_D_claim 84 = .ok (.iload_n 2, 1) := by decide +kernel
theorem d_D_claim_85 : decode c_D_claim 85 = .ok (.iload_n 3, 1) := by decide +kernel
theorem d_D_claim_86 : decode c_D_claim 86 = .ok (.invokevirtual 129, 3) := by decide +kernel
theorem d_D_claim_89 : decode c_D_claim 89 = .ok (.ireturn, 1) := by decide +kernel
theorem d_D_dissolve_0 : decode c_D_dissolve 0 = .ok (.iload_n 1, 1) := by decide +kernel
theorem d_D_dissolve_1 : decode c_D_dissolve 1 = .ok (.bipush 9, 2) := by decide +kernel
theorem d_D_dissolve_3 : decode c_D_dissolve 3 = .ok (.invokestatic 52, 3) := by decide +kernel
theorem d_D_dissolve_6 : decode c_D_dissolve 6 = .ok (.ifCond .eq 11, 3) := by decide +kernel
theorem d_D_dissolve_9 : decode c_D_dissolve 9 = .ok (.iload_n 2, 1) := by decide +kernel
theorem d_D_dissolve_10 : decode c_D_dissolve 10 = .ok (.iconst 4, 1) := by decide +kernel
theorem d_D_dissolve_11 : decode c_D_dissolve 11 = .ok (.invokestatic 47, 3) := by decide +kernel
theorem d_D_dissolve_14 : decode c_D_dissolve 14 = .ok (.ifCond .ne 13, 3) := by decide +kernel
theorem d_D_dissolve_17 : decode c_D_dissolve 17 = .ok (.new 55, 3) := by decide +kernel
theorem d_D_dissolve_20 : decode c_D_dissolve 20 = .ok (.dup, 1) := by decide +kernel
theorem d_D_dissolve_21 : decode c_D_dissolve 21 = .ok (.ldc 149, 2) := by decide +kernel
theorem d_D_dissolve_23 : decode c_D_dissolve 23 = .ok (.invokespecial 59, 3) := by decide +kernel
theorem d_D_dissolve_26 : decode c_D_dissolve 26 = .ok (.athrow, 1) := by decide +kernel
theorem d_D_dissolve_27 : decode c_D_dissolve 27 = .ok (.aload_n 0, 1) := by decide +kernel
theorem d_D_dissolve_28 : decode c_D_dissolve 28 = .ok (.getfield 39, 3) := by decide +kernel
theorem d_D_dissolve_31 : decode c_D_dissolve 31 = .ok (.iload_n 2, 1) := by decide +kernel
theorem d_D_dissolve_32 : decode c_D_dissolve 32 = .ok (.baload, 1) := by decide +kernel
theorem d_D_dissolve_33 : decode c_D_dissolve 33 = .ok (.ifCond .eq 13, 3) := by decide +kernel
theorem d_D_dissolve_36 : decode c_D_dissolve 36 = .ok (.new 66, 3) := by decide +kernel
theorem d_D_dissolve_39 : decode c_D_dissolve 39 = .ok (.dup, 1) := by decide +kernel
theorem d_D_dissolve_40 : decode c_D_dissolve 40 = .ok (.ldc 83, 2) := by decide +kernel
theorem d_D_dissolve_42 : decode c_D_dissolve 42 = .ok (.invokespecial 70, 3) := by decide +kernel
theorem d_D_dissolve_45 : decode c_D_dissolve 45 = .ok (.athrow, 1) := by decide +kernel
theorem d_D_dissolve_46 : decode c_D_dissolve 46 = .ok (.iconst 0, 1) := by decide +kernel
theorem d_D_dissolve_47 : decode c_D_dissolve 47 = .ok (.istore_n 3, 1) := by decide +kernel
theorem d_D_dissolve_48 : decode c_D_dissolve 48 = .ok (.iconst 0, 1) := by decide +kernel
theorem d_D_dissolve_49 : decode c_D_dissolve 49 = .ok (.istore 4, 2) := by decide +kernel
theorem d_D_dissolve_51 : decode c_D_dissolve 51 = .ok (.iload 4, 2) := by decide +kernel
theorem d_D_dissolve_53 : decode c_D_dissolve 53 = .ok (.aload_n 0, 1) := by decide +kernel
theorem d_D_dissolve_54 : decode c_D_dissolve 54 = .ok (.getfield 19, 3) := by decide +kernel
theorem d_D_dissolve_57 : decode c_D_dissolve 57 = .ok (.getfield 126, 3) := by decide +kernel
theorem d_D_dissolve_60 : decode c_D_dissolve 60 = .ok (.if_icmp .ge 60, 3) := by decide +kernel
theorem d_D_dissolve_63 : decode c_D_dissolve 63 = .ok (.aload_n 0, 1) := by decide +kernel
theorem d_D_dissolve_64 : decode c_D_dissolve 64 = .ok (.getfield 19, 3) := by decide +kernel
theorem d_D_dissolve_67 : decode c_D_dissolve 67 = .ok (.getfield 151, 3) := by decide +kernel
theorem d_D_dissolve_70 : decode c_D_dissolve 70 = .ok (.iload 4, 2) := by decide +kernel
theorem d_D_dissolve_72 : decode c_D_dissolve 72 = .ok (.iaload, 1) := by decide +kernel
theorem d_D_dissolve_73 : decode c_D_dissolve 73 = .ok (.iload_n 1, 1) := by decide +kernel
theorem d_D_dissolve_74 : decode c_D_dissolve 74 = .ok (.if_icmp .ne 40, 3) := by decide +kernel
theorem d_D_dissolve_77 : decode c_D_dissolve 77 = .ok (.aload_n 0, 1) := by decide +kernel
theorem d_D_dissolve_78 : decode c_D_dissolve 78 = .ok (.getfield 19, 3) := by decide +kernel
theorem d_D_dissolve_81 : decode c_D_dissolve 81 = .ok (.getfield 135, 3) := by decide +kernel
theorem d_D_dissolve_84 : decode c_D_dissolve 84 = .ok (.iload 4, 2) := by decide +kernel
theorem d_D_dissolve_86 : decode c_D_dissolve 86 = .ok (.baload, 1) := by decide +kernel
theorem d_D_dissolve_87 : decode c_D_dissolve 87 = .ok (.ifCond .ne 27, 3) := by decide +kernel
theorem d_D_dissolve_90 : decode c_D_dissolve 90 = .ok (.aload_n 0, 1) := by decide +kernel
theorem d_D_dissolve_91 : decode c_D_dissolve 91 = .ok (.iload 4, 2) := by decide +kernel
theorem d_D_dissolve_93 : decode c_D_dissolve 93 = .ok (.invokevirtual 138, 3) := by decide +kernel
theorem d_D_dissolve_96 : decode c_D_dissolve 96 = .ok (.iload_n 2, 1) := by decide +kernel
theorem d_D_dissolve_97 : decode c_D_dissolve 97 = .ok (.if_icmp .ne 17, 3) := by decide +kernel
theorem d_D_dissolve_100 : decode c_D_dissolve 100 = .ok (.aload_n 0, 1) := by decide +kernel
theorem d_D_dissolve_101 : decode c_D_dissolve 101 = .ok (.getfield 19, 3) := by decide +kernel
theorem d_D_dissolve_104 : decode c_D_dissolve 104 = .ok (.getfield 151, 3) := by decide +kernel
theorem d_D_dissolve_107 : decode c_D_dissolve 107 = .ok (.iload 4, 2) := by decide +kernel
theorem d_D_dissolve_109 : decode c_D_dissolve 109 = .ok (.iconst 0, 1) := by decide +kernel
theorem d_D_dissolve_110 : decode c_D_dissolve 110 = .ok (.iastore, 1) := by decide +kernel
theorem d_D_dissolve_111 : decode c_D_dissolve 111 = .ok (.iinc 3 1, 3) := by decide +kernel
theorem d_D_dissolve_114 : decode c_D_dissolve 114 = .ok (.iinc 4 1, 3) := by decide +kernel
theorem d_D_dissolve_117 : decode c_D_dissolve 117 = .ok (.goto (-66), 3) := by decide +kernel
theorem d_D_dissolve_120 : decode c_D_dissolve 120 = .ok (.iload_n 3, 1) := by decide +kernel
theorem d_D_dissolve_121 : decode c_D_dissolve 121 = .ok (.ireturn, 1) := by decide +kernel
theorem d_D_due_0 : decode c_D_due 0 = .ok (.aload_n 0, 1) := by decide +kernel
theorem d_D_due_1 : decode c_D_due 1 = .ok (.getfield 26, 3) := by decide +kernel
theorem d_D_due_4 : decode c_D_due 4 = .ok (.iload_n 1, 1) := by decide +kernel
theorem d_D_due_5 : decode c_D_due 5 = .ok (.invokevirtual 107, 3) := by decide +kernel
theorem d_D_due_8 : decode c_D_due 8 = .ok (.ifCond .eq 21, 3) := by decide +kernel
theorem d_D_due_11 : decode c_D_due 11 = .ok (.iload_n 2, 1) := by decide +kernel
theorem d_D_due_12 : decode c_D_due 12 = .ok (.bipush 6, 2) := by decide +kernel
theorem d_D_due_14 : decode c_D_due 14 = .ok (.invokestatic 47, 3) := by decide +kernel
theorem d_D_due_17 : decode c_D_due 17 = .ok (.ifCond .eq 12, 3) := by decide +kernel
theorem d_D_due_20 : decode c_D_due 20 = .ok (.iload_n 3, 1) := by decide +kernel
theorem d_D_due_21 : decode c_D_due 21 = .ok (.ifCond .lt 8, 3) := by decide +kernel
theorem d_D_due_24 : decode c_D_due 24 = .ok (.iload_n 3, 1) := by decide +kernel
theorem d_D_due_25 : decode c_D_due 25 = .ok (.iconst 1, 1) := by decide +kernel
theorem d_D_due_26 : decode c_D_due 26 = .ok (.if_icmp .le 13, 3) := by decide +kernel
theorem d_D_due_29 : decode c_D_due 29 = .ok (.new 55, 3) := by decide +kernel
theorem d_D_due_32 : decode c_D_due 32 = .ok (.dup, 1) := by decide +kernel
theorem d_D_due_33 : decode c_D_due 33 = .ok (.ldc 197, 2) := by decide +kernel
theorem d_D_due_35 : decode c_D_due 35 = .ok (.invokespecial 59, 3) := by decide +kernel
theorem d_D_due_38 : decode c_D_due 38 = .ok (.athrow, 1) := by decide +kernel
theorem d_D_due_39 : decode c_D_due 39 = .ok (.aload_n 0, 1) := by decide +kernel
theorem d_D_due_40 : decode c_D_due 40 = .ok (.getfield 35, 3) := by decide +kernel
theorem d_D_due_43 : decode c_D_due 43 = .ok (.aload_n 0, 1) := by decide +kernel
theorem d_D_due_44 : decode c_D_due 44 = .ok (.getfield 26, 3) := by decide +kernel
theorem d_D_due_47 : decode c_D_due 47 = .ok (.getfield 113, 3) := by decide +kernel
theorem d_D_due_50 : decode c_D_due 50 = .ok (.iload_n 1, 1) := by decide +kernel
theorem d_D_due_51 : decode c_D_due 51 = .ok (.iaload, 1) := by decide +kernel
theorem d_D_due_52 : decode c_D_due 52 = .ok (.invokevirtual 154, 3) := by decide +kernel
theorem d_D_due_55 : decode c_D_due 55 = .ok (.iload_n 3, 1) := by decide +kernel
theorem d_D_due_56 : decode c_D_due 56 = .ok (.ifCond .ne 22, 3) := by decide +kernel
theorem d_D_due_59 : decode c_D_due 59 = .ok (.aload_n 0, 1) := by decide +kernel
theorem d_D_due_60 : decode c_D_due 60 = .ok (.getfield 26, 3) := by decide +kernel
theorem d_D_due_63 : decode c_D_due 63 = .ok (.aload_n 0, 1) := by decide +kernel
theorem d_D_due_64 : decode c_D_due 64 = .ok (.getfield 35, 3) := by decide +kernel
theorem d_D_due_67 : decode c_D_due 67 = .ok (.getfield 175, 3) := by decide +kernel
theorem d_D_due_70 : decode c_D_due 70 = .ok (.iload_n 1, 1) := by decide +kernel
theorem d_D_due_71 : decode c_D_due 71 = .ok (.laload, 1) := by decide +kernel
theorem d_D_due_72 : decode c_D_due 72 = .ok (.iload_n 1, 1) := by decide +kernel
theorem d_D_due_73 : decode c_D_due 73 = .ok (.iload_n 2, 1) := by decide +kernel
theorem d_D_due_74 : decode c_D_due 74 = .ok (.invokevirtual 199, 3) := by decide +kernel
theorem d_D_due_77 : decode c_D_due 77 = .ok (.lreturn, 1) := by decide +kernel
theorem d_D_due_78 : decode c_D_due 78 = .ok (.aload_n 0, 1) := by decide +kernel
theorem d_D_due_79 : decode c_D_due 79 = .ok (.getfield 26, 3) := by decide +kernel
theorem d_D_due_82 : decode c_D_due 82 = .ok (.aload_n 0, 1) := by decide +kernel
theorem d_D_due_83 : decode c_D_due 83 = .ok (.getfield 35, 3) := by decide +kernel
theorem d_D_due_86 : decode c_D_due 86 = .ok (.iload_n 1, 1) := by decide +kernel
theorem d_D_due_87 : decode c_D_due 87 = .ok (.invokevirtual 203, 3) := by decide +kernel
theorem d_D_due_90 : decode c_D_due 90 = .ok (.iload_n 1, 1) := by decide +kernel
theorem d_D_due_91 : decode c_D_due 91 = .ok (.iload_n 2, 1) := by decide +kernel
theorem d_D_due_92 : decode c_D_due 92 = .ok (.invokevirtual 199, 3) := by decide +kernel
theorem d_D_due_95 : decode c_D_due 95 = .ok (.lreturn, 1) := by decide +kernel
theorem d_D_estimate_0 : decode c_D_estimate 0 = .ok (.aload_n 0, 1) := by decide +kernel
theorem d_D_estimate_1 : decode c_D_estimate 1 = .ok (.getfield 19, 3) := by decide +kernel
theorem d_D_estimate_4 : decode c_D_estimate 4 = .ok (.iload_n 1, 1) := by decide +kernel
theorem d_D_estimate_5 : decode c_D_estimate 5 = .ok (.invokevirtual 132, 3) := by decide +kernel
theorem d_D_estimate_8 : decode c_D_estimate 8 = .ok (.ifCond .eq 10, 3) := by decide +kernel
theorem d_D_estimate_11 : decode c_D_estimate 11 = .ok (.iload_n 2, 1) := by decide +kernel
theorem d_D_estimate_12 : decode c_D_estimate 12 = .ok (.invokestatic 78, 3) := by decide +kernel
theorem d_D_estimate_15 : decode c_D_estimate 15 = .ok (.ifCond .ne 13, 3) := by decide +kernel
theorem d_D_estimate_18 : decode c_D_estimate 18 = .ok (.new 55, 3) := by decide +kernel
theorem d_D_estimate_21 : decode c_D_estimate 21 = .ok (.dup, 1) := by decide +kernel
theorem d_D_estimate_22 : decode c_D_estimate 22 = .ok (.ldc 133, 2) := by decide +kernel
theorem d_D_estimate_24 : decode c_D_estimate 24 = .ok (.invokespecial 59, 3) := by decide +kernel
theorem d_D_estimate_27 : decode c_D_estimate 27 = .ok (.athrow, 1) := by decide +kernel
theorem d_D_estimate_28 : decode c_D_estimate 28 = .ok (.aload_n 0, 1) := by decide +kernel
theorem d_D_estimate_29 : decode c_D_estimate 29 = .ok (.getfield 19, 3) := by decide +kernel
theorem d_D_estimate_32 : decode c_D_estimate 32 = .ok (.getfield 135, 3) := by decide +kernel
theorem d_D_estimate_35 : decode c_D_estimate 35 = .ok (.iload_n 1, 1) := by decide +kernel
theorem d_D_estimate_36 : decode c_D_estimate 36 = .ok (.baload, 1) := by decide +kernel
theorem d_D_estimate_37 : decode c_D_estimate 37 = .ok (.ifCond .ne 16, 3) := by decide +kernel
theorem d_D_estimate_40 : decode c_D_estimate 40 = .ok (.aload_n 0, 1) := by decide +kernel
theorem d_D_estimate_41 : decode c_D_estimate 41 = .ok (.getfield 39, 3) := by decide +kernel
theorem d_D_estimate_44 : decode c_D_estimate 44 = .ok (.aload_n 0, 1) := by decide +kernel
theorem d_D_estimate_45 : decode c_D_estimate 45 = .ok (.iload_n 1, 1) := by decide +kernel
theorem d_D_estimate_46 : decode c_D_estimate 46 = .ok (.invokevirtual 138, 3) := by decide +kernel
theorem d_D_estimate_49 : decode c_D_estimate 49 = .ok (.baload, 1) := by decide +kernel
theorem d_D_estimate_50 : decode c_D_estimate 50 = .ok (.ifCond .eq 13, 3) := by decide +kernel
theorem d_D_estimate_53 : decode c_D_estimate 53 = .ok (.new 66, 3) := by decide +kernel
theorem d_D_estimate_56 : decode c_D_estimate 56 = .ok (.dup, 1) := by decide +kernel
theorem d_D_estimate_57 : decode c_D_estimate 57 = .ok (.ldc 142, 2) := by decide +kernel
theorem d_D_estimate_59 : decode c_D_estimate 59 = .ok (.invokespecial 70, 3) := by decide +kernel
theorem d_D_estimate_62 : decode c_D_estimate 62 = .ok (.athrow, 1) := by decide +kernel
theorem d_D_estimate_63 : decode c_D_estimate 63 = .ok (.aload_n 0, 1) := by decide +kernel
theorem d_D_estimate_64 : decode c_D_estimate 64 = .ok (.getfield 19, 3) := by decide +kernel
theorem d_D_estimate_67 : decode c_D_estimate 67 = .ok (.getfield 144, 3) := by decide +kernel
theorem d_D_estimate_70 : decode c_D_estimate 70 = .ok (.iload_n 1, 1) := by decide +kernel
theorem d_D_estimate_71 : decode c_D_estimate 71 = .ok (.iload_n 2, 1) := by decide +kernel
theorem d_D_estimate_72 : decode c_D_estimate 72 = .ok (.iastore, 1) := by decide +kernel
theorem d_D_estimate_73 : decode c_D_estimate 73 = .ok (.return_, 1) := by decide +kernel
theorem d_D_kept_0 : decode c_D_kept 0 = .ok (.aload_n 0, 1) := by decide +kernel
theorem d_D_kept_1 : decode c_D_kept 1 = .ok (.getfield 19, 3) := by decide +kernel
theorem d_D_kept_4 : decode c_D_kept 4 = .ok (.iload_n 1, 1) := by decide +kernel
theorem d_D_kept_5 : decode c_D_kept 5 = .ok (.invokevirtual 132, 3) := by decide +kernel
theorem d_D_kept_8 : decode c_D_kept 8 = .ok (.ifCond .ne 13, 3) := by decide +kernel
theorem d_D_kept_11 : decode c_D_kept 11 = .ok (.new 55, 3) := by decide +kernel
theorem d_D_kept_14 : decode c_D_kept 14 = .ok (.dup, 1) := by decide +kernel
theorem d_D_kept_15 : decode c_D_kept 15 = .ok (.ldc 147, 2) := by decide +kernel
theorem d_D_kept_17 : decode c_D_kept 17 = .ok (.invokespecial 59, 3) := by decide +kernel
theorem d_D_kept_20 : decode c_D_kept 20 = .ok (.athrow, 1) := by decide +kernel
theorem d_D_kept_21 : decode c_D_kept 21 = .ok (.aload_n 0, 1) := by decide +kernel
theorem d_D_kept_22 : decode c_D_kept 22 = .ok (.getfield 35, 3) := by decide +kernel
theorem d_D_kept_25 : decode c_D_kept 25 = .ok (.aload_n 0, 1) := by decide +kernel
theorem d_D_kept_26 : decode c_D_kept 26 = .ok (.iload_n 1, 1) := by decide +kernel
theorem d_D_kept_27 : decode c_D_kept 27 = .ok (.invokevirtual 138, 3) := by decide +kernel
theorem d_D_kept_30 : decode c_D_kept 30 = .ok (.invokevirtual 154, 3) := by decide +kernel
theorem d_D_kept_33 : decode c_D_kept 33 = .ok (.aload_n 0, 1) := by decide +kernel
theorem d_D_kept_34 : decode c_D_kept 34 = .ok (.getfield 35, 3) := by decide +kernel
theorem d_D_kept_37 : decode c_D_kept 37 = .ok (.getfield 158, 3) := by decide +kernel
theorem d_D_kept_40 : decode c_D_kept 40 = .ok (.iload_n 1, 1) := by decide +kernel
theorem d_D_kept_41 : decode c_D_kept 41 = .ok (.iaload, 1) := by decide +kernel
theorem d_D_kept_42 : decode c_D_kept 42 = .ok (.ireturn, 1) := by decide +kernel
theorem d_D_left_0 : decode c_D_left 0 = .ok (.aload_n 0, 1) := by decide +kernel
theorem d_D_left_1 : decode c_D_left 1 = .ok (.getfield 26, 3) := by decide +kernel
theorem d_D_left_4 : decode c_D_left 4 = .ok (.iload_n 1, 1) := by decide +kernel
theorem d_D_left_5 : decode c_D_left 5 = .ok (.invokevirtual 107, 3) := by decide +kernel
theorem d_D_left_8 : decode c_D_left 8 = .ok (.ifCond .eq 14, 3) := by decide +kernel
theorem d_D_left_11 : decode c_D_left 11 = .ok (.aload_n 0, 1) := by decide +kernel
theorem d_D_left_12 : decode c_D_left 12 = .ok (.getfield 26, 3) := by decide +kernel
theorem d_D_left_15 : decode c_D_left 15 = .ok (.iload_n 1, 1) := by decide +kernel
theorem d_D_left_16 : decode c_D_left 16 = .ok (.invokevirtual 166, 3) := by decide +kernel
theorem d_D_left_19 : decode c_D_left 19 = .ok (.ifCond .ne 13, 3) := by decide +kernel
theorem d_D_left_22 : decode c_D_left 22 = .ok (.new 55, 3) := by decide +kernel
theorem d_D_left_25 : decode c_D_left 25 = .ok (.dup, 1) := by decide +kernel
theorem d_D_left_26 : decode c_D_left 26 = .ok (.ldc 169, 2) := by decide +kernel
theorem d_D_left_28 : decode c_D_left 28 = .ok (.invokespecial 59, 3) := by decide +kernel
theorem d_D_left_31 : decode c_D_left 31 = .ok (.athrow, 1) := by decide +kernel
theorem d_D_left_32 : decode c_D_left 32 = .ok (.aload_n 0, 1) := by decide +kernel
theorem d_D_left_33 : decode c_D_left 33 = .ok (.getfield 35, 3) := by decide +kernel
theorem d_D_left_36 : decode c_D_left 36 = .ok (.aload_n 0, 1) := by decide +kernel
theorem d_D_left_37 : decode c_D_left 37 = .ok (.getfield 26, 3) := by decide +kernel
theorem d_D_left_40 : decode c_D_left 40 = .ok (.getfield 113, 3) := by decide +kernel
theorem d_D_left_43 : decode c_D_left 43 = .ok (.iload_n 1, 1) := by decide +kernel
theorem d_D_left_44 : decode c_D_left 44 = .ok (.iaload, 1) := by decide +kernel
theorem d_D_left_45 : decode c_D_left 45 = .ok (.invokevirtual 154, 3) := by decide +kernel
theorem d_D_left_48 : decode c_D_left 48 = .ok (.aload_n 0, 1) := by decide +kernel
theorem d_D_left_49 : decode c_D_left 49 = .ok (.getfield 26, 3) := by decide +kernel
theorem d_D_left_52 : decode c_D_left 52 = .ok (.iload_n 1, 1) := by decide +kernel
theorem d_D_left_53 : decode c_D_left 53 = .ok (.invokevirtual 171, 3) := by decide +kernel
theorem d_D_left_56 : decode c_D_left 56 = .ok (.aload_n 0, 1) := by decide +kernel
theorem d_D_left_57 : decode c_D_left 57 = .ok (.getfield 35, 3) := by decide +kernel
theorem d_D_left_60 : decode c_D_left 60 = .ok (.getfield 175, 3) := by decide +kernel
theorem d_D_left_63 : decode c_D_left 63 = .ok (.iload_n 1, 1) := by decide +kernel
theorem d_D_left_64 : decode c_D_left 64 = .ok (.laload, 1) := by decide +kernel
theorem d_D_left_65 : decode c_D_left 65 = .ok (.lsub, 1) := by decide +kernel
theorem d_D_left_66 : decode c_D_left 66 = .ok (.lreturn, 1) := by decide +kernel
theorem d_D_premium_0 : decode c_D_premium 0 = .ok (.aload_n 0, 1) := by decide +kernel
theorem d_D_premium_1 : decode c_D_premium 1 = .ok (.getfield 10, 3) := by decide +kernel
theorem d_D_premium_4 : decode c_D_premium 4 = .ok (.iload_n 1, 1) := by decide +kernel
theorem d_D_premium_5 : decode c_D_premium 5 = .ok (.invokevirtual 62, 3) := by decide +kernel
theorem d_D_premium_8 : decode c_D_premium 8 = .ok (.ifCond .eq 10, 3) := by decide +kernel
theorem d_D_premium_11 : decode c_D_premium 11 = .ok (.iload_n 2, 1) := by decide +kernel
theorem d_D_premium_12 : decode c_D_premium 12 = .ok (.invokestatic 78, 3) := by decide +kernel
theorem d_D_premium_15 : decode c_D_premium 15 = .ok (.ifCond .ne 13, 3) := by decide +kernel
theorem d_D_premium_18 : decode c_D_premium 18 = .ok (.new 55, 3) := by decide +kernel
theorem d_D_premium_21 : decode c_D_premium 21 = .ok (.dup, 1) := by decide +kernel
theorem d_D_premium_22 : decode c_D_premium 22 = .ok (.ldc 81, 2) := by decide +kernel
theorem d_D_premium_24 : decode c_D_premium 24 = .ok (.invokespecial 59, 3) := by decide +kernel
theorem d_D_premium_27 : decode c_D_premium 27 = .ok (.athrow, 1) := by decide +kernel
theorem d_D_premium_28 : decode c_D_premium 28 = .ok (.aload_n 0, 1) := by decide +kernel
theorem d_D_premium_29 : decode c_D_premium 29 = .ok (.getfield 39, 3) := by decide +kernel
theorem d_D_premium_32 : decode c_D_premium 32 = .ok (.aload_n 0, 1) := by decide +kernel
theorem d_D_premium_33 : decode c_D_premium 33 = .ok (.getfield 10, 3) := by decide +kernel
theorem d_D_premium_36 : decode c_D_premium 36 = .ok (.getfield 75, 3) := by decide +kernel
theorem d_D_premium_39 : decode c_D_premium 39 = .ok (.iload_n 1, 1) := by decide +kernel
theorem d_D_premium_40 : decode c_D_premium 40 = .ok (.iaload, 1) := by decide +kernel
theorem d_D_premium_41 : decode c_D_premium 41 = .ok (.baload, 1) := by decide +kernel
theorem d_D_premium_42 : decode c_D_premium 42 = .ok (.ifCond .eq 13, 3) := by decide +kernel
theorem d_D_premium_45 : decode c_D_premium 45 = .ok (.new 66, 3) := by decide +kernel
theorem d_D_premium_48 : decode c_D_premium 48 = .ok (.dup, 1) := by decide +kernel
theorem d_D_premium_49 : decode c_D_premium 49 = .ok (.ldc 83, 2) := by decide +kernel
theorem d_D_premium_51 : decode c_D_premium 51 = .ok (.invokespecial 70, 3) := by decide +kernel
theorem d_D_premium_54 : decode c_D_premium 54 = .ok (.athrow, 1) := by decide +kernel
theorem d_D_premium_55 : decode c_D_premium 55 = .ok (.aload_n 0, 1) := by decide +kernel
theorem d_D_premium_56 : decode c_D_premium 56 = .ok (.getfield 10, 3) := by decide +kernel
theorem d_D_premium_59 : decode c_D_premium 59 = .ok (.getfield 85, 3) := by decide +kernel
theorem d_D_premium_62 : decode c_D_premium 62 = .ok (.iload_n 1, 1) := by decide +kernel
theorem d_D_premium_63 : decode c_D_premium 63 = .ok (.iload_n 2, 1) := by decide +kernel
theorem d_D_premium_64 : decode c_D_premium 64 = .ok (.iastore, 1) := by decide +kernel
theorem d_D_premium_65 : decode c_D_premium 65 = .ok (.return_, 1) := by decide +kernel
theorem d_D_risk_0 : decode c_D_risk 0 = .ok (.iload_n 1, 1) := by decide +kernel
theorem d_D_risk_1 : decode c_D_risk 1 = .ok (.bipush 12, 2) := by decide +kernel
theorem d_D_risk_3 : decode c_D_risk 3 = .ok (.invokestatic 47, 3) := by decide +kernel
theorem d_D_risk_6 : decode c_D_risk 6 = .ok (.ifCond .eq 20, 3) := by decide +kernel
theorem d_D_risk_9 : decode c_D_risk 9 = .ok (.iload_n 2, 1) := by decide +kernel
theorem d_D_risk_10 : decode c_D_risk 10 = .ok (.ldc 51, 2) := by decide +kernel
theorem d_D_risk_12 : decode c_D_risk 12 = .ok (.invokestatic 52, 3) := by decide +kernel
theorem d_D_risk_15 : decode c_D_risk 15 = .ok (.ifCond .eq 11, 3) := by decide +kernel
theorem d_D_risk_18 : decode c_D_risk 18 = .ok (.iload_n 3, 1) := by decide +kernel
theorem d_D_risk_19 : decode c_D_risk 19 = .ok (.iconst 4, 1) := by decide +kernel
theorem d_D_risk_20 : decode c_D_risk 20 = .ok (.invokestatic 47, 3) := by decide +kernel
theorem d_D_risk_23 : decode c_D_risk 23 = .ok (.ifCond .ne 13, 3) := by decide +kernel
theorem d_D_risk_26 : decode c_D_risk 26 = .ok (.new 55, 3) := by decide +kernel
theorem d_D_risk_29 : decode c_D_risk 29 = .ok (.dup, 1) := by decide +kernel
theorem d_D_risk_30 : decode c_D_risk 30 = .ok (.ldc 57, 2) := by decide +kernel
theorem d_D_risk_32 : decode c_D_risk 32 = .ok (.invokespecial 59, 3) := by decide +kernel
theorem d_D_risk_35 : decode c_D_risk 35 = .ok (.athrow, 1) := by decide +kernel
theorem d_D_risk_36 : decode c_D_risk 36 = .ok (.aload_n 0, 1) := by decide +kernel
theorem d_D_risk_37 : decode c_D_risk 37 = .ok (.getfield 10, 3) := by decide +kernel
theorem d_D_risk_40 : decode c_D_risk 40 = .ok (.iload_n 1, 1) := by decide +kernel
theorem d_D_risk_41 : decode c_D_risk 41 = .ok (.invokevirtual 62, 3) := by decide +kernel
theorem d_D_risk_44 : decode c_D_risk 44 = .ok (.ifCond .ne 12, 3) := by decide +kernel
theorem d_D_risk_47 : decode c_D_risk 47 = .ok (.aload_n 0, 1) := by decide +kernel
theorem d_D_risk_48 : decode c_D_risk 48 = .ok (.getfield 39, 3) := by decide +kernel
theorem d_D_risk_51 : decode c_D_risk 51 = .ok (.iload_n 3, 1) := by decide +kernel
theorem d_D_risk_52 : decode c_D_risk 52 = .ok (.baload, 1) := by decide +kernel
theorem d_D_risk_53 : decode c_D_risk 53 = .ok (.ifCond .eq 13, 3) := by decide +kernel
theorem d_D_risk_56 : decode c_D_risk 56 = .ok (.new 66, 3) := by decide +kernel
theorem d_D_risk_59 : decode c_D_risk 59 = .ok (.dup, 1) := by decide +kernel
theorem d_D_risk_60 : decode c_D_risk 60 = .ok (.ldc 68, 2) := by decide +kernel
theorem d_D_risk_62 : decode c_D_risk 62 = .ok (.invokespecial 70, 3) := by decide +kernel
theorem d_D_risk_65 : decode c_D_risk 65 = .ok (.athrow, 1) := by decide +kernel
theorem d_D_risk_66 : decode c_D_risk 66 = .ok (.aload_n 0, 1) := by decide +kernel
theorem d_D_risk_67 : decode c_D_risk 67 = .ok (.getfield 10, 3) := by decide +kernel
theorem d_D_risk_70 : decode c_D_risk 70 = .ok (.getfield 71, 3) := by decide +kernel
theorem d_D_risk_73 : decode c_D_risk 73 = .ok (.iload_n 1, 1) := by decide +kernel
theorem d_D_risk_74 : decode c_D_risk 74 = .ok (.iload_n 2, 1) := by decide +kernel
theorem d_D_risk_75 : decode c_D_risk 75 = .ok (.iastore, 1) := by decide +kernel
theorem d_D_risk_76 : decode c_D_risk 76 = .ok (.aload_n 0, 1) := by decide +kernel
theorem d_D_risk_77 : decode c_D_risk 77 = .ok (.getfield 10, 3) := by decide +kernel
theorem d_D_risk_80 : decode c_D_risk 80 = .ok (.getfield 75, 3) := by decide +kernel
theorem d_D_risk_83 : decode c_D_risk 83 = .ok (.iload_n 1, 1) := by decide +kernel
theorem d_D_risk_84 : decode c_D_risk 84 = .ok (.iload_n 3, 1) := by decide +kernel
theorem d_D_risk_85 : decode c_D_risk 85 = .ok (.iastore, 1) := by decide +kernel
theorem d_D_risk_86 : decode c_D_risk 86 = .ok (.return_, 1) := by decide +kernel
theorem d_D_share_0 : decode c_D_share 0 = .ok (.aload_n 0, 1) := by decide +kernel
theorem d_D_share_1 : decode c_D_share 1 = .ok (.getfield 26, 3) := by decide +kernel
theorem d_D_share_4 : decode c_D_share 4 = .ok (.iload_n 1, 1) := by decide +kernel
theorem d_D_share_5 : decode c_D_share 5 = .ok (.invokevirtual 107, 3) := by decide +kernel
theorem d_D_share_8 : decode c_D_share 8 = .ok (.ifCond .eq 22, 3) := by decide +kernel
theorem d_D_share_11 : decode c_D_share 11 = .ok (.iload_n 2, 1) := by decide +kernel
theorem d_D_share_12 : decode c_D_share 12 = .ok (.bipush 6, 2) := by decide +kernel
theorem d_D_share_14 : decode c_D_share 14 = .ok (.invokestatic 47, 3) := by decide +kernel
theorem d_D_share_17 : decode c_D_share 17 = .ok (.ifCond .eq 13, 3) := by decide +kernel
theorem d_D_share_20 : decode c_D_share 20 = .ok (.iload_n 3, 1) := by decide +kernel
theorem d_D_share_21 : decode c_D_share 21 = .ok (.ifCond .lt 9, 3) := by decide +kernel
theorem d_D_share_24 : decode c_D_share 24 = .ok (.iload_n 3, 1) := by decide +kernel
theorem d_D_share_25 : decode c_D_share 25 = .ok (.ldc 110, 2) := by decide +kernel
theorem d_D_share_27 : decode c_D_share 27 = .ok (.if_icmp .le 13, 3) := by decide +kernel
theorem d_D_share_30 : decode c_D_share 30 = .ok (.new 55, 3) := by decide +kernel
theorem d_D_share_33 : decode c_D_share 33 = .ok (.dup, 1) := by decide +kernel
theorem d_D_share_34 : decode c_D_share 34 = .ok (.ldc 111, 2) := by decide +kernel
theorem d_D_share_36 : decode c_D_share 36 = .ok (.invokespecial 59, 3) := by decide +kernel
theorem d_D_share_39 : decode c_D_share 39 = .ok (.athrow, 1) := by decide +kernel
theorem d_D_share_40 : decode c_D_share 40 = .ok (.aload_n 0, 1) := by decide +kernel
theorem d_D_share_41 : decode c_D_share 41 = .ok (.getfield 39, 3) := by decide +kernel
theorem d_D_share_44 : decode c_D_share 44 = .ok (.aload_n 0, 1) := by decide +kernel
theorem d_D_share_45 : decode c_D_share 45 = .ok (.getfield 26, 3) := by decide +kernel
theorem d_D_share_48 : decode c_D_share 48 = .ok (.getfield 113, 3) := by decide +kernel
theorem d_D_share_51 : decode c_D_share 51 = .ok (.iload_n 1, 1) := by decide +kernel
theorem d_D_share_52 : decode c_D_share 52 = .ok (.iaload, 1) := by decide +kernel
theorem d_D_share_53 : decode c_D_share 53 = .ok (.baload, 1) := by decide +kernel
theorem d_D_share_54 : decode c_D_share 54 = .ok (.ifCond .ne 19, 3) := by decide +kernel
theorem d_D_share_57 : decode c_D_share 57 = .ok (.aload_n 0, 1) := by decide +kernel
theorem d_D_share_58 : decode c_D_share 58 = .ok (.getfield 26, 3) := by decide +kernel
theorem d_D_share_61 : decode c_D_share 61 = .ok (.iload_n 1, 1) := by decide +kernel
theorem d_D_share_62 : decode c_D_share 62 = .ok (.iload_n 2, 1) := by decide +kernel
theorem d_D_share_63 : decode c_D_share 63 = .ok (.invokevirtual 114, 3) := by decide +kernel
theorem d_D_share_66 : decode c_D_share 66 = .ok (.iload_n 3, 1) := by decide +kernel
theorem d_D_share_67 : decode c_D_share 67 = .ok (.iadd, 1) := by decide +kernel
theorem d_D_share_68 : decode c_D_share 68 = .ok (.ldc 110, 2) := by decide +kernel
theorem d_D_share_70 : decode c_D_share 70 = .ok (.if_icmp .le 13, 3) := by decide +kernel
theorem d_D_share_73 : decode c_D_share 73 = .ok (.new 66, 3) := by decide +kernel
theorem d_D_share_76 : decode c_D_share 76 = .ok (.dup, 1) := by decide +kernel
theorem d_D_share_77 : decode c_D_share 77 = .ok (.ldc 118, 2) := by decide +kernel
theorem d_D_share_79 : decode c_D_share 79 = .ok (.invokespecial 70, 3) := by decide +kernel
theorem d_D_share_82 : decode c_D_share 82 = .ok (.athrow, 1) := by decide +kernel
theorem d_D_share_83 : decode c_D_share 83 = .ok (.aload_n 0, 1) := by decide +kernel
theorem d_D_share_84 : decode c_D_share 84 = .ok (.getfield 26, 3) := by decide +kernel
theorem d_D_share_87 : decode c_D_share 87 = .ok (.getfield 120, 3) := by decide +kernel
theorem d_D_share_90 : decode c_D_share 90 = .ok (.iload_n 1, 1) := by decide +kernel
theorem d_D_share_91 : decode c_D_share 91 = .ok (.bipush 6, 2) := by decide +kernel
theorem d_D_share_93 : decode c_D_share 93 = .ok (.imul, 1) := by decide +kernel
theorem d_D_share_94 : decode c_D_share 94 = .ok (.iload_n 2, 1) := by decide +kernel
theorem d_D_share_95 : decode c_D_share 95 = .ok (.iadd, 1) := by decide +kernel
theorem d_D_share_96 : decode c_D_share 96 = .ok (.iload_n 3, 1) := by decide +kernel
theorem d_D_share_97 : decode c_D_share 97 = .ok (.iastore, 1) := by decide +kernel
theorem d_D_share_98 : decode c_D_share 98 = .ok (.return_, 1) := by decide +kernel
theorem d_D_strike_0 : decode c_D_strike 0 = .ok (.aload_n 0, 1) := by decide +kernel
theorem d_D_strike_1 : decode c_D_strike 1 = .ok (.getfield 19, 3) := by decide +kernel
theorem d_D_strike_4 : decode c_D_strike 4 = .ok (.iload_n 1, 1) := by decide +kernel
theorem d_D_strike_5 : decode c_D_strike 5 = .ok (.invokevirtual 132, 3) := by decide +kernel
theorem d_D_strike_8 : decode c_D_strike 8 = .ok (.ifCond .ne 13, 3) := by decide +kernel
theorem d_D_strike_11 : decode c_D_strike 11 = .ok (.new 55, 3) := by decide +kernel
theorem d_D_strike_14 : decode c_D_strike 14 = .ok (.dup, 1) := by decide +kernel
theorem d_D_strike_15 : decode c_D_strike 15 = .ok (.ldc 147, 2) := by decide +kernel
theorem d_D_strike_17 : decode c_D_strike 17 = .ok (.invokespecial 59, 3) := by decide +kernel
theorem d_D_strike_20 : decode c_D_strike 20 = .ok (.athrow, 1) := by decide +kernel
theorem d_D_strike_21 : decode c_D_strike 21 = .ok (.aload_n 0, 1) := by decide +kernel
theorem d_D_strike_22 : decode c_D_strike 22 = .ok (.getfield 19, 3) := by decide +kernel
theorem d_D_strike_25 : decode c_D_strike 25 = .ok (.getfield 135, 3) := by decide +kernel
theorem d_D_strike_28 : decode c_D_strike 28 = .ok (.iload_n 1, 1) := by decide +kernel
theorem d_D_strike_29 : decode c_D_strike 29 = .ok (.baload, 1) := by decide +kernel
theorem d_D_strike_30 : decode c_D_strike 30 = .ok (.ifCond .ne 16, 3) := by decide +kernel
theorem d_D_strike_33 : decode c_D_strike 33 = .ok (.aload_n 0, 1) := by decide +kernel
theorem d_D_strike_34 : decode c_D_strike 34 = .ok (.getfield 39, 3) := by decide +kernel
theorem d_D_strike_37 : decode c_D_strike 37 = .ok (.aload_n 0, 1) := by decide +kernel
theorem d_D_strike_38 : decode c_D_strike 38 = .ok (.iload_n 1, 1) := by decide +kernel
theorem d_D_strike_39 : decode c_D_strike 39 = .ok (.invokevirtual 138, 3) := by decide +kernel
theorem d_D_strike_42 : decode c_D_strike 42 = .ok (.baload, 1) := by decide +kernel
theorem d_D_strike_43 : decode c_D_strike 43 = .ok (.ifCond .eq 13, 3) := by decide +kernel
theorem d_D_strike_46 : decode c_D_strike 46 = .ok (.new 66, 3) := by decide +kernel
theorem d_D_strike_49 : decode c_D_strike 49 = .ok (.dup, 1) := by decide +kernel
theorem d_D_strike_50 : decode c_D_strike 50 = .ok (.ldc 142, 2) := by decide +kernel
theorem d_D_strike_52 : decode c_D_strike 52 = .ok (.invokespecial 70, 3) := by decide +kernel
theorem d_D_strike_55 : decode c_D_strike 55 = .ok (.athrow, 1) := by decide +kernel
theorem d_D_strike_56 : decode c_D_strike 56 = .ok (.aload_n 0, 1) := by decide +kernel
theorem d_D_strike_57 : decode c_D_strike 57 = .ok (.getfield 19, 3) := by decide +kernel
theorem d_D_strike_60 : decode c_D_strike 60 = .ok (.getfield 135, 3) := by decide +kernel
theorem d_D_strike_63 : decode c_D_strike 63 = .ok (.iload_n 1, 1) := by decide +kernel
theorem d_D_strike_64 : decode c_D_strike 64 = .ok (.iconst 1, 1) := by decide +kernel
theorem d_D_strike_65 : decode c_D_strike 65 = .ok (.bastore, 1) := by decide +kernel
theorem d_D_strike_66 : decode c_D_strike 66 = .ok (.return_, 1) := by decide +kernel
theorem d_D_total_0 : decode c_D_total 0 = .ok (.aload_n 0, 1) := by decide +kernel
theorem d_D_total_1 : decode c_D_total 1 = .ok (.getfield 26, 3) := by decide +kernel
theorem d_D_total_4 : decode c_D_total 4 = .ok (.iload_n 1, 1) := by decide +kernel
theorem d_D_total_5 : decode c_D_total 5 = .ok (.invokevirtual 107, 3) := by decide +kernel
theorem d_D_total_8 : decode c_D_total 8 = .ok (.ifCond .eq 12, 3) := by decide +kernel
theorem d_D_total_11 : decode c_D_total 11 = .ok (.iload_n 2, 1) := by decide +kernel
theorem d_D_total_12 : decode c_D_total 12 = .ok (.ifCond .lt 8, 3) := by decide +kernel
theorem d_D_total_15 : decode c_D_total 15 = .ok (.iload_n 2, 1) := by decide +kernel
theorem d_D_total_16 : decode c_D_total 16 = .ok (.iconst 3, 1) := by decide +kernel
theorem d_D_total_17 : decode c_D_total 17 = .ok (.if_icmp .le 13, 3) := by decide +kernel
theorem d_D_total_20 : decode c_D_total 20 = .ok (.new 55, 3) := by decide +kernel
theorem d_D_total_23 : decode c_D_total 23 = .ok (.dup, 1) := by decide +kernel
theorem d_D_total_24 : decode c_D_total 24 = .ok (.ldc 186, 2) := by decide +kernel
theorem d_D_total_26 : decode c_D_total 26 = .ok (.invokespecial 59, 3) := by decide +kernel
theorem d_D_total_29 : decode c_D_total 29 = .ok (.athrow, 1) := by decide +kernel
theorem d_D_total_30 : decode c_D_total 30 = .ok (.aload_n 0, 1) := by decide +kernel
theorem d_D_total_31 : decode c_D_total 31 = .ok (.getfield 35, 3) := by decide +kernel
theorem d_D_total_34 : decode c_D_total 34 = .ok (.aload_n 0, 1) := by decide +kernel
theorem d_D_total_35 : decode c_D_total 35 = .ok (.getfield 26, 3) := by decide +kernel
theorem d_D_total_38 : decode c_D_total 38 = .ok (.getfield 113, 3) := by decide +kernel
theorem d_D_total_41 : decode c_D_total 41 = .ok (.iload_n 1, 1) := by decide +kernel
theorem d_D_total_42 : decode c_D_total 42 = .ok (.iaload, 1) := by decide +kernel
theorem d_D_total_43 : decode c_D_total 43 = .ok (.invokevirtual 154, 3) := by decide +kernel
theorem d_D_total_46 : decode c_D_total 46 = .ok (.iload_n 2, 1) := by decide +kernel
theorem d_D_total_47 : decode c_D_total 47 = .ok (.tableswitch 54 0 2 #[25, 35, 45], 25) := by decide +kernel
theorem d_D_total_72 : decode c_D_total 72 = .ok (.aload_n 0, 1) := by decide +kernel
theorem d_D_total_73 : decode c_D_total 73 = .ok (.getfield 35, 3) := by decide +kernel
theorem d_D_total_76 : decode c_D_total 76 = .ok (.getfield 175, 3) := by decide +kernel
theorem d_D_total_79 : decode c_D_total 79 = .ok (.iload_n 1, 1) := by decide +kernel
theorem d_D_total_80 : decode c_D_total 80 = .ok (.laload, 1) := by decide +kernel
theorem d_D_total_81 : decode c_D_total 81 = .ok (.lreturn, 1) := by decide +kernel
theorem d_D_total_82 : decode c_D_total 82 = .ok (.aload_n 0, 1) := by decide +kernel
theorem d_D_total_83 : decode c_D_total 83 = .ok (.getfield 35, 3) := by decide +kernel
theorem d_D_total_86 : decode c_D_total 86 = .ok (.getfield 188, 3) := by decide +kernel
theorem d_D_total_89 : decode c_D_total 89 = .ok (.iload_n 1, 1) := by decide +kernel
theorem d_D_total_90 : decode c_D_total 90 = .ok (.laload, 1) := by decide +kernel
theorem d_D_total_91 : decode c_D_total 91 = .ok (.lreturn, 1) := by decide +kernel
theorem d_D_total_92 : decode c_D_total 92 = .ok (.aload_n 0, 1) := by decide +kernel
theorem d_D_total_93 : decode c_D_total 93 = .ok (.getfield 35, 3) := by decide +kernel
theorem d_D_total_96 : decode c_D_total 96 = .ok (.iload_n 1, 1) := by decide +kernel
theorem d_D_total_97 : decode c_D_total 97 = .ok (.invokevirtual 191, 3) := by decide +kernel
theorem d_D_total_100 : decode c_D_total 100 = .ok (.lreturn, 1) := by decide +kernel
theorem d_D_total_101 : decode c_D_total 101 = .ok (.aload_n 0, 1) := by decide +kernel
theorem d_D_total_102 : decode c_D_total 102 = .ok (.getfield 35, 3) := by decide +kernel
theorem d_D_total_105 : decode c_D_total 105 = .ok (.iload_n 1, 1) := by decide +kernel
theorem d_D_total_106 : decode c_D_total 106 = .ok (.invokevirtual 194, 3) := by decide +kernel
theorem d_D_total_109 : decode c_D_total 109 = .ok (.lreturn, 1) := by decide +kernel
theorem d_D_treaty_0 : decode c_D_treaty 0 = .ok (.iload_n 1, 1) := by decide +kernel
theorem d_D_treaty_1 : decode c_D_treaty 1 = .ok (.invokestatic 88, 3) := by decide +kernel
theorem d_D_treaty_4 : decode c_D_treaty 4 = .ok (.ifCond .eq 19, 3) := by decide +kernel
theorem d_D_treaty_7 : decode c_D_treaty 7 = .ok (.iload_n 1, 1) := by decide +kernel
theorem d_D_treaty_8 : decode c_D_treaty 8 = .ok (.bipush 10, 2) := by decide +kernel
theorem d_D_treaty_10 : decode c_D_treaty 10 = .ok (.idiv, 1) := by decide +kernel
theorem d_D_treaty_11 : decode c_D_treaty 11 = .ok (.iload_n 2, 1) := by decide +kernel
theorem d_D_treaty_12 : decode c_D_treaty 12 = .ok (.iload_n 3, 1) := by decide +kernel
theorem d_D_treaty_13 : decode c_D_treaty 13 = .ok (.iload 4, 2) := by decide +kernel
theorem d_D_treaty_15 : decode c_D_treaty 15 = .ok (.iload 5, 2) := by decide +kernel
theorem d_D_treaty_17 : decode c_D_treaty 17 = .ok (.invokestatic 91, 3) := by decide +kernel
theorem d_D_treaty_20 : decode c_D_treaty 20 = .ok (.ifCond .ne 13, 3) := by decide +kernel
theorem d_D_treaty_23 : decode c_D_treaty 23 = .ok (.new 55, 3) := by decide +kernel
theorem d_D_treaty_26 : decode c_D_treaty 26 = .ok (.dup, 1) := by decide +kernel
theorem d_D_treaty_27 : decode c_D_treaty 27 = .ok (.ldc 95, 2) := by decide +kernel
theorem d_D_treaty_29 : decode c_D_treaty 29 = .ok (.invokespecial 59, 3) := by decide +kernel
theorem d_D_treaty_32 : decode c_D_treaty 32 = .ok (.athrow, 1) := by decide +kernel
theorem d_D_treaty_33 : decode c_D_treaty 33 = .ok (.aload_n 0, 1) := by decide +kernel
theorem d_D_treaty_34 : decode c_D_treaty 34 = .ok (.getfield 26, 3) := by decide +kernel
theorem d_D_treaty_37 : decode c_D_treaty 37 = .ok (.getfield 97, 3) := by decide +kernel
theorem d_D_treaty_40 : decode c_D_treaty 40 = .ok (.bipush 10, 2) := by decide +kernel
theorem d_D_treaty_42 : decode c_D_treaty 42 = .ok (.if_icmp .ge 15, 3) := by decide +kernel
theorem d_D_treaty_45 : decode c_D_treaty 45 = .ok (.aload_n 0, 1) := by decide +kernel
theorem d_D_treaty_46 : decode c_D_treaty 46 = .ok (.getfield 39, 3) := by decide +kernel
theorem d_D_treaty_49 : decode c_D_treaty 49 = .ok (.iload_n 1, 1) := by decide +kernel
theorem d_D_treaty_50 : decode c_D_treaty 50 = .ok (.bipush 10, 2) := by decide +kernel
theorem d_D_treaty_52 : decode c_D_treaty 52 = .ok (.irem, 1) := by decide +kernel
theorem d_D_treaty_53 : decode c_D_treaty 53 = .ok (.baload, 1) := by decide +kernel
theorem d_D_treaty_54 : decode c_D_treaty 54 = .ok (.ifCond .eq 13, 3) := by decide +kernel
theorem d_D_treaty_57 : decode c_D_treaty 57 = .ok (.new 66, 3) := by decide +kernel
theorem d_D_treaty_60 : decode c_D_treaty 60 = .ok (.dup, 1) := by decide +kernel
theorem d_D_treaty_61 : decode c_D_treaty 61 = .ok (.ldc 101, 2) := by decide +kernel
theorem d_D_treaty_63 : decode c_D_treaty 63 = .ok (.invokespecial 70, 3) := by decide +kernel
theorem d_D_treaty_66 : decode c_D_treaty 66 = .ok (.athrow, 1) := by decide +kernel
theorem d_D_treaty_67 : decode c_D_treaty 67 = .ok (.aload_n 0, 1) := by decide +kernel
theorem d_D_treaty_68 : decode c_D_treaty 68 = .ok (.getfield 26, 3) := by decide +kernel
theorem d_D_treaty_71 : decode c_D_treaty 71 = .ok (.iload_n 1, 1) := by decide +kernel
theorem d_D_treaty_72 : decode c_D_treaty 72 = .ok (.iload_n 2, 1) := by decide +kernel
theorem d_D_treaty_73 : decode c_D_treaty 73 = .ok (.iload_n 3, 1) := by decide +kernel
theorem d_D_treaty_74 : decode c_D_treaty 74 = .ok (.iload 4, 2) := by decide +kernel
theorem d_D_treaty_76 : decode c_D_treaty 76 = .ok (.iload 5, 2) := by decide +kernel
theorem d_D_treaty_78 : decode c_D_treaty 78 = .ok (.invokevirtual 103, 3) := by decide +kernel
theorem d_D_treaty_81 : decode c_D_treaty 81 = .ok (.ireturn, 1) := by decide +kernel
theorem d_D_whatIf_0 : decode c_D_whatIf 0 = .ok (.aload_n 0, 1) := by decide +kernel
theorem d_D_whatIf_1 : decode c_D_whatIf 1 = .ok (.getfield 19, 3) := by decide +kernel
theorem d_D_whatIf_4 : decode c_D_whatIf 4 = .ok (.iload_n 1, 1) := by decide +kernel
theorem d_D_whatIf_5 : decode c_D_whatIf 5 = .ok (.invokevirtual 132, 3) := by decide +kernel
theorem d_D_whatIf_8 : decode c_D_whatIf 8 = .ok (.ifCond .eq 21, 3) := by decide +kernel
theorem d_D_whatIf_11 : decode c_D_whatIf 11 = .ok (.iload_n 2, 1) := by decide +kernel
theorem d_D_whatIf_12 : decode c_D_whatIf 12 = .ok (.invokestatic 78, 3) := by decide +kernel
theorem d_D_whatIf_15 : decode c_D_whatIf 15 = .ok (.ifCond .eq 14, 3) := by decide +kernel
theorem d_D_whatIf_18 : decode c_D_whatIf 18 = .ok (.aload_n 0, 1) := by decide +kernel
theorem d_D_whatIf_19 : decode c_D_whatIf 19 = .ok (.getfield 26, 3) := by decide +kernel
theorem d_D_whatIf_22 : decode c_D_whatIf 22 = .ok (.iload_n 3, 1) := by decide +kernel
theorem d_D_whatIf_23 : decode c_D_whatIf 23 = .ok (.invokevirtual 107, 3) := by decide +kernel
theorem d_D_whatIf_26 : decode c_D_whatIf 26 = .ok (.ifCond .ne 13, 3) := by decide +kernel
theorem d_D_whatIf_29 : decode c_D_whatIf 29 = .ok (.new 55, 3) := by decide +kernel
theorem d_D_whatIf_32 : decode c_D_whatIf 32 = .ok (.dup, 1) := by decide +kernel
theorem d_D_whatIf_33 : decode c_D_whatIf 33 = .ok (.ldc 206, 2) := by decide +kernel
theorem d_D_whatIf_35 : decode c_D_whatIf 35 = .ok (.invokespecial 59, 3) := by decide +kernel
theorem d_D_whatIf_38 : decode c_D_whatIf 38 = .ok (.athrow, 1) := by decide +kernel
theorem d_D_whatIf_39 : decode c_D_whatIf 39 = .ok (.aload_n 0, 1) := by decide +kernel
theorem d_D_whatIf_40 : decode c_D_whatIf 40 = .ok (.getfield 19, 3) := by decide +kernel
theorem d_D_whatIf_43 : decode c_D_whatIf 43 = .ok (.getfield 135, 3) := by decide +kernel
theorem d_D_whatIf_46 : decode c_D_whatIf 46 = .ok (.iload_n 1, 1) := by decide +kernel
theorem d_D_whatIf_47 : decode c_D_whatIf 47 = .ok (.baload, 1) := by decide +kernel
theorem d_D_whatIf_48 : decode c_D_whatIf 48 = .ok (.ifCond .eq 13, 3) := by decide +kernel
theorem d_D_whatIf_51 : decode c_D_whatIf 51 = .ok (.new 66, 3) := by decide +kernel
theorem d_D_whatIf_54 : decode c_D_whatIf 54 = .ok (.dup, 1) := by decide +kernel
theorem d_D_whatIf_55 : decode c_D_whatIf 55 = .ok (.ldc 208, 2) := by decide +kernel
theorem d_D_whatIf_57 : decode c_D_whatIf 57 = .ok (.invokespecial 70, 3) := by decide +kernel
theorem d_D_whatIf_60 : decode c_D_whatIf 60 = .ok (.athrow, 1) := by decide +kernel
theorem d_D_whatIf_61 : decode c_D_whatIf 61 = .ok (.aload_n 0, 1) := by decide +kernel
theorem d_D_whatIf_62 : decode c_D_whatIf 62 = .ok (.getfield 35, 3) := by decide +kernel
theorem d_D_whatIf_65 : decode c_D_whatIf 65 = .ok (.aload_n 0, 1) := by decide +kernel
theorem d_D_whatIf_66 : decode c_D_whatIf 66 = .ok (.iload_n 1, 1) := by decide +kernel
theorem d_D_whatIf_67 : decode c_D_whatIf 67 = .ok (.invokevirtual 138, 3) := by decide +kernel
theorem d_D_whatIf_70 : decode c_D_whatIf 70 = .ok (.iload_n 1, 1) := by decide +kernel
theorem d_D_whatIf_71 : decode c_D_whatIf 71 = .ok (.iload_n 2, 1) := by decide +kernel
theorem d_D_whatIf_72 : decode c_D_whatIf 72 = .ok (.invokevirtual 210, 3) := by decide +kernel
theorem d_D_whatIf_75 : decode c_D_whatIf 75 = .ok (.aload_n 0, 1) := by decide +kernel
theorem d_D_whatIf_76 : decode c_D_whatIf 76 = .ok (.getfield 35, 3) := by decide +kernel
theorem d_D_whatIf_79 : decode c_D_whatIf 79 = .ok (.getfield 163, 3) := by decide +kernel
theorem d_D_whatIf_82 : decode c_D_whatIf 82 = .ok (.iload_n 3, 1) := by decide +kernel
theorem d_D_whatIf_83 : decode c_D_whatIf 83 = .ok (.bipush 40, 2) := by decide +kernel
theorem d_D_whatIf_85 : decode c_D_whatIf 85 = .ok (.imul, 1) := by decide +kernel
theorem d_D_whatIf_86 : decode c_D_whatIf 86 = .ok (.iload_n 1, 1) := by decide +kernel
theorem d_D_whatIf_87 : decode c_D_whatIf 87 = .ok (.iadd, 1) := by decide +kernel
theorem d_D_whatIf_88 : decode c_D_whatIf 88 = .ok (.iaload, 1) := by decide +kernel
theorem d_D_whatIf_89 : decode c_D_whatIf 89 = .ok (.ireturn, 1) := by decide +kernel
theorem d_D_window_0 : decode c_D_window 0 = .ok (.aload_n 0, 1) := by decide +kernel
theorem d_D_window_1 : decode c_D_window 1 = .ok (.getfield 26, 3) := by decide +kernel
theorem d_D_window_4 : decode c_D_window 4 = .ok (.iload_n 1, 1) := by decide +kernel
theorem d_D_window_5 : decode c_D_window 5 = .ok (.invokevirtual 107, 3) := by decide +kernel
theorem d_D_window_8 : decode c_D_window 8 = .ok (.ifCond .eq 25, 3) := by decide +kernel
theorem d_D_window_11 : decode c_D_window 11 = .ok (.aload_n 0, 1) := by decide +kernel
theorem d_D_window_12 : decode c_D_window 12 = .ok (.getfield 26, 3) := by decide +kernel
theorem d_D_window_15 : decode c_D_window 15 = .ok (.getfield 178, 3) := by decide +kernel
theorem d_D_window_18 : decode c_D_window 18 = .ok (.iload_n 1, 1) := by decide +kernel
theorem d_D_window_19 : decode c_D_window 19 = .ok (.iaload, 1) := by decide +kernel
theorem d_D_window_20 : decode c_D_window 20 = .ok (.iconst 3, 1) := by decide +kernel
theorem d_D_window_21 : decode c_D_window 21 = .ok (.if_icmp .ne 12, 3) := by decide +kernel
theorem d_D_window_24 : decode c_D_window 24 = .ok (.iload_n 2, 1) := by decide +kernel
theorem d_D_window_25 : decode c_D_window 25 = .ok (.bipush 9, 2) := by decide +kernel
theorem d_D_window_27 : decode c_D_window 27 = .ok (.invokestatic 52, 3) := by decide +kernel
theorem d_D_window_30 : decode c_D_window 30 = .ok (.ifCond .ne 13, 3) := by decide +kernel
theorem d_D_window_33 : decode c_D_window 33 = .ok (.new 55, 3) := by decide +kernel
theorem d_D_window_36 : decode c_D_window 36 = .ok (.dup, 1) := by decide +kernel
theorem d_D_window_37 : decode c_D_window 37 = .ok (.ldc 181, 2) := by decide +kernel
theorem d_D_window_39 : decode c_D_window 39 = .ok (.invokespecial 59, 3) := by decide +kernel
theorem d_D_window_42 : decode c_D_window 42 = .ok (.athrow, 1) := by decide +kernel
theorem d_D_window_43 : decode c_D_window 43 = .ok (.aload_n 0, 1) := by decide +kernel
theorem d_D_window_44 : decode c_D_window 44 = .ok (.getfield 35, 3) := by decide +kernel
theorem d_D_window_47 : decode c_D_window 47 = .ok (.aload_n 0, 1) := by decide +kernel
theorem d_D_window_48 : decode c_D_window 48 = .ok (.getfield 26, 3) := by decide +kernel
theorem d_D_window_51 : decode c_D_window 51 = .ok (.getfield 113, 3) := by decide +kernel
theorem d_D_window_54 : decode c_D_window 54 = .ok (.iload_n 1, 1) := by decide +kernel
theorem d_D_window_55 : decode c_D_window 55 = .ok (.iaload, 1) := by decide +kernel
theorem d_D_window_56 : decode c_D_window 56 = .ok (.invokevirtual 154, 3) := by decide +kernel
theorem d_D_window_59 : decode c_D_window 59 = .ok (.aload_n 0, 1) := by decide +kernel
theorem d_D_window_60 : decode c_D_window 60 = .ok (.getfield 35, 3) := by decide +kernel
theorem d_D_window_63 : decode c_D_window 63 = .ok (.getfield 183, 3) := by decide +kernel
theorem d_D_window_66 : decode c_D_window 66 = .ok (.iload_n 1, 1) := by decide +kernel
theorem d_D_window_67 : decode c_D_window 67 = .ok (.bipush 10, 2) := by decide +kernel
theorem d_D_window_69 : decode c_D_window 69 = .ok (.imul, 1) := by decide +kernel
theorem d_D_window_70 : decode c_D_window 70 = .ok (.iload_n 2, 1) := by decide +kernel
theorem d_D_window_71 : decode c_D_window 71 = .ok (.iadd, 1) := by decide +kernel
theorem d_D_window_72 : decode c_D_window 72 = .ok (.iaload, 1) := by decide +kernel
theorem d_D_window_73 : decode c_D_window 73 = .ok (.ireturn, 1) := by decide +kernel
theorem d_D_year_0 : decode c_D_year 0 = .ok (.iload_n 1, 1) := by decide +kernel
theorem d_D_year_1 : decode c_D_year 1 = .ok (.iconst 4, 1) := by decide +kernel
theorem d_D_year_2 : decode c_D_year 2 = .ok (.invokestatic 47, 3) := by decide +kernel
theorem d_D_year_5 : decode c_D_year 5 = .ok (.ifCond .ne 13, 3) := by decide +kernel
theorem d_D_year_8 : decode c_D_year 8 = .ok (.new 55, 3) := by decide +kernel
theorem d_D_year_11 : decode c_D_year 11 = .ok (.dup, 1) := by decide +kernel
theorem d_D_year_12 : decode c_D_year 12 = .ok (.ldc 220, 2) := by decide +kernel
theorem d_D_year_14 : decode c_D_year 14 = .ok (.invokespecial 59, 3) := by decide +kernel
theorem d_D_year_17 : decode c_D_year 17 = .ok (.athrow, 1) := by decide +kernel
theorem d_D_year_18 : decode c_D_year 18 = .ok (.aload_n 0, 1) := by decide +kernel
theorem d_D_year_19 : decode c_D_year 19 = .ok (.getfield 39, 3) := by decide +kernel
theorem d_D_year_22 : decode c_D_year 22 = .ok (.iload_n 1, 1) := by decide +kernel
theorem d_D_year_23 : decode c_D_year 23 = .ok (.baload, 1) := by decide +kernel
theorem d_D_year_24 : decode c_D_year 24 = .ok (.iload_n 2, 1) := by decide +kernel
theorem d_D_year_25 : decode c_D_year 25 = .ok (.if_icmp .eq 13, 3) := by decide +kernel
theorem d_D_year_28 : decode c_D_year 28 = .ok (.new 66, 3) := by decide +kernel
theorem d_D_year_31 : decode c_D_year 31 = .ok (.dup, 1) := by decide +kernel
theorem d_D_year_32 : decode c_D_year 32 = .ok (.ldc 222, 2) := by decide +kernel
theorem d_D_year_34 : decode c_D_year 34 = .ok (.invokespecial 70, 3) := by decide +kernel
theorem d_D_year_37 : decode c_D_year 37 = .ok (.athrow, 1) := by decide +kernel
theorem d_D_year_38 : decode c_D_year 38 = .ok (.aload_n 0, 1) := by decide +kernel
theorem d_D_year_39 : decode c_D_year 39 = .ok (.getfield 39, 3) := by decide +kernel
theorem d_D_year_42 : decode c_D_year 42 = .ok (.iload_n 1, 1) := by decide +kernel
theorem d_D_year_43 : decode c_D_year 43 = .ok (.iload_n 2, 1) := by decide +kernel
theorem d_D_year_44 : decode c_D_year 44 = .ok (.ifCond .ne 7, 3) := by decide +kernel
theorem d_D_year_47 : decode c_D_year 47 = .ok (.iconst 1, 1) := by decide +kernel
theorem d_D_year_48 : decode c_D_year 48 = .ok (.goto 4, 3) := by decide +kernel
theorem d_D_year_51 : decode c_D_year 51 = .ok (.iconst 0, 1) := by decide +kernel
theorem d_D_year_52 : decode c_D_year 52 = .ok (.bastore, 1) := by decide +kernel
theorem d_D_year_53 : decode c_D_year 53 = .ok (.return_, 1) := by decide +kernel
end
section
/-! what the bytes say -/
theorem d_M_allowed_0 : decode c_M_allowed 0 = .ok (.aload_n 0, 1) := by decide +kernel
theorem d_M_allowed_1 : decode c_M_allowed 1 = .ok (.getfield 47, 3) := by decide +kernel
theorem d_M_allowed_4 : decode c_M_allowed 4 = .ok (.iload_n 1, 1) := by decide +kernel
theorem d_M_allowed_5 : decode c_M_allowed 5 = .ok (.iaload, 1) := by decide +kernel
theorem d_M_allowed_6 : decode c_M_allowed 6 = .ok (.i2l, 1) := by decide +kernel
theorem d_M_allowed_7 : decode c_M_allowed 7 = .ok (.aload_n 0, 1) := by decide +kernel
theorem d_M_allowed_8 : decode c_M_allowed 8 = .ok (.getfield 147, 3) := by decide +kernel
theorem d_M_allowed_11 : decode c_M_allowed 11 = .ok (.lsub, 1) := by decide +kernel
theorem d_M_allowed_12 : decode c_M_allowed 12 = .ok (.lload_n 2, 1) := by decide +kernel
theorem d_M_allowed_13 : decode c_M_allowed 13 = .ok (.lcmp, 1) := by decide +kernel
theorem d_M_allowed_14 : decode c_M_allowed 14 = .ok (.ifCond .ge 18, 3) := by decide +kernel
theorem d_M_allowed_17 : decode c_M_allowed 17 = .ok (.aload_n 0, 1) := by decide +kernel
theorem d_M_allowed_18 : decode c_M_allowed 18 = .ok (.getfield 47, 3) := by decide +kernel
theorem d_M_allowed_21 : decode c_M_allowed 21 = .ok (.iload_n 1, 1) := by decide +kernel
theorem d_M_allowed_22 : decode c_M_allowed 22 = .ok (.iaload, 1) := by decide +kernel
theorem d_M_allowed_23 : decode c_M_allowed 23 = .ok (.i2l, 1) := by decide +kernel
theorem d_M_allowed_24 : decode c_M_allowed 24 = .ok (.aload_n 0, 1) := by decide +kernel
theorem d_M_allowed_25 : decode c_M_allowed 25 = .ok (.getfield 147, 3) := by decide +kernel
theorem d_M_allowed_28 : decode c_M_allowed 28 = .ok (.lsub, 1) := by decide +kernel
theorem d_M_allowed_29 : decode c_M_allowed 29 = .ok (.goto 4, 3) := by decide +kernel
theorem d_M_allowed_32 : decode c_M_allowed 32 = .ok (.lload_n 2, 1) := by decide +kernel
theorem d_M_allowed_33 : decode c_M_allowed 33 = .ok (.lstore 4, 2) := by decide +kernel
theorem d_M_allowed_35 : decode c_M_allowed 35 = .ok (.aload_n 0, 1) := by decide +kernel
theorem d_M_allowed_36 : decode c_M_allowed 36 = .ok (.dup, 1) := by decide +kernel
theorem d_M_allowed_37 : decode c_M_allowed 37 = .ok (.getfield 147, 3) := by decide +kernel
theorem d_M_allowed_40 : decode c_M_allowed 40 = .ok (.lload 4, 2) := by decide +kernel
theorem d_M_allowed_42 : decode c_M_allowed 42 = .ok (.ladd, 1) := by decide +kernel
theorem d_M_allowed_43 : decode c_M_allowed 43 = .ok (.putfield 147, 3) := by decide +kernel
theorem d_M_allowed_46 : decode c_M_allowed 46 = .ok (.lload_n 2, 1) := by decide +kernel
theorem d_M_allowed_47 : decode c_M_allowed 47 = .ok (.lload 4, 2) := by decide +kernel
theorem d_M_allowed_49 : decode c_M_allowed 49 = .ok (.lsub, 1) := by decide +kernel
theorem d_M_allowed_50 : decode c_M_allowed 50 = .ok (.lstore 6, 2) := by decide +kernel
theorem d_M_allowed_52 : decode c_M_allowed 52 = .ok (.aload_n 0, 1) := by decide +kernel
theorem d_M_allowed_53 : decode c_M_allowed 53 = .ok (.getfield 41, 3) := by decide +kernel
theorem d_M_allowed_56 : decode c_M_allowed 56 = .ok (.iload_n 1, 1) := by decide +kernel
theorem d_M_allowed_57 : decode c_M_allowed 57 = .ok (.iaload, 1) := by decide +kernel
theorem d_M_allowed_58 : decode c_M_allowed 58 = .ok (.i2l, 1) := by decide +kernel
theorem d_M_allowed_59 : decode c_M_allowed 59 = .ok (.iconst 1, 1) := by decide +kernel
theorem d_M_allowed_60 : decode c_M_allowed 60 = .ok (.aload_n 0, 1) := by decide +kernel
theorem d_M_allowed_61 : decode c_M_allowed 61 = .ok (.getfield 44, 3) := by decide +kernel
theorem d_M_allowed_64 : decode c_M_allowed 64 = .ok (.iload_n 1, 1) := by decide +kernel
theorem d_M_allowed_65 : decode c_M_allowed 65 = .ok (.iaload, 1) := by decide +kernel
theorem d_M_allowed_66 : decode c_M_allowed 66 = .ok (.iadd, 1) := by decide +kernel
theorem d_M_allowed_67 : decode c_M_allowed 67 = .ok (.i2l, 1) := by decide +kernel
theorem d_M_allowed_68 : decode c_M_allowed 68 = .ok (.lmul, 1) := by decide +kernel
theorem d_M_allowed_69 : decode c_M_allowed 69 = .ok (.aload_n 0, 1) := by decide +kernel
theorem d_M_allowed_70 : decode c_M_allowed 70 = .ok (.getfield 151, 3) := by decide +kernel
theorem d_M_allowed_73 : decode c_M_allowed 73 = .ok (.lsub, 1) := by decide +kernel
theorem d_M_allowed_74 : decode c_M_allowed 74 = .ok (.lstore 8, 2) := by decide +kernel
theorem d_M_allowed_76 : decode c_M_allowed 76 = .ok (.lload 6, 2) := by decide +kernel
theorem d_M_allowed_78 : decode c_M_allowed 78 = .ok (.lload 8, 2) := by decide +kernel
theorem d_M_allowed_80 : decode c_M_allowed 80 = .ok (.lcmp, 1) := by decide +kernel
theorem d_M_allowed_81 : decode c_M_allowed 81 = .ok (.ifCond .ge 8, 3) := by decide +kernel
theorem d_M_allowed_84 : decode c_M_allowed 84 = .ok (.lload 6, 2) := by decide +kernel
theorem d_M_allowed_86 : decode c_M_allowed 86 = .ok (.goto 5, 3) := by decide +kernel
theorem d_M_allowed_89 : decode c_M_allowed 89 = .ok (.lload 8, 2) := by decide +kernel
theorem d_M_allowed_91 : decode c_M_allowed 91 = .ok (.lstore 6, 2) := by decide +kernel
theorem d_M_allowed_93 : decode c_M_allowed 93 = .ok (.aload_n 0, 1) := by decide +kernel
theorem d_M_allowed_94 : decode c_M_allowed 94 = .ok (.dup, 1) := by decide +kernel
theorem d_M_allowed_95 : decode c_M_allowed 95 = .ok (.getfield 151, 3) := by decide +kernel
theorem d_M_allowed_98 : decode c_M_allowed 98 = .ok (.lload 6, 2) := by decide +kernel
theorem d_M_allowed_100 : decode c_M_allowed 100 = .ok (.ladd, 1) := by decide +kernel
theorem d_M_allowed_101 : decode c_M_allowed 101 = .ok (.putfield 151, 3) := by decide +kernel
theorem d_M_allowed_104 : decode c_M_allowed 104 = .ok (.lload 6, 2) := by decide +kernel
theorem d_M_allowed_106 : decode c_M_allowed 106 = .ok (.lreturn, 1) := by decide +kernel
theorem d_M_claimYear_0 : decode c_M_claimYear 0 = .ok (.aload_n 0, 1) := by decide +kernel
theorem d_M_claimYear_1 : decode c_M_claimYear 1 = .ok (.getfield 16, 3) := by decide +kernel
theorem d_M_claimYear_4 : decode c_M_claimYear 4 = .ok (.aload_n 0, 1) := by decide +kernel
theorem d_M_claimYear_5 : decode c_M_claimYear 5 = .ok (.getfield 19, 3) := by decide +kernel
theorem d_M_claimYear_8 : decode c_M_claimYear 8 = .ok (.iload_n 1, 1) := by decide +kernel
theorem d_M_claimYear_9 : decode c_M_claimYear 9 = .ok (.iaload, 1) := by decide +kernel
theorem d_M_claimYear_10 : decode c_M_claimYear 10 = .ok (.iaload, 1) := by decide +kernel
theorem d_M_claimYear_11 : decode c_M_claimYear 11 = .ok (.ireturn, 1) := by decide +kernel
theorem d_M_in_0 : decode c_M_in 0 = .ok (.lload_n 0, 1) := by decide +kernel
theorem d_M_in_1 : decode c_M_in 1 = .ok (.lload_n 2, 1) := by decide +kernel
theorem d_M_in_2 : decode c_M_in 2 = .ok (.lcmp, 1) := by decide +kernel
theorem d_M_in_3 : decode c_M_in 3 = .ok (.ifCond .lt 14, 3) := by decide +kernel
theorem d_M_in_6 : decode c_M_in 6 = .ok (.lload_n 0, 1) := by decide +kernel
theorem d_M_in_7 : decode c_M_in 7 = .ok (.lload 4, 2) := by decide +kernel
theorem d_M_in_9 : decode c_M_in 9 = .ok (.lcmp, 1) := by decide +kernel
theorem d_M_in_10 : decode c_M_in 10 = .ok (.ifCond .gt 7, 3) := by decide +kernel
theorem d_M_in_13 : decode c_M_in 13 = .ok (.iconst 1, 1) := by decide +kernel
theorem d_M_in_14 : decode c_M_in 14 = .ok (.goto 4, 3) := by decide +kernel
theorem d_M_in_17 : decode c_M_in 17 = .ok (.iconst 0, 1) := by decide +kernel
theorem d_M_in_18 : decode c_M_in 18 = .ok (.ireturn, 1) := by decide +kernel
theorem d_M_kindOf_0 : decode c_M_kindOf 0 = .ok (.aload_n 0, 1) := by decide +kernel
theorem d_M_kindOf_1 : decode c_M_kindOf 1 = .ok (.getfield 35, 3) := by decide +kernel
theorem d_M_kindOf_4 : decode c_M_kindOf 4 = .ok (.iload_n 1, 1) := by decide +kernel
theorem d_M_kindOf_5 : decode c_M_kindOf 5 = .ok (.iaload, 1) := by decide +kernel
theorem d_M_kindOf_6 : decode c_M_kindOf 6 = .ok (.bipush 10, 2) := by decide +kernel
theorem d_M_kindOf_8 : decode c_M_kindOf 8 = .ok (.idiv, 1) := by decide +kernel
theorem d_M_kindOf_9 : decode c_M_kindOf 9 = .ok (.ireturn, 1) := by decide +kernel
theorem d_M_layer_0 : decode c_M_layer 0 = .ok (.lload_n 0, 1) := by decide +kernel
theorem d_M_layer_1 : decode c_M_layer 1 = .ok (.lload_n 2, 1) := by decide +kernel
theorem d_M_layer_2 : decode c_M_layer 2 = .ok (.lcmp, 1) := by decide +kernel
theorem d_M_layer_3 : decode c_M_layer 3 = .ok (.ifCond .le 9, 3) := by decide +kernel
theorem d_M_layer_6 : decode c_M_layer 6 = .ok (.lload_n 0, 1) := by decide +kernel
theorem d_M_layer_7 : decode c_M_layer 7 = .ok (.lload_n 2, 1) := by decide +kernel
theorem d_M_layer_8 : decode c_M_layer 8 = .ok (.lsub, 1) := by decide +kernel
theorem d_M_layer_9 : decode c_M_layer 9 = .ok (.goto 4, 3) := by decide +kernel
theorem d_M_layer_12 : decode c_M_layer 12 = .ok (.lconst 0, 1) := by decide +kernel
theorem d_M_layer_13 : decode c_M_layer 13 = .ok (.lstore 6, 2) := by decide +kernel
theorem d_M_layer_15 : decode c_M_layer 15 = .ok (.lload 6, 2) := by decide +kernel
theorem d_M_layer_17 : decode c_M_layer 17 = .ok (.lload 4, 2) := by decide +kernel
theorem d_M_layer_19 : decode c_M_layer 19 = .ok (.lcmp, 1) := by decide +kernel
theorem d_M_layer_20 : decode c_M_layer 20 = .ok (.ifCond .ge 8, 3) := by decide +kernel
theorem d_M_layer_23 : decode c_M_layer 23 = .ok (.lload 6, 2) := by decide +kernel
theorem d_M_layer_25 : decode c_M_layer 25 = .ok (.goto 5, 3) := by decide +kernel
theorem d_M_layer_28 : decode c_M_layer 28 = .ok (.lload 4, 2) := by decide +kernel
theorem d_M_layer_30 : decode c_M_layer 30 = .ok (.lreturn, 1) := by decide +kernel
theorem d_M_shareOf_0 : decode c_M_shareOf 0 = .ok (.lload_n 3, 1) := by decide +kernel
theorem d_M_shareOf_1 : decode c_M_shareOf 1 = .ok (.aload_n 0, 1) := by decide +kernel
theorem d_M_shareOf_2 : decode c_M_shareOf 2 = .ok (.getfield 50, 3) := by decide +kernel
theorem d_M_shareOf_5 : decode c_M_shareOf 5 = .ok (.bipush 6, 2) := by decide +kernel
theorem d_M_shareOf_7 : decode c_M_shareOf 7 = .ok (.iload_n 1, 1) := by decide +kernel
theorem d_M_shareOf_8 : decode c_M_shareOf 8 = .ok (.imul, 1) := by decide +kernel
theorem d_M_shareOf_9 : decode c_M_shareOf 9 = .ok (.iload_n 2, 1) := by decide +kernel
theorem d_M_shareOf_10 : decode c_M_shareOf 10 = .ok (.iadd, 1) := by decide +kernel
theorem d_M_shareOf_11 : decode c_M_shareOf 11 = .ok (.iaload, 1) := by decide +kernel
theorem d_M_shareOf_12 : decode c_M_shareOf 12 = .ok (.i2l, 1) := by decide +kernel
theorem d_M_shareOf_13 : decode c_M_shareOf 13 = .ok (.lmul, 1) := by decide +kernel
theorem d_M_shareOf_14 : decode c_M_shareOf 14 = .ok (.ldc2_w 115, 3) := by decide +kernel
theorem d_M_shareOf_17 : decode c_M_shareOf 17 = .ok (.ldiv, 1) := by decide +kernel
theorem d_M_shareOf_18 : decode c_M_shareOf 18 = .ok (.lreturn, 1) := by decide +kernel
theorem d_M_take_0 : decode c_M_take 0 = .ok (.aload_n 0, 1) := by decide +kernel
theorem d_M_take_1 : decode c_M_take 1 = .ok (.getfield 63, 3) := by decide +kernel
theorem d_M_take_4 : decode c_M_take 4 = .ok (.bipush 40, 2) := by decide +kernel
theorem d_M_take_6 : decode c_M_take 6 = .ok (.iload_n 1, 1) := by decide +kernel
theorem d_M_take_7 : decode c_M_take 7 = .ok (.imul, 1) := by decide +kernel
theorem d_M_take_8 : decode c_M_take 8 = .ok (.iload_n 2, 1) := by decide +kernel
theorem d_M_take_9 : decode c_M_take 9 = .ok (.iadd, 1) := by decide +kernel
theorem d_M_take_10 : decode c_M_take 10 = .ok (.dup2, 1) := by decide +kernel
theorem d_M_take_11 : decode c_M_take 11 = .ok (.laload, 1) := by decide +kernel
theorem d_M_take_12 : decode c_M_take 12 = .ok (.lload_n 3, 1) := by decide +kernel
theorem d_M_take_13 : decode c_M_take 13 = .ok (.ladd, 1) := by decide +kernel
theorem d_M_take_14 : decode c_M_take 14 = .ok (.lastore, 1) := by decide +kernel
theorem d_M_take_15 : decode c_M_take 15 = .ok (.aload_n 0, 1) := by decide +kernel
theorem d_M_take_16 : decode c_M_take 16 = .ok (.getfield 66, 3) := by decide +kernel
theorem d_M_take_19 : decode c_M_take 19 = .ok (.iload_n 1, 1) := by decide +kernel
theorem d_M_take_20 : decode c_M_take 20 = .ok (.dup2, 1) := by decide +kernel
theorem d_M_take_21 : decode c_M_take 21 = .ok (.laload, 1) := by decide +kernel
theorem d_M_take_22 : decode c_M_take 22 = .ok (.lload_n 3, 1) := by decide +kernel
theorem d_M_take_23 : decode c_M_take 23 = .ok (.ladd, 1) := by decide +kernel
theorem d_M_take_24 : decode c_M_take 24 = .ok (.lastore, 1) := by decide +kernel
theorem d_M_take_25 : decode c_M_take 25 = .ok (.aload_n 0, 1) := by decide +kernel
theorem d_M_take_26 : decode c_M_take 26 = .ok (.getfield 60, 3) := by decide +kernel
theorem d_M_take_29 : decode c_M_take 29 = .ok (.iload_n 2, 1) := by decide +kernel
theorem d_M_take_30 : decode c_M_take 30 = .ok (.dup2, 1) := by decide +kernel
theorem d_M_take_31 : decode c_M_take 31 = .ok (.laload, 1) := by decide +kernel
theorem d_M_take_32 : decode c_M_take 32 = .ok (.lload_n 3, 1) := by decide +kernel
theorem d_M_take_33 : decode c_M_take 33 = .ok (.lsub, 1) := by decide +kernel
theorem d_M_take_34 : decode c_M_take 34 = .ok (.lastore, 1) := by decide +kernel
theorem d_M_take_35 : decode c_M_take 35 = .ok (.return_, 1) := by decide +kernel
theorem d_M_throwing_0 : decode c_M_throwing 0 = .ok (.aload_n 0, 1) := by decide +kernel
theorem d_M_throwing_1 : decode c_M_throwing 1 = .ok (.iload_n 1, 1) := by decide +kernel
theorem d_M_throwing_2 : decode c_M_throwing 2 = .ok (.ifCond .eq 7, 3) := by decide +kernel
theorem d_M_throwing_5 : decode c_M_throwing 5 = .ok (.iconst 1, 1) := by decide +kernel
theorem d_M_throwing_6 : decode c_M_throwing 6 = .ok (.goto 12, 3) := by decide +kernel
theorem d_M_throwing_9 : decode c_M_throwing 9 = .ok (.iload_n 2, 1) := by decide +kernel
theorem d_M_throwing_10 : decode c_M_throwing 10 = .ok (.ifCond .eq 7, 3) := by decide +kernel
theorem d_M_throwing_13 : decode c_M_throwing 13 = .ok (.iconst 2, 1) := by decide +kernel
theorem d_M_throwing_14 : decode c_M_throwing 14 = .ok (.goto 4, 3) := by decide +kernel
theorem d_M_throwing_17 : decode c_M_throwing 17 = .ok (.iconst 0, 1) := by decide +kernel
theorem d_M_throwing_18 : decode c_M_throwing 18 = .ok (.putfield 87, 3) := by decide +kernel
theorem d_M_throwing_21 : decode c_M_throwing 21 = .ok (.aload_n 0, 1) := by decide +kernel
theorem d_M_throwing_22 : decode c_M_throwing 22 = .ok (.getfield 87, 3) := by decide +kernel
theorem d_M_throwing_25 : decode c_M_throwing 25 = .ok (.ifCond .le 7, 3) := by decide +kernel
theorem d_M_throwing_28 : decode c_M_throwing 28 = .ok (.iconst 1, 1) := by decide +kernel
theorem d_M_throwing_29 : decode c_M_throwing 29 = .ok (.goto 4, 3) := by decide +kernel
theorem d_M_throwing_32 : decode c_M_throwing 32 = .ok (.iconst 0, 1) := by decide +kernel
theorem d_M_throwing_33 : decode c_M_throwing 33 = .ok (.ireturn, 1) := by decide +kernel
theorem d_M_thrown_0 : decode c_M_thrown 0 = .ok (.aload_n 0, 1) := by decide +kernel
theorem d_M_thrown_1 : decode c_M_thrown 1 = .ok (.getfield 87, 3) := by decide +kernel
theorem d_M_thrown_4 : decode c_M_thrown 4 = .ok (.ireturn, 1) := by decide +kernel
theorem d_M_treatyYear_0 : decode c_M_treatyYear 0 = .ok (.aload_n 0, 1) := by decide +kernel
theorem d_M_treatyYear_1 : decode c_M_treatyYear 1 = .ok (.getfield 35, 3) := by decide +kernel
theorem d_M_treatyYear_4 : decode c_M_treatyYear 4 = .ok (.iload_n 1, 1) := by decide +kernel
theorem d_M_treatyYear_5 : decode c_M_treatyYear 5 = .ok (.iaload, 1) := by decide +kernel
theorem d_M_treatyYear_6 : decode c_M_treatyYear 6 = .ok (.bipush 10, 2) := by decide +kernel
theorem d_M_treatyYear_8 : decode c_M_treatyYear 8 = .ok (.irem, 1) := by decide +kernel
theorem d_M_treatyYear_9 : decode c_M_treatyYear 9 = .ok (.ireturn, 1) := by decide +kernel
theorem d_M_areSo_0 : decode c_M_areSo 0 = .ok (.iload_n 0, 1) := by decide +kernel
theorem d_M_areSo_1 : decode c_M_areSo 1 = .ok (.ifCond .ne 42, 3) := by decide +kernel
theorem d_M_areSo_4 : decode c_M_areSo 4 = .ok (.iload_n 1, 1) := by decide +kernel
theorem d_M_areSo_5 : decode c_M_areSo 5 = .ok (.i2l, 1) := by decide +kernel
theorem d_M_areSo_6 : decode c_M_areSo 6 = .ok (.lconst 1, 1) := by decide +kernel
theorem d_M_areSo_7 : decode c_M_areSo 7 = .ok (.ldc2_w 115, 3) := by decide +kernel
theorem d_M_areSo_10 : decode c_M_areSo 10 = .ok (.invokestatic 93, 3) := by decide +kernel
theorem d_M_areSo_13 : decode c_M_areSo 13 = .ok (.ifCond .eq 28, 3) := by decide +kernel
theorem d_M_areSo_16 : decode c_M_areSo 16 = .ok (.iload_n 2, 1) := by decide +kernel
theorem d_M_areSo_17 : decode c_M_areSo 17 = .ok (.i2l, 1) := by decide +kernel
theorem d_M_areSo_18 : decode c_M_areSo 18 = .ok (.lconst 1, 1) := by decide +kernel
theorem d_M_areSo_19 : decode c_M_areSo 19 = .ok (.ldc2_w 103, 3) := by decide +kernel
theorem d_M_areSo_22 : decode c_M_areSo 22 = .ok (.invokestatic 93, 3) := by decide +kernel
theorem d_M_areSo_25 : decode c_M_areSo 25 = .ok (.ifCond .eq 16, 3) := by decide +kernel
theorem d_M_areSo_28 : decode c_M_areSo 28 = .ok (.iload_n 3, 1) := by decide +kernel
theorem d_M_areSo_29 : decode c_M_areSo 29 = .ok (.ifCond .ne 12, 3) := by decide +kernel
theorem d_M_areSo_32 : decode c_M_areSo 32 = .ok (.iload 4, 2) := by decide +kernel
theorem d_M_areSo_34 : decode c_M_areSo 34 = .ok (.ifCond .ne 7, 3) := by decide +kernel
theorem d_M_areSo_37 : decode c_M_areSo 37 = .ok (.iconst 1, 1) := by decide +kernel
theorem d_M_areSo_38 : decode c_M_areSo 38 = .ok (.goto 4, 3) := by decide +kernel
theorem d_M_areSo_41 : decode c_M_areSo 41 = .ok (.iconst 0, 1) := by decide +kernel
theorem d_M_areSo_42 : decode c_M_areSo 42 = .ok (.ireturn, 1) := by decide +kernel
theorem d_M_areSo_43 : decode c_M_areSo 43 = .ok (.iload_n 0, 1) := by decide +kernel
theorem d_M_areSo_44 : decode c_M_areSo 44 = .ok (.iconst 1, 1) := by decide +kernel
theorem d_M_areSo_45 : decode c_M_areSo 45 = .ok (.if_icmp .ne 42, 3) := by decide +kernel
theorem d_M_areSo_48 : decode c_M_areSo 48 = .ok (.iload_n 1, 1) := by decide +kernel
theorem d_M_areSo_49 : decode c_M_areSo 49 = .ok (.i2l, 1) := by decide +kernel
theorem d_M_areSo_50 : decode c_M_areSo 50 = .ok (.lconst 1, 1) := by decide +kernel
theorem d_M_areSo_51 : decode c_M_areSo 51 = .ok (.ldc2_w 103, 3) := by decide +kernel
theorem d_M_areSo_54 : decode c_M_areSo 54 = .ok (.invokestatic 93, 3) := by decide +kernel
theorem d_M_areSo_57 : decode c_M_areSo 57 = .ok (.ifCond .eq 28, 3) := by decide +kernel
theorem d_M_areSo_60 : decode c_M_areSo 60 = .ok (.iload_n 2, 1) := by decide +kernel
theorem d_M_areSo_61 : decode c_M_areSo 61 = .ok (.i2l, 1) := by decide +kernel
theorem d_M_areSo_62 : decode c_M_areSo 62 = .ok (.lconst 1, 1) := by decide +kernel
theorem d_M_areSo_63 : decode c_M_areSo 63 = .ok (.ldc2_w 117, 3) := by decide +kernel
theorem d_M_areSo_66 : decode c_M_areSo 66 = .ok (.invokestatic 93, 3) := by decide +kernel
theorem d_M_areSo_69 : decode c_M_areSo 69 = .ok (.ifCond .eq 16, 3) := by decide +kernel
theorem d_M_areSo_72 : decode c_M_areSo 72 = .ok (.iload_n 3, 1) := by decide +kernel
theorem d_M_areSo_73 : decode c_M_areSo 73 = .ok (.ifCond .ne 12, 3) := by decide +kernel
theorem d_M_areSo_76 : decode c_M_areSo 76 = .ok (.iload 4, 2) := by decide +kernel
theorem d_M_areSo_78 : decode c_M_areSo 78 = .ok (.ifCond .ne 7, 3) := by decide +kernel
theorem d_M_areSo_81 : decode c_M_areSo 81 = .ok (.iconst 1, 1) := by decide +kernel
theorem d_M_areSo_82 : decode c_M_areSo 82 = .ok (.goto 4, 3) := by decide +kernel
theorem d_M_areSo_85 : decode c_M_areSo 85 = .ok (.iconst 0, 1) := by decide +kernel
theorem d_M_areSo_86 : decode c_M_areSo 86 = .ok (.ireturn, 1) := by decide +kernel
theorem d_M_areSo_87 : decode c_M_areSo 87 = .ok (.iload_n 0, 1) := by decide +kernel
theorem d_M_areSo_88 : decode c_M_areSo 88 = .ok (.iconst 4, 1) := by decide +kernel
theorem d_M_areSo_89 : decode c_M_areSo 89 = .ok (.if_icmp .ne 42, 3) := by decide +kernel
theorem d_M_areSo_92 : decode c_M_areSo 92 = .ok (.iload_n 1, 1) := by decide +kernel
theorem d_M_areSo_93 : decode c_M_areSo 93 = .ok (.i2l, 1) := by decide +kernel
theorem d_M_areSo_94 : decode c_M_areSo 94 = .ok (.lconst 0, 1) := by decide +kernel
theorem d_M_areSo_95 : decode c_M_areSo 95 = .ok (.ldc2_w 103, 3) := by decide +kernel
theorem d_M_areSo_98 : decode c_M_areSo 98 = .ok (.invokestatic 93, 3) := by decide +kernel
theorem d_M_areSo_101 : decode c_M_areSo 101 = .ok (.ifCond .eq 28, 3) := by decide +kernel
theorem d_M_areSo_104 : decode c_M_areSo 104 = .ok (.iload_n 2, 1) := by decide +kernel
theorem d_M_areSo_105 : decode c_M_areSo 105 = .ok (.i2l, 1) := by decide +kernel
theorem d_M_areSo_106 : decode c_M_areSo 106 = .ok (.lconst 1, 1) := by decide +kernel
theorem d_M_areSo_107 : decode c_M_areSo 107 = .ok (.ldc2_w 103, 3) := by decide +kernel
theorem d_M_areSo_110 : decode c_M_areSo 110 = .ok (.invokestatic 93, 3) := by decide +kernel
theorem d_M_areSo_113 : decode c_M_areSo 113 = .ok (.ifCond .eq 16, 3) := by decide +kernel
theorem d_M_areSo_116 : decode c_M_areSo 116 = .ok (.iload_n 3, 1) := by decide +kernel
theorem d_M_areSo_117 : decode c_M_areSo 117 = .ok (.ifCond .ne 12, 3) := by decide +kernel
theorem d_M_areSo_120 : decode c_M_areSo 120 = .ok (.iload 4, 2) := by decide +kernel
theorem d_M_areSo_122 : decode c_M_areSo 122 = .ok (.ifCond .ne 7, 3) := by decide +kernel
theorem d_M_areSo_125 : decode c_M_areSo 125 = .ok (.iconst 1, 1) := by decide +kernel
theorem d_M_areSo_126 : decode c_M_areSo 126 = .ok (.goto 4, 3) := by decide +kernel
theorem d_M_areSo_129 : decode c_M_areSo 129 = .ok (.iconst 0, 1) := by decide +kernel
theorem d_M_areSo_130 : decode c_M_areSo 130 = .ok (.ireturn, 1) := by decide +kernel
theorem d_M_areSo_131 : decode c_M_areSo 131 = .ok (.iload_n 1, 1) := by decide +kernel
theorem d_M_areSo_132 : decode c_M_areSo 132 = .ok (.i2l, 1) := by decide +kernel
theorem d_M_areSo_133 : decode c_M_areSo 133 = .ok (.lconst 0, 1) := by decide +kernel
theorem d_M_areSo_134 : decode c_M_areSo 134 = .ok (.ldc2_w 103, 3) := by decide +kernel
theorem d_M_areSo_137 : decode c_M_areSo 137 = .ok (.invokestatic 93, 3) := by decide +kernel
theorem d_M_areSo_140 : decode c_M_areSo 140 = .ok (.ifCond .eq 44, 3) := by decide +kernel
theorem d_M_areSo_143 : decode c_M_areSo 143 = .ok (.iload_n 2, 1) := by decide +kernel
theorem d_M_areSo_144 : decode c_M_areSo 144 = .ok (.i2l, 1) := by decide +kernel
theorem d_M_areSo_145 : decode c_M_areSo 145 = .ok (.lconst 1, 1) := by decide +kernel
theorem d_M_areSo_146 : decode c_M_areSo 146 = .ok (.ldc2_w 103, 3) := by decide +kernel
theorem d_M_areSo_149 : decode c_M_areSo 149 = .ok (.invokestatic 93, 3) := by decide +kernel
theorem d_M_areSo_152 : decode c_M_areSo 152 = .ok (.ifCond .eq 32, 3) := by decide +kernel
theorem d_M_areSo_155 : decode c_M_areSo 155 = .ok (.iload_n 3, 1) := by decide +kernel
theorem d_M_areSo_156 : decode c_M_areSo 156 = .ok (.i2l, 1) := by decide +kernel
theorem d_M_areSo_157 : decode c_M_areSo 157 = .ok (.lconst 0, 1) := by decide +kernel
theorem d_M_areSo_158 : decode c_M_areSo 158 = .ok (.ldc2_w 119, 3) := by decide +kernel
theorem d_M_areSo_161 : decode c_M_areSo 161 = .ok (.invokestatic 93, 3) := by decide +kernel
theorem d_M_areSo_164 : decode c_M_areSo 164 = .ok (.ifCond .eq 20, 3) := by decide +kernel
theorem d_M_areSo_167 : decode c_M_areSo 167 = .ok (.iload 4, 2) := by decide +kernel
theorem d_M_areSo_169 : decode c_M_areSo 169 = .ok (.i2l, 1) := by decide +kernel
theorem d_M_areSo_170 : decode c_M_areSo 170 = .ok (.lconst 0, 1) := by decide +kernel
theorem d_M_areSo_171 : decode c_M_areSo 171 = .ok (.ldc2_w 103, 3) := by decide +kernel
theorem d_M_areSo_174 : decode c_M_areSo 174 = .ok (.invokestatic 93, 3) := by decide +kernel
theorem d_M_areSo_177 : decode c_M_areSo 177 = .ok (.ifCond .eq 7, 3) := by decide +kernel
theorem d_M_areSo_180 : decode c_M_areSo 180 = .ok (.iconst 1, 1) := by decide +kernel
theorem d_M_areSo_181 : decode c_M_areSo 181 = .ok (.goto 4, 3) := by decide +kernel
theorem d_M_areSo_184 : decode c_M_areSo 184 = .ok (.iconst 0, 1) := by decide +kernel
theorem d_M_areSo_185 : decode c_M_areSo 185 = .ok (.ireturn, 1) := by decide +kernel
theorem d_M_counts_0 : decode c_M_counts 0 = .ok (.aload_n 0, 1) := by decide +kernel
theorem d_M_counts_1 : decode c_M_counts 1 = .ok (.getfield 31, 3) := by decide +kernel
theorem d_M_counts_4 : decode c_M_counts 4 = .ok (.iload_n 1, 1) := by decide +kernel
theorem d_M_counts_5 : decode c_M_counts 5 = .ok (.baload, 1) := by decide +kernel
theorem d_M_counts_6 : decode c_M_counts 6 = .ok (.ifCond .ne 16, 3) := by decide +kernel
theorem d_M_counts_9 : decode c_M_counts 9 = .ok (.aload_n 0, 1) := by decide +kernel
theorem d_M_counts_10 : decode c_M_counts 10 = .ok (.iload_n 1, 1) := by decide +kernel
theorem d_M_counts_11 : decode c_M_counts 11 = .ok (.invokevirtual 141, 3) := by decide +kernel
theorem d_M_counts_14 : decode c_M_counts 14 = .ok (.iload_n 2, 1) := by decide +kernel
theorem d_M_counts_15 : decode c_M_counts 15 = .ok (.if_icmp .ne 7, 3) := by decide +kernel
theorem d_M_counts_18 : decode c_M_counts 18 = .ok (.iconst 1, 1) := by decide +kernel
theorem d_M_counts_19 : decode c_M_counts 19 = .ok (.goto 4, 3) := by decide +kernel
theorem d_M_counts_22 : decode c_M_counts 22 = .ok (.iconst 0, 1) := by decide +kernel
theorem d_M_counts_23 : decode c_M_counts 23 = .ok (.ireturn, 1) := by decide +kernel
theorem d_M_dissolve_0 : decode c_M_dissolve 0 = .ok (.iload_n 1, 1) := by decide +kernel
theorem d_M_dissolve_1 : decode c_M_dissolve 1 = .ok (.i2l, 1) := by decide +kernel
theorem d_M_dissolve_2 : decode c_M_dissolve 2 = .ok (.lconst 1, 1) := by decide +kernel
theorem d_M_dissolve_3 : decode c_M_dissolve 3 = .ok (.ldc2_w 134, 3) := by decide +kernel
theorem d_M_dissolve_6 : decode c_M_dissolve 6 = .ok (.invokestatic 93, 3) := by decide +kernel
theorem d_M_dissolve_9 : decode c_M_dissolve 9 = .ok (.ifCond .eq 15, 3) := by decide +kernel
theorem d_M_dissolve_12 : decode c_M_dissolve 12 = .ok (.iload_n 2, 1) := by decide +kernel
theorem d_M_dissolve_13 : decode c_M_dissolve 13 = .ok (.i2l, 1) := by decide +kernel
theorem d_M_dissolve_14 : decode c_M_dissolve 14 = .ok (.lconst 0, 1) := by decide +kernel
theorem d_M_dissolve_15 : decode c_M_dissolve 15 = .ok (.ldc2_w 105, 3) := by decide +kernel
theorem d_M_dissolve_18 : decode c_M_dissolve 18 = .ok (.invokestatic 93, 3) := by decide +kernel
theorem d_M_dissolve_21 : decode c_M_dissolve 21 = .ok (.ifCond .ne 7, 3) := by decide +kernel
theorem d_M_dissolve_24 : decode c_M_dissolve 24 = .ok (.iconst 1, 1) := by decide +kernel
theorem d_M_dissolve_25 : decode c_M_dissolve 25 = .ok (.goto 4, 3) := by decide +kernel
theorem d_M_dissolve_28 : decode c_M_dissolve 28 = .ok (.iconst 0, 1) := by decide +kernel
theorem d_M_dissolve_29 : decode c_M_dissolve 29 = .ok (.istore_n 3, 1) := by decide +kernel
theorem d_M_dissolve_30 : decode c_M_dissolve 30 = .ok (.aload_n 0, 1) := by decide +kernel
theorem d_M_dissolve_31 : decode c_M_dissolve 31 = .ok (.iload_n 3, 1) := by decide +kernel
theorem d_M_dissolve_32 : decode c_M_dissolve 32 = .ok (.iload_n 3, 1) := by decide +kernel
theorem d_M_dissolve_33 : decode c_M_dissolve 33 = .ok (.ifCond .ne 16, 3) := by decide +kernel
theorem d_M_dissolve_36 : decode c_M_dissolve 36 = .ok (.aload_n 0, 1) := by decide +kernel
theorem d_M_dissolve_37 : decode c_M_dissolve 37 = .ok (.getfield 57, 3) := by decide +kernel
theorem d_M_dissolve_40 : decode c_M_dissolve 40 = .ok (.iload_n 2, 1) := by decide +kernel
theorem d_M_dissolve_41 : decode c_M_dissolve 41 = .ok (.baload, 1) := by decide +kernel
theorem d_M_dissolve_42 : decode c_M_dissolve 42 = .ok (.ifCond .eq 7, 3) := by decide +kernel
theorem d_M_dissolve_45 : decode c_M_dissolve 45 = .ok (.iconst 1, 1) := by decide +kernel
theorem d_M_dissolve_46 : decode c_M_dissolve 46 = .ok (.goto 4, 3) := by decide +kernel
theorem d_M_dissolve_49 : decode c_M_dissolve 49 = .ok (.iconst 0, 1) := by decide +kernel
theorem d_M_dissolve_50 : decode c_M_dissolve 50 = .ok (.invokevirtual 107, 3) := by decide +kernel
theorem d_M_dissolve_53 : decode c_M_dissolve 53 = .ok (.ifCond .eq 5, 3) := by decide +kernel
theorem d_M_dissolve_56 : decode c_M_dissolve 56 = .ok (.iconst 0, 1) := by decide +kernel
theorem d_M_dissolve_57 : decode c_M_dissolve 57 = .ok (.ireturn, 1) := by decide +kernel
theorem d_M_dissolve_58 : decode c_M_dissolve 58 = .ok (.iconst 0, 1) := by decide +kernel
theorem d_M_dissolve_59 : decode c_M_dissolve 59 = .ok (.istore 4, 2) := by decide +kernel
theorem d_M_dissolve_61 : decode c_M_dissolve 61 = .ok (.iconst 0, 1) := by decide +kernel
theorem d_M_dissolve_62 : decode c_M_dissolve 62 = .ok (.istore 5, 2) := by decide +kernel
theorem d_M_dissolve_64 : decode c_M_dissolve 64 = .ok (.iload 5, 2) := by decide +kernel
theorem d_M_dissolve_66 : decode c_M_dissolve 66 = .ok (.aload_n 0, 1) := by decide +kernel
theorem d_M_dissolve_67 : decode c_M_dissolve 67 = .ok (.getfield 97, 3) := by decide +kernel
theorem d_M_dissolve_70 : decode c_M_dissolve 70 = .ok (.if_icmp .ge 51, 3) := by decide +kernel
theorem d_M_dissolve_73 : decode c_M_dissolve 73 = .ok (.aload_n 0, 1) := by decide +kernel
theorem d_M_dissolve_74 : decode c_M_dissolve 74 = .ok (.getfield 31, 3) := by decide +kernel
theorem d_M_dissolve_77 : decode c_M_dissolve 77 = .ok (.iload 5, 2) := by decide +kernel
theorem d_M_dissolve_79 : decode c_M_dissolve 79 = .ok (.baload, 1) := by decide +kernel
theorem d_M_dissolve_80 : decode c_M_dissolve 80 = .ok (.ifCond .ne 35, 3) := by decide +kernel
theorem d_M_dissolve_83 : decode c_M_dissolve 83 = .ok (.aload_n 0, 1) := by decide +kernel
theorem d_M_dissolve_84 : decode c_M_dissolve 84 = .ok (.getfield 22, 3) := by decide +kernel
theorem d_M_dissolve_87 : decode c_M_dissolve 87 = .ok (.iload 5, 2) := by decide +kernel
theorem d_M_dissolve_89 : decode c_M_dissolve 89 = .ok (.iaload, 1) := by decide +kernel
theorem d_M_dissolve_90 : decode c_M_dissolve 90 = .ok (.iload_n 1, 1) := by decide +kernel
theorem d_M_dissolve_91 : decode c_M_dissolve 91 = .ok (.if_icmp .ne 24, 3) := by decide +kernel
theorem d_M_dissolve_94 : decode c_M_dissolve 94 = .ok (.aload_n 0, 1) := by decide +kernel
theorem d_M_dissolve_95 : decode c_M_dissolve 95 = .ok (.iload 5, 2) := by decide +kernel
theorem d_M_dissolve_97 : decode c_M_dissolve 97 = .ok (.invokevirtual 141, 3) := by decide +kernel
theorem d_M_dissolve_100 : decode c_M_dissolve 100 = .ok (.iload_n 2, 1) := by decide +kernel
theorem d_M_dissolve_101 : decode c_M_dissolve 101 = .ok (.if_icmp .ne 14, 3) := by decide +kernel
theorem d_M_dissolve_104 : decode c_M_dissolve 104 = .ok (.aload_n 0, 1) := by decide +kernel
theorem d_M_dissolve_105 : decode c_M_dissolve 105 = .ok (.getfield 22, 3) := by decide +kernel
theorem d_M_dissolve_108 : decode c_M_dissolve 108 = .ok (.iload 5, 2) := by decide +kernel
theorem d_M_dissolve_110 : decode c_M_dissolve 110 = .ok (.iconst 0, 1) := by decide +kernel
theorem d_M_dissolve_111 : decode c_M_dissolve 111 = .ok (.iastore, 1) := by decide +kernel
theorem d_M_dissolve_112 : decode c_M_dissolve 112 = .ok (.iinc 4 1, 3) := by decide +kernel
theorem d_M_dissolve_115 : decode c_M_dissolve 115 = .ok (.iinc 5 1, 3) := by decide +kernel
theorem d_M_dissolve_118 : decode c_M_dissolve 118 = .ok (.goto (-54), 3) := by decide +kernel
theorem d_M_dissolve_121 : decode c_M_dissolve 121 = .ok (.iload 4, 2) := by decide +kernel
theorem d_M_dissolve_123 : decode c_M_dissolve 123 = .ok (.ireturn, 1) := by decide +kernel
theorem d_M_isClaim_0 : decode c_M_isClaim 0 = .ok (.iload_n 1, 1) := by decide +kernel
theorem d_M_isClaim_1 : decode c_M_isClaim 1 = .ok (.i2l, 1) := by decide +kernel
theorem d_M_isClaim_2 : decode c_M_isClaim 2 = .ok (.lconst 0, 1) := by decide +kernel
theorem d_M_isClaim_3 : decode c_M_isClaim 3 = .ok (.aload_n 0, 1) := by decide +kernel
theorem d_M_isClaim_4 : decode c_M_isClaim 4 = .ok (.getfield 97, 3) := by decide +kernel
theorem d_M_isClaim_7 : decode c_M_isClaim 7 = .ok (.iconst 1, 1) := by decide +kernel
theorem d_M_isClaim_8 : decode c_M_isClaim 8 = .ok (.isub, 1) := by decide +kernel
theorem d_M_isClaim_9 : decode c_M_isClaim 9 = .ok (.i2l, 1) := by decide +kernel
theorem d_M_isClaim_10 : decode c_M_isClaim 10 = .ok (.invokestatic 93, 3) := by decide +kernel
theorem d_M_isClaim_13 : decode c_M_isClaim 13 = .ok (.ireturn, 1) := by decide +kernel
theorem d_M_isRisk_0 : decode c_M_isRisk 0 = .ok (.iload_n 1, 1) := by decide +kernel
theorem d_M_isRisk_1 : decode c_M_isRisk 1 = .ok (.i2l, 1) := by decide +kernel
theorem d_M_isRisk_2 : decode c_M_isRisk 2 = .ok (.lconst 0, 1) := by decide +kernel
theorem d_M_isRisk_3 : decode c_M_isRisk 3 = .ok (.ldc2_w 91, 3) := by decide +kernel
theorem d_M_isRisk_6 : decode c_M_isRisk 6 = .ok (.invokestatic 93, 3) := by decide +kernel
theorem d_M_isRisk_9 : decode c_M_isRisk 9 = .ok (.ifCond .eq 16, 3) := by decide +kernel
theorem d_M_isRisk_12 : decode c_M_isRisk 12 = .ok (.aload_n 0, 1) := by decide +kernel
theorem d_M_isRisk_13 : decode c_M_isRisk 13 = .ok (.getfield 7, 3) := by decide +kernel
theorem d_M_isRisk_16 : decode c_M_isRisk 16 = .ok (.iload_n 1, 1) := by decide +kernel
theorem d_M_isRisk_17 : decode c_M_isRisk 17 = .ok (.iaload, 1) := by decide +kernel
theorem d_M_isRisk_18 : decode c_M_isRisk 18 = .ok (.ifCond .le 7, 3) := by decide +kernel
theorem d_M_isRisk_21 : decode c_M_isRisk 21 = .ok (.iconst 1, 1) := by decide +kernel
theorem d_M_isRisk_22 : decode c_M_isRisk 22 = .ok (.goto 4, 3) := by decide +kernel
theorem d_M_isRisk_25 : decode c_M_isRisk 25 = .ok (.iconst 0, 1) := by decide +kernel
theorem d_M_isRisk_26 : decode c_M_isRisk 26 = .ok (.ireturn, 1) := by decide +kernel
theorem d_M_isTreaty_0 : decode c_M_isTreaty 0 = .ok (.iload_n 1, 1) := by decide +kernel
theorem d_M_isTreaty_1 : decode c_M_isTreaty 1 = .ok (.i2l, 1) := by decide +kernel
theorem d_M_isTreaty_2 : decode c_M_isTreaty 2 = .ok (.lconst 0, 1) := by decide +kernel
theorem d_M_isTreaty_3 : decode c_M_isTreaty 3 = .ok (.aload_n 0, 1) := by decide +kernel
theorem d_M_isTreaty_4 : decode c_M_isTreaty 4 = .ok (.getfield 100, 3) := by decide +kernel
theorem d_M_isTreaty_7 : decode c_M_isTreaty 7 = .ok (.iconst 1, 1) := by decide +kernel
theorem d_M_isTreaty_8 : decode c_M_isTreaty 8 = .ok (.isub, 1) := by decide +kernel
theorem d_M_isTreaty_9 : decode c_M_isTreaty 9 = .ok (.i2l, 1) := by decide +kernel
theorem d_M_isTreaty_10 : decode c_M_isTreaty 10 = .ok (.invokestatic 93, 3) := by decide +kernel
theorem d_M_isTreaty_13 : decode c_M_isTreaty 13 = .ok (.ireturn, 1) := by decide +kernel
theorem d_M_partOf_0 : decode c_M_partOf 0 = .ok (.aload_n 0, 1) := by decide +kernel
theorem d_M_partOf_1 : decode c_M_partOf 1 = .ok (.iload_n 1, 1) := by decide +kernel
theorem d_M_partOf_2 : decode c_M_partOf 2 = .ok (.invokevirtual 144, 3) := by decide +kernel
theorem d_M_partOf_5 : decode c_M_partOf 5 = .ok (.ifCond .ne 52, 3) := by decide +kernel
theorem d_M_partOf_8 : decode c_M_partOf 8 = .ok (.aload_n 0, 1) := by decide +kernel
theorem d_M_partOf_9 : decode c_M_partOf 9 = .ok (.getfield 7, 3) := by decide +kernel
theorem d_M_partOf_12 : decode c_M_partOf 12 = .ok (.iload_n 2, 1) := by decide +kernel
theorem d_M_partOf_13 : decode c_M_partOf 13 = .ok (.iaload, 1) := by decide +kernel
theorem d_M_partOf_14 : decode c_M_partOf 14 = .ok (.aload_n 0, 1) := by decide +kernel
theorem d_M_partOf_15 : decode c_M_partOf 15 = .ok (.getfield 41, 3) := by decide +kernel
theorem d_M_partOf_18 : decode c_M_partOf 18 = .ok (.iload_n 1, 1) := by decide +kernel
theorem d_M_partOf_19 : decode c_M_partOf 19 = .ok (.iaload, 1) := by decide +kernel
theorem d_M_partOf_20 : decode c_M_partOf 20 = .ok (.if_icmp .gt 13, 3) := by decide +kernel
theorem d_M_partOf_23 : decode c_M_partOf 23 = .ok (.aload_n 0, 1) := by decide +kernel
theorem d_M_partOf_24 : decode c_M_partOf 24 = .ok (.getfield 38, 3) := by decide +kernel
theorem d_M_partOf_27 : decode c_M_partOf 27 = .ok (.iload_n 1, 1) := by decide +kernel
theorem d_M_partOf_28 : decode c_M_partOf 28 = .ok (.iaload, 1) := by decide +kernel
theorem d_M_partOf_29 : decode c_M_partOf 29 = .ok (.i2l, 1) := by decide +kernel
theorem d_M_partOf_30 : decode c_M_partOf 30 = .ok (.goto 26, 3) := by decide +kernel
theorem d_M_partOf_33 : decode c_M_partOf 33 = .ok (.aload_n 0, 1) := by decide +kernel
theorem d_M_partOf_34 : decode c_M_partOf 34 = .ok (.getfield 38, 3) := by decide +kernel
theorem d_M_partOf_37 : decode c_M_partOf 37 = .ok (.iload_n 1, 1) := by decide +kernel
theorem d_M_partOf_38 : decode c_M_partOf 38 = .ok (.iaload, 1) := by decide +kernel
theorem d_M_partOf_39 : decode c_M_partOf 39 = .ok (.i2l, 1) := by decide +kernel
theorem d_M_partOf_40 : decode c_M_partOf 40 = .ok (.aload_n 0, 1) := by decide +kernel
theorem d_M_partOf_41 : decode c_M_partOf 41 = .ok (.getfield 41, 3) := by decide +kernel
theorem d_M_partOf_44 : decode c_M_partOf 44 = .ok (.iload_n 1, 1) := by decide +kernel
theorem d_M_partOf_45 : decode c_M_partOf 45 = .ok (.iaload, 1) := by decide +kernel
theorem d_M_partOf_46 : decode c_M_partOf 46 = .ok (.i2l, 1) := by decide +kernel
theorem d_M_partOf_47 : decode c_M_partOf 47 = .ok (.lmul, 1) := by decide +kernel
theorem d_M_partOf_48 : decode c_M_partOf 48 = .ok (.aload_n 0, 1) := by decide +kernel
theorem d_M_partOf_49 : decode c_M_partOf 49 = .ok (.getfield 7, 3) := by decide +kernel
theorem d_M_partOf_52 : decode c_M_partOf 52 = .ok (.iload_n 2, 1) := by decide +kernel
theorem d_M_partOf_53 : decode c_M_partOf 53 = .ok (.iaload, 1) := by decide +kernel
theorem d_M_partOf_54 : decode c_M_partOf 54 = .ok (.i2l, 1) := by decide +kernel
theorem d_M_partOf_55 : decode c_M_partOf 55 = .ok (.ldiv, 1) := by decide +kernel
theorem d_M_partOf_56 : decode c_M_partOf 56 = .ok (.lreturn, 1) := by decide +kernel
theorem d_M_partOf_57 : decode c_M_partOf 57 = .ok (.aload_n 0, 1) := by decide +kernel
theorem d_M_partOf_58 : decode c_M_partOf 58 = .ok (.getfield 7, 3) := by decide +kernel
theorem d_M_partOf_61 : decode c_M_partOf 61 = .ok (.iload_n 2, 1) := by decide +kernel
theorem d_M_partOf_62 : decode c_M_partOf 62 = .ok (.iaload, 1) := by decide +kernel
theorem d_M_partOf_63 : decode c_M_partOf 63 = .ok (.aload_n 0, 1) := by decide +kernel
theorem d_M_partOf_64 : decode c_M_partOf 64 = .ok (.getfield 38, 3) := by decide +kernel
theorem d_M_partOf_67 : decode c_M_partOf 67 = .ok (.iload_n 1, 1) := by decide +kernel
theorem d_M_partOf_68 : decode c_M_partOf 68 = .ok (.iaload, 1) := by decide +kernel
theorem d_M_partOf_69 : decode c_M_partOf 69 = .ok (.if_icmp .le 20, 3) := by decide +kernel
theorem d_M_partOf_72 : decode c_M_partOf 72 = .ok (.aload_n 0, 1) := by decide +kernel
theorem d_M_partOf_73 : decode c_M_partOf 73 = .ok (.getfield 7, 3) := by decide +kernel
theorem d_M_partOf_76 : decode c_M_partOf 76 = .ok (.iload_n 2, 1) := by decide +kernel
theorem d_M_partOf_77 : decode c_M_partOf 77 = .ok (.iaload, 1) := by decide +kernel
theorem d_M_partOf_78 : decode c_M_partOf 78 = .ok (.aload_n 0, 1) := by decide +kernel
theorem d_M_partOf_79 : decode c_M_partOf 79 = .ok (.getfield 38, 3) := by decide +kernel
theorem d_M_partOf_82 : decode c_M_partOf 82 = .ok (.iload_n 1, 1) := by decide +kernel
theorem d_M_partOf_83 : decode c_M_partOf 83 = .ok (.iaload, 1) := by decide +kernel
theorem d_M_partOf_84 : decode c_M_partOf 84 = .ok (.isub, 1) := by decide +kernel
theorem d_M_partOf_85 : decode c_M_partOf 85 = .ok (.i2l, 1) := by decide +kernel
theorem d_M_partOf_86 : decode c_M_partOf 86 = .ok (.goto 4, 3) := by decide +kernel
theorem d_M_partOf_89 : decode c_M_partOf 89 = .ok (.lconst 0, 1) := by decide +kernel
theorem d_M_partOf_90 : decode c_M_partOf 90 = .ok (.lstore_n 3, 1) := by decide +kernel
theorem d_M_partOf_91 : decode c_M_partOf 91 = .ok (.aload_n 0, 1) := by decide +kernel
theorem d_M_partOf_92 : decode c_M_partOf 92 = .ok (.getfield 38, 3) := by decide +kernel
theorem d_M_partOf_95 : decode c_M_partOf 95 = .ok (.iload_n 1, 1) := by decide +kernel
theorem d_M_partOf_96 : decode c_M_partOf 96 = .ok (.iaload, 1) := by decide +kernel
theorem d_M_partOf_97 : decode c_M_partOf 97 = .ok (.i2l, 1) := by decide +kernel
theorem d_M_partOf_98 : decode c_M_partOf 98 = .ok (.aload_n 0, 1) := by decide +kernel
theorem d_M_partOf_99 : decode c_M_partOf 99 = .ok (.getfield 41, 3) := by decide +kernel
theorem d_M_partOf_102 : decode c_M_partOf 102 = .ok (.iload_n 1, 1) := by decide +kernel
theorem d_M_partOf_103 : decode c_M_partOf 103 = .ok (.iaload, 1) := by decide +kernel
theorem d_M_partOf_104 : decode c_M_partOf 104 = .ok (.i2l, 1) := by decide +kernel
theorem d_M_partOf_105 : decode c_M_partOf 105 = .ok (.lmul, 1) := by decide +kernel
theorem d_M_partOf_106 : decode c_M_partOf 106 = .ok (.lstore 5, 2) := by decide +kernel
theorem d_M_partOf_108 : decode c_M_partOf 108 = .ok (.ldc2_w 115, 3) := by decide +kernel
theorem d_M_partOf_111 : decode c_M_partOf 111 = .ok (.lload_n 3, 1) := by decide +kernel
theorem d_M_partOf_112 : decode c_M_partOf 112 = .ok (.lload 5, 2) := by decide +kernel
theorem d_M_partOf_114 : decode c_M_partOf 114 = .ok (.lcmp, 1) := by decide +kernel
theorem d_M_partOf_115 : decode c_M_partOf 115 = .ok (.ifCond .ge 7, 3) := by decide +kernel
theorem d_M_partOf_118 : decode c_M_partOf 118 = .ok (.lload_n 3, 1) := by decide +kernel
theorem d_M_partOf_119 : decode c_M_partOf 119 = .ok (.goto 5, 3) := by decide +kernel
theorem d_M_partOf_122 : decode c_M_partOf 122 = .ok (.lload 5, 2) := by decide +kernel
theorem d_M_partOf_124 : decode c_M_partOf 124 = .ok (.lmul, 1) := by decide +kernel
theorem d_M_partOf_125 : decode c_M_partOf 125 = .ok (.aload_n 0, 1) := by decide +kernel
theorem d_M_partOf_126 : decode c_M_partOf 126 = .ok (.getfield 7, 3) := by decide +kernel
theorem d_M_partOf_129 : decode c_M_partOf 129 = .ok (.iload_n 2, 1) := by decide +kernel
theorem d_M_partOf_130 : decode c_M_partOf 130 = .ok (.iaload, 1) := by decide +kernel
theorem d_M_partOf_131 : decode c_M_partOf 131 = .ok (.i2l, 1) := by decide +kernel
theorem d_M_partOf_132 : decode c_M_partOf 132 = .ok (.ldiv, 1) := by decide +kernel
theorem d_M_partOf_133 : decode c_M_partOf 133 = .ok (.lreturn, 1) := by decide +kernel
theorem d_M_ratio_0 : decode c_M_ratio 0 = .ok (.aload_n 0, 1) := by decide +kernel
theorem d_M_ratio_1 : decode c_M_ratio 1 = .ok (.iload_n 1, 1) := by decide +kernel
theorem d_M_ratio_2 : decode c_M_ratio 2 = .ok (.invokevirtual 144, 3) := by decide +kernel
theorem d_M_ratio_5 : decode c_M_ratio 5 = .ok (.iconst 1, 1) := by decide +kernel
theorem d_M_ratio_6 : decode c_M_ratio 6 = .ok (.if_icmp .gt 14, 3) := by decide +kernel
theorem d_M_ratio_9 : decode c_M_ratio 9 = .ok (.aload_n 0, 1) := by decide +kernel
theorem d_M_ratio_10 : decode c_M_ratio 10 = .ok (.getfield 69, 3) := by decide +kernel
theorem d_M_ratio_13 : decode c_M_ratio 13 = .ok (.iload_n 1, 1) := by decide +kernel
theorem d_M_ratio_14 : decode c_M_ratio 14 = .ok (.laload, 1) := by decide +kernel
theorem d_M_ratio_15 : decode c_M_ratio 15 = .ok (.lconst 0, 1) := by decide +kernel
theorem d_M_ratio_16 : decode c_M_ratio 16 = .ok (.lcmp, 1) := by decide +kernel
theorem d_M_ratio_17 : decode c_M_ratio 17 = .ok (.ifCond .ne 5, 3) := by decide +kernel
theorem d_M_ratio_20 : decode c_M_ratio 20 = .ok (.lconst 0, 1) := by decide +kernel
theorem d_M_ratio_21 : decode c_M_ratio 21 = .ok (.lreturn, 1) := by decide +kernel
theorem d_M_ratio_22 : decode c_M_ratio 22 = .ok (.aload_n 0, 1) := by decide +kernel
theorem d_M_ratio_23 : decode c_M_ratio 23 = .ok (.getfield 66, 3) := by decide +kernel
theorem d_M_ratio_26 : decode c_M_ratio 26 = .ok (.iload_n 1, 1) := by decide +kernel
theorem d_M_ratio_27 : decode c_M_ratio 27 = .ok (.laload, 1) := by decide +kernel
theorem d_M_ratio_28 : decode c_M_ratio 28 = .ok (.ldc2_w 115, 3) := by decide +kernel
theorem d_M_ratio_31 : decode c_M_ratio 31 = .ok (.lmul, 1) := by decide +kernel
theorem d_M_ratio_32 : decode c_M_ratio 32 = .ok (.aload_n 0, 1) := by decide +kernel
theorem d_M_ratio_33 : decode c_M_ratio 33 = .ok (.getfield 69, 3) := by decide +kernel
theorem d_M_ratio_36 : decode c_M_ratio 36 = .ok (.iload_n 1, 1) := by decide +kernel
theorem d_M_ratio_37 : decode c_M_ratio 37 = .ok (.laload, 1) := by decide +kernel
theorem d_M_ratio_38 : decode c_M_ratio 38 = .ok (.ldiv, 1) := by decide +kernel
theorem d_M_ratio_39 : decode c_M_ratio 39 = .ok (.lstore_n 2, 1) := by decide +kernel
theorem d_M_ratio_40 : decode c_M_ratio 40 = .ok (.lload_n 2, 1) := by decide +kernel
theorem d_M_ratio_41 : decode c_M_ratio 41 = .ok (.ldc2_w 197, 3) := by decide +kernel
theorem d_M_ratio_44 : decode c_M_ratio 44 = .ok (.lcmp, 1) := by decide +kernel
theorem d_M_ratio_45 : decode c_M_ratio 45 = .ok (.ifCond .ge 7, 3) := by decide +kernel
theorem d_M_ratio_48 : decode c_M_ratio 48 = .ok (.lload_n 2, 1) := by decide +kernel
theorem d_M_ratio_49 : decode c_M_ratio 49 = .ok (.goto 6, 3) := by decide +kernel
theorem d_M_ratio_52 : decode c_M_ratio 52 = .ok (.ldc2_w 197, 3) := by decide +kernel
theorem d_M_ratio_55 : decode c_M_ratio 55 = .ok (.lreturn, 1) := by decide +kernel
theorem d_M_reinstatement_0 : decode c_M_reinstatement 0 = .ok (.aload_n 0, 1) := by decide +kernel
theorem d_M_reinstatement_1 : decode c_M_reinstatement 1 = .ok (.iload_n 1, 1) := by decide +kernel
theorem d_M_reinstatement_2 : decode c_M_reinstatement 2 = .ok (.invokevirtual 144, 3) := by decide +kernel
theorem d_M_reinstatement_5 : decode c_M_reinstatement 5 = .ok (.iconst 2, 1) := by decide +kernel
theorem d_M_reinstatement_6 : decode c_M_reinstatement 6 = .ok (.if_icmp .eq 14, 3) := by decide +kernel
theorem d_M_reinstatement_9 : decode c_M_reinstatement 9 = .ok (.aload_n 0, 1) := by decide +kernel
theorem d_M_reinstatement_10 : decode c_M_reinstatement 10 = .ok (.iload_n 1, 1) := by decide +kernel
theorem d_M_reinstatement_11 : decode c_M_reinstatement 11 = .ok (.invokevirtual 144, 3) := by decide +kernel
theorem d_M_reinstatement_14 : decode c_M_reinstatement 14 = .ok (.iconst 3, 1) := by decide +kernel
theorem d_M_reinstatement_15 : decode c_M_reinstatement 15 = .ok (.if_icmp .eq 5, 3) := by decide +kernel
theorem d_M_reinstatement_18 : decode c_M_reinstatement 18 = .ok (.lconst 0, 1) := by decide +kernel
theorem d_M_reinstatement_19 : decode c_M_reinstatement 19 = .ok (.lreturn, 1) := by decide +kernel
theorem d_M_reinstatement_20 : decode c_M_reinstatement 20 = .ok (.aload_n 0, 1) := by decide +kernel
theorem d_M_reinstatement_21 : decode c_M_reinstatement 21 = .ok (.getfield 41, 3) := by decide +kernel
theorem d_M_reinstatement_24 : decode c_M_reinstatement 24 = .ok (.iload_n 1, 1) := by decide +kernel
theorem d_M_reinstatement_25 : decode c_M_reinstatement 25 = .ok (.iaload, 1) := by decide +kernel
theorem d_M_reinstatement_26 : decode c_M_reinstatement 26 = .ok (.i2l, 1) := by decide +kernel
theorem d_M_reinstatement_27 : decode c_M_reinstatement 27 = .ok (.aload_n 0, 1) := by decide +kernel
theorem d_M_reinstatement_28 : decode c_M_reinstatement 28 = .ok (.getfield 44, 3) := by decide +kernel
theorem d_M_reinstatement_31 : decode c_M_reinstatement 31 = .ok (.iload_n 1, 1) := by decide +kernel
theorem d_M_reinstatement_32 : decode c_M_reinstatement 32 = .ok (.iaload, 1) := by decide +kernel
theorem d_M_reinstatement_33 : decode c_M_reinstatement 33 = .ok (.i2l, 1) := by decide +kernel
theorem d_M_reinstatement_34 : decode c_M_reinstatement 34 = .ok (.lmul, 1) := by decide +kernel
theorem d_M_reinstatement_35 : decode c_M_reinstatement 35 = .ok (.lstore_n 3, 1) := by decide +kernel
theorem d_M_reinstatement_36 : decode c_M_reinstatement 36 = .ok (.aload_n 0, 1) := by decide +kernel
theorem d_M_reinstatement_37 : decode c_M_reinstatement 37 = .ok (.getfield 66, 3) := by decide +kernel
theorem d_M_reinstatement_40 : decode c_M_reinstatement 40 = .ok (.iload_n 1, 1) := by decide +kernel
theorem d_M_reinstatement_41 : decode c_M_reinstatement 41 = .ok (.laload, 1) := by decide +kernel
theorem d_M_reinstatement_42 : decode c_M_reinstatement 42 = .ok (.lload_n 3, 1) := by decide +kernel
theorem d_M_reinstatement_43 : decode c_M_reinstatement 43 = .ok (.lcmp, 1) := by decide +kernel
theorem d_M_reinstatement_44 : decode c_M_reinstatement 44 = .ok (.ifCond .ge 12, 3) := by decide +kernel
theorem d_M_reinstatement_47 : decode c_M_reinstatement 47 = .ok (.aload_n 0, 1) := by decide +kernel
theorem d_M_reinstatement_48 : decode c_M_reinstatement 48 = .ok (.getfield 66, 3) := by decide +kernel
theorem d_M_reinstatement_51 : decode c_M_reinstatement 51 = .ok (.iload_n 1, 1) := by decide +kernel
theorem d_M_reinstatement_52 : decode c_M_reinstatement 52 = .ok (.laload, 1) := by decide +kernel
theorem d_M_reinstatement_53 : decode c_M_reinstatement 53 = .ok (.goto 4, 3) := by decide +kernel
theorem d_M_reinstatement_56 : decode c_M_reinstatement 56 = .ok (.lload_n 3, 1) := by decide +kernel
theorem d_M_reinstatement_57 : decode c_M_reinstatement 57 = .ok (.lstore 5, 2) := by decide +kernel
theorem d_M_reinstatement_59 : decode c_M_reinstatement 59 = .ok (.aload_n 0, 1) := by decide +kernel
theorem d_M_reinstatement_60 : decode c_M_reinstatement 60 = .ok (.iload_n 1, 1) := by decide +kernel
theorem d_M_reinstatement_61 : decode c_M_reinstatement 61 = .ok (.iload_n 2, 1) := by decide +kernel
theorem d_M_reinstatement_62 : decode c_M_reinstatement 62 = .ok (.aload_n 0, 1) := by decide +kernel
theorem d_M_reinstatement_63 : decode c_M_reinstatement 63 = .ok (.getfield 41, 3) := by decide +kernel
theorem d_M_reinstatement_66 : decode c_M_reinstatement 66 = .ok (.iload_n 1, 1) := by decide +kernel
theorem d_M_reinstatement_67 : decode c_M_reinstatement 67 = .ok (.iaload, 1) := by decide +kernel
theorem d_M_reinstatement_68 : decode c_M_reinstatement 68 = .ok (.i2l, 1) := by decide +kernel
theorem d_M_reinstatement_69 : decode c_M_reinstatement 69 = .ok (.ldc2_w 136, 3) := by decide +kernel
theorem d_M_reinstatement_72 : decode c_M_reinstatement 72 = .ok (.lmul, 1) := by decide +kernel
theorem d_M_reinstatement_73 : decode c_M_reinstatement 73 = .ok (.ldc2_w 115, 3) := by decide +kernel
theorem d_M_reinstatement_76 : decode c_M_reinstatement 76 = .ok (.ldiv, 1) := by decide +kernel
theorem d_M_reinstatement_77 : decode c_M_reinstatement 77 = .ok (.lload 5, 2) := by decide +kernel
theorem d_M_reinstatement_79 : decode c_M_reinstatement 79 = .ok (.lmul, 1) := by decide +kernel
theorem d_M_reinstatement_80 : decode c_M_reinstatement 80 = .ok (.aload_n 0, 1) := by decide +kernel
theorem d_M_reinstatement_81 : decode c_M_reinstatement 81 = .ok (.getfield 41, 3) := by decide +kernel
theorem d_M_reinstatement_84 : decode c_M_reinstatement 84 = .ok (.iload_n 1, 1) := by decide +kernel
theorem d_M_reinstatement_85 : decode c_M_reinstatement 85 = .ok (.iaload, 1) := by decide +kernel
theorem d_M_reinstatement_86 : decode c_M_reinstatement 86 = .ok (.i2l, 1) := by decide +kernel
theorem d_M_reinstatement_87 : decode c_M_reinstatement 87 = .ok (.ldiv, 1) := by decide +kernel
theorem d_M_reinstatement_88 : decode c_M_reinstatement 88 = .ok (.invokevirtual 210, 3) := by decide +kernel
theorem d_M_reinstatement_91 : decode c_M_reinstatement 91 = .ok (.lreturn, 1) := by decide +kernel
theorem d_M_risk_0 : decode c_M_risk 0 = .ok (.iload_n 1, 1) := by decide +kernel
theorem d_M_risk_1 : decode c_M_risk 1 = .ok (.i2l, 1) := by decide +kernel
theorem d_M_risk_2 : decode c_M_risk 2 = .ok (.lconst 0, 1) := by decide +kernel
theorem d_M_risk_3 : decode c_M_risk 3 = .ok (.ldc2_w 91, 3) := by decide +kernel
theorem d_M_risk_6 : decode c_M_risk 6 = .ok (.invokestatic 93, 3) := by decide +kernel
theorem d_M_risk_9 : decode c_M_risk 9 = .ok (.ifCond .eq 27, 3) := by decide +kernel
theorem d_M_risk_12 : decode c_M_risk 12 = .ok (.iload_n 2, 1) := by decide +kernel
theorem d_M_risk_13 : decode c_M_risk 13 = .ok (.i2l, 1) := by decide +kernel
theorem d_M_risk_14 : decode c_M_risk 14 = .ok (.lconst 1, 1) := by decide +kernel
theorem d_M_risk_15 : decode c_M_risk 15 = .ok (.ldc2_w 103, 3) := by decide +kernel
theorem d_M_risk_18 : decode c_M_risk 18 = .ok (.invokestatic 93, 3) := by decide +kernel
theorem d_M_risk_21 : decode c_M_risk 21 = .ok (.ifCond .eq 15, 3) := by decide +kernel
theorem d_M_risk_24 : decode c_M_risk 24 = .ok (.iload_n 3, 1) := by decide +kernel
theorem d_M_risk_25 : decode c_M_risk 25 = .ok (.i2l, 1) := by decide +kernel
theorem d_M_risk_26 : decode c_M_risk 26 = .ok (.lconst 0, 1) := by decide +kernel
theorem d_M_risk_27 : decode c_M_risk 27 = .ok (.ldc2_w 105, 3) := by decide +kernel
theorem d_M_risk_30 : decode c_M_risk 30 = .ok (.invokestatic 93, 3) := by decide +kernel
theorem d_M_risk_33 : decode c_M_risk 33 = .ok (.ifCond .ne 7, 3) := by decide +kernel
theorem d_M_risk_36 : decode c_M_risk 36 = .ok (.iconst 1, 1) := by decide +kernel
theorem d_M_risk_37 : decode c_M_risk 37 = .ok (.goto 4, 3) := by decide +kernel
theorem d_M_risk_40 : decode c_M_risk 40 = .ok (.iconst 0, 1) := by decide +kernel
theorem d_M_risk_41 : decode c_M_risk 41 = .ok (.istore 4, 2) := by decide +kernel
theorem d_M_risk_43 : decode c_M_risk 43 = .ok (.aload_n 0, 1) := by decide +kernel
theorem d_M_risk_44 : decode c_M_risk 44 = .ok (.iload 4, 2) := by decide +kernel
theorem d_M_risk_46 : decode c_M_risk 46 = .ok (.iload 4, 2) := by decide +kernel
theorem d_M_risk_48 : decode c_M_risk 48 = .ok (.ifCond .ne 25, 3) := by decide +kernel
theorem d_M_risk_51 : decode c_M_risk 51 = .ok (.aload_n 0, 1) := by decide +kernel
theorem d_M_risk_52 : decode c_M_risk 52 = .ok (.getfield 7, 3) := by decide +kernel
theorem d_M_risk_55 : decode c_M_risk 55 = .ok (.iload_n 1, 1) := by decide +kernel
theorem d_M_risk_56 : decode c_M_risk 56 = .ok (.iaload, 1) := by decide +kernel
theorem d_M_risk_57 : decode c_M_risk 57 = .ok (.ifCond .gt 12, 3) := by decide +kernel
theorem d_M_risk_60 : decode c_M_risk 60 = .ok (.aload_n 0, 1) := by decide +kernel
theorem d_M_risk_61 : decode c_M_risk 61 = .ok (.getfield 57, 3) := by decide +kernel
theorem d_M_risk_64 : decode c_M_risk 64 = .ok (.iload_n 3, 1) := by decide +kernel
theorem d_M_risk_65 : decode c_M_risk 65 = .ok (.baload, 1) := by decide +kernel
theorem d_M_risk_66 : decode c_M_risk 66 = .ok (.ifCond .eq 7, 3) := by decide +kernel
theorem d_M_risk_69 : decode c_M_risk 69 = .ok (.iconst 1, 1) := by decide +kernel
theorem d_M_risk_70 : decode c_M_risk 70 = .ok (.goto 4, 3) := by decide +kernel
theorem d_M_risk_73 : decode c_M_risk 73 = .ok (.iconst 0, 1) := by decide +kernel
theorem d_M_risk_74 : decode c_M_risk 74 = .ok (.invokevirtual 107, 3) := by decide +kernel
theorem d_M_risk_77 : decode c_M_risk 77 = .ok (.ifCond .eq 4, 3) := by decide +kernel
theorem d_M_risk_80 : decode c_M_risk 80 = .ok (.return_, 1) := by decide +kernel
theorem d_M_risk_81 : decode c_M_risk 81 = .ok (.aload_n 0, 1) := by decide +kernel
theorem d_M_risk_82 : decode c_M_risk 82 = .ok (.getfield 7, 3) := by decide +kernel
theorem d_M_risk_85 : decode c_M_risk 85 = .ok (.iload_n 1, 1) := by decide +kernel
theorem d_M_risk_86 : decode c_M_risk 86 = .ok (.iload_n 2, 1) := by decide +kernel
theorem d_M_risk_87 : decode c_M_risk 87 = .ok (.iastore, 1) := by decide +kernel
theorem d_M_risk_88 : decode c_M_risk 88 = .ok (.aload_n 0, 1) := by decide +kernel
theorem d_M_risk_89 : decode c_M_risk 89 = .ok (.getfield 16, 3) := by decide +kernel
theorem d_M_risk_92 : decode c_M_risk 92 = .ok (.iload_n 1, 1) := by decide +kernel
theorem d_M_risk_93 : decode c_M_risk 93 = .ok (.iload_n 3, 1) := by decide +kernel
theorem d_M_risk_94 : decode c_M_risk 94 = .ok (.iastore, 1) := by decide +kernel
theorem d_M_risk_95 : decode c_M_risk 95 = .ok (.return_, 1) := by decide +kernel
theorem d_M_spread_0 : decode c_M_spread 0 = .ok (.lload 4, 2) := by decide +kernel
theorem d_M_spread_2 : decode c_M_spread 2 = .ok (.lconst 0, 1) := by decide +kernel
theorem d_M_spread_3 : decode c_M_spread 3 = .ok (.lcmp, 1) := by decide +kernel
theorem d_M_spread_4 : decode c_M_spread 4 = .ok (.ifCond .ne 4, 3) := by decide +kernel
theorem d_M_spread_7 : decode c_M_spread 7 = .ok (.return_, 1) := by decide +kernel
theorem d_M_spread_8 : decode c_M_spread 8 = .ok (.lload_n 2, 1) := by decide +kernel
theorem d_M_spread_9 : decode c_M_spread 9 = .ok (.lstore 6, 2) := by decide +kernel
theorem d_M_spread_11 : decode c_M_spread 11 = .ok (.iconst 0, 1) := by decide +kernel
theorem d_M_spread_12 : decode c_M_spread 12 = .ok (.istore 8, 2) := by decide +kernel
theorem d_M_spread_14 : decode c_M_spread 14 = .ok (.iload 8, 2) := by decide +kernel
theorem d_M_spread_16 : decode c_M_spread 16 = .ok (.aload_n 0, 1) := by decide +kernel
theorem d_M_spread_17 : decode c_M_spread 17 = .ok (.getfield 97, 3) := by decide +kernel
theorem d_M_spread_20 : decode c_M_spread 20 = .ok (.if_icmp .ge 71, 3) := by decide +kernel
theorem d_M_spread_23 : decode c_M_spread 23 = .ok (.aload_n 0, 1) := by decide +kernel
theorem d_M_spread_24 : decode c_M_spread 24 = .ok (.getfield 81, 3) := by decide +kernel
theorem d_M_spread_27 : decode c_M_spread 27 = .ok (.iload 8, 2) := by decide +kernel
theorem d_M_spread_29 : decode c_M_spread 29 = .ok (.aload_n 0, 1) := by decide +kernel
theorem d_M_spread_30 : decode c_M_spread 30 = .ok (.getfield 78, 3) := by decide +kernel
theorem d_M_spread_33 : decode c_M_spread 33 = .ok (.iload 8, 2) := by decide +kernel
theorem d_M_spread_35 : decode c_M_spread 35 = .ok (.baload, 1) := by decide +kernel
theorem d_M_spread_36 : decode c_M_spread 36 = .ok (.ifCond .eq 18, 3) := by decide +kernel
theorem d_M_spread_39 : decode c_M_spread 39 = .ok (.aload_n 0, 1) := by decide +kernel
theorem d_M_spread_40 : decode c_M_spread 40 = .ok (.getfield 60, 3) := by decide +kernel
theorem d_M_spread_43 : decode c_M_spread 43 = .ok (.iload 8, 2) := by decide +kernel
theorem d_M_spread_45 : decode c_M_spread 45 = .ok (.laload, 1) := by decide +kernel
theorem d_M_spread_46 : decode c_M_spread 46 = .ok (.lload_n 2, 1) := by decide +kernel
theorem d_M_spread_47 : decode c_M_spread 47 = .ok (.lmul, 1) := by decide +kernel
theorem d_M_spread_48 : decode c_M_spread 48 = .ok (.lload 4, 2) := by decide +kernel
theorem d_M_spread_50 : decode c_M_spread 50 = .ok (.lrem, 1) := by decide +kernel
theorem d_M_spread_51 : decode c_M_spread 51 = .ok (.goto 6, 3) := by decide +kernel
theorem d_M_spread_54 : decode c_M_spread 54 = .ok (.ldc2_w 154, 3) := by decide +kernel
theorem d_M_spread_57 : decode c_M_spread 57 = .ok (.lastore, 1) := by decide +kernel
theorem d_M_spread_58 : decode c_M_spread 58 = .ok (.aload_n 0, 1) := by decide +kernel
theorem d_M_spread_59 : decode c_M_spread 59 = .ok (.getfield 78, 3) := by decide +kernel
theorem d_M_spread_62 : decode c_M_spread 62 = .ok (.iload 8, 2) := by decide +kernel
theorem d_M_spread_64 : decode c_M_spread 64 = .ok (.baload, 1) := by decide +kernel
theorem d_M_spread_65 : decode c_M_spread 65 = .ok (.ifCond .eq 20, 3) := by decide +kernel
theorem d_M_spread_68 : decode c_M_spread 68 = .ok (.lload 6, 2) := by decide +kernel
theorem d_M_spread_70 : decode c_M_spread 70 = .ok (.aload_n 0, 1) := by decide +kernel
theorem d_M_spread_71 : decode c_M_spread 71 = .ok (.getfield 60, 3) := by decide +kernel
theorem d_M_spread_74 : decode c_M_spread 74 = .ok (.iload 8, 2) := by decide +kernel
theorem d_M_spread_76 : decode c_M_spread 76 = .ok (.laload, 1) := by decide +kernel
theorem d_M_spread_77 : decode c_M_spread 77 = .ok (.lload_n 2, 1) := by decide +kernel
theorem d_M_spread_78 : decode c_M_spread 78 = .ok (.lmul, 1) := by decide +kernel
theorem d_M_spread_79 : decode c_M_spread 79 = .ok (.lload 4, 2) := by decide +kernel
theorem d_M_spread_81 : decode c_M_spread 81 = .ok (.ldiv, 1) := by decide +kernel
theorem d_M_spread_82 : decode c_M_spread 82 = .ok (.lsub, 1) := by decide +kernel
theorem d_M_spread_83 : decode c_M_spread 83 = .ok (.lstore 6, 2) := by decide +kernel
theorem d_M_spread_85 : decode c_M_spread 85 = .ok (.iinc 8 1, 3) := by decide +kernel
theorem d_M_spread_88 : decode c_M_spread 88 = .ok (.goto (-74), 3) := by decide +kernel
theorem d_M_spread_91 : decode c_M_spread 91 = .ok (.iconst 0, 1) := by decide +kernel
theorem d_M_spread_92 : decode c_M_spread 92 = .ok (.istore 8, 2) := by decide +kernel
theorem d_M_spread_94 : decode c_M_spread 94 = .ok (.iload 8, 2) := by decide +kernel
theorem d_M_spread_96 : decode c_M_spread 96 = .ok (.aload_n 0, 1) := by decide +kernel
theorem d_M_spread_97 : decode c_M_spread 97 = .ok (.getfield 97, 3) := by decide +kernel
theorem d_M_spread_100 : decode c_M_spread 100 = .ok (.if_icmp .ge 114, 3) := by decide +kernel
theorem d_M_spread_103 : decode c_M_spread 103 = .ok (.aload_n 0, 1) := by decide +kernel
theorem d_M_spread_104 : decode c_M_spread 104 = .ok (.getfield 78, 3) := by decide +kernel
theorem d_M_spread_107 : decode c_M_spread 107 = .ok (.iload 8, 2) := by decide +kernel
theorem d_M_spread_109 : decode c_M_spread 109 = .ok (.baload, 1) := by decide +kernel
theorem d_M_spread_110 : decode c_M_spread 110 = .ok (.ifCond .eq 98, 3) := by decide +kernel
theorem d_M_spread_113 : decode c_M_spread 113 = .ok (.iconst 0, 1) := by decide +kernel
theorem d_M_spread_114 : decode c_M_spread 114 = .ok (.istore 9, 2) := by decide +kernel
theorem d_M_spread_116 : decode c_M_spread 116 = .ok (.iconst 0, 1) := by decide +kernel
theorem d_M_spread_117 : decode c_M_spread 117 = .ok (.istore 10, 2) := by decide +kernel
theorem d_M_spread_119 : decode c_M_spread 119 = .ok (.iload 10, 2) := by decide +kernel
theorem d_M_spread_121 : decode c_M_spread 121 = .ok (.aload_n 0, 1) := by decide +kernel
theorem d_M_spread_122 : decode c_M_spread 122 = .ok (.getfield 97, 3) := by decide +kernel
theorem d_M_spread_125 : decode c_M_spread 125 = .ok (.if_icmp .ge 62, 3) := by decide +kernel
theorem d_M_spread_128 : decode c_M_spread 128 = .ok (.iload 9, 2) := by decide +kernel
theorem d_M_spread_130 : decode c_M_spread 130 = .ok (.aload_n 0, 1) := by decide +kernel
theorem d_M_spread_131 : decode c_M_spread 131 = .ok (.getfield 81, 3) := by decide +kernel
theorem d_M_spread_134 : decode c_M_spread 134 = .ok (.iload 10, 2) := by decide +kernel
theorem d_M_spread_136 : decode c_M_spread 136 = .ok (.laload, 1) := by decide +kernel
theorem d_M_spread_137 : decode c_M_spread 137 = .ok (.aload_n 0, 1) := by decide +kernel
theorem d_M_spread_138 : decode c_M_spread 138 = .ok (.getfield 81, 3) := by decide +kernel
theorem d_M_spread_141 : decode c_M_spread 141 = .ok (.iload 8, 2) := by decide +kernel
theorem d_M_spread_143 : decode c_M_spread 143 = .ok (.laload, 1) := by decide +kernel
theorem d_M_spread_144 : decode c_M_spread 144 = .ok (.lcmp, 1) := by decide +kernel
theorem d_M_spread_145 : decode c_M_spread 145 = .ok (.ifCond .gt 28, 3) := by decide +kernel
theorem d_M_spread_148 : decode c_M_spread 148 = .ok (.aload_n 0, 1) := by decide +kernel
theorem d_M_spread_149 : decode c_M_spread 149 = .ok (.getfield 81, 3) := by decide +kernel
theorem d_M_spread_152 : decode c_M_spread 152 = .ok (.iload 10, 2) := by decide +kernel
theorem d_M_spread_154 : decode c_M_spread 154 = .ok (.laload, 1) := by decide +kernel
theorem d_M_spread_155 : decode c_M_spread 155 = .ok (.aload_n 0, 1) := by decide +kernel
theorem d_M_spread_156 : decode c_M_spread 156 = .ok (.getfield 81, 3) := by decide +kernel
theorem d_M_spread_159 : decode c_M_spread 159 = .ok (.iload 8, 2) := by decide +kernel
theorem d_M_spread_161 : decode c_M_spread 161 = .ok (.laload, 1) := by decide +kernel
theorem d_M_spread_162 : decode c_M_spread 162 = .ok (.lcmp, 1) := by decide +kernel
theorem d_M_spread_163 : decode c_M_spread 163 = .ok (.ifCond .ne 14, 3) := by decide +kernel
theorem d_M_spread_166 : decode c_M_spread 166 = .ok (.iload 10, 2) := by decide +kernel
theorem d_M_spread_168 : decode c_M_spread 168 = .ok (.iload 8, 2) := by decide +kernel
theorem d_M_spread_170 : decode c_M_spread 170 = .ok (.if_icmp .ge 7, 3) := by decide +kernel
theorem d_M_spread_173 : decode c_M_spread 173 = .ok (.iconst 1, 1) := by decide +kernel
theorem d_M_spread_174 : decode c_M_spread 174 = .ok (.goto 4, 3) := by decide +kernel
theorem d_M_spread_177 : decode c_M_spread 177 = .ok (.iconst 0, 1) := by decide +kernel
theorem d_M_spread_178 : decode c_M_spread 178 = .ok (.iadd, 1) := by decide +kernel
theorem d_M_spread_179 : decode c_M_spread 179 = .ok (.istore 9, 2) := by decide +kernel
theorem d_M_spread_181 : decode c_M_spread 181 = .ok (.iinc 10 1, 3) := by decide +kernel
theorem d_M_spread_184 : decode c_M_spread 184 = .ok (.goto (-65), 3) := by decide +kernel
theorem d_M_spread_187 : decode c_M_spread 187 = .ok (.aload_n 0, 1) := by decide +kernel
theorem d_M_spread_188 : decode c_M_spread 188 = .ok (.getfield 84, 3) := by decide +kernel
theorem d_M_spread_191 : decode c_M_spread 191 = .ok (.iload 8, 2) := by decide +kernel
theorem d_M_spread_193 : decode c_M_spread 193 = .ok (.iload 9, 2) := by decide +kernel
theorem d_M_spread_195 : decode c_M_spread 195 = .ok (.i2l, 1) := by decide +kernel
theorem d_M_spread_196 : decode c_M_spread 196 = .ok (.lload 6, 2) := by decide +kernel
theorem d_M_spread_198 : decode c_M_spread 198 = .ok (.lcmp, 1) := by decide +kernel
theorem d_M_spread_199 : decode c_M_spread 199 = .ok (.ifCond .ge 7, 3) := by decide +kernel
theorem d_M_spread_202 : decode c_M_spread 202 = .ok (.iconst 1, 1) := by decide +kernel
theorem d_M_spread_203 : decode c_M_spread 203 = .ok (.goto 4, 3) := by decide +kernel
theorem d_M_spread_206 : decode c_M_spread 206 = .ok (.iconst 0, 1) := by decide +kernel
theorem d_M_spread_207 : decode c_M_spread 207 = .ok (.iastore, 1) := by decide +kernel
theorem d_M_spread_208 : decode c_M_spread 208 = .ok (.iinc 8 1, 3) := by decide +kernel
theorem d_M_spread_211 : decode c_M_spread 211 = .ok (.goto (-117), 3) := by decide +kernel
theorem d_M_spread_214 : decode c_M_spread 214 = .ok (.iconst 0, 1) := by decide +kernel
theorem d_M_spread_215 : decode c_M_spread 215 = .ok (.istore 8, 2) := by decide +kernel
theorem d_M_spread_217 : decode c_M_spread 217 = .ok (.iload 8, 2) := by decide +kernel
theorem d_M_spread_219 : decode c_M_spread 219 = .ok (.aload_n 0, 1) := by decide +kernel
theorem d_M_spread_220 : decode c_M_spread 220 = .ok (.getfield 97, 3) := by decide +kernel
theorem d_M_spread_223 : decode c_M_spread 223 = .ok (.if_icmp .ge 47, 3) := by decide +kernel
theorem d_M_spread_226 : decode c_M_spread 226 = .ok (.aload_n 0, 1) := by decide +kernel
theorem d_M_spread_227 : decode c_M_spread 227 = .ok (.getfield 78, 3) := by decide +kernel
theorem d_M_spread_230 : decode c_M_spread 230 = .ok (.iload 8, 2) := by decide +kernel
theorem d_M_spread_232 : decode c_M_spread 232 = .ok (.baload, 1) := by decide +kernel
theorem d_M_spread_233 : decode c_M_spread 233 = .ok (.ifCond .eq 31, 3) := by decide +kernel
theorem d_M_spread_236 : decode c_M_spread 236 = .ok (.aload_n 0, 1) := by decide +kernel
theorem d_M_spread_237 : decode c_M_spread 237 = .ok (.iload_n 1, 1) := by decide +kernel
theorem d_M_spread_238 : decode c_M_spread 238 = .ok (.iload 8, 2) := by decide +kernel
theorem d_M_spread_240 : decode c_M_spread 240 = .ok (.aload_n 0, 1) := by decide +kernel
theorem d_M_spread_241 : decode c_M_spread 241 = .ok (.getfield 60, 3) := by decide +kernel
theorem d_M_spread_244 : decode c_M_spread 244 = .ok (.iload 8, 2) := by decide +kernel
theorem d_M_spread_246 : decode c_M_spread 246 = .ok (.laload, 1) := by decide +kernel
theorem d_M_spread_247 : decode c_M_spread 247 = .ok (.lload_n 2, 1) := by decide +kernel
theorem d_M_spread_248 : decode c_M_spread 248 = .ok (.lmul, 1) := by decide +kernel
theorem d_M_spread_249 : decode c_M_spread 249 = .ok (.lload 4, 2) := by decide +kernel
theorem d_M_spread_251 : decode c_M_spread 251 = .ok (.ldiv, 1) := by decide +kernel
theorem d_M_spread_252 : decode c_M_spread 252 = .ok (.aload_n 0, 1) := by decide +kernel
theorem d_M_spread_253 : decode c_M_spread 253 = .ok (.getfield 84, 3) := by decide +kernel
theorem d_M_spread_256 : decode c_M_spread 256 = .ok (.iload 8, 2) := by decide +kernel
theorem d_M_spread_258 : decode c_M_spread 258 = .ok (.iaload, 1) := by decide +kernel
theorem d_M_spread_259 : decode c_M_spread 259 = .ok (.i2l, 1) := by decide +kernel
theorem d_M_spread_260 : decode c_M_spread 260 = .ok (.ladd, 1) := by decide +kernel
theorem d_M_spread_261 : decode c_M_spread 261 = .ok (.invokevirtual 156, 3) := by decide +kernel
theorem d_M_spread_264 : decode c_M_spread 264 = .ok (.iinc 8 1, 3) := by decide +kernel
theorem d_M_spread_267 : decode c_M_spread 267 = .ok (.goto (-50), 3) := by decide +kernel
theorem d_M_spread_270 : decode c_M_spread 270 = .ok (.return_, 1) := by decide +kernel
theorem d_M_year_0 : decode c_M_year 0 = .ok (.iload_n 1, 1) := by decide +kernel
theorem d_M_year_1 : decode c_M_year 1 = .ok (.i2l, 1) := by decide +kernel
theorem d_M_year_2 : decode c_M_year 2 = .ok (.lconst 0, 1) := by decide +kernel
theorem d_M_year_3 : decode c_M_year 3 = .ok (.ldc2_w 105, 3) := by decide +kernel
theorem d_M_year_6 : decode c_M_year 6 = .ok (.invokestatic 93, 3) := by decide +kernel
theorem d_M_year_9 : decode c_M_year 9 = .ok (.ifCond .ne 7, 3) := by decide +kernel
theorem d_M_year_12 : decode c_M_year 12 = .ok (.iconst 1, 1) := by decide +kernel
theorem d_M_year_13 : decode c_M_year 13 = .ok (.goto 4, 3) := by decide +kernel
theorem d_M_year_16 : decode c_M_year 16 = .ok (.iconst 0, 1) := by decide +kernel
theorem d_M_year_17 : decode c_M_year 17 = .ok (.istore_n 3, 1) := by decide +kernel
theorem d_M_year_18 : decode c_M_year 18 = .ok (.aload_n 0, 1) := by decide +kernel
theorem d_M_year_19 : decode c_M_year 19 = .ok (.iload_n 3, 1) := by decide +kernel
theorem d_M_year_20 : decode c_M_year 20 = .ok (.iload_n 3, 1) := by decide +kernel
theorem d_M_year_21 : decode c_M_year 21 = .ok (.ifCond .ne 17, 3) := by decide +kernel
theorem d_M_year_24 : decode c_M_year 24 = .ok (.aload_n 0, 1) := by decide +kernel
theorem d_M_year_25 : decode c_M_year 25 = .ok (.getfield 57, 3) := by decide +kernel
theorem d_M_year_28 : decode c_M_year 28 = .ok (.iload_n 1, 1) := by decide +kernel
theorem d_M_year_29 : decode c_M_year 29 = .ok (.baload, 1) := by decide +kernel
theorem d_M_year_30 : decode c_M_year 30 = .ok (.iload_n 2, 1) := by decide +kernel
theorem d_M_year_31 : decode c_M_year 31 = .ok (.if_icmp .eq 7, 3) := by decide +kernel
theorem d_M_year_34 : decode c_M_year 34 = .ok (.iconst 1, 1) := by decide +kernel
theorem d_M_year_35 : decode c_M_year 35 = .ok (.goto 4, 3) := by decide +kernel
theorem d_M_year_38 : decode c_M_year 38 = .ok (.iconst 0, 1) := by decide +kernel
theorem d_M_year_39 : decode c_M_year 39 = .ok (.invokevirtual 107, 3) := by decide +kernel
theorem d_M_year_42 : decode c_M_year 42 = .ok (.ifCond .eq 4, 3) := by decide +kernel
theorem d_M_year_45 : decode c_M_year 45 = .ok (.return_, 1) := by decide +kernel
theorem d_M_year_46 : decode c_M_year 46 = .ok (.aload_n 0, 1) := by decide +kernel
theorem d_M_year_47 : decode c_M_year 47 = .ok (.getfield 57, 3) := by decide +kernel
theorem d_M_year_50 : decode c_M_year 50 = .ok (.iload_n 1, 1) := by decide +kernel
theorem d_M_year_51 : decode c_M_year 51 = .ok (.iload_n 2, 1) := by decide +kernel
theorem d_M_year_52 : decode c_M_year 52 = .ok (.ifCond .ne 7, 3) := by decide +kernel
theorem d_M_year_55 : decode c_M_year 55 = .ok (.iconst 1, 1) := by decide +kernel
theorem d_M_year_56 : decode c_M_year 56 = .ok (.goto 4, 3) := by decide +kernel
theorem d_M_year_59 : decode c_M_year 59 = .ok (.iconst 0, 1) := by decide +kernel
theorem d_M_year_60 : decode c_M_year 60 = .ok (.bastore, 1) := by decide +kernel
theorem d_M_year_61 : decode c_M_year 61 = .ok (.return_, 1) := by decide +kernel
theorem d_M_claim_0 : decode c_M_claim 0 = .ok (.aload_n 0, 1) := by decide +kernel
theorem d_M_claim_1 : decode c_M_claim 1 = .ok (.iload_n 1, 1) := by decide +kernel
theorem d_M_claim_2 : decode c_M_claim 2 = .ok (.invokevirtual 111, 3) := by decide +kernel
theorem d_M_claim_5 : decode c_M_claim 5 = .ok (.ifCond .eq 27, 3) := by decide +kernel
theorem d_M_claim_8 : decode c_M_claim 8 = .ok (.iload_n 2, 1) := by decide +kernel
theorem d_M_claim_9 : decode c_M_claim 9 = .ok (.i2l, 1) := by decide +kernel
theorem d_M_claim_10 : decode c_M_claim 10 = .ok (.lconst 0, 1) := by decide +kernel
theorem d_M_claim_11 : decode c_M_claim 11 = .ok (.ldc2_w 134, 3) := by decide +kernel
theorem d_M_claim_14 : decode c_M_claim 14 = .ok (.invokestatic 93, 3) := by decide +kernel
theorem d_M_claim_17 : decode c_M_claim 17 = .ok (.ifCond .eq 15, 3) := by decide +kernel
theorem d_M_claim_20 : decode c_M_claim 20 = .ok (.iload_n 3, 1) := by decide +kernel
theorem d_M_claim_21 : decode c_M_claim 21 = .ok (.i2l, 1) := by decide +kernel
theorem d_M_claim_22 : decode c_M_claim 22 = .ok (.lconst 0, 1) := by decide +kernel
theorem d_M_claim_23 : decode c_M_claim 23 = .ok (.ldc2_w 136, 3) := by decide +kernel
theorem d_M_claim_26 : decode c_M_claim 26 = .ok (.invokestatic 93, 3) := by decide +kernel
theorem d_M_claim_29 : decode c_M_claim 29 = .ok (.ifCond .ne 7, 3) := by decide +kernel
theorem d_M_claim_32 : decode c_M_claim 32 = .ok (.iconst 1, 1) := by decide +kernel
theorem d_M_claim_33 : decode c_M_claim 33 = .ok (.goto 4, 3) := by decide +kernel
theorem d_M_claim_36 : decode c_M_claim 36 = .ok (.iconst 0, 1) := by decide +kernel
theorem d_M_claim_37 : decode c_M_claim 37 = .ok (.istore 4, 2) := by decide +kernel
theorem d_M_claim_39 : decode c_M_claim 39 = .ok (.aload_n 0, 1) := by decide +kernel
theorem d_M_claim_40 : decode c_M_claim 40 = .ok (.iload 4, 2) := by decide +kernel
theorem d_M_claim_42 : decode c_M_claim 42 = .ok (.iload 4, 2) := by decide +kernel
theorem d_M_claim_44 : decode c_M_claim 44 = .ok (.ifCond .ne 30, 3) := by decide +kernel
theorem d_M_claim_47 : decode c_M_claim 47 = .ok (.aload_n 0, 1) := by decide +kernel
theorem d_M_claim_48 : decode c_M_claim 48 = .ok (.getfield 97, 3) := by decide +kernel
theorem d_M_claim_51 : decode c_M_claim 51 = .ok (.bipush 40, 2) := by decide +kernel
theorem d_M_claim_53 : decode c_M_claim 53 = .ok (.if_icmp .eq 17, 3) := by decide +kernel
theorem d_M_claim_56 : decode c_M_claim 56 = .ok (.aload_n 0, 1) := by decide +kernel
theorem d_M_claim_57 : decode c_M_claim 57 = .ok (.getfield 57, 3) := by decide +kernel
theorem d_M_claim_60 : decode c_M_claim 60 = .ok (.aload_n 0, 1) := by decide +kernel
theorem d_M_claim_61 : decode c_M_claim 61 = .ok (.getfield 16, 3) := by decide +kernel
theorem d_M_claim_64 : decode c_M_claim 64 = .ok (.iload_n 1, 1) := by decide +kernel
theorem d_M_claim_65 : decode c_M_claim 65 = .ok (.iaload, 1) := by decide +kernel
theorem d_M_claim_66 : decode c_M_claim 66 = .ok (.baload, 1) := by decide +kernel
theorem d_M_claim_67 : decode c_M_claim 67 = .ok (.ifCond .eq 7, 3) := by decide +kernel
theorem d_M_claim_70 : decode c_M_claim 70 = .ok (.iconst 1, 1) := by decide +kernel
theorem d_M_claim_71 : decode c_M_claim 71 = .ok (.goto 4, 3) := by decide +kernel
theorem d_M_claim_74 : decode c_M_claim 74 = .ok (.iconst 0, 1) := by decide +kernel
theorem d_M_claim_75 : decode c_M_claim 75 = .ok (.invokevirtual 107, 3) := by decide +kernel
theorem d_M_claim_78 : decode c_M_claim 78 = .ok (.ifCond .eq 5, 3) := by decide +kernel
theorem d_M_claim_81 : decode c_M_claim 81 = .ok (.iconst 0, 1) := by decide +kernel
theorem d_M_claim_82 : decode c_M_claim 82 = .ok (.ireturn, 1) := by decide +kernel
theorem d_M_claim_83 : decode c_M_claim 83 = .ok (.aload_n 0, 1) := by decide +kernel
theorem d_M_claim_84 : decode c_M_claim 84 = .ok (.getfield 19, 3) := by decide +kernel
theorem d_M_claim_87 : decode c_M_claim 87 = .ok (.aload_n 0, 1) := by decide +kernel
theorem d_M_claim_88 : decode c_M_claim 88 = .ok (.getfield 97, 3) := by decide +kernel
theorem d_M_claim_91 : decode c_M_claim 91 = .ok (.iload_n 1, 1) := by decide +kernel
theorem d_M_claim_92 : decode c_M_claim 92 = .ok (.iastore, 1) := by decide +kernel
theorem d_M_claim_93 : decode c_M_claim 93 = .ok (.aload_n 0, 1) := by decide +kernel
theorem d_M_claim_94 : decode c_M_claim 94 = .ok (.getfield 22, 3) := by decide +kernel
theorem d_M_claim_97 : decode c_M_claim 97 = .ok (.aload_n 0, 1) := by decide +kernel
theorem d_M_claim_98 : decode c_M_claim 98 = .ok (.getfield 97, 3) := by decide +kernel
theorem d_M_claim_101 : decode c_M_claim 101 = .ok (.iload_n 2, 1) := by decide +kernel
theorem d_M_claim_102 : decode c_M_claim 102 = .ok (.iastore, 1) := by decide +kernel
theorem d_M_claim_103 : decode c_M_claim 103 = .ok (.aload_n 0, 1) := by decide +kernel
theorem d_M_claim_104 : decode c_M_claim 104 = .ok (.getfield 25, 3) := by decide +kernel
theorem d_M_claim_107 : decode c_M_claim 107 = .ok (.aload_n 0, 1) := by decide +kernel
theorem d_M_claim_108 : decode c_M_claim 108 = .ok (.getfield 97, 3) := by decide +kernel
theorem d_M_claim_111 : decode c_M_claim 111 = .ok (.iload_n 3, 1) := by decide +kernel
theorem d_M_claim_112 : decode c_M_claim 112 = .ok (.iastore, 1) := by decide +kernel
theorem d_M_claim_113 : decode c_M_claim 113 = .ok (.aload_n 0, 1) := by decide +kernel
theorem d_M_claim_114 : decode c_M_claim 114 = .ok (.dup, 1) := by decide +kernel
theorem d_M_claim_115 : decode c_M_claim 115 = .ok (.getfield 97, 3) := by decide +kernel
theorem d_M_claim_118 : decode c_M_claim 118 = .ok (.iconst 1, 1) := by decide +kernel
theorem d_M_claim_119 : decode c_M_claim 119 = .ok (.iadd, 1) := by decide +kernel
theorem d_M_claim_120 : decode c_M_claim 120 = .ok (.putfield 97, 3) := by decide +kernel
theorem d_M_claim_123 : decode c_M_claim 123 = .ok (.aload_n 0, 1) := by decide +kernel
theorem d_M_claim_124 : decode c_M_claim 124 = .ok (.getfield 97, 3) := by decide +kernel
theorem d_M_claim_127 : decode c_M_claim 127 = .ok (.iconst 1, 1) := by decide +kernel
theorem d_M_claim_128 : decode c_M_claim 128 = .ok (.isub, 1) := by decide +kernel
theorem d_M_claim_129 : decode c_M_claim 129 = .ok (.ireturn, 1) := by decide +kernel
theorem d_M_commission_0 : decode c_M_commission 0 = .ok (.aload_n 0, 1) := by decide +kernel
theorem d_M_commission_1 : decode c_M_commission 1 = .ok (.iload_n 1, 1) := by decide +kernel
theorem d_M_commission_2 : decode c_M_commission 2 = .ok (.invokevirtual 144, 3) := by decide +kernel
theorem d_M_commission_5 : decode c_M_commission 5 = .ok (.iconst 1, 1) := by decide +kernel
theorem d_M_commission_6 : decode c_M_commission 6 = .ok (.if_icmp .le 5, 3) := by decide +kernel
theorem d_M_commission_9 : decode c_M_commission 9 = .ok (.lconst 0, 1) := by decide +kernel
theorem d_M_commission_10 : decode c_M_commission 10 = .ok (.lreturn, 1) := by decide +kernel
theorem d_M_commission_11 : decode c_M_commission 11 = .ok (.aload_n 0, 1) := by decide +kernel
theorem d_M_commission_12 : decode c_M_commission 12 = .ok (.iload_n 1, 1) := by decide +kernel
theorem d_M_commission_13 : decode c_M_commission 13 = .ok (.invokevirtual 199, 3) := by decide +kernel
theorem d_M_commission_16 : decode c_M_commission 16 = .ok (.lstore_n 2, 1) := by decide +kernel
theorem d_M_commission_17 : decode c_M_commission 17 = .ok (.lload_n 2, 1) := by decide +kernel
theorem d_M_commission_18 : decode c_M_commission 18 = .ok (.ldc2_w 203, 3) := by decide +kernel
theorem d_M_commission_21 : decode c_M_commission 21 = .ok (.lcmp, 1) := by decide +kernel
theorem d_M_commission_22 : decode c_M_commission 22 = .ok (.ifCond .gt 9, 3) := by decide +kernel
theorem d_M_commission_25 : decode c_M_commission 25 = .ok (.ldc2_w 205, 3) := by decide +kernel
theorem d_M_commission_28 : decode c_M_commission 28 = .ok (.goto 12, 3) := by decide +kernel
theorem d_M_commission_31 : decode c_M_commission 31 = .ok (.ldc2_w 205, 3) := by decide +kernel
theorem d_M_commission_34 : decode c_M_commission 34 = .ok (.lload_n 2, 1) := by decide +kernel
theorem d_M_commission_35 : decode c_M_commission 35 = .ok (.ldc2_w 203, 3) := by decide +kernel
theorem d_M_commission_38 : decode c_M_commission 38 = .ok (.lsub, 1) := by decide +kernel
theorem d_M_commission_39 : decode c_M_commission 39 = .ok (.lsub, 1) := by decide +kernel
theorem d_M_commission_40 : decode c_M_commission 40 = .ok (.lstore 4, 2) := by decide +kernel
theorem d_M_commission_42 : decode c_M_commission 42 = .ok (.aload_n 0, 1) := by decide +kernel
theorem d_M_commission_43 : decode c_M_commission 43 = .ok (.getfield 69, 3) := by decide +kernel
theorem d_M_commission_46 : decode c_M_commission 46 = .ok (.iload_n 1, 1) := by decide +kernel
theorem d_M_commission_47 : decode c_M_commission 47 = .ok (.laload, 1) := by decide +kernel
theorem d_M_commission_48 : decode c_M_commission 48 = .ok (.lload 4, 2) := by decide +kernel
theorem d_M_commission_50 : decode c_M_commission 50 = .ok (.ldc2_w 136, 3) := by decide +kernel
theorem d_M_commission_53 : decode c_M_commission 53 = .ok (.lcmp, 1) := by decide +kernel
theorem d_M_commission_54 : decode c_M_commission 54 = .ok (.ifCond .ge 9, 3) := by decide +kernel
theorem d_M_commission_57 : decode c_M_commission 57 = .ok (.ldc2_w 136, 3) := by decide +kernel
theorem d_M_commission_60 : decode c_M_commission 60 = .ok (.goto 5, 3) := by decide +kernel
theorem d_M_commission_63 : decode c_M_commission 63 = .ok (.lload 4, 2) := by decide +kernel
theorem d_M_commission_65 : decode c_M_commission 65 = .ok (.lmul, 1) := by decide +kernel
theorem d_M_commission_66 : decode c_M_commission 66 = .ok (.ldc2_w 115, 3) := by decide +kernel
theorem d_M_commission_69 : decode c_M_commission 69 = .ok (.ldiv, 1) := by decide +kernel
theorem d_M_commission_70 : decode c_M_commission 70 = .ok (.lreturn, 1) := by decide +kernel
theorem d_M_estimate_0 : decode c_M_estimate 0 = .ok (.aload_n 0, 1) := by decide +kernel
theorem d_M_estimate_1 : decode c_M_estimate 1 = .ok (.iload_n 1, 1) := by decide +kernel
theorem d_M_estimate_2 : decode c_M_estimate 2 = .ok (.invokevirtual 138, 3) := by decide +kernel
theorem d_M_estimate_5 : decode c_M_estimate 5 = .ok (.ifCond .eq 15, 3) := by decide +kernel
theorem d_M_estimate_8 : decode c_M_estimate 8 = .ok (.iload_n 2, 1) := by decide +kernel
theorem d_M_estimate_9 : decode c_M_estimate 9 = .ok (.i2l, 1) := by decide +kernel
theorem d_M_estimate_10 : decode c_M_estimate 10 = .ok (.lconst 0, 1) := by decide +kernel
theorem d_M_estimate_11 : decode c_M_estimate 11 = .ok (.ldc2_w 103, 3) := by decide +kernel
theorem d_M_estimate_14 : decode c_M_estimate 14 = .ok (.invokestatic 93, 3) := by decide +kernel
theorem d_M_estimate_17 : decode c_M_estimate 17 = .ok (.ifCond .ne 7, 3) := by decide +kernel
theorem d_M_estimate_20 : decode c_M_estimate 20 = .ok (.iconst 1, 1) := by decide +kernel
theorem d_M_estimate_21 : decode c_M_estimate 21 = .ok (.goto 4, 3) := by decide +kernel
theorem d_M_estimate_24 : decode c_M_estimate 24 = .ok (.iconst 0, 1) := by decide +kernel
theorem d_M_estimate_25 : decode c_M_estimate 25 = .ok (.istore_n 3, 1) := by decide +kernel
theorem d_M_estimate_26 : decode c_M_estimate 26 = .ok (.aload_n 0, 1) := by decide +kernel
theorem d_M_estimate_27 : decode c_M_estimate 27 = .ok (.iload_n 3, 1) := by decide +kernel
theorem d_M_estimate_28 : decode c_M_estimate 28 = .ok (.iload_n 3, 1) := by decide +kernel
theorem d_M_estimate_29 : decode c_M_estimate 29 = .ok (.ifCond .ne 29, 3) := by decide +kernel
theorem d_M_estimate_32 : decode c_M_estimate 32 = .ok (.aload_n 0, 1) := by decide +kernel
theorem d_M_estimate_33 : decode c_M_estimate 33 = .ok (.getfield 31, 3) := by decide +kernel
theorem d_M_estimate_36 : decode c_M_estimate 36 = .ok (.iload_n 1, 1) := by decide +kernel
theorem d_M_estimate_37 : decode c_M_estimate 37 = .ok (.baload, 1) := by decide +kernel
theorem d_M_estimate_38 : decode c_M_estimate 38 = .ok (.ifCond .ne 16, 3) := by decide +kernel
theorem d_M_estimate_41 : decode c_M_estimate 41 = .ok (.aload_n 0, 1) := by decide +kernel
theorem d_M_estimate_42 : decode c_M_estimate 42 = .ok (.getfield 57, 3) := by decide +kernel
theorem d_M_estimate_45 : decode c_M_estimate 45 = .ok (.aload_n 0, 1) := by decide +kernel
theorem d_M_estimate_46 : decode c_M_estimate 46 = .ok (.iload_n 1, 1) := by decide +kernel
theorem d_M_estimate_47 : decode c_M_estimate 47 = .ok (.invokevirtual 141, 3) := by decide +kernel
theorem d_M_estimate_50 : decode c_M_estimate 50 = .ok (.baload, 1) := by decide +kernel
theorem d_M_estimate_51 : decode c_M_estimate 51 = .ok (.ifCond .eq 7, 3) := by decide +kernel
theorem d_M_estimate_54 : decode c_M_estimate 54 = .ok (.iconst 1, 1) := by decide +kernel
theorem d_M_estimate_55 : decode c_M_estimate 55 = .ok (.goto 4, 3) := by decide +kernel
theorem d_M_estimate_58 : decode c_M_estimate 58 = .ok (.iconst 0, 1) := by decide +kernel
theorem d_M_estimate_59 : decode c_M_estimate 59 = .ok (.invokevirtual 107, 3) := by decide +kernel
theorem d_M_estimate_62 : decode c_M_estimate 62 = .ok (.ifCond .eq 4, 3) := by decide +kernel
theorem d_M_estimate_65 : decode c_M_estimate 65 = .ok (.return_, 1) := by decide +kernel
theorem d_M_estimate_66 : decode c_M_estimate 66 = .ok (.aload_n 0, 1) := by decide +kernel
theorem d_M_estimate_67 : decode c_M_estimate 67 = .ok (.getfield 28, 3) := by decide +kernel
theorem d_M_estimate_70 : decode c_M_estimate 70 = .ok (.iload_n 1, 1) := by decide +kernel
theorem d_M_estimate_71 : decode c_M_estimate 71 = .ok (.iload_n 2, 1) := by decide +kernel
theorem d_M_estimate_72 : decode c_M_estimate 72 = .ok (.iastore, 1) := by decide +kernel
theorem d_M_estimate_73 : decode c_M_estimate 73 = .ok (.return_, 1) := by decide +kernel
theorem d_M_excessOfRisks_0 : decode c_M_excessOfRisks 0 = .ok (.iconst 0, 1) := by decide +kernel
theorem d_M_excessOfRisks_1 : decode c_M_excessOfRisks 1 = .ok (.istore_n 2, 1) := by decide +kernel
theorem d_M_excessOfRisks_2 : decode c_M_excessOfRisks 2 = .ok (.iload_n 2, 1) := by decide +kernel
theorem d_M_excessOfRisks_3 : decode c_M_excessOfRisks 3 = .ok (.aload_n 0, 1) := by decide +kernel
theorem d_M_excessOfRisks_4 : decode c_M_excessOfRisks 4 = .ok (.getfield 97, 3) := by decide +kernel
theorem d_M_excessOfRisks_7 : decode c_M_excessOfRisks 7 = .ok (.if_icmp .ge 25, 3) := by decide +kernel
theorem d_M_excessOfRisks_10 : decode c_M_excessOfRisks 10 = .ok (.aload_n 0, 1) := by decide +kernel
theorem d_M_excessOfRisks_11 : decode c_M_excessOfRisks 11 = .ok (.getfield 78, 3) := by decide +kernel
theorem d_M_excessOfRisks_14 : decode c_M_excessOfRisks 14 = .ok (.iload_n 2, 1) := by decide +kernel
theorem d_M_excessOfRisks_15 : decode c_M_excessOfRisks 15 = .ok (.aload_n 0, 1) := by decide +kernel
theorem d_M_excessOfRisks_16 : decode c_M_excessOfRisks 16 = .ok (.iload_n 2, 1) := by decide +kernel
theorem d_M_excessOfRisks_17 : decode c_M_excessOfRisks 17 = .ok (.aload_n 0, 1) := by decide +kernel
theorem d_M_excessOfRisks_18 : decode c_M_excessOfRisks 18 = .ok (.iload_n 1, 1) := by decide +kernel
theorem d_M_excessOfRisks_19 : decode c_M_excessOfRisks 19 = .ok (.invokevirtual 130, 3) := by decide +kernel
theorem d_M_excessOfRisks_22 : decode c_M_excessOfRisks 22 = .ok (.invokevirtual 160, 3) := by decide +kernel
theorem d_M_excessOfRisks_25 : decode c_M_excessOfRisks 25 = .ok (.bastore, 1) := by decide +kernel
theorem d_M_excessOfRisks_26 : decode c_M_excessOfRisks 26 = .ok (.iinc 2 1, 3) := by decide +kernel
theorem d_M_excessOfRisks_29 : decode c_M_excessOfRisks 29 = .ok (.goto (-27), 3) := by decide +kernel
theorem d_M_excessOfRisks_32 : decode c_M_excessOfRisks 32 = .ok (.iconst 0, 1) := by decide +kernel
theorem d_M_excessOfRisks_33 : decode c_M_excessOfRisks 33 = .ok (.istore_n 2, 1) := by decide +kernel
theorem d_M_excessOfRisks_34 : decode c_M_excessOfRisks 34 = .ok (.iload_n 2, 1) := by decide +kernel
theorem d_M_excessOfRisks_35 : decode c_M_excessOfRisks 35 = .ok (.ifCond .lt 103, 3) := by decide +kernel
theorem d_M_excessOfRisks_38 : decode c_M_excessOfRisks 38 = .ok (.iconst (-1), 1) := by decide +kernel
theorem d_M_excessOfRisks_39 : decode c_M_excessOfRisks 39 = .ok (.istore_n 2, 1) := by decide +kernel
theorem d_M_excessOfRisks_40 : decode c_M_excessOfRisks 40 = .ok (.iconst 0, 1) := by decide +kernel
theorem d_M_excessOfRisks_41 : decode c_M_excessOfRisks 41 = .ok (.istore_n 3, 1) := by decide +kernel
theorem d_M_excessOfRisks_42 : decode c_M_excessOfRisks 42 = .ok (.iload_n 3, 1) := by decide +kernel
theorem d_M_excessOfRisks_43 : decode c_M_excessOfRisks 43 = .ok (.aload_n 0, 1) := by decide +kernel
theorem d_M_excessOfRisks_44 : decode c_M_excessOfRisks 44 = .ok (.getfield 97, 3) := by decide +kernel
theorem d_M_excessOfRisks_47 : decode c_M_excessOfRisks 47 = .ok (.if_icmp .ge 43, 3) := by decide +kernel
theorem d_M_excessOfRisks_50 : decode c_M_excessOfRisks 50 = .ok (.aload_n 0, 1) := by decide +kernel
theorem d_M_excessOfRisks_51 : decode c_M_excessOfRisks 51 = .ok (.getfield 78, 3) := by decide +kernel
theorem d_M_excessOfRisks_54 : decode c_M_excessOfRisks 54 = .ok (.iload_n 3, 1) := by decide +kernel
theorem d_M_excessOfRisks_55 : decode c_M_excessOfRisks 55 = .ok (.baload, 1) := by decide +kernel
theorem d_M_excessOfRisks_56 : decode c_M_excessOfRisks 56 = .ok (.ifCond .eq 26, 3) := by decide +kernel
theorem d_M_excessOfRisks_59 : decode c_M_excessOfRisks 59 = .ok (.iload_n 2, 1) := by decide +kernel
theorem d_M_excessOfRisks_60 : decode c_M_excessOfRisks 60 = .ok (.ifCond .lt 18, 3) := by decide +kernel
theorem d_M_excessOfRisks_63 : decode c_M_excessOfRisks 63 = .ok (.aload_n 0, 1) := by decide +kernel
theorem d_M_excessOfRisks_64 : decode c_M_excessOfRisks 64 = .ok (.getfield 25, 3) := by decide +kernel
theorem d_M_excessOfRisks_67 : decode c_M_excessOfRisks 67 = .ok (.iload_n 3, 1) := by decide +kernel
theorem d_M_excessOfRisks_68 : decode c_M_excessOfRisks 68 = .ok (.iaload, 1) := by decide +kernel
theorem d_M_excessOfRisks_69 : decode c_M_excessOfRisks 69 = .ok (.aload_n 0, 1) := by decide +kernel
theorem d_M_excessOfRisks_70 : decode c_M_excessOfRisks 70 = .ok (.getfield 25, 3) := by decide +kernel
theorem d_M_excessOfRisks_73 : decode c_M_excessOfRisks 73 = .ok (.iload_n 2, 1) := by decide +kernel
theorem d_M_excessOfRisks_74 : decode c_M_excessOfRisks 74 = .ok (.iaload, 1) := by decide +kernel
theorem d_M_excessOfRisks_75 : decode c_M_excessOfRisks 75 = .ok (.if_icmp .ge 7, 3) := by decide +kernel
theorem d_M_excessOfRisks_78 : decode c_M_excessOfRisks 78 = .ok (.iload_n 3, 1) := by decide +kernel
theorem d_M_excessOfRisks_79 : decode c_M_excessOfRisks 79 = .ok (.goto 4, 3) := by decide +kernel
theorem d_M_excessOfRisks_82 : decode c_M_excessOfRisks 82 = .ok (.iload_n 2, 1) := by decide +kernel
theorem d_M_excessOfRisks_83 : decode c_M_excessOfRisks 83 = .ok (.istore_n 2, 1) := by decide +kernel
theorem d_M_excessOfRisks_84 : decode c_M_excessOfRisks 84 = .ok (.iinc 3 1, 3) := by decide +kernel
theorem d_M_excessOfRisks_87 : decode c_M_excessOfRisks 87 = .ok (.goto (-45), 3) := by decide +kernel
theorem d_M_excessOfRisks_90 : decode c_M_excessOfRisks 90 = .ok (.iload_n 2, 1) := by decide +kernel
theorem d_M_excessOfRisks_91 : decode c_M_excessOfRisks 91 = .ok (.ifCond .lt (-57), 3) := by decide +kernel
theorem d_M_excessOfRisks_94 : decode c_M_excessOfRisks 94 = .ok (.aload_n 0, 1) := by decide +kernel
theorem d_M_excessOfRisks_95 : decode c_M_excessOfRisks 95 = .ok (.getfield 78, 3) := by decide +kernel
theorem d_M_excessOfRisks_98 : decode c_M_excessOfRisks 98 = .ok (.iload_n 2, 1) := by decide +kernel
theorem d_M_excessOfRisks_99 : decode c_M_excessOfRisks 99 = .ok (.iconst 0, 1) := by decide +kernel
theorem d_M_excessOfRisks_100 : decode c_M_excessOfRisks 100 = .ok (.bastore, 1) := by decide +kernel
theorem d_M_excessOfRisks_101 : decode c_M_excessOfRisks 101 = .ok (.aload_n 0, 1) := by decide +kernel
theorem d_M_excessOfRisks_102 : decode c_M_excessOfRisks 102 = .ok (.iload_n 1, 1) := by decide +kernel
theorem d_M_excessOfRisks_103 : decode c_M_excessOfRisks 103 = .ok (.iload_n 2, 1) := by decide +kernel
theorem d_M_excessOfRisks_104 : decode c_M_excessOfRisks 104 = .ok (.aload_n 0, 1) := by decide +kernel
theorem d_M_excessOfRisks_105 : decode c_M_excessOfRisks 105 = .ok (.iload_n 1, 1) := by decide +kernel
theorem d_M_excessOfRisks_106 : decode c_M_excessOfRisks 106 = .ok (.aload_n 0, 1) := by decide +kernel
theorem d_M_excessOfRisks_107 : decode c_M_excessOfRisks 107 = .ok (.getfield 60, 3) := by decide +kernel
theorem d_M_excessOfRisks_110 : decode c_M_excessOfRisks 110 = .ok (.iload_n 2, 1) := by decide +kernel
theorem d_M_excessOfRisks_111 : decode c_M_excessOfRisks 111 = .ok (.laload, 1) := by decide +kernel
theorem d_M_excessOfRisks_112 : decode c_M_excessOfRisks 112 = .ok (.aload_n 0, 1) := by decide +kernel
theorem d_M_excessOfRisks_113 : decode c_M_excessOfRisks 113 = .ok (.getfield 38, 3) := by decide +kernel
theorem d_M_excessOfRisks_116 : decode c_M_excessOfRisks 116 = .ok (.iload_n 1, 1) := by decide +kernel
theorem d_M_excessOfRisks_117 : decode c_M_excessOfRisks 117 = .ok (.iaload, 1) := by decide +kernel
theorem d_M_excessOfRisks_118 : decode c_M_excessOfRisks 118 = .ok (.i2l, 1) := by decide +kernel
theorem d_M_excessOfRisks_119 : decode c_M_excessOfRisks 119 = .ok (.aload_n 0, 1) := by decide +kernel
theorem d_M_excessOfRisks_120 : decode c_M_excessOfRisks 120 = .ok (.getfield 41, 3) := by decide +kernel
theorem d_M_excessOfRisks_123 : decode c_M_excessOfRisks 123 = .ok (.iload_n 1, 1) := by decide +kernel
theorem d_M_excessOfRisks_124 : decode c_M_excessOfRisks 124 = .ok (.iaload, 1) := by decide +kernel
theorem d_M_excessOfRisks_125 : decode c_M_excessOfRisks 125 = .ok (.i2l, 1) := by decide +kernel
theorem d_M_excessOfRisks_126 : decode c_M_excessOfRisks 126 = .ok (.invokestatic 164, 3) := by decide +kernel
theorem d_M_excessOfRisks_129 : decode c_M_excessOfRisks 129 = .ok (.invokevirtual 168, 3) := by decide +kernel
theorem d_M_excessOfRisks_132 : decode c_M_excessOfRisks 132 = .ok (.invokevirtual 156, 3) := by decide +kernel
theorem d_M_excessOfRisks_135 : decode c_M_excessOfRisks 135 = .ok (.goto (-101), 3) := by decide +kernel
theorem d_M_excessOfRisks_138 : decode c_M_excessOfRisks 138 = .ok (.return_, 1) := by decide +kernel
theorem d_M_inWindow_0 : decode c_M_inWindow 0 = .ok (.lconst 0, 1) := by decide +kernel
theorem d_M_inWindow_1 : decode c_M_inWindow 1 = .ok (.lstore 4, 2) := by decide +kernel
theorem d_M_inWindow_3 : decode c_M_inWindow 3 = .ok (.iconst 0, 1) := by decide +kernel
theorem d_M_inWindow_4 : decode c_M_inWindow 4 = .ok (.istore 6, 2) := by decide +kernel
theorem d_M_inWindow_6 : decode c_M_inWindow 6 = .ok (.iload 6, 2) := by decide +kernel
theorem d_M_inWindow_8 : decode c_M_inWindow 8 = .ok (.aload_n 0, 1) := by decide +kernel
theorem d_M_inWindow_9 : decode c_M_inWindow 9 = .ok (.getfield 97, 3) := by decide +kernel
theorem d_M_inWindow_12 : decode c_M_inWindow 12 = .ok (.if_icmp .ge 73, 3) := by decide +kernel
theorem d_M_inWindow_15 : decode c_M_inWindow 15 = .ok (.lload 4, 2) := by decide +kernel
theorem d_M_inWindow_17 : decode c_M_inWindow 17 = .ok (.aload_n 0, 1) := by decide +kernel
theorem d_M_inWindow_18 : decode c_M_inWindow 18 = .ok (.iload 6, 2) := by decide +kernel
theorem d_M_inWindow_20 : decode c_M_inWindow 20 = .ok (.aload_n 0, 1) := by decide +kernel
theorem d_M_inWindow_21 : decode c_M_inWindow 21 = .ok (.iload_n 1, 1) := by decide +kernel
theorem d_M_inWindow_22 : decode c_M_inWindow 22 = .ok (.invokevirtual 130, 3) := by decide +kernel
theorem d_M_inWindow_25 : decode c_M_inWindow 25 = .ok (.invokevirtual 160, 3) := by decide +kernel
theorem d_M_inWindow_28 : decode c_M_inWindow 28 = .ok (.ifCond .eq 47, 3) := by decide +kernel
theorem d_M_inWindow_31 : decode c_M_inWindow 31 = .ok (.aload_n 0, 1) := by decide +kernel
theorem d_M_inWindow_32 : decode c_M_inWindow 32 = .ok (.getfield 22, 3) := by decide +kernel
theorem d_M_inWindow_35 : decode c_M_inWindow 35 = .ok (.iload 6, 2) := by decide +kernel
theorem d_M_inWindow_37 : decode c_M_inWindow 37 = .ok (.iaload, 1) := by decide +kernel
theorem d_M_inWindow_38 : decode c_M_inWindow 38 = .ok (.iload_n 2, 1) := by decide +kernel
theorem d_M_inWindow_39 : decode c_M_inWindow 39 = .ok (.if_icmp .ne 36, 3) := by decide +kernel
theorem d_M_inWindow_42 : decode c_M_inWindow 42 = .ok (.aload_n 0, 1) := by decide +kernel
theorem d_M_inWindow_43 : decode c_M_inWindow 43 = .ok (.getfield 25, 3) := by decide +kernel
theorem d_M_inWindow_46 : decode c_M_inWindow 46 = .ok (.iload 6, 2) := by decide +kernel
theorem d_M_inWindow_48 : decode c_M_inWindow 48 = .ok (.iaload, 1) := by decide +kernel
theorem d_M_inWindow_49 : decode c_M_inWindow 49 = .ok (.i2l, 1) := by decide +kernel
theorem d_M_inWindow_50 : decode c_M_inWindow 50 = .ok (.iload_n 3, 1) := by decide +kernel
theorem d_M_inWindow_51 : decode c_M_inWindow 51 = .ok (.i2l, 1) := by decide +kernel
theorem d_M_inWindow_52 : decode c_M_inWindow 52 = .ok (.iload_n 3, 1) := by decide +kernel
theorem d_M_inWindow_53 : decode c_M_inWindow 53 = .ok (.bipush 72, 2) := by decide +kernel
theorem d_M_inWindow_55 : decode c_M_inWindow 55 = .ok (.iadd, 1) := by decide +kernel
theorem d_M_inWindow_56 : decode c_M_inWindow 56 = .ok (.iconst 1, 1) := by decide +kernel
theorem d_M_inWindow_57 : decode c_M_inWindow 57 = .ok (.isub, 1) := by decide +kernel
theorem d_M_inWindow_58 : decode c_M_inWindow 58 = .ok (.i2l, 1) := by decide +kernel
theorem d_M_inWindow_59 : decode c_M_inWindow 59 = .ok (.invokestatic 93, 3) := by decide +kernel
theorem d_M_inWindow_62 : decode c_M_inWindow 62 = .ok (.ifCond .eq 13, 3) := by decide +kernel
theorem d_M_inWindow_65 : decode c_M_inWindow 65 = .ok (.aload_n 0, 1) := by decide +kernel
theorem d_M_inWindow_66 : decode c_M_inWindow 66 = .ok (.getfield 60, 3) := by decide +kernel
theorem d_M_inWindow_69 : decode c_M_inWindow 69 = .ok (.iload 6, 2) := by decide +kernel
theorem d_M_inWindow_71 : decode c_M_inWindow 71 = .ok (.laload, 1) := by decide +kernel
theorem d_M_inWindow_72 : decode c_M_inWindow 72 = .ok (.goto 4, 3) := by decide +kernel
theorem d_M_inWindow_75 : decode c_M_inWindow 75 = .ok (.lconst 0, 1) := by decide +kernel
theorem d_M_inWindow_76 : decode c_M_inWindow 76 = .ok (.ladd, 1) := by decide +kernel
theorem d_M_inWindow_77 : decode c_M_inWindow 77 = .ok (.lstore 4, 2) := by decide +kernel
theorem d_M_inWindow_79 : decode c_M_inWindow 79 = .ok (.iinc 6 1, 3) := by decide +kernel
theorem d_M_inWindow_82 : decode c_M_inWindow 82 = .ok (.goto (-76), 3) := by decide +kernel
theorem d_M_inWindow_85 : decode c_M_inWindow 85 = .ok (.lload 4, 2) := by decide +kernel
theorem d_M_inWindow_87 : decode c_M_inWindow 87 = .ok (.lreturn, 1) := by decide +kernel
theorem d_M_premium_0 : decode c_M_premium 0 = .ok (.aload_n 0, 1) := by decide +kernel
theorem d_M_premium_1 : decode c_M_premium 1 = .ok (.iload_n 1, 1) := by decide +kernel
theorem d_M_premium_2 : decode c_M_premium 2 = .ok (.invokevirtual 111, 3) := by decide +kernel
theorem d_M_premium_5 : decode c_M_premium 5 = .ok (.ifCond .eq 15, 3) := by decide +kernel
theorem d_M_premium_8 : decode c_M_premium 8 = .ok (.iload_n 2, 1) := by decide +kernel
theorem d_M_premium_9 : decode c_M_premium 9 = .ok (.i2l, 1) := by decide +kernel
theorem d_M_premium_10 : decode c_M_premium 10 = .ok (.lconst 0, 1) := by decide +kernel
theorem d_M_premium_11 : decode c_M_premium 11 = .ok (.ldc2_w 103, 3) := by decide +kernel
theorem d_M_premium_14 : decode c_M_premium 14 = .ok (.invokestatic 93, 3) := by decide +kernel
theorem d_M_premium_17 : decode c_M_premium 17 = .ok (.ifCond .ne 7, 3) := by decide +kernel
theorem d_M_premium_20 : decode c_M_premium 20 = .ok (.iconst 1, 1) := by decide +kernel
theorem d_M_premium_21 : decode c_M_premium 21 = .ok (.goto 4, 3) := by decide +kernel
theorem d_M_premium_24 : decode c_M_premium 24 = .ok (.iconst 0, 1) := by decide +kernel
theorem d_M_premium_25 : decode c_M_premium 25 = .ok (.istore_n 3, 1) := by decide +kernel
theorem d_M_premium_26 : decode c_M_premium 26 = .ok (.aload_n 0, 1) := by decide +kernel
theorem d_M_premium_27 : decode c_M_premium 27 = .ok (.iload_n 3, 1) := by decide +kernel
theorem d_M_premium_28 : decode c_M_premium 28 = .ok (.iload_n 3, 1) := by decide +kernel
theorem d_M_premium_29 : decode c_M_premium 29 = .ok (.ifCond .ne 21, 3) := by decide +kernel
theorem d_M_premium_32 : decode c_M_premium 32 = .ok (.aload_n 0, 1) := by decide +kernel
theorem d_M_premium_33 : decode c_M_premium 33 = .ok (.getfield 57, 3) := by decide +kernel
theorem d_M_premium_36 : decode c_M_premium 36 = .ok (.aload_n 0, 1) := by decide +kernel
theorem d_M_premium_37 : decode c_M_premium 37 = .ok (.getfield 16, 3) := by decide +kernel
theorem d_M_premium_40 : decode c_M_premium 40 = .ok (.iload_n 1, 1) := by decide +kernel
theorem d_M_premium_41 : decode c_M_premium 41 = .ok (.iaload, 1) := by decide +kernel
theorem d_M_premium_42 : decode c_M_premium 42 = .ok (.baload, 1) := by decide +kernel
theorem d_M_premium_43 : decode c_M_premium 43 = .ok (.ifCond .eq 7, 3) := by decide +kernel
theorem d_M_premium_46 : decode c_M_premium 46 = .ok (.iconst 1, 1) := by decide +kernel
theorem d_M_premium_47 : decode c_M_premium 47 = .ok (.goto 4, 3) := by decide +kernel
theorem d_M_premium_50 : decode c_M_premium 50 = .ok (.iconst 0, 1) := by decide +kernel
theorem d_M_premium_51 : decode c_M_premium 51 = .ok (.invokevirtual 107, 3) := by decide +kernel
theorem d_M_premium_54 : decode c_M_premium 54 = .ok (.ifCond .eq 4, 3) := by decide +kernel
theorem d_M_premium_57 : decode c_M_premium 57 = .ok (.return_, 1) := by decide +kernel
theorem d_M_premium_58 : decode c_M_premium 58 = .ok (.aload_n 0, 1) := by decide +kernel
theorem d_M_premium_59 : decode c_M_premium 59 = .ok (.getfield 13, 3) := by decide +kernel
theorem d_M_premium_62 : decode c_M_premium 62 = .ok (.iload_n 1, 1) := by decide +kernel
theorem d_M_premium_63 : decode c_M_premium 63 = .ok (.iload_n 2, 1) := by decide +kernel
theorem d_M_premium_64 : decode c_M_premium 64 = .ok (.iastore, 1) := by decide +kernel
theorem d_M_premium_65 : decode c_M_premium 65 = .ok (.return_, 1) := by decide +kernel
theorem d_M_share_0 : decode c_M_share 0 = .ok (.aload_n 0, 1) := by decide +kernel
theorem d_M_share_1 : decode c_M_share 1 = .ok (.iload_n 1, 1) := by decide +kernel
theorem d_M_share_2 : decode c_M_share 2 = .ok (.invokevirtual 127, 3) := by decide +kernel
theorem d_M_share_5 : decode c_M_share 5 = .ok (.ifCond .eq 27, 3) := by decide +kernel
theorem d_M_share_8 : decode c_M_share 8 = .ok (.iload_n 2, 1) := by decide +kernel
theorem d_M_share_9 : decode c_M_share 9 = .ok (.i2l, 1) := by decide +kernel
theorem d_M_share_10 : decode c_M_share 10 = .ok (.lconst 0, 1) := by decide +kernel
theorem d_M_share_11 : decode c_M_share 11 = .ok (.ldc2_w 119, 3) := by decide +kernel
theorem d_M_share_14 : decode c_M_share 14 = .ok (.invokestatic 93, 3) := by decide +kernel
theorem d_M_share_17 : decode c_M_share 17 = .ok (.ifCond .eq 15, 3) := by decide +kernel
theorem d_M_share_20 : decode c_M_share 20 = .ok (.iload_n 3, 1) := by decide +kernel
theorem d_M_share_21 : decode c_M_share 21 = .ok (.i2l, 1) := by decide +kernel
theorem d_M_share_22 : decode c_M_share 22 = .ok (.lconst 0, 1) := by decide +kernel
theorem d_M_share_23 : decode c_M_share 23 = .ok (.ldc2_w 115, 3) := by decide +kernel
theorem d_M_share_26 : decode c_M_share 26 = .ok (.invokestatic 93, 3) := by decide +kernel
theorem d_M_share_29 : decode c_M_share 29 = .ok (.ifCond .ne 7, 3) := by decide +kernel
theorem d_M_share_32 : decode c_M_share 32 = .ok (.iconst 1, 1) := by decide +kernel
theorem d_M_share_33 : decode c_M_share 33 = .ok (.goto 4, 3) := by decide +kernel
theorem d_M_share_36 : decode c_M_share 36 = .ok (.iconst 0, 1) := by decide +kernel
theorem d_M_share_37 : decode c_M_share 37 = .ok (.istore 4, 2) := by decide +kernel
theorem d_M_share_39 : decode c_M_share 39 = .ok (.iload_n 3, 1) := by decide +kernel
theorem d_M_share_40 : decode c_M_share 40 = .ok (.i2l, 1) := by decide +kernel
theorem d_M_share_41 : decode c_M_share 41 = .ok (.lstore 5, 2) := by decide +kernel
theorem d_M_share_43 : decode c_M_share 43 = .ok (.iconst 0, 1) := by decide +kernel
theorem d_M_share_44 : decode c_M_share 44 = .ok (.istore 7, 2) := by decide +kernel
theorem d_M_share_46 : decode c_M_share 46 = .ok (.iload 7, 2) := by decide +kernel
theorem d_M_share_48 : decode c_M_share 48 = .ok (.bipush 6, 2) := by decide +kernel
theorem d_M_share_50 : decode c_M_share 50 = .ok (.if_icmp .ge 42, 3) := by decide +kernel
theorem d_M_share_53 : decode c_M_share 53 = .ok (.iload 4, 2) := by decide +kernel
theorem d_M_share_55 : decode c_M_share 55 = .ok (.ifCond .ne 37, 3) := by decide +kernel
theorem d_M_share_58 : decode c_M_share 58 = .ok (.lload 5, 2) := by decide +kernel
theorem d_M_share_60 : decode c_M_share 60 = .ok (.iload 7, 2) := by decide +kernel
theorem d_M_share_62 : decode c_M_share 62 = .ok (.iload_n 2, 1) := by decide +kernel
theorem d_M_share_63 : decode c_M_share 63 = .ok (.if_icmp .ne 7, 3) := by decide +kernel
theorem d_M_share_66 : decode c_M_share 66 = .ok (.lconst 0, 1) := by decide +kernel
theorem d_M_share_67 : decode c_M_share 67 = .ok (.goto 16, 3) := by decide +kernel
theorem d_M_share_70 : decode c_M_share 70 = .ok (.aload_n 0, 1) := by decide +kernel
theorem d_M_share_71 : decode c_M_share 71 = .ok (.getfield 50, 3) := by decide +kernel
theorem d_M_share_74 : decode c_M_share 74 = .ok (.bipush 6, 2) := by decide +kernel
theorem d_M_share_76 : decode c_M_share 76 = .ok (.iload_n 1, 1) := by decide +kernel
theorem d_M_share_77 : decode c_M_share 77 = .ok (.imul, 1) := by decide +kernel
theorem d_M_share_78 : decode c_M_share 78 = .ok (.iload 7, 2) := by decide +kernel
theorem d_M_share_80 : decode c_M_share 80 = .ok (.iadd, 1) := by decide +kernel
theorem d_M_share_81 : decode c_M_share 81 = .ok (.iaload, 1) := by decide +kernel
theorem d_M_share_82 : decode c_M_share 82 = .ok (.i2l, 1) := by decide +kernel
theorem d_M_share_83 : decode c_M_share 83 = .ok (.ladd, 1) := by decide +kernel
theorem d_M_share_84 : decode c_M_share 84 = .ok (.lstore 5, 2) := by decide +kernel
theorem d_M_share_86 : decode c_M_share 86 = .ok (.iinc 7 1, 3) := by decide +kernel
theorem d_M_share_89 : decode c_M_share 89 = .ok (.goto (-43), 3) := by decide +kernel
theorem d_M_share_92 : decode c_M_share 92 = .ok (.aload_n 0, 1) := by decide +kernel
theorem d_M_share_93 : decode c_M_share 93 = .ok (.iload 4, 2) := by decide +kernel
theorem d_M_share_95 : decode c_M_share 95 = .ok (.iload 4, 2) := by decide +kernel
theorem d_M_share_97 : decode c_M_share 97 = .ok (.ifCond .ne 29, 3) := by decide +kernel
theorem d_M_share_100 : decode c_M_share 100 = .ok (.lload 5, 2) := by decide +kernel
theorem d_M_share_102 : decode c_M_share 102 = .ok (.ldc2_w 115, 3) := by decide +kernel
theorem d_M_share_105 : decode c_M_share 105 = .ok (.lcmp, 1) := by decide +kernel
theorem d_M_share_106 : decode c_M_share 106 = .ok (.ifCond .gt 16, 3) := by decide +kernel
theorem d_M_share_109 : decode c_M_share 109 = .ok (.aload_n 0, 1) := by decide +kernel
theorem d_M_share_110 : decode c_M_share 110 = .ok (.getfield 57, 3) := by decide +kernel
theorem d_M_share_113 : decode c_M_share 113 = .ok (.aload_n 0, 1) := by decide +kernel
theorem d_M_share_114 : decode c_M_share 114 = .ok (.iload_n 1, 1) := by decide +kernel
theorem d_M_share_115 : decode c_M_share 115 = .ok (.invokevirtual 130, 3) := by decide +kernel
theorem d_M_share_118 : decode c_M_share 118 = .ok (.baload, 1) := by decide +kernel
theorem d_M_share_119 : decode c_M_share 119 = .ok (.ifCond .eq 7, 3) := by decide +kernel
theorem d_M_share_122 : decode c_M_share 122 = .ok (.iconst 1, 1) := by decide +kernel
theorem d_M_share_123 : decode c_M_share 123 = .ok (.goto 4, 3) := by decide +kernel
theorem d_M_share_126 : decode c_M_share 126 = .ok (.iconst 0, 1) := by decide +kernel
theorem d_M_share_127 : decode c_M_share 127 = .ok (.invokevirtual 107, 3) := by decide +kernel
theorem d_M_share_130 : decode c_M_share 130 = .ok (.ifCond .eq 4, 3) := by decide +kernel
theorem d_M_share_133 : decode c_M_share 133 = .ok (.return_, 1) := by decide +kernel
theorem d_M_share_134 : decode c_M_share 134 = .ok (.aload_n 0, 1) := by decide +kernel
theorem d_M_share_135 : decode c_M_share 135 = .ok (.getfield 50, 3) := by decide +kernel
theorem d_M_share_138 : decode c_M_share 138 = .ok (.bipush 6, 2) := by decide +kernel
theorem d_M_share_140 : decode c_M_share 140 = .ok (.iload_n 1, 1) := by decide +kernel
theorem d_M_share_141 : decode c_M_share 141 = .ok (.imul, 1) := by decide +kernel
theorem d_M_share_142 : decode c_M_share 142 = .ok (.iload_n 2, 1) := by decide +kernel
theorem d_M_share_143 : decode c_M_share 143 = .ok (.iadd, 1) := by decide +kernel
theorem d_M_share_144 : decode c_M_share 144 = .ok (.iload_n 3, 1) := by decide +kernel
theorem d_M_share_145 : decode c_M_share 145 = .ok (.iastore, 1) := by decide +kernel
theorem d_M_share_146 : decode c_M_share 146 = .ok (.return_, 1) := by decide +kernel
theorem d_M_strike_0 : decode c_M_strike 0 = .ok (.aload_n 0, 1) := by decide +kernel
theorem d_M_strike_1 : decode c_M_strike 1 = .ok (.iload_n 1, 1) := by decide +kernel
theorem d_M_strike_2 : decode c_M_strike 2 = .ok (.invokevirtual 138, 3) := by decide +kernel
theorem d_M_strike_5 : decode c_M_strike 5 = .ok (.ifCond .ne 7, 3) := by decide +kernel
theorem d_M_strike_8 : decode c_M_strike 8 = .ok (.iconst 1, 1) := by decide +kernel
theorem d_M_strike_9 : decode c_M_strike 9 = .ok (.goto 4, 3) := by decide +kernel
theorem d_M_strike_12 : decode c_M_strike 12 = .ok (.iconst 0, 1) := by decide +kernel
theorem d_M_strike_13 : decode c_M_strike 13 = .ok (.istore_n 2, 1) := by decide +kernel
theorem d_M_strike_14 : decode c_M_strike 14 = .ok (.aload_n 0, 1) := by decide +kernel
theorem d_M_strike_15 : decode c_M_strike 15 = .ok (.iload_n 2, 1) := by decide +kernel
theorem d_M_strike_16 : decode c_M_strike 16 = .ok (.iload_n 2, 1) := by decide +kernel
theorem d_M_strike_17 : decode c_M_strike 17 = .ok (.ifCond .ne 29, 3) := by decide +kernel
theorem d_M_strike_20 : decode c_M_strike 20 = .ok (.aload_n 0, 1) := by decide +kernel
theorem d_M_strike_21 : decode c_M_strike 21 = .ok (.getfield 31, 3) := by decide +kernel
theorem d_M_strike_24 : decode c_M_strike 24 = .ok (.iload_n 1, 1) := by decide +kernel
theorem d_M_strike_25 : decode c_M_strike 25 = .ok (.baload, 1) := by decide +kernel
theorem d_M_strike_26 : decode c_M_strike 26 = .ok (.ifCond .ne 16, 3) := by decide +kernel
theorem d_M_strike_29 : decode c_M_strike 29 = .ok (.aload_n 0, 1) := by decide +kernel
theorem d_M_strike_30 : decode c_M_strike 30 = .ok (.getfield 57, 3) := by decide +kernel
theorem d_M_strike_33 : decode c_M_strike 33 = .ok (.aload_n 0, 1) := by decide +kernel
theorem d_M_strike_34 : decode c_M_strike 34 = .ok (.iload_n 1, 1) := by decide +kernel
theorem d_M_strike_35 : decode c_M_strike 35 = .ok (.invokevirtual 141, 3) := by decide +kernel
theorem d_M_strike_38 : decode c_M_strike 38 = .ok (.baload, 1) := by decide +kernel
theorem d_M_strike_39 : decode c_M_strike 39 = .ok (.ifCond .eq 7, 3) := by decide +kernel
theorem d_M_strike_42 : decode c_M_strike 42 = .ok (.iconst 1, 1) := by decide +kernel
theorem d_M_strike_43 : decode c_M_strike 43 = .ok (.goto 4, 3) := by decide +kernel
theorem d_M_strike_46 : decode c_M_strike 46 = .ok (.iconst 0, 1) := by decide +kernel
theorem d_M_strike_47 : decode c_M_strike 47 = .ok (.invokevirtual 107, 3) := by decide +kernel
theorem d_M_strike_50 : decode c_M_strike 50 = .ok (.ifCond .eq 4, 3) := by decide +kernel
theorem d_M_strike_53 : decode c_M_strike 53 = .ok (.return_, 1) := by decide +kernel
theorem d_M_strike_54 : decode c_M_strike 54 = .ok (.aload_n 0, 1) := by decide +kernel
theorem d_M_strike_55 : decode c_M_strike 55 = .ok (.getfield 31, 3) := by decide +kernel
theorem d_M_strike_58 : decode c_M_strike 58 = .ok (.iload_n 1, 1) := by decide +kernel
theorem d_M_strike_59 : decode c_M_strike 59 = .ok (.iconst 1, 1) := by decide +kernel
theorem d_M_strike_60 : decode c_M_strike 60 = .ok (.bastore, 1) := by decide +kernel
theorem d_M_strike_61 : decode c_M_strike 61 = .ok (.return_, 1) := by decide +kernel
theorem d_M_treaty_0 : decode c_M_treaty 0 = .ok (.iload_n 1, 1) := by decide +kernel
theorem d_M_treaty_1 : decode c_M_treaty 1 = .ok (.i2l, 1) := by decide +kernel
theorem d_M_treaty_2 : decode c_M_treaty 2 = .ok (.lconst 0, 1) := by decide +kernel
theorem d_M_treaty_3 : decode c_M_treaty 3 = .ok (.ldc2_w 121, 3) := by decide +kernel
theorem d_M_treaty_6 : decode c_M_treaty 6 = .ok (.invokestatic 93, 3) := by decide +kernel
theorem d_M_treaty_9 : decode c_M_treaty 9 = .ok (.ifCond .eq 27, 3) := by decide +kernel
theorem d_M_treaty_12 : decode c_M_treaty 12 = .ok (.iload_n 1, 1) := by decide +kernel
theorem d_M_treaty_13 : decode c_M_treaty 13 = .ok (.bipush 10, 2) := by decide +kernel
theorem d_M_treaty_15 : decode c_M_treaty 15 = .ok (.irem, 1) := by decide +kernel
theorem d_M_treaty_16 : decode c_M_treaty 16 = .ok (.iconst 3, 1) := by decide +kernel
theorem d_M_treaty_17 : decode c_M_treaty 17 = .ok (.if_icmp .gt 19, 3) := by decide +kernel
theorem d_M_treaty_20 : decode c_M_treaty 20 = .ok (.iload_n 1, 1) := by decide +kernel
theorem d_M_treaty_21 : decode c_M_treaty 21 = .ok (.bipush 10, 2) := by decide +kernel
theorem d_M_treaty_23 : decode c_M_treaty 23 = .ok (.idiv, 1) := by decide +kernel
theorem d_M_treaty_24 : decode c_M_treaty 24 = .ok (.iload_n 2, 1) := by decide +kernel
theorem d_M_treaty_25 : decode c_M_treaty 25 = .ok (.iload_n 3, 1) := by decide +kernel
theorem d_M_treaty_26 : decode c_M_treaty 26 = .ok (.iload 4, 2) := by decide +kernel
theorem d_M_treaty_28 : decode c_M_treaty 28 = .ok (.iload 5, 2) := by decide +kernel
theorem d_M_treaty_30 : decode c_M_treaty 30 = .ok (.invokestatic 123, 3) := by decide +kernel
theorem d_M_treaty_33 : decode c_M_treaty 33 = .ok (.ifCond .ne 7, 3) := by decide +kernel
theorem d_M_treaty_36 : decode c_M_treaty 36 = .ok (.iconst 1, 1) := by decide +kernel
theorem d_M_treaty_37 : decode c_M_treaty 37 = .ok (.goto 4, 3) := by decide +kernel
theorem d_M_treaty_40 : decode c_M_treaty 40 = .ok (.iconst 0, 1) := by decide +kernel
theorem d_M_treaty_41 : decode c_M_treaty 41 = .ok (.istore 6, 2) := by decide +kernel
theorem d_M_treaty_43 : decode c_M_treaty 43 = .ok (.aload_n 0, 1) := by decide +kernel
theorem d_M_treaty_44 : decode c_M_treaty 44 = .ok (.iload 6, 2) := by decide +kernel
theorem d_M_treaty_46 : decode c_M_treaty 46 = .ok (.iload 6, 2) := by decide +kernel
theorem d_M_treaty_48 : decode c_M_treaty 48 = .ok (.ifCond .ne 28, 3) := by decide +kernel
theorem d_M_treaty_51 : decode c_M_treaty 51 = .ok (.aload_n 0, 1) := by decide +kernel
theorem d_M_treaty_52 : decode c_M_treaty 52 = .ok (.getfield 100, 3) := by decide +kernel
theorem d_M_treaty_55 : decode c_M_treaty 55 = .ok (.bipush 10, 2) := by decide +kernel
theorem d_M_treaty_57 : decode c_M_treaty 57 = .ok (.if_icmp .eq 15, 3) := by decide +kernel
theorem d_M_treaty_60 : decode c_M_treaty 60 = .ok (.aload_n 0, 1) := by decide +kernel
theorem d_M_treaty_61 : decode c_M_treaty 61 = .ok (.getfield 57, 3) := by decide +kernel
theorem d_M_treaty_64 : decode c_M_treaty 64 = .ok (.iload_n 1, 1) := by decide +kernel
theorem d_M_treaty_65 : decode c_M_treaty 65 = .ok (.bipush 10, 2) := by decide +kernel
theorem d_M_treaty_67 : decode c_M_treaty 67 = .ok (.irem, 1) := by decide +kernel
theorem d_M_treaty_68 : decode c_M_treaty 68 = .ok (.baload, 1) := by decide +kernel
theorem d_M_treaty_69 : decode c_M_treaty 69 = .ok (.ifCond .eq 7, 3) := by decide +kernel
theorem d_M_treaty_72 : decode c_M_treaty 72 = .ok (.iconst 1, 1) := by decide +kernel
theorem d_M_treaty_73 : decode c_M_treaty 73 = .ok (.goto 4, 3) := by decide +kernel
theorem d_M_treaty_76 : decode c_M_treaty 76 = .ok (.iconst 0, 1) := by decide +kernel
theorem d_M_treaty_77 : decode c_M_treaty 77 = .ok (.invokevirtual 107, 3) := by decide +kernel
theorem d_M_treaty_80 : decode c_M_treaty 80 = .ok (.ifCond .eq 5, 3) := by decide +kernel
theorem d_M_treaty_83 : decode c_M_treaty 83 = .ok (.iconst 0, 1) := by decide +kernel
theorem d_M_treaty_84 : decode c_M_treaty 84 = .ok (.ireturn, 1) := by decide +kernel
theorem d_M_treaty_85 : decode c_M_treaty 85 = .ok (.aload_n 0, 1) := by decide +kernel
theorem d_M_treaty_86 : decode c_M_treaty 86 = .ok (.getfield 35, 3) := by decide +kernel
theorem d_M_treaty_89 : decode c_M_treaty 89 = .ok (.aload_n 0, 1) := by decide +kernel
theorem d_M_treaty_90 : decode c_M_treaty 90 = .ok (.getfield 100, 3) := by decide +kernel
theorem d_M_treaty_93 : decode c_M_treaty 93 = .ok (.iload_n 1, 1) := by decide +kernel
theorem d_M_treaty_94 : decode c_M_treaty 94 = .ok (.iastore, 1) := by decide +kernel
theorem d_M_treaty_95 : decode c_M_treaty 95 = .ok (.aload_n 0, 1) := by decide +kernel
theorem d_M_treaty_96 : decode c_M_treaty 96 = .ok (.getfield 38, 3) := by decide +kernel
theorem d_M_treaty_99 : decode c_M_treaty 99 = .ok (.aload_n 0, 1) := by decide +kernel
theorem d_M_treaty_100 : decode c_M_treaty 100 = .ok (.getfield 100, 3) := by decide +kernel
theorem d_M_treaty_103 : decode c_M_treaty 103 = .ok (.iload_n 2, 1) := by decide +kernel
theorem d_M_treaty_104 : decode c_M_treaty 104 = .ok (.iastore, 1) := by decide +kernel
theorem d_M_treaty_105 : decode c_M_treaty 105 = .ok (.aload_n 0, 1) := by decide +kernel
theorem d_M_treaty_106 : decode c_M_treaty 106 = .ok (.getfield 41, 3) := by decide +kernel
theorem d_M_treaty_109 : decode c_M_treaty 109 = .ok (.aload_n 0, 1) := by decide +kernel
theorem d_M_treaty_110 : decode c_M_treaty 110 = .ok (.getfield 100, 3) := by decide +kernel
theorem d_M_treaty_113 : decode c_M_treaty 113 = .ok (.iload_n 3, 1) := by decide +kernel
theorem d_M_treaty_114 : decode c_M_treaty 114 = .ok (.iastore, 1) := by decide +kernel
theorem d_M_treaty_115 : decode c_M_treaty 115 = .ok (.aload_n 0, 1) := by decide +kernel
theorem d_M_treaty_116 : decode c_M_treaty 116 = .ok (.getfield 44, 3) := by decide +kernel
theorem d_M_treaty_119 : decode c_M_treaty 119 = .ok (.aload_n 0, 1) := by decide +kernel
theorem d_M_treaty_120 : decode c_M_treaty 120 = .ok (.getfield 100, 3) := by decide +kernel
theorem d_M_treaty_123 : decode c_M_treaty 123 = .ok (.iload 4, 2) := by decide +kernel
theorem d_M_treaty_125 : decode c_M_treaty 125 = .ok (.iastore, 1) := by decide +kernel
theorem d_M_treaty_126 : decode c_M_treaty 126 = .ok (.aload_n 0, 1) := by decide +kernel
theorem d_M_treaty_127 : decode c_M_treaty 127 = .ok (.getfield 47, 3) := by decide +kernel
theorem d_M_treaty_130 : decode c_M_treaty 130 = .ok (.aload_n 0, 1) := by decide +kernel
theorem d_M_treaty_131 : decode c_M_treaty 131 = .ok (.getfield 100, 3) := by decide +kernel
theorem d_M_treaty_134 : decode c_M_treaty 134 = .ok (.iload 5, 2) := by decide +kernel
theorem d_M_treaty_136 : decode c_M_treaty 136 = .ok (.iastore, 1) := by decide +kernel
theorem d_M_treaty_137 : decode c_M_treaty 137 = .ok (.aload_n 0, 1) := by decide +kernel
theorem d_M_treaty_138 : decode c_M_treaty 138 = .ok (.dup, 1) := by decide +kernel
theorem d_M_treaty_139 : decode c_M_treaty 139 = .ok (.getfield 100, 3) := by decide +kernel
theorem d_M_treaty_142 : decode c_M_treaty 142 = .ok (.iconst 1, 1) := by decide +kernel
theorem d_M_treaty_143 : decode c_M_treaty 143 = .ok (.iadd, 1) := by decide +kernel
theorem d_M_treaty_144 : decode c_M_treaty 144 = .ok (.putfield 100, 3) := by decide +kernel
theorem d_M_treaty_147 : decode c_M_treaty 147 = .ok (.aload_n 0, 1) := by decide +kernel
theorem d_M_treaty_148 : decode c_M_treaty 148 = .ok (.getfield 100, 3) := by decide +kernel
theorem d_M_treaty_151 : decode c_M_treaty 151 = .ok (.iconst 1, 1) := by decide +kernel
theorem d_M_treaty_152 : decode c_M_treaty 152 = .ok (.isub, 1) := by decide +kernel
theorem d_M_treaty_153 : decode c_M_treaty 153 = .ok (.ireturn, 1) := by decide +kernel
theorem d_M_excessOfEvents_0 : decode c_M_excessOfEvents 0 = .ok (.iconst 1, 1) := by decide +kernel
theorem d_M_excessOfEvents_1 : decode c_M_excessOfEvents 1 = .ok (.istore_n 2, 1) := by decide +kernel
theorem d_M_excessOfEvents_2 : decode c_M_excessOfEvents 2 = .ok (.iload_n 2, 1) := by decide +kernel
theorem d_M_excessOfEvents_3 : decode c_M_excessOfEvents 3 = .ok (.bipush 10, 2) := by decide +kernel
theorem d_M_excessOfEvents_5 : decode c_M_excessOfEvents 5 = .ok (.if_icmp .ge 268, 3) := by decide +kernel
theorem d_M_excessOfEvents_8 : decode c_M_excessOfEvents 8 = .ok (.iconst (-1), 1) := by decide +kernel
theorem d_M_excessOfEvents_9 : decode c_M_excessOfEvents 9 = .ok (.istore_n 3, 1) := by decide +kernel
theorem d_M_excessOfEvents_10 : decode c_M_excessOfEvents 10 = .ok (.iconst 0, 1) := by decide +kernel
theorem d_M_excessOfEvents_11 : decode c_M_excessOfEvents 11 = .ok (.istore 4, 2) := by decide +kernel
theorem d_M_excessOfEvents_13 : decode c_M_excessOfEvents 13 = .ok (.iload 4, 2) := by decide +kernel
theorem d_M_excessOfEvents_15 : decode c_M_excessOfEvents 15 = .ok (.aload_n 0, 1) := by decide +kernel
theorem d_M_excessOfEvents_16 : decode c_M_excessOfEvents 16 = .ok (.getfield 97, 3) := by decide +kernel
theorem d_M_excessOfEvents_19 : decode c_M_excessOfEvents 19 = .ok (.if_icmp .ge 114, 3) := by decide +kernel
theorem d_M_excessOfEvents_22 : decode c_M_excessOfEvents 22 = .ok (.aload_n 0, 1) := by decide +kernel
theorem d_M_excessOfEvents_23 : decode c_M_excessOfEvents 23 = .ok (.iload 4, 2) := by decide +kernel
theorem d_M_excessOfEvents_25 : decode c_M_excessOfEvents 25 = .ok (.aload_n 0, 1) := by decide +kernel
theorem d_M_excessOfEvents_26 : decode c_M_excessOfEvents 26 = .ok (.iload_n 1, 1) := by decide +kernel
theorem d_M_excessOfEvents_27 : decode c_M_excessOfEvents 27 = .ok (.invokevirtual 130, 3) := by decide +kernel
theorem d_M_excessOfEvents_30 : decode c_M_excessOfEvents 30 = .ok (.invokevirtual 160, 3) := by decide +kernel
theorem d_M_excessOfEvents_33 : decode c_M_excessOfEvents 33 = .ok (.ifCond .eq 94, 3) := by decide +kernel
theorem d_M_excessOfEvents_36 : decode c_M_excessOfEvents 36 = .ok (.aload_n 0, 1) := by decide +kernel
theorem d_M_excessOfEvents_37 : decode c_M_excessOfEvents 37 = .ok (.getfield 22, 3) := by decide +kernel
theorem d_M_excessOfEvents_40 : decode c_M_excessOfEvents 40 = .ok (.iload 4, 2) := by decide +kernel
theorem d_M_excessOfEvents_42 : decode c_M_excessOfEvents 42 = .ok (.iaload, 1) := by decide +kernel
theorem d_M_excessOfEvents_43 : decode c_M_excessOfEvents 43 = .ok (.iload_n 2, 1) := by decide +kernel
theorem d_M_excessOfEvents_44 : decode c_M_excessOfEvents 44 = .ok (.if_icmp .ne 83, 3) := by decide +kernel
theorem d_M_excessOfEvents_47 : decode c_M_excessOfEvents 47 = .ok (.aload_n 0, 1) := by decide +kernel
theorem d_M_excessOfEvents_48 : decode c_M_excessOfEvents 48 = .ok (.iload_n 1, 1) := by decide +kernel
theorem d_M_excessOfEvents_49 : decode c_M_excessOfEvents 49 = .ok (.iload_n 2, 1) := by decide +kernel
theorem d_M_excessOfEvents_50 : decode c_M_excessOfEvents 50 = .ok (.aload_n 0, 1) := by decide +kernel
theorem d_M_excessOfEvents_51 : decode c_M_excessOfEvents 51 = .ok (.getfield 25, 3) := by decide +kernel
theorem d_M_excessOfEvents_54 : decode c_M_excessOfEvents 54 = .ok (.iload 4, 2) := by decide +kernel
theorem d_M_excessOfEvents_56 : decode c_M_excessOfEvents 56 = .ok (.iaload, 1) := by decide +kernel
theorem d_M_excessOfEvents_57 : decode c_M_excessOfEvents 57 = .ok (.invokevirtual 172, 3) := by decide +kernel
theorem d_M_excessOfEvents_60 : decode c_M_excessOfEvents 60 = .ok (.lstore 5, 2) := by decide +kernel
theorem d_M_excessOfEvents_62 : decode c_M_excessOfEvents 62 = .ok (.iload_n 3, 1) := by decide +kernel
theorem d_M_excessOfEvents_63 : decode c_M_excessOfEvents 63 = .ok (.ifCond .lt 40, 3) := by decide +kernel
theorem d_M_excessOfEvents_66 : decode c_M_excessOfEvents 66 = .ok (.lload 5, 2) := by decide +kernel
theorem d_M_excessOfEvents_68 : decode c_M_excessOfEvents 68 = .ok (.aload_n 0, 1) := by decide +kernel
theorem d_M_excessOfEvents_69 : decode c_M_excessOfEvents 69 = .ok (.iload_n 1, 1) := by decide +kernel
theorem d_M_excessOfEvents_70 : decode c_M_excessOfEvents 70 = .ok (.iload_n 2, 1) := by decide +kernel
theorem d_M_excessOfEvents_71 : decode c_M_excessOfEvents 71 = .ok (.iload_n 3, 1) := by decide +kernel
theorem d_M_excessOfEvents_72 : decode c_M_excessOfEvents 72 = .ok (.invokevirtual 172, 3) := by decide +kernel
theorem d_M_excessOfEvents_75 : decode c_M_excessOfEvents 75 = .ok (.lcmp, 1) := by decide +kernel
theorem d_M_excessOfEvents_76 : decode c_M_excessOfEvents 76 = .ok (.ifCond .gt 27, 3) := by decide +kernel
theorem d_M_excessOfEvents_79 : decode c_M_excessOfEvents 79 = .ok (.lload 5, 2) := by decide +kernel
theorem d_M_excessOfEvents_81 : decode c_M_excessOfEvents 81 = .ok (.aload_n 0, 1) := by decide +kernel
theorem d_M_excessOfEvents_82 : decode c_M_excessOfEvents 82 = .ok (.iload_n 1, 1) := by decide +kernel
theorem d_M_excessOfEvents_83 : decode c_M_excessOfEvents 83 = .ok (.iload_n 2, 1) := by decide +kernel
theorem d_M_excessOfEvents_84 : decode c_M_excessOfEvents 84 = .ok (.iload_n 3, 1) := by decide +kernel
theorem d_M_excessOfEvents_85 : decode c_M_excessOfEvents 85 = .ok (.invokevirtual 172, 3) := by decide +kernel
theorem d_M_excessOfEvents_88 : decode c_M_excessOfEvents 88 = .ok (.lcmp, 1) := by decide +kernel
theorem d_M_excessOfEvents_89 : decode c_M_excessOfEvents 89 = .ok (.ifCond .ne 18, 3) := by decide +kernel
theorem d_M_excessOfEvents_92 : decode c_M_excessOfEvents 92 = .ok (.aload_n 0, 1) := by decide +kernel
theorem d_M_excessOfEvents_93 : decode c_M_excessOfEvents 93 = .ok (.getfield 25, 3) := by decide +kernel
theorem d_M_excessOfEvents_96 : decode c_M_excessOfEvents 96 = .ok (.iload 4, 2) := by decide +kernel
theorem d_M_excessOfEvents_98 : decode c_M_excessOfEvents 98 = .ok (.iaload, 1) := by decide +kernel
theorem d_M_excessOfEvents_99 : decode c_M_excessOfEvents 99 = .ok (.iload_n 3, 1) := by decide +kernel
theorem d_M_excessOfEvents_100 : decode c_M_excessOfEvents 100 = .ok (.if_icmp .ge 7, 3) := by decide +kernel
theorem d_M_excessOfEvents_103 : decode c_M_excessOfEvents 103 = .ok (.iconst 1, 1) := by decide +kernel
theorem d_M_excessOfEvents_104 : decode c_M_excessOfEvents 104 = .ok (.goto 4, 3) := by decide +kernel
theorem d_M_excessOfEvents_107 : decode c_M_excessOfEvents 107 = .ok (.iconst 0, 1) := by decide +kernel
theorem d_M_excessOfEvents_108 : decode c_M_excessOfEvents 108 = .ok (.istore 7, 2) := by decide +kernel
theorem d_M_excessOfEvents_110 : decode c_M_excessOfEvents 110 = .ok (.iload 7, 2) := by decide +kernel
theorem d_M_excessOfEvents_112 : decode c_M_excessOfEvents 112 = .ok (.ifCond .eq 13, 3) := by decide +kernel
theorem d_M_excessOfEvents_115 : decode c_M_excessOfEvents 115 = .ok (.aload_n 0, 1) := by decide +kernel
theorem d_M_excessOfEvents_116 : decode c_M_excessOfEvents 116 = .ok (.getfield 25, 3) := by decide +kernel
theorem d_M_excessOfEvents_119 : decode c_M_excessOfEvents 119 = .ok (.iload 4, 2) := by decide +kernel
theorem d_M_excessOfEvents_121 : decode c_M_excessOfEvents 121 = .ok (.iaload, 1) := by decide +kernel
theorem d_M_excessOfEvents_122 : decode c_M_excessOfEvents 122 = .ok (.goto 4, 3) := by decide +kernel
theorem d_M_excessOfEvents_125 : decode c_M_excessOfEvents 125 = .ok (.iload_n 3, 1) := by decide +kernel
theorem d_M_excessOfEvents_126 : decode c_M_excessOfEvents 126 = .ok (.istore_n 3, 1) := by decide +kernel
theorem d_M_excessOfEvents_127 : decode c_M_excessOfEvents 127 = .ok (.iinc 4 1, 3) := by decide +kernel
theorem d_M_excessOfEvents_130 : decode c_M_excessOfEvents 130 = .ok (.goto (-117), 3) := by decide +kernel
theorem d_M_excessOfEvents_133 : decode c_M_excessOfEvents 133 = .ok (.aload_n 0, 1) := by decide +kernel
theorem d_M_excessOfEvents_134 : decode c_M_excessOfEvents 134 = .ok (.getfield 72, 3) := by decide +kernel
theorem d_M_excessOfEvents_137 : decode c_M_excessOfEvents 137 = .ok (.bipush 10, 2) := by decide +kernel
theorem d_M_excessOfEvents_139 : decode c_M_excessOfEvents 139 = .ok (.iload_n 1, 1) := by decide +kernel
theorem d_M_excessOfEvents_140 : decode c_M_excessOfEvents 140 = .ok (.imul, 1) := by decide +kernel
theorem d_M_excessOfEvents_141 : decode c_M_excessOfEvents 141 = .ok (.iload_n 2, 1) := by decide +kernel
theorem d_M_excessOfEvents_142 : decode c_M_excessOfEvents 142 = .ok (.iadd, 1) := by decide +kernel
theorem d_M_excessOfEvents_143 : decode c_M_excessOfEvents 143 = .ok (.iload_n 3, 1) := by decide +kernel
theorem d_M_excessOfEvents_144 : decode c_M_excessOfEvents 144 = .ok (.iastore, 1) := by decide +kernel
theorem d_M_excessOfEvents_145 : decode c_M_excessOfEvents 145 = .ok (.iload_n 3, 1) := by decide +kernel
theorem d_M_excessOfEvents_146 : decode c_M_excessOfEvents 146 = .ok (.ifCond .lt 121, 3) := by decide +kernel
theorem d_M_excessOfEvents_149 : decode c_M_excessOfEvents 149 = .ok (.aload_n 0, 1) := by decide +kernel
theorem d_M_excessOfEvents_150 : decode c_M_excessOfEvents 150 = .ok (.iload_n 1, 1) := by decide +kernel
theorem d_M_excessOfEvents_151 : decode c_M_excessOfEvents 151 = .ok (.iload_n 2, 1) := by decide +kernel
theorem d_M_excessOfEvents_152 : decode c_M_excessOfEvents 152 = .ok (.iload_n 3, 1) := by decide +kernel
theorem d_M_excessOfEvents_153 : decode c_M_excessOfEvents 153 = .ok (.invokevirtual 172, 3) := by decide +kernel
theorem d_M_excessOfEvents_156 : decode c_M_excessOfEvents 156 = .ok (.lstore 4, 2) := by decide +kernel
theorem d_M_excessOfEvents_158 : decode c_M_excessOfEvents 158 = .ok (.iconst 0, 1) := by decide +kernel
theorem d_M_excessOfEvents_159 : decode c_M_excessOfEvents 159 = .ok (.istore 6, 2) := by decide +kernel
theorem d_M_excessOfEvents_161 : decode c_M_excessOfEvents 161 = .ok (.iload 6, 2) := by decide +kernel
theorem d_M_excessOfEvents_163 : decode c_M_excessOfEvents 163 = .ok (.aload_n 0, 1) := by decide +kernel
theorem d_M_excessOfEvents_164 : decode c_M_excessOfEvents 164 = .ok (.getfield 97, 3) := by decide +kernel
theorem d_M_excessOfEvents_167 : decode c_M_excessOfEvents 167 = .ok (.if_icmp .ge 69, 3) := by decide +kernel
theorem d_M_excessOfEvents_170 : decode c_M_excessOfEvents 170 = .ok (.aload_n 0, 1) := by decide +kernel
theorem d_M_excessOfEvents_171 : decode c_M_excessOfEvents 171 = .ok (.getfield 78, 3) := by decide +kernel
theorem d_M_excessOfEvents_174 : decode c_M_excessOfEvents 174 = .ok (.iload 6, 2) := by decide +kernel
theorem d_M_excessOfEvents_176 : decode c_M_excessOfEvents 176 = .ok (.aload_n 0, 1) := by decide +kernel
theorem d_M_excessOfEvents_177 : decode c_M_excessOfEvents 177 = .ok (.iload 6, 2) := by decide +kernel
theorem d_M_excessOfEvents_179 : decode c_M_excessOfEvents 179 = .ok (.aload_n 0, 1) := by decide +kernel
theorem d_M_excessOfEvents_180 : decode c_M_excessOfEvents 180 = .ok (.iload_n 1, 1) := by decide +kernel
theorem d_M_excessOfEvents_181 : decode c_M_excessOfEvents 181 = .ok (.invokevirtual 130, 3) := by decide +kernel
theorem d_M_excessOfEvents_184 : decode c_M_excessOfEvents 184 = .ok (.invokevirtual 160, 3) := by decide +kernel
theorem d_M_excessOfEvents_187 : decode c_M_excessOfEvents 187 = .ok (.ifCond .eq 41, 3) := by decide +kernel
theorem d_M_excessOfEvents_190 : decode c_M_excessOfEvents 190 = .ok (.aload_n 0, 1) := by decide +kernel
theorem d_M_excessOfEvents_191 : decode c_M_excessOfEvents 191 = .ok (.getfield 22, 3) := by decide +kernel
theorem d_M_excessOfEvents_194 : decode c_M_excessOfEvents 194 = .ok (.iload 6, 2) := by decide +kernel
theorem d_M_excessOfEvents_196 : decode c_M_excessOfEvents 196 = .ok (.iaload, 1) := by decide +kernel
theorem d_M_excessOfEvents_197 : decode c_M_excessOfEvents 197 = .ok (.iload_n 2, 1) := by decide +kernel
theorem d_M_excessOfEvents_198 : decode c_M_excessOfEvents 198 = .ok (.if_icmp .ne 30, 3) := by decide +kernel
theorem d_M_excessOfEvents_201 : decode c_M_excessOfEvents 201 = .ok (.aload_n 0, 1) := by decide +kernel
theorem d_M_excessOfEvents_202 : decode c_M_excessOfEvents 202 = .ok (.getfield 25, 3) := by decide +kernel
theorem d_M_excessOfEvents_205 : decode c_M_excessOfEvents 205 = .ok (.iload 6, 2) := by decide +kernel
theorem d_M_excessOfEvents_207 : decode c_M_excessOfEvents 207 = .ok (.iaload, 1) := by decide +kernel
theorem d_M_excessOfEvents_208 : decode c_M_excessOfEvents 208 = .ok (.i2l, 1) := by decide +kernel
theorem d_M_excessOfEvents_209 : decode c_M_excessOfEvents 209 = .ok (.iload_n 3, 1) := by decide +kernel
theorem d_M_excessOfEvents_210 : decode c_M_excessOfEvents 210 = .ok (.i2l, 1) := by decide +kernel
theorem d_M_excessOfEvents_211 : decode c_M_excessOfEvents 211 = .ok (.iload_n 3, 1) := by decide +kernel
theorem d_M_excessOfEvents_212 : decode c_M_excessOfEvents 212 = .ok (.bipush 72, 2) := by decide +kernel
theorem d_M_excessOfEvents_214 : decode c_M_excessOfEvents 214 = .ok (.iadd, 1) := by decide +kernel
theorem d_M_excessOfEvents_215 : decode c_M_excessOfEvents 215 = .ok (.iconst 1, 1) := by decide +kernel
theorem d_M_excessOfEvents_216 : decode c_M_excessOfEvents 216 = .ok (.isub, 1) := by decide +kernel
theorem d_M_excessOfEvents_217 : decode c_M_excessOfEvents 217 = .ok (.i2l, 1) := by decide +kernel
theorem d_M_excessOfEvents_218 : decode c_M_excessOfEvents 218 = .ok (.invokestatic 93, 3) := by decide +kernel
theorem d_M_excessOfEvents_221 : decode c_M_excessOfEvents 221 = .ok (.ifCond .eq 7, 3) := by decide +kernel
theorem d_M_excessOfEvents_224 : decode c_M_excessOfEvents 224 = .ok (.iconst 1, 1) := by decide +kernel
theorem d_M_excessOfEvents_225 : decode c_M_excessOfEvents 225 = .ok (.goto 4, 3) := by decide +kernel
theorem d_M_excessOfEvents_228 : decode c_M_excessOfEvents 228 = .ok (.iconst 0, 1) := by decide +kernel
theorem d_M_excessOfEvents_229 : decode c_M_excessOfEvents 229 = .ok (.bastore, 1) := by decide +kernel
theorem d_M_excessOfEvents_230 : decode c_M_excessOfEvents 230 = .ok (.iinc 6 1, 3) := by decide +kernel
theorem d_M_excessOfEvents_233 : decode c_M_excessOfEvents 233 = .ok (.goto (-72), 3) := by decide +kernel
theorem d_M_excessOfEvents_236 : decode c_M_excessOfEvents 236 = .ok (.aload_n 0, 1) := by decide +kernel
theorem d_M_excessOfEvents_237 : decode c_M_excessOfEvents 237 = .ok (.iload_n 1, 1) := by decide +kernel
theorem d_M_excessOfEvents_238 : decode c_M_excessOfEvents 238 = .ok (.aload_n 0, 1) := by decide +kernel
theorem d_M_excessOfEvents_239 : decode c_M_excessOfEvents 239 = .ok (.iload_n 1, 1) := by decide +kernel
theorem d_M_excessOfEvents_240 : decode c_M_excessOfEvents 240 = .ok (.lload 4, 2) := by decide +kernel
theorem d_M_excessOfEvents_242 : decode c_M_excessOfEvents 242 = .ok (.aload_n 0, 1) := by decide +kernel
theorem d_M_excessOfEvents_243 : decode c_M_excessOfEvents 243 = .ok (.getfield 38, 3) := by decide +kernel
theorem d_M_excessOfEvents_246 : decode c_M_excessOfEvents 246 = .ok (.iload_n 1, 1) := by decide +kernel
theorem d_M_excessOfEvents_247 : decode c_M_excessOfEvents 247 = .ok (.iaload, 1) := by decide +kernel
theorem d_M_excessOfEvents_248 : decode c_M_excessOfEvents 248 = .ok (.i2l, 1) := by decide +kernel
theorem d_M_excessOfEvents_249 : decode c_M_excessOfEvents 249 = .ok (.aload_n 0, 1) := by decide +kernel
theorem d_M_excessOfEvents_250 : decode c_M_excessOfEvents 250 = .ok (.getfield 41, 3) := by decide +kernel
theorem d_M_excessOfEvents_253 : decode c_M_excessOfEvents 253 = .ok (.iload_n 1, 1) := by decide +kernel
theorem d_M_excessOfEvents_254 : decode c_M_excessOfEvents 254 = .ok (.iaload, 1) := by decide +kernel
theorem d_M_excessOfEvents_255 : decode c_M_excessOfEvents 255 = .ok (.i2l, 1) := by decide +kernel
theorem d_M_excessOfEvents_256 : decode c_M_excessOfEvents 256 = .ok (.invokestatic 164, 3) := by decide +kernel
theorem d_M_excessOfEvents_259 : decode c_M_excessOfEvents 259 = .ok (.invokevirtual 168, 3) := by decide +kernel
theorem d_M_excessOfEvents_262 : decode c_M_excessOfEvents 262 = .ok (.lload 4, 2) := by decide +kernel
theorem d_M_excessOfEvents_264 : decode c_M_excessOfEvents 264 = .ok (.invokevirtual 176, 3) := by decide +kernel
theorem d_M_excessOfEvents_267 : decode c_M_excessOfEvents 267 = .ok (.iinc 2 1, 3) := by decide +kernel
theorem d_M_excessOfEvents_270 : decode c_M_excessOfEvents 270 = .ok (.goto (-268), 3) := by decide +kernel
theorem d_M_excessOfEvents_273 : decode c_M_excessOfEvents 273 = .ok (.return_, 1) := by decide +kernel
theorem d_M_apply_0 : decode c_M_apply 0 = .ok (.aload_n 0, 1) := by decide +kernel
theorem d_M_apply_1 : decode c_M_apply 1 = .ok (.lconst 0, 1) := by decide +kernel
theorem d_M_apply_2 : decode c_M_apply 2 = .ok (.putfield 147, 3) := by decide +kernel
theorem d_M_apply_5 : decode c_M_apply 5 = .ok (.aload_n 0, 1) := by decide +kernel
theorem d_M_apply_6 : decode c_M_apply 6 = .ok (.lconst 0, 1) := by decide +kernel
theorem d_M_apply_7 : decode c_M_apply 7 = .ok (.putfield 151, 3) := by decide +kernel
theorem d_M_apply_10 : decode c_M_apply 10 = .ok (.aload_n 0, 1) := by decide +kernel
theorem d_M_apply_11 : decode c_M_apply 11 = .ok (.iload_n 1, 1) := by decide +kernel
theorem d_M_apply_12 : decode c_M_apply 12 = .ok (.invokevirtual 130, 3) := by decide +kernel
theorem d_M_apply_15 : decode c_M_apply 15 = .ok (.istore_n 2, 1) := by decide +kernel
theorem d_M_apply_16 : decode c_M_apply 16 = .ok (.aload_n 0, 1) := by decide +kernel
theorem d_M_apply_17 : decode c_M_apply 17 = .ok (.iload_n 1, 1) := by decide +kernel
theorem d_M_apply_18 : decode c_M_apply 18 = .ok (.invokevirtual 144, 3) := by decide +kernel
theorem d_M_apply_21 : decode c_M_apply 21 = .ok (.iconst 2, 1) := by decide +kernel
theorem d_M_apply_22 : decode c_M_apply 22 = .ok (.if_icmp .ge 133, 3) := by decide +kernel
theorem d_M_apply_25 : decode c_M_apply 25 = .ok (.iconst 0, 1) := by decide +kernel
theorem d_M_apply_26 : decode c_M_apply 26 = .ok (.istore_n 3, 1) := by decide +kernel
theorem d_M_apply_27 : decode c_M_apply 27 = .ok (.iload_n 3, 1) := by decide +kernel
theorem d_M_apply_28 : decode c_M_apply 28 = .ok (.aload_n 0, 1) := by decide +kernel
theorem d_M_apply_29 : decode c_M_apply 29 = .ok (.getfield 97, 3) := by decide +kernel
theorem d_M_apply_32 : decode c_M_apply 32 = .ok (.if_icmp .ge 46, 3) := by decide +kernel
theorem d_M_apply_35 : decode c_M_apply 35 = .ok (.aload_n 0, 1) := by decide +kernel
theorem d_M_apply_36 : decode c_M_apply 36 = .ok (.iload_n 3, 1) := by decide +kernel
theorem d_M_apply_37 : decode c_M_apply 37 = .ok (.iload_n 2, 1) := by decide +kernel
theorem d_M_apply_38 : decode c_M_apply 38 = .ok (.invokevirtual 160, 3) := by decide +kernel
theorem d_M_apply_41 : decode c_M_apply 41 = .ok (.ifCond .eq 31, 3) := by decide +kernel
theorem d_M_apply_44 : decode c_M_apply 44 = .ok (.aload_n 0, 1) := by decide +kernel
theorem d_M_apply_45 : decode c_M_apply 45 = .ok (.iload_n 1, 1) := by decide +kernel
theorem d_M_apply_46 : decode c_M_apply 46 = .ok (.iload_n 3, 1) := by decide +kernel
theorem d_M_apply_47 : decode c_M_apply 47 = .ok (.aload_n 0, 1) := by decide +kernel
theorem d_M_apply_48 : decode c_M_apply 48 = .ok (.getfield 60, 3) := by decide +kernel
theorem d_M_apply_51 : decode c_M_apply 51 = .ok (.iload_n 3, 1) := by decide +kernel
theorem d_M_apply_52 : decode c_M_apply 52 = .ok (.laload, 1) := by decide +kernel
theorem d_M_apply_53 : decode c_M_apply 53 = .ok (.aload_n 0, 1) := by decide +kernel
theorem d_M_apply_54 : decode c_M_apply 54 = .ok (.iload_n 1, 1) := by decide +kernel
theorem d_M_apply_55 : decode c_M_apply 55 = .ok (.aload_n 0, 1) := by decide +kernel
theorem d_M_apply_56 : decode c_M_apply 56 = .ok (.getfield 19, 3) := by decide +kernel
theorem d_M_apply_59 : decode c_M_apply 59 = .ok (.iload_n 3, 1) := by decide +kernel
theorem d_M_apply_60 : decode c_M_apply 60 = .ok (.iaload, 1) := by decide +kernel
theorem d_M_apply_61 : decode c_M_apply 61 = .ok (.invokevirtual 180, 3) := by decide +kernel
theorem d_M_apply_64 : decode c_M_apply 64 = .ok (.lmul, 1) := by decide +kernel
theorem d_M_apply_65 : decode c_M_apply 65 = .ok (.ldc2_w 115, 3) := by decide +kernel
theorem d_M_apply_68 : decode c_M_apply 68 = .ok (.ldiv, 1) := by decide +kernel
theorem d_M_apply_69 : decode c_M_apply 69 = .ok (.invokevirtual 156, 3) := by decide +kernel
theorem d_M_apply_72 : decode c_M_apply 72 = .ok (.iinc 3 1, 3) := by decide +kernel
theorem d_M_apply_75 : decode c_M_apply 75 = .ok (.goto (-48), 3) := by decide +kernel
theorem d_M_apply_78 : decode c_M_apply 78 = .ok (.iconst 0, 1) := by decide +kernel
theorem d_M_apply_79 : decode c_M_apply 79 = .ok (.istore_n 3, 1) := by decide +kernel
theorem d_M_apply_80 : decode c_M_apply 80 = .ok (.iload_n 3, 1) := by decide +kernel
theorem d_M_apply_81 : decode c_M_apply 81 = .ok (.bipush 12, 2) := by decide +kernel
theorem d_M_apply_83 : decode c_M_apply 83 = .ok (.if_icmp .ge 69, 3) := by decide +kernel
theorem d_M_apply_86 : decode c_M_apply 86 = .ok (.aload_n 0, 1) := by decide +kernel
theorem d_M_apply_87 : decode c_M_apply 87 = .ok (.getfield 7, 3) := by decide +kernel
theorem d_M_apply_90 : decode c_M_apply 90 = .ok (.iload_n 3, 1) := by decide +kernel
theorem d_M_apply_91 : decode c_M_apply 91 = .ok (.iaload, 1) := by decide +kernel
theorem d_M_apply_92 : decode c_M_apply 92 = .ok (.ifCond .le 54, 3) := by decide +kernel
theorem d_M_apply_95 : decode c_M_apply 95 = .ok (.aload_n 0, 1) := by decide +kernel
theorem d_M_apply_96 : decode c_M_apply 96 = .ok (.getfield 16, 3) := by decide +kernel
theorem d_M_apply_99 : decode c_M_apply 99 = .ok (.iload_n 3, 1) := by decide +kernel
theorem d_M_apply_100 : decode c_M_apply 100 = .ok (.iaload, 1) := by decide +kernel
theorem d_M_apply_101 : decode c_M_apply 101 = .ok (.iload_n 2, 1) := by decide +kernel
theorem d_M_apply_102 : decode c_M_apply 102 = .ok (.if_icmp .ne 44, 3) := by decide +kernel
theorem d_M_apply_105 : decode c_M_apply 105 = .ok (.aload_n 0, 1) := by decide +kernel
theorem d_M_apply_106 : decode c_M_apply 106 = .ok (.getfield 75, 3) := by decide +kernel
theorem d_M_apply_109 : decode c_M_apply 109 = .ok (.iload_n 3, 1) := by decide +kernel
theorem d_M_apply_110 : decode c_M_apply 110 = .ok (.laload, 1) := by decide +kernel
theorem d_M_apply_111 : decode c_M_apply 111 = .ok (.aload_n 0, 1) := by decide +kernel
theorem d_M_apply_112 : decode c_M_apply 112 = .ok (.iload_n 1, 1) := by decide +kernel
theorem d_M_apply_113 : decode c_M_apply 113 = .ok (.iload_n 3, 1) := by decide +kernel
theorem d_M_apply_114 : decode c_M_apply 114 = .ok (.invokevirtual 180, 3) := by decide +kernel
theorem d_M_apply_117 : decode c_M_apply 117 = .ok (.lmul, 1) := by decide +kernel
theorem d_M_apply_118 : decode c_M_apply 118 = .ok (.ldc2_w 115, 3) := by decide +kernel
theorem d_M_apply_121 : decode c_M_apply 121 = .ok (.ldiv, 1) := by decide +kernel
theorem d_M_apply_122 : decode c_M_apply 122 = .ok (.lstore 4, 2) := by decide +kernel
theorem d_M_apply_124 : decode c_M_apply 124 = .ok (.aload_n 0, 1) := by decide +kernel
theorem d_M_apply_125 : decode c_M_apply 125 = .ok (.getfield 75, 3) := by decide +kernel
theorem d_M_apply_128 : decode c_M_apply 128 = .ok (.iload_n 3, 1) := by decide +kernel
theorem d_M_apply_129 : decode c_M_apply 129 = .ok (.dup2, 1) := by decide +kernel
theorem d_M_apply_130 : decode c_M_apply 130 = .ok (.laload, 1) := by decide +kernel
theorem d_M_apply_131 : decode c_M_apply 131 = .ok (.lload 4, 2) := by decide +kernel
theorem d_M_apply_133 : decode c_M_apply 133 = .ok (.lsub, 1) := by decide +kernel
theorem d_M_apply_134 : decode c_M_apply 134 = .ok (.lastore, 1) := by decide +kernel
theorem d_M_apply_135 : decode c_M_apply 135 = .ok (.aload_n 0, 1) := by decide +kernel
theorem d_M_apply_136 : decode c_M_apply 136 = .ok (.getfield 69, 3) := by decide +kernel
theorem d_M_apply_139 : decode c_M_apply 139 = .ok (.iload_n 1, 1) := by decide +kernel
theorem d_M_apply_140 : decode c_M_apply 140 = .ok (.dup2, 1) := by decide +kernel
theorem d_M_apply_141 : decode c_M_apply 141 = .ok (.laload, 1) := by decide +kernel
theorem d_M_apply_142 : decode c_M_apply 142 = .ok (.lload 4, 2) := by decide +kernel
theorem d_M_apply_144 : decode c_M_apply 144 = .ok (.ladd, 1) := by decide +kernel
theorem d_M_apply_145 : decode c_M_apply 145 = .ok (.lastore, 1) := by decide +kernel
theorem d_M_apply_146 : decode c_M_apply 146 = .ok (.iinc 3 1, 3) := by decide +kernel
theorem d_M_apply_149 : decode c_M_apply 149 = .ok (.goto (-69), 3) := by decide +kernel
theorem d_M_apply_152 : decode c_M_apply 152 = .ok (.goto 119, 3) := by decide +kernel
theorem d_M_apply_155 : decode c_M_apply 155 = .ok (.aload_n 0, 1) := by decide +kernel
theorem d_M_apply_156 : decode c_M_apply 156 = .ok (.iload_n 1, 1) := by decide +kernel
theorem d_M_apply_157 : decode c_M_apply 157 = .ok (.invokevirtual 144, 3) := by decide +kernel
theorem d_M_apply_160 : decode c_M_apply 160 = .ok (.iconst 2, 1) := by decide +kernel
theorem d_M_apply_161 : decode c_M_apply 161 = .ok (.if_icmp .ne 11, 3) := by decide +kernel
theorem d_M_apply_164 : decode c_M_apply 164 = .ok (.aload_n 0, 1) := by decide +kernel
theorem d_M_apply_165 : decode c_M_apply 165 = .ok (.iload_n 1, 1) := by decide +kernel
theorem d_M_apply_166 : decode c_M_apply 166 = .ok (.invokevirtual 184, 3) := by decide +kernel
theorem d_M_apply_169 : decode c_M_apply 169 = .ok (.goto 102, 3) := by decide +kernel
theorem d_M_apply_172 : decode c_M_apply 172 = .ok (.aload_n 0, 1) := by decide +kernel
theorem d_M_apply_173 : decode c_M_apply 173 = .ok (.iload_n 1, 1) := by decide +kernel
theorem d_M_apply_174 : decode c_M_apply 174 = .ok (.invokevirtual 144, 3) := by decide +kernel
theorem d_M_apply_177 : decode c_M_apply 177 = .ok (.iconst 3, 1) := by decide +kernel
theorem d_M_apply_178 : decode c_M_apply 178 = .ok (.if_icmp .ne 11, 3) := by decide +kernel
theorem d_M_apply_181 : decode c_M_apply 181 = .ok (.aload_n 0, 1) := by decide +kernel
theorem d_M_apply_182 : decode c_M_apply 182 = .ok (.iload_n 1, 1) := by decide +kernel
theorem d_M_apply_183 : decode c_M_apply 183 = .ok (.invokevirtual 188, 3) := by decide +kernel
theorem d_M_apply_186 : decode c_M_apply 186 = .ok (.goto 85, 3) := by decide +kernel
theorem d_M_apply_189 : decode c_M_apply 189 = .ok (.lconst 0, 1) := by decide +kernel
theorem d_M_apply_190 : decode c_M_apply 190 = .ok (.lstore_n 3, 1) := by decide +kernel
theorem d_M_apply_191 : decode c_M_apply 191 = .ok (.iconst 0, 1) := by decide +kernel
theorem d_M_apply_192 : decode c_M_apply 192 = .ok (.istore 5, 2) := by decide +kernel
theorem d_M_apply_194 : decode c_M_apply 194 = .ok (.iload 5, 2) := by decide +kernel
theorem d_M_apply_196 : decode c_M_apply 196 = .ok (.aload_n 0, 1) := by decide +kernel
theorem d_M_apply_197 : decode c_M_apply 197 = .ok (.getfield 97, 3) := by decide +kernel
theorem d_M_apply_200 : decode c_M_apply 200 = .ok (.if_icmp .ge 47, 3) := by decide +kernel
theorem d_M_apply_203 : decode c_M_apply 203 = .ok (.aload_n 0, 1) := by decide +kernel
theorem d_M_apply_204 : decode c_M_apply 204 = .ok (.getfield 78, 3) := by decide +kernel
theorem d_M_apply_207 : decode c_M_apply 207 = .ok (.iload 5, 2) := by decide +kernel
theorem d_M_apply_209 : decode c_M_apply 209 = .ok (.aload_n 0, 1) := by decide +kernel
theorem d_M_apply_210 : decode c_M_apply 210 = .ok (.iload 5, 2) := by decide +kernel
theorem d_M_apply_212 : decode c_M_apply 212 = .ok (.iload_n 2, 1) := by decide +kernel
theorem d_M_apply_213 : decode c_M_apply 213 = .ok (.invokevirtual 160, 3) := by decide +kernel
theorem d_M_apply_216 : decode c_M_apply 216 = .ok (.bastore, 1) := by decide +kernel
theorem d_M_apply_217 : decode c_M_apply 217 = .ok (.lload_n 3, 1) := by decide +kernel
theorem d_M_apply_218 : decode c_M_apply 218 = .ok (.aload_n 0, 1) := by decide +kernel
theorem d_M_apply_219 : decode c_M_apply 219 = .ok (.getfield 78, 3) := by decide +kernel
theorem d_M_apply_222 : decode c_M_apply 222 = .ok (.iload 5, 2) := by decide +kernel
theorem d_M_apply_224 : decode c_M_apply 224 = .ok (.baload, 1) := by decide +kernel
theorem d_M_apply_225 : decode c_M_apply 225 = .ok (.ifCond .eq 13, 3) := by decide +kernel
theorem d_M_apply_228 : decode c_M_apply 228 = .ok (.aload_n 0, 1) := by decide +kernel
theorem d_M_apply_229 : decode c_M_apply 229 = .ok (.getfield 60, 3) := by decide +kernel
theorem d_M_apply_232 : decode c_M_apply 232 = .ok (.iload 5, 2) := by decide +kernel
theorem d_M_apply_234 : decode c_M_apply 234 = .ok (.laload, 1) := by decide +kernel
theorem d_M_apply_235 : decode c_M_apply 235 = .ok (.goto 4, 3) := by decide +kernel
theorem d_M_apply_238 : decode c_M_apply 238 = .ok (.lconst 0, 1) := by decide +kernel
theorem d_M_apply_239 : decode c_M_apply 239 = .ok (.ladd, 1) := by decide +kernel
theorem d_M_apply_240 : decode c_M_apply 240 = .ok (.lstore_n 3, 1) := by decide +kernel
theorem d_M_apply_241 : decode c_M_apply 241 = .ok (.iinc 5 1, 3) := by decide +kernel
theorem d_M_apply_244 : decode c_M_apply 244 = .ok (.goto (-50), 3) := by decide +kernel
theorem d_M_apply_247 : decode c_M_apply 247 = .ok (.aload_n 0, 1) := by decide +kernel
theorem d_M_apply_248 : decode c_M_apply 248 = .ok (.iload_n 1, 1) := by decide +kernel
theorem d_M_apply_249 : decode c_M_apply 249 = .ok (.lload_n 3, 1) := by decide +kernel
theorem d_M_apply_250 : decode c_M_apply 250 = .ok (.aload_n 0, 1) := by decide +kernel
theorem d_M_apply_251 : decode c_M_apply 251 = .ok (.getfield 38, 3) := by decide +kernel
theorem d_M_apply_254 : decode c_M_apply 254 = .ok (.iload_n 1, 1) := by decide +kernel
theorem d_M_apply_255 : decode c_M_apply 255 = .ok (.iaload, 1) := by decide +kernel
theorem d_M_apply_256 : decode c_M_apply 256 = .ok (.i2l, 1) := by decide +kernel
theorem d_M_apply_257 : decode c_M_apply 257 = .ok (.aload_n 0, 1) := by decide +kernel
theorem d_M_apply_258 : decode c_M_apply 258 = .ok (.getfield 41, 3) := by decide +kernel
theorem d_M_apply_261 : decode c_M_apply 261 = .ok (.iload_n 1, 1) := by decide +kernel
theorem d_M_apply_262 : decode c_M_apply 262 = .ok (.iaload, 1) := by decide +kernel
theorem d_M_apply_263 : decode c_M_apply 263 = .ok (.i2l, 1) := by decide +kernel
theorem d_M_apply_264 : decode c_M_apply 264 = .ok (.invokestatic 164, 3) := by decide +kernel
theorem d_M_apply_267 : decode c_M_apply 267 = .ok (.lload_n 3, 1) := by decide +kernel
theorem d_M_apply_268 : decode c_M_apply 268 = .ok (.invokevirtual 176, 3) := by decide +kernel
theorem d_M_apply_271 : decode c_M_apply 271 = .ok (.return_, 1) := by decide +kernel
theorem d_M_reckon_0 : decode c_M_reckon 0 = .ok (.iconst 0, 1) := by decide +kernel
theorem d_M_reckon_1 : decode c_M_reckon 1 = .ok (.istore_n 1, 1) := by decide +kernel
theorem d_M_reckon_2 : decode c_M_reckon 2 = .ok (.iload_n 1, 1) := by decide +kernel
theorem d_M_reckon_3 : decode c_M_reckon 3 = .ok (.aload_n 0, 1) := by decide +kernel
theorem d_M_reckon_4 : decode c_M_reckon 4 = .ok (.getfield 97, 3) := by decide +kernel
theorem d_M_reckon_7 : decode c_M_reckon 7 = .ok (.if_icmp .ge 35, 3) := by decide +kernel
theorem d_M_reckon_10 : decode c_M_reckon 10 = .ok (.aload_n 0, 1) := by decide +kernel
theorem d_M_reckon_11 : decode c_M_reckon 11 = .ok (.getfield 60, 3) := by decide +kernel
theorem d_M_reckon_14 : decode c_M_reckon 14 = .ok (.iload_n 1, 1) := by decide +kernel
theorem d_M_reckon_15 : decode c_M_reckon 15 = .ok (.aload_n 0, 1) := by decide +kernel
theorem d_M_reckon_16 : decode c_M_reckon 16 = .ok (.getfield 31, 3) := by decide +kernel
theorem d_M_reckon_19 : decode c_M_reckon 19 = .ok (.iload_n 1, 1) := by decide +kernel
theorem d_M_reckon_20 : decode c_M_reckon 20 = .ok (.baload, 1) := by decide +kernel
theorem d_M_reckon_21 : decode c_M_reckon 21 = .ok (.ifCond .eq 7, 3) := by decide +kernel
theorem d_M_reckon_24 : decode c_M_reckon 24 = .ok (.lconst 0, 1) := by decide +kernel
theorem d_M_reckon_25 : decode c_M_reckon 25 = .ok (.goto 10, 3) := by decide +kernel
theorem d_M_reckon_28 : decode c_M_reckon 28 = .ok (.aload_n 0, 1) := by decide +kernel
theorem d_M_reckon_29 : decode c_M_reckon 29 = .ok (.getfield 28, 3) := by decide +kernel
theorem d_M_reckon_32 : decode c_M_reckon 32 = .ok (.iload_n 1, 1) := by decide +kernel
theorem d_M_reckon_33 : decode c_M_reckon 33 = .ok (.iaload, 1) := by decide +kernel
theorem d_M_reckon_34 : decode c_M_reckon 34 = .ok (.i2l, 1) := by decide +kernel
theorem d_M_reckon_35 : decode c_M_reckon 35 = .ok (.lastore, 1) := by decide +kernel
theorem d_M_reckon_36 : decode c_M_reckon 36 = .ok (.iinc 1 1, 3) := by decide +kernel
theorem d_M_reckon_39 : decode c_M_reckon 39 = .ok (.goto (-37), 3) := by decide +kernel
theorem d_M_reckon_42 : decode c_M_reckon 42 = .ok (.iconst 0, 1) := by decide +kernel
theorem d_M_reckon_43 : decode c_M_reckon 43 = .ok (.istore_n 1, 1) := by decide +kernel
theorem d_M_reckon_44 : decode c_M_reckon 44 = .ok (.iload_n 1, 1) := by decide +kernel
theorem d_M_reckon_45 : decode c_M_reckon 45 = .ok (.sipush 400, 3) := by decide +kernel
theorem d_M_reckon_48 : decode c_M_reckon 48 = .ok (.if_icmp .ge 16, 3) := by decide +kernel
theorem d_M_reckon_51 : decode c_M_reckon 51 = .ok (.aload_n 0, 1) := by decide +kernel
theorem d_M_reckon_52 : decode c_M_reckon 52 = .ok (.getfield 63, 3) := by decide +kernel
theorem d_M_reckon_55 : decode c_M_reckon 55 = .ok (.iload_n 1, 1) := by decide +kernel
theorem d_M_reckon_56 : decode c_M_reckon 56 = .ok (.lconst 0, 1) := by decide +kernel
theorem d_M_reckon_57 : decode c_M_reckon 57 = .ok (.lastore, 1) := by decide +kernel
theorem d_M_reckon_58 : decode c_M_reckon 58 = .ok (.iinc 1 1, 3) := by decide +kernel
theorem d_M_reckon_61 : decode c_M_reckon 61 = .ok (.goto (-17), 3) := by decide +kernel
theorem d_M_reckon_64 : decode c_M_reckon 64 = .ok (.iconst 0, 1) := by decide +kernel
theorem d_M_reckon_65 : decode c_M_reckon 65 = .ok (.istore_n 1, 1) := by decide +kernel
theorem d_M_reckon_66 : decode c_M_reckon 66 = .ok (.iload_n 1, 1) := by decide +kernel
theorem d_M_reckon_67 : decode c_M_reckon 67 = .ok (.bipush 12, 2) := by decide +kernel
theorem d_M_reckon_69 : decode c_M_reckon 69 = .ok (.if_icmp .ge 22, 3) := by decide +kernel
theorem d_M_reckon_72 : decode c_M_reckon 72 = .ok (.aload_n 0, 1) := by decide +kernel
theorem d_M_reckon_73 : decode c_M_reckon 73 = .ok (.getfield 75, 3) := by decide +kernel
theorem d_M_reckon_76 : decode c_M_reckon 76 = .ok (.iload_n 1, 1) := by decide +kernel
theorem d_M_reckon_77 : decode c_M_reckon 77 = .ok (.aload_n 0, 1) := by decide +kernel
theorem d_M_reckon_78 : decode c_M_reckon 78 = .ok (.getfield 13, 3) := by decide +kernel
theorem d_M_reckon_81 : decode c_M_reckon 81 = .ok (.iload_n 1, 1) := by decide +kernel
theorem d_M_reckon_82 : decode c_M_reckon 82 = .ok (.iaload, 1) := by decide +kernel
theorem d_M_reckon_83 : decode c_M_reckon 83 = .ok (.i2l, 1) := by decide +kernel
theorem d_M_reckon_84 : decode c_M_reckon 84 = .ok (.lastore, 1) := by decide +kernel
theorem d_M_reckon_85 : decode c_M_reckon 85 = .ok (.iinc 1 1, 3) := by decide +kernel
theorem d_M_reckon_88 : decode c_M_reckon 88 = .ok (.goto (-22), 3) := by decide +kernel
theorem d_M_reckon_91 : decode c_M_reckon 91 = .ok (.iconst 0, 1) := by decide +kernel
theorem d_M_reckon_92 : decode c_M_reckon 92 = .ok (.istore_n 1, 1) := by decide +kernel
theorem d_M_reckon_93 : decode c_M_reckon 93 = .ok (.iload_n 1, 1) := by decide +kernel
theorem d_M_reckon_94 : decode c_M_reckon 94 = .ok (.bipush 100, 2) := by decide +kernel
theorem d_M_reckon_96 : decode c_M_reckon 96 = .ok (.if_icmp .ge 16, 3) := by decide +kernel
theorem d_M_reckon_99 : decode c_M_reckon 99 = .ok (.aload_n 0, 1) := by decide +kernel
theorem d_M_reckon_100 : decode c_M_reckon 100 = .ok (.getfield 72, 3) := by decide +kernel
theorem d_M_reckon_103 : decode c_M_reckon 103 = .ok (.iload_n 1, 1) := by decide +kernel
theorem d_M_reckon_104 : decode c_M_reckon 104 = .ok (.iconst (-1), 1) := by decide +kernel
theorem d_M_reckon_105 : decode c_M_reckon 105 = .ok (.iastore, 1) := by decide +kernel
theorem d_M_reckon_106 : decode c_M_reckon 106 = .ok (.iinc 1 1, 3) := by decide +kernel
theorem d_M_reckon_109 : decode c_M_reckon 109 = .ok (.goto (-16), 3) := by decide +kernel
theorem d_M_reckon_112 : decode c_M_reckon 112 = .ok (.iconst 0, 1) := by decide +kernel
theorem d_M_reckon_113 : decode c_M_reckon 113 = .ok (.istore_n 1, 1) := by decide +kernel
theorem d_M_reckon_114 : decode c_M_reckon 114 = .ok (.iload_n 1, 1) := by decide +kernel
theorem d_M_reckon_115 : decode c_M_reckon 115 = .ok (.bipush 10, 2) := by decide +kernel
theorem d_M_reckon_117 : decode c_M_reckon 117 = .ok (.if_icmp .ge 23, 3) := by decide +kernel
theorem d_M_reckon_120 : decode c_M_reckon 120 = .ok (.aload_n 0, 1) := by decide +kernel
theorem d_M_reckon_121 : decode c_M_reckon 121 = .ok (.getfield 66, 3) := by decide +kernel
theorem d_M_reckon_124 : decode c_M_reckon 124 = .ok (.iload_n 1, 1) := by decide +kernel
theorem d_M_reckon_125 : decode c_M_reckon 125 = .ok (.lconst 0, 1) := by decide +kernel
theorem d_M_reckon_126 : decode c_M_reckon 126 = .ok (.lastore, 1) := by decide +kernel
theorem d_M_reckon_127 : decode c_M_reckon 127 = .ok (.aload_n 0, 1) := by decide +kernel
theorem d_M_reckon_128 : decode c_M_reckon 128 = .ok (.getfield 69, 3) := by decide +kernel
theorem d_M_reckon_131 : decode c_M_reckon 131 = .ok (.iload_n 1, 1) := by decide +kernel
theorem d_M_reckon_132 : decode c_M_reckon 132 = .ok (.lconst 0, 1) := by decide +kernel
theorem d_M_reckon_133 : decode c_M_reckon 133 = .ok (.lastore, 1) := by decide +kernel
theorem d_M_reckon_134 : decode c_M_reckon 134 = .ok (.iinc 1 1, 3) := by decide +kernel
theorem d_M_reckon_137 : decode c_M_reckon 137 = .ok (.goto (-23), 3) := by decide +kernel
theorem d_M_reckon_140 : decode c_M_reckon 140 = .ok (.iconst 0, 1) := by decide +kernel
theorem d_M_reckon_141 : decode c_M_reckon 141 = .ok (.istore_n 1, 1) := by decide +kernel
theorem d_M_reckon_142 : decode c_M_reckon 142 = .ok (.iload_n 1, 1) := by decide +kernel
theorem d_M_reckon_143 : decode c_M_reckon 143 = .ok (.iconst 5, 1) := by decide +kernel
theorem d_M_reckon_144 : decode c_M_reckon 144 = .ok (.if_icmp .ge 39, 3) := by decide +kernel
theorem d_M_reckon_147 : decode c_M_reckon 147 = .ok (.iconst 0, 1) := by decide +kernel
theorem d_M_reckon_148 : decode c_M_reckon 148 = .ok (.istore_n 2, 1) := by decide +kernel
theorem d_M_reckon_149 : decode c_M_reckon 149 = .ok (.iload_n 2, 1) := by decide +kernel
theorem d_M_reckon_150 : decode c_M_reckon 150 = .ok (.aload_n 0, 1) := by decide +kernel
theorem d_M_reckon_151 : decode c_M_reckon 151 = .ok (.getfield 100, 3) := by decide +kernel
theorem d_M_reckon_154 : decode c_M_reckon 154 = .ok (.if_icmp .ge 23, 3) := by decide +kernel
theorem d_M_reckon_157 : decode c_M_reckon 157 = .ok (.aload_n 0, 1) := by decide +kernel
theorem d_M_reckon_158 : decode c_M_reckon 158 = .ok (.iload_n 2, 1) := by decide +kernel
theorem d_M_reckon_159 : decode c_M_reckon 159 = .ok (.invokevirtual 144, 3) := by decide +kernel
theorem d_M_reckon_162 : decode c_M_reckon 162 = .ok (.iload_n 1, 1) := by decide +kernel
theorem d_M_reckon_163 : decode c_M_reckon 163 = .ok (.if_icmp .ne 8, 3) := by decide +kernel
theorem d_M_reckon_166 : decode c_M_reckon 166 = .ok (.aload_n 0, 1) := by decide +kernel
theorem d_M_reckon_167 : decode c_M_reckon 167 = .ok (.iload_n 2, 1) := by decide +kernel
theorem d_M_reckon_168 : decode c_M_reckon 168 = .ok (.invokevirtual 191, 3) := by decide +kernel
theorem d_M_reckon_171 : decode c_M_reckon 171 = .ok (.iinc 2 1, 3) := by decide +kernel
theorem d_M_reckon_174 : decode c_M_reckon 174 = .ok (.goto (-25), 3) := by decide +kernel
theorem d_M_reckon_177 : decode c_M_reckon 177 = .ok (.iinc 1 1, 3) := by decide +kernel
theorem d_M_reckon_180 : decode c_M_reckon 180 = .ok (.goto (-38), 3) := by decide +kernel
theorem d_M_reckon_183 : decode c_M_reckon 183 = .ok (.return_, 1) := by decide +kernel
theorem d_M_bill_0 : decode c_M_bill 0 = .ok (.aload_n 0, 1) := by decide +kernel
theorem d_M_bill_1 : decode c_M_bill 1 = .ok (.iload_n 1, 1) := by decide +kernel
theorem d_M_bill_2 : decode c_M_bill 2 = .ok (.i2l, 1) := by decide +kernel
theorem d_M_bill_3 : decode c_M_bill 3 = .ok (.lconst 0, 1) := by decide +kernel
theorem d_M_bill_4 : decode c_M_bill 4 = .ok (.ldc2_w 119, 3) := by decide +kernel
theorem d_M_bill_7 : decode c_M_bill 7 = .ok (.invokestatic 93, 3) := by decide +kernel
theorem d_M_bill_10 : decode c_M_bill 10 = .ok (.ifCond .ne 7, 3) := by decide +kernel
theorem d_M_bill_13 : decode c_M_bill 13 = .ok (.iconst 1, 1) := by decide +kernel
theorem d_M_bill_14 : decode c_M_bill 14 = .ok (.goto 4, 3) := by decide +kernel
theorem d_M_bill_17 : decode c_M_bill 17 = .ok (.iconst 0, 1) := by decide +kernel
theorem d_M_bill_18 : decode c_M_bill 18 = .ok (.iconst 0, 1) := by decide +kernel
theorem d_M_bill_19 : decode c_M_bill 19 = .ok (.invokevirtual 107, 3) := by decide +kernel
theorem d_M_bill_22 : decode c_M_bill 22 = .ok (.ifCond .eq 5, 3) := by decide +kernel
theorem d_M_bill_25 : decode c_M_bill 25 = .ok (.lconst 0, 1) := by decide +kernel
theorem d_M_bill_26 : decode c_M_bill 26 = .ok (.lreturn, 1) := by decide +kernel
theorem d_M_bill_27 : decode c_M_bill 27 = .ok (.aload_n 0, 1) := by decide +kernel
theorem d_M_bill_28 : decode c_M_bill 28 = .ok (.invokevirtual 194, 3) := by decide +kernel
theorem d_M_bill_31 : decode c_M_bill 31 = .ok (.lconst 0, 1) := by decide +kernel
theorem d_M_bill_32 : decode c_M_bill 32 = .ok (.lstore_n 2, 1) := by decide +kernel
theorem d_M_bill_33 : decode c_M_bill 33 = .ok (.iconst 0, 1) := by decide +kernel
theorem d_M_bill_34 : decode c_M_bill 34 = .ok (.istore 4, 2) := by decide +kernel
theorem d_M_bill_36 : decode c_M_bill 36 = .ok (.iload 4, 2) := by decide +kernel
theorem d_M_bill_38 : decode c_M_bill 38 = .ok (.aload_n 0, 1) := by decide +kernel
theorem d_M_bill_39 : decode c_M_bill 39 = .ok (.getfield 100, 3) := by decide +kernel
theorem d_M_bill_42 : decode c_M_bill 42 = .ok (.if_icmp .ge 77, 3) := by decide +kernel
theorem d_M_bill_45 : decode c_M_bill 45 = .ok (.aload_n 0, 1) := by decide +kernel
theorem d_M_bill_46 : decode c_M_bill 46 = .ok (.getfield 57, 3) := by decide +kernel
theorem d_M_bill_49 : decode c_M_bill 49 = .ok (.aload_n 0, 1) := by decide +kernel
theorem d_M_bill_50 : decode c_M_bill 50 = .ok (.iload 4, 2) := by decide +kernel
theorem d_M_bill_52 : decode c_M_bill 52 = .ok (.invokevirtual 130, 3) := by decide +kernel
theorem d_M_bill_55 : decode c_M_bill 55 = .ok (.baload, 1) := by decide +kernel
theorem d_M_bill_56 : decode c_M_bill 56 = .ok (.ifCond .ne 57, 3) := by decide +kernel
theorem d_M_bill_59 : decode c_M_bill 59 = .ok (.lload_n 2, 1) := by decide +kernel
theorem d_M_bill_60 : decode c_M_bill 60 = .ok (.aload_n 0, 1) := by decide +kernel
theorem d_M_bill_61 : decode c_M_bill 61 = .ok (.iload 4, 2) := by decide +kernel
theorem d_M_bill_63 : decode c_M_bill 63 = .ok (.iload_n 1, 1) := by decide +kernel
theorem d_M_bill_64 : decode c_M_bill 64 = .ok (.aload_n 0, 1) := by decide +kernel
theorem d_M_bill_65 : decode c_M_bill 65 = .ok (.getfield 66, 3) := by decide +kernel
theorem d_M_bill_68 : decode c_M_bill 68 = .ok (.iload 4, 2) := by decide +kernel
theorem d_M_bill_70 : decode c_M_bill 70 = .ok (.laload, 1) := by decide +kernel
theorem d_M_bill_71 : decode c_M_bill 71 = .ok (.invokevirtual 210, 3) := by decide +kernel
theorem d_M_bill_74 : decode c_M_bill 74 = .ok (.aload_n 0, 1) := by decide +kernel
theorem d_M_bill_75 : decode c_M_bill 75 = .ok (.iload 4, 2) := by decide +kernel
theorem d_M_bill_77 : decode c_M_bill 77 = .ok (.iload_n 1, 1) := by decide +kernel
theorem d_M_bill_78 : decode c_M_bill 78 = .ok (.aload_n 0, 1) := by decide +kernel
theorem d_M_bill_79 : decode c_M_bill 79 = .ok (.iload 4, 2) := by decide +kernel
theorem d_M_bill_81 : decode c_M_bill 81 = .ok (.invokevirtual 207, 3) := by decide +kernel
theorem d_M_bill_84 : decode c_M_bill 84 = .ok (.invokevirtual 210, 3) := by decide +kernel
theorem d_M_bill_87 : decode c_M_bill 87 = .ok (.ladd, 1) := by decide +kernel
theorem d_M_bill_88 : decode c_M_bill 88 = .ok (.aload_n 0, 1) := by decide +kernel
theorem d_M_bill_89 : decode c_M_bill 89 = .ok (.iload 4, 2) := by decide +kernel
theorem d_M_bill_91 : decode c_M_bill 91 = .ok (.iload_n 1, 1) := by decide +kernel
theorem d_M_bill_92 : decode c_M_bill 92 = .ok (.aload_n 0, 1) := by decide +kernel
theorem d_M_bill_93 : decode c_M_bill 93 = .ok (.getfield 69, 3) := by decide +kernel
theorem d_M_bill_96 : decode c_M_bill 96 = .ok (.iload 4, 2) := by decide +kernel
theorem d_M_bill_98 : decode c_M_bill 98 = .ok (.laload, 1) := by decide +kernel
theorem d_M_bill_99 : decode c_M_bill 99 = .ok (.invokevirtual 210, 3) := by decide +kernel
theorem d_M_bill_102 : decode c_M_bill 102 = .ok (.lsub, 1) := by decide +kernel
theorem d_M_bill_103 : decode c_M_bill 103 = .ok (.aload_n 0, 1) := by decide +kernel
theorem d_M_bill_104 : decode c_M_bill 104 = .ok (.iload 4, 2) := by decide +kernel
theorem d_M_bill_106 : decode c_M_bill 106 = .ok (.iload_n 1, 1) := by decide +kernel
theorem d_M_bill_107 : decode c_M_bill 107 = .ok (.invokevirtual 214, 3) := by decide +kernel
theorem d_M_bill_110 : decode c_M_bill 110 = .ok (.lsub, 1) := by decide +kernel
theorem d_M_bill_111 : decode c_M_bill 111 = .ok (.ladd, 1) := by decide +kernel
theorem d_M_bill_112 : decode c_M_bill 112 = .ok (.lstore_n 2, 1) := by decide +kernel
theorem d_M_bill_113 : decode c_M_bill 113 = .ok (.iinc 4 1, 3) := by decide +kernel
theorem d_M_bill_116 : decode c_M_bill 116 = .ok (.goto (-80), 3) := by decide +kernel
theorem d_M_bill_119 : decode c_M_bill 119 = .ok (.lload_n 2, 1) := by decide +kernel
theorem d_M_bill_120 : decode c_M_bill 120 = .ok (.aload_n 0, 1) := by decide +kernel
theorem d_M_bill_121 : decode c_M_bill 121 = .ok (.getfield 53, 3) := by decide +kernel
theorem d_M_bill_124 : decode c_M_bill 124 = .ok (.iload_n 1, 1) := by decide +kernel
theorem d_M_bill_125 : decode c_M_bill 125 = .ok (.laload, 1) := by decide +kernel
theorem d_M_bill_126 : decode c_M_bill 126 = .ok (.lsub, 1) := by decide +kernel
theorem d_M_bill_127 : decode c_M_bill 127 = .ok (.lstore 4, 2) := by decide +kernel
theorem d_M_bill_129 : decode c_M_bill 129 = .ok (.aload_n 0, 1) := by decide +kernel
theorem d_M_bill_130 : decode c_M_bill 130 = .ok (.getfield 53, 3) := by decide +kernel
theorem d_M_bill_133 : decode c_M_bill 133 = .ok (.iload_n 1, 1) := by decide +kernel
theorem d_M_bill_134 : decode c_M_bill 134 = .ok (.lload_n 2, 1) := by decide +kernel
theorem d_M_bill_135 : decode c_M_bill 135 = .ok (.lastore, 1) := by decide +kernel
theorem d_M_bill_136 : decode c_M_bill 136 = .ok (.lload 4, 2) := by decide +kernel
theorem d_M_bill_138 : decode c_M_bill 138 = .ok (.lreturn, 1) := by decide +kernel
theorem d_M_ceded_0 : decode c_M_ceded 0 = .ok (.aload_n 0, 1) := by decide +kernel
theorem d_M_ceded_1 : decode c_M_ceded 1 = .ok (.aload_n 0, 1) := by decide +kernel
theorem d_M_ceded_2 : decode c_M_ceded 2 = .ok (.iload_n 1, 1) := by decide +kernel
theorem d_M_ceded_3 : decode c_M_ceded 3 = .ok (.invokevirtual 138, 3) := by decide +kernel
theorem d_M_ceded_6 : decode c_M_ceded 6 = .ok (.ifCond .eq 11, 3) := by decide +kernel
theorem d_M_ceded_9 : decode c_M_ceded 9 = .ok (.aload_n 0, 1) := by decide +kernel
theorem d_M_ceded_10 : decode c_M_ceded 10 = .ok (.iload_n 2, 1) := by decide +kernel
theorem d_M_ceded_11 : decode c_M_ceded 11 = .ok (.invokevirtual 127, 3) := by decide +kernel
theorem d_M_ceded_14 : decode c_M_ceded 14 = .ok (.ifCond .ne 7, 3) := by decide +kernel
theorem d_M_ceded_17 : decode c_M_ceded 17 = .ok (.iconst 1, 1) := by decide +kernel
theorem d_M_ceded_18 : decode c_M_ceded 18 = .ok (.goto 4, 3) := by decide +kernel
theorem d_M_ceded_21 : decode c_M_ceded 21 = .ok (.iconst 0, 1) := by decide +kernel
theorem d_M_ceded_22 : decode c_M_ceded 22 = .ok (.iconst 0, 1) := by decide +kernel
theorem d_M_ceded_23 : decode c_M_ceded 23 = .ok (.invokevirtual 107, 3) := by decide +kernel
theorem d_M_ceded_26 : decode c_M_ceded 26 = .ok (.ifCond .eq 5, 3) := by decide +kernel
theorem d_M_ceded_29 : decode c_M_ceded 29 = .ok (.iconst 0, 1) := by decide +kernel
theorem d_M_ceded_30 : decode c_M_ceded 30 = .ok (.ireturn, 1) := by decide +kernel
theorem d_M_ceded_31 : decode c_M_ceded 31 = .ok (.aload_n 0, 1) := by decide +kernel
theorem d_M_ceded_32 : decode c_M_ceded 32 = .ok (.invokevirtual 194, 3) := by decide +kernel
theorem d_M_ceded_35 : decode c_M_ceded 35 = .ok (.aload_n 0, 1) := by decide +kernel
theorem d_M_ceded_36 : decode c_M_ceded 36 = .ok (.getfield 63, 3) := by decide +kernel
theorem d_M_ceded_39 : decode c_M_ceded 39 = .ok (.bipush 40, 2) := by decide +kernel
theorem d_M_ceded_41 : decode c_M_ceded 41 = .ok (.iload_n 2, 1) := by decide +kernel
theorem d_M_ceded_42 : decode c_M_ceded 42 = .ok (.imul, 1) := by decide +kernel
theorem d_M_ceded_43 : decode c_M_ceded 43 = .ok (.iload_n 1, 1) := by decide +kernel
theorem d_M_ceded_44 : decode c_M_ceded 44 = .ok (.iadd, 1) := by decide +kernel
theorem d_M_ceded_45 : decode c_M_ceded 45 = .ok (.laload, 1) := by decide +kernel
theorem d_M_ceded_46 : decode c_M_ceded 46 = .ok (.l2i, 1) := by decide +kernel
theorem d_M_ceded_47 : decode c_M_ceded 47 = .ok (.ireturn, 1) := by decide +kernel
theorem d_M_due_0 : decode c_M_due 0 = .ok (.aload_n 0, 1) := by decide +kernel
theorem d_M_due_1 : decode c_M_due 1 = .ok (.aload_n 0, 1) := by decide +kernel
theorem d_M_due_2 : decode c_M_due 2 = .ok (.iload_n 1, 1) := by decide +kernel
theorem d_M_due_3 : decode c_M_due 3 = .ok (.invokevirtual 127, 3) := by decide +kernel
theorem d_M_due_6 : decode c_M_due 6 = .ok (.ifCond .eq 25, 3) := by decide +kernel
theorem d_M_due_9 : decode c_M_due 9 = .ok (.iload_n 2, 1) := by decide +kernel
theorem d_M_due_10 : decode c_M_due 10 = .ok (.i2l, 1) := by decide +kernel
theorem d_M_due_11 : decode c_M_due 11 = .ok (.lconst 0, 1) := by decide +kernel
theorem d_M_due_12 : decode c_M_due 12 = .ok (.ldc2_w 119, 3) := by decide +kernel
theorem d_M_due_15 : decode c_M_due 15 = .ok (.invokestatic 93, 3) := by decide +kernel
theorem d_M_due_18 : decode c_M_due 18 = .ok (.ifCond .eq 13, 3) := by decide +kernel
theorem d_M_due_21 : decode c_M_due 21 = .ok (.iload_n 3, 1) := by decide +kernel
theorem d_M_due_22 : decode c_M_due 22 = .ok (.i2l, 1) := by decide +kernel
theorem d_M_due_23 : decode c_M_due 23 = .ok (.lconst 0, 1) := by decide +kernel
theorem d_M_due_24 : decode c_M_due 24 = .ok (.lconst 1, 1) := by decide +kernel
theorem d_M_due_25 : decode c_M_due 25 = .ok (.invokestatic 93, 3) := by decide +kernel
theorem d_M_due_28 : decode c_M_due 28 = .ok (.ifCond .ne 7, 3) := by decide +kernel
theorem d_M_due_31 : decode c_M_due 31 = .ok (.iconst 1, 1) := by decide +kernel
theorem d_M_due_32 : decode c_M_due 32 = .ok (.goto 4, 3) := by decide +kernel
theorem d_M_due_35 : decode c_M_due 35 = .ok (.iconst 0, 1) := by decide +kernel
theorem d_M_due_36 : decode c_M_due 36 = .ok (.iconst 0, 1) := by decide +kernel
theorem d_M_due_37 : decode c_M_due 37 = .ok (.invokevirtual 107, 3) := by decide +kernel
theorem d_M_due_40 : decode c_M_due 40 = .ok (.ifCond .eq 5, 3) := by decide +kernel
theorem d_M_due_43 : decode c_M_due 43 = .ok (.lconst 0, 1) := by decide +kernel
theorem d_M_due_44 : decode c_M_due 44 = .ok (.lreturn, 1) := by decide +kernel
theorem d_M_due_45 : decode c_M_due 45 = .ok (.aload_n 0, 1) := by decide +kernel
theorem d_M_due_46 : decode c_M_due 46 = .ok (.invokevirtual 194, 3) := by decide +kernel
theorem d_M_due_49 : decode c_M_due 49 = .ok (.iload_n 3, 1) := by decide +kernel
theorem d_M_due_50 : decode c_M_due 50 = .ok (.ifCond .ne 18, 3) := by decide +kernel
theorem d_M_due_53 : decode c_M_due 53 = .ok (.aload_n 0, 1) := by decide +kernel
theorem d_M_due_54 : decode c_M_due 54 = .ok (.iload_n 1, 1) := by decide +kernel
theorem d_M_due_55 : decode c_M_due 55 = .ok (.iload_n 2, 1) := by decide +kernel
theorem d_M_due_56 : decode c_M_due 56 = .ok (.aload_n 0, 1) := by decide +kernel
theorem d_M_due_57 : decode c_M_due 57 = .ok (.getfield 66, 3) := by decide +kernel
theorem d_M_due_60 : decode c_M_due 60 = .ok (.iload_n 1, 1) := by decide +kernel
theorem d_M_due_61 : decode c_M_due 61 = .ok (.laload, 1) := by decide +kernel
theorem d_M_due_62 : decode c_M_due 62 = .ok (.invokevirtual 210, 3) := by decide +kernel
theorem d_M_due_65 : decode c_M_due 65 = .ok (.goto 9, 3) := by decide +kernel
theorem d_M_due_68 : decode c_M_due 68 = .ok (.aload_n 0, 1) := by decide +kernel
theorem d_M_due_69 : decode c_M_due 69 = .ok (.iload_n 1, 1) := by decide +kernel
theorem d_M_due_70 : decode c_M_due 70 = .ok (.iload_n 2, 1) := by decide +kernel
theorem d_M_due_71 : decode c_M_due 71 = .ok (.invokevirtual 214, 3) := by decide +kernel
theorem d_M_due_74 : decode c_M_due 74 = .ok (.lreturn, 1) := by decide +kernel
theorem d_M_kept_0 : decode c_M_kept 0 = .ok (.aload_n 0, 1) := by decide +kernel
theorem d_M_kept_1 : decode c_M_kept 1 = .ok (.aload_n 0, 1) := by decide +kernel
theorem d_M_kept_2 : decode c_M_kept 2 = .ok (.iload_n 1, 1) := by decide +kernel
theorem d_M_kept_3 : decode c_M_kept 3 = .ok (.invokevirtual 138, 3) := by decide +kernel
theorem d_M_kept_6 : decode c_M_kept 6 = .ok (.ifCond .ne 7, 3) := by decide +kernel
theorem d_M_kept_9 : decode c_M_kept 9 = .ok (.iconst 1, 1) := by decide +kernel
theorem d_M_kept_10 : decode c_M_kept 10 = .ok (.goto 4, 3) := by decide +kernel
theorem d_M_kept_13 : decode c_M_kept 13 = .ok (.iconst 0, 1) := by decide +kernel
theorem d_M_kept_14 : decode c_M_kept 14 = .ok (.iconst 0, 1) := by decide +kernel
theorem d_M_kept_15 : decode c_M_kept 15 = .ok (.invokevirtual 107, 3) := by decide +kernel
theorem d_M_kept_18 : decode c_M_kept 18 = .ok (.ifCond .eq 5, 3) := by decide +kernel
theorem d_M_kept_21 : decode c_M_kept 21 = .ok (.iconst 0, 1) := by decide +kernel
theorem d_M_kept_22 : decode c_M_kept 22 = .ok (.ireturn, 1) := by decide +kernel
theorem d_M_kept_23 : decode c_M_kept 23 = .ok (.aload_n 0, 1) := by decide +kernel
theorem d_M_kept_24 : decode c_M_kept 24 = .ok (.invokevirtual 194, 3) := by decide +kernel
theorem d_M_kept_27 : decode c_M_kept 27 = .ok (.aload_n 0, 1) := by decide +kernel
theorem d_M_kept_28 : decode c_M_kept 28 = .ok (.getfield 60, 3) := by decide +kernel
theorem d_M_kept_31 : decode c_M_kept 31 = .ok (.iload_n 1, 1) := by decide +kernel
theorem d_M_kept_32 : decode c_M_kept 32 = .ok (.laload, 1) := by decide +kernel
theorem d_M_kept_33 : decode c_M_kept 33 = .ok (.l2i, 1) := by decide +kernel
theorem d_M_kept_34 : decode c_M_kept 34 = .ok (.ireturn, 1) := by decide +kernel
theorem d_M_left_0 : decode c_M_left 0 = .ok (.aload_n 0, 1) := by decide +kernel
theorem d_M_left_1 : decode c_M_left 1 = .ok (.aload_n 0, 1) := by decide +kernel
theorem d_M_left_2 : decode c_M_left 2 = .ok (.iload_n 1, 1) := by decide +kernel
theorem d_M_left_3 : decode c_M_left 3 = .ok (.invokevirtual 127, 3) := by decide +kernel
theorem d_M_left_6 : decode c_M_left 6 = .ok (.ifCond .eq 21, 3) := by decide +kernel
theorem d_M_left_9 : decode c_M_left 9 = .ok (.aload_n 0, 1) := by decide +kernel
theorem d_M_left_10 : decode c_M_left 10 = .ok (.iload_n 1, 1) := by decide +kernel
theorem d_M_left_11 : decode c_M_left 11 = .ok (.invokevirtual 144, 3) := by decide +kernel
theorem d_M_left_14 : decode c_M_left 14 = .ok (.iconst 2, 1) := by decide +kernel
theorem d_M_left_15 : decode c_M_left 15 = .ok (.if_icmp .eq 16, 3) := by decide +kernel
theorem d_M_left_18 : decode c_M_left 18 = .ok (.aload_n 0, 1) := by decide +kernel
theorem d_M_left_19 : decode c_M_left 19 = .ok (.iload_n 1, 1) := by decide +kernel
theorem d_M_left_20 : decode c_M_left 20 = .ok (.invokevirtual 144, 3) := by decide +kernel
theorem d_M_left_23 : decode c_M_left 23 = .ok (.iconst 3, 1) := by decide +kernel
theorem d_M_left_24 : decode c_M_left 24 = .ok (.if_icmp .eq 7, 3) := by decide +kernel
theorem d_M_left_27 : decode c_M_left 27 = .ok (.iconst 1, 1) := by decide +kernel
theorem d_M_left_28 : decode c_M_left 28 = .ok (.goto 4, 3) := by decide +kernel
theorem d_M_left_31 : decode c_M_left 31 = .ok (.iconst 0, 1) := by decide +kernel
theorem d_M_left_32 : decode c_M_left 32 = .ok (.iconst 0, 1) := by decide +kernel
theorem d_M_left_33 : decode c_M_left 33 = .ok (.invokevirtual 107, 3) := by decide +kernel
theorem d_M_left_36 : decode c_M_left 36 = .ok (.ifCond .eq 5, 3) := by decide +kernel
theorem d_M_left_39 : decode c_M_left 39 = .ok (.lconst 0, 1) := by decide +kernel
theorem d_M_left_40 : decode c_M_left 40 = .ok (.lreturn, 1) := by decide +kernel
theorem d_M_left_41 : decode c_M_left 41 = .ok (.aload_n 0, 1) := by decide +kernel
theorem d_M_left_42 : decode c_M_left 42 = .ok (.invokevirtual 194, 3) := by decide +kernel
theorem d_M_left_45 : decode c_M_left 45 = .ok (.aload_n 0, 1) := by decide +kernel
theorem d_M_left_46 : decode c_M_left 46 = .ok (.getfield 41, 3) := by decide +kernel
theorem d_M_left_49 : decode c_M_left 49 = .ok (.iload_n 1, 1) := by decide +kernel
theorem d_M_left_50 : decode c_M_left 50 = .ok (.iaload, 1) := by decide +kernel
theorem d_M_left_51 : decode c_M_left 51 = .ok (.i2l, 1) := by decide +kernel
theorem d_M_left_52 : decode c_M_left 52 = .ok (.iconst 1, 1) := by decide +kernel
theorem d_M_left_53 : decode c_M_left 53 = .ok (.aload_n 0, 1) := by decide +kernel
theorem d_M_left_54 : decode c_M_left 54 = .ok (.getfield 44, 3) := by decide +kernel
theorem d_M_left_57 : decode c_M_left 57 = .ok (.iload_n 1, 1) := by decide +kernel
theorem d_M_left_58 : decode c_M_left 58 = .ok (.iaload, 1) := by decide +kernel
theorem d_M_left_59 : decode c_M_left 59 = .ok (.iadd, 1) := by decide +kernel
theorem d_M_left_60 : decode c_M_left 60 = .ok (.i2l, 1) := by decide +kernel
theorem d_M_left_61 : decode c_M_left 61 = .ok (.lmul, 1) := by decide +kernel
theorem d_M_left_62 : decode c_M_left 62 = .ok (.aload_n 0, 1) := by decide +kernel
theorem d_M_left_63 : decode c_M_left 63 = .ok (.getfield 66, 3) := by decide +kernel
theorem d_M_left_66 : decode c_M_left 66 = .ok (.iload_n 1, 1) := by decide +kernel
theorem d_M_left_67 : decode c_M_left 67 = .ok (.laload, 1) := by decide +kernel
theorem d_M_left_68 : decode c_M_left 68 = .ok (.lsub, 1) := by decide +kernel
theorem d_M_left_69 : decode c_M_left 69 = .ok (.lreturn, 1) := by decide +kernel
theorem d_M_total_0 : decode c_M_total 0 = .ok (.aload_n 0, 1) := by decide +kernel
theorem d_M_total_1 : decode c_M_total 1 = .ok (.aload_n 0, 1) := by decide +kernel
theorem d_M_total_2 : decode c_M_total 2 = .ok (.iload_n 1, 1) := by decide +kernel
theorem d_M_total_3 : decode c_M_total 3 = .ok (.invokevirtual 127, 3) := by decide +kernel
theorem d_M_total_6 : decode c_M_total 6 = .ok (.ifCond .eq 15, 3) := by decide +kernel
theorem d_M_total_9 : decode c_M_total 9 = .ok (.iload_n 2, 1) := by decide +kernel
theorem d_M_total_10 : decode c_M_total 10 = .ok (.i2l, 1) := by decide +kernel
theorem d_M_total_11 : decode c_M_total 11 = .ok (.lconst 0, 1) := by decide +kernel
theorem d_M_total_12 : decode c_M_total 12 = .ok (.ldc2_w 105, 3) := by decide +kernel
theorem d_M_total_15 : decode c_M_total 15 = .ok (.invokestatic 93, 3) := by decide +kernel
theorem d_M_total_18 : decode c_M_total 18 = .ok (.ifCond .ne 7, 3) := by decide +kernel
theorem d_M_total_21 : decode c_M_total 21 = .ok (.iconst 1, 1) := by decide +kernel
theorem d_M_total_22 : decode c_M_total 22 = .ok (.goto 4, 3) := by decide +kernel
theorem d_M_total_25 : decode c_M_total 25 = .ok (.iconst 0, 1) := by decide +kernel
theorem d_M_total_26 : decode c_M_total 26 = .ok (.iconst 0, 1) := by decide +kernel
theorem d_M_total_27 : decode c_M_total 27 = .ok (.invokevirtual 107, 3) := by decide +kernel
theorem d_M_total_30 : decode c_M_total 30 = .ok (.ifCond .eq 5, 3) := by decide +kernel
theorem d_M_total_33 : decode c_M_total 33 = .ok (.lconst 0, 1) := by decide +kernel
theorem d_M_total_34 : decode c_M_total 34 = .ok (.lreturn, 1) := by decide +kernel
theorem d_M_total_35 : decode c_M_total 35 = .ok (.aload_n 0, 1) := by decide +kernel
theorem d_M_total_36 : decode c_M_total 36 = .ok (.invokevirtual 194, 3) := by decide +kernel
theorem d_M_total_39 : decode c_M_total 39 = .ok (.iload_n 2, 1) := by decide +kernel
theorem d_M_total_40 : decode c_M_total 40 = .ok (.ifCond .ne 12, 3) := by decide +kernel
theorem d_M_total_43 : decode c_M_total 43 = .ok (.aload_n 0, 1) := by decide +kernel
theorem d_M_total_44 : decode c_M_total 44 = .ok (.getfield 66, 3) := by decide +kernel
theorem d_M_total_47 : decode c_M_total 47 = .ok (.iload_n 1, 1) := by decide +kernel
theorem d_M_total_48 : decode c_M_total 48 = .ok (.laload, 1) := by decide +kernel
theorem d_M_total_49 : decode c_M_total 49 = .ok (.goto 35, 3) := by decide +kernel
theorem d_M_total_52 : decode c_M_total 52 = .ok (.iload_n 2, 1) := by decide +kernel
theorem d_M_total_53 : decode c_M_total 53 = .ok (.iconst 1, 1) := by decide +kernel
theorem d_M_total_54 : decode c_M_total 54 = .ok (.if_icmp .ne 12, 3) := by decide +kernel
theorem d_M_total_57 : decode c_M_total 57 = .ok (.aload_n 0, 1) := by decide +kernel
theorem d_M_total_58 : decode c_M_total 58 = .ok (.getfield 69, 3) := by decide +kernel
theorem d_M_total_61 : decode c_M_total 61 = .ok (.iload_n 1, 1) := by decide +kernel
theorem d_M_total_62 : decode c_M_total 62 = .ok (.laload, 1) := by decide +kernel
theorem d_M_total_63 : decode c_M_total 63 = .ok (.goto 21, 3) := by decide +kernel
theorem d_M_total_66 : decode c_M_total 66 = .ok (.iload_n 2, 1) := by decide +kernel
theorem d_M_total_67 : decode c_M_total 67 = .ok (.iconst 2, 1) := by decide +kernel
theorem d_M_total_68 : decode c_M_total 68 = .ok (.if_icmp .ne 11, 3) := by decide +kernel
theorem d_M_total_71 : decode c_M_total 71 = .ok (.aload_n 0, 1) := by decide +kernel
theorem d_M_total_72 : decode c_M_total 72 = .ok (.iload_n 1, 1) := by decide +kernel
theorem d_M_total_73 : decode c_M_total 73 = .ok (.invokevirtual 199, 3) := by decide +kernel
theorem d_M_total_76 : decode c_M_total 76 = .ok (.goto 8, 3) := by decide +kernel
theorem d_M_total_79 : decode c_M_total 79 = .ok (.aload_n 0, 1) := by decide +kernel
theorem d_M_total_80 : decode c_M_total 80 = .ok (.iload_n 1, 1) := by decide +kernel
theorem d_M_total_81 : decode c_M_total 81 = .ok (.invokevirtual 207, 3) := by decide +kernel
theorem d_M_total_84 : decode c_M_total 84 = .ok (.lreturn, 1) := by decide +kernel
theorem d_M_whatIf_0 : decode c_M_whatIf 0 = .ok (.aload_n 0, 1) := by decide +kernel
theorem d_M_whatIf_1 : decode c_M_whatIf 1 = .ok (.iload_n 1, 1) := by decide +kernel
theorem d_M_whatIf_2 : decode c_M_whatIf 2 = .ok (.invokevirtual 138, 3) := by decide +kernel
theorem d_M_whatIf_5 : decode c_M_whatIf 5 = .ok (.ifCond .eq 23, 3) := by decide +kernel
theorem d_M_whatIf_8 : decode c_M_whatIf 8 = .ok (.iload_n 2, 1) := by decide +kernel
theorem d_M_whatIf_9 : decode c_M_whatIf 9 = .ok (.i2l, 1) := by decide +kernel
theorem d_M_whatIf_10 : decode c_M_whatIf 10 = .ok (.lconst 0, 1) := by decide +kernel
theorem d_M_whatIf_11 : decode c_M_whatIf 11 = .ok (.ldc2_w 103, 3) := by decide +kernel
theorem d_M_whatIf_14 : decode c_M_whatIf 14 = .ok (.invokestatic 93, 3) := by decide +kernel
theorem d_M_whatIf_17 : decode c_M_whatIf 17 = .ok (.ifCond .eq 11, 3) := by decide +kernel
theorem d_M_whatIf_20 : decode c_M_whatIf 20 = .ok (.aload_n 0, 1) := by decide +kernel
theorem d_M_whatIf_21 : decode c_M_whatIf 21 = .ok (.iload_n 3, 1) := by decide +kernel
theorem d_M_whatIf_22 : decode c_M_whatIf 22 = .ok (.invokevirtual 127, 3) := by decide +kernel
theorem d_M_whatIf_25 : decode c_M_whatIf 25 = .ok (.ifCond .ne 7, 3) := by decide +kernel
theorem d_M_whatIf_28 : decode c_M_whatIf 28 = .ok (.iconst 1, 1) := by decide +kernel
theorem d_M_whatIf_29 : decode c_M_whatIf 29 = .ok (.goto 4, 3) := by decide +kernel
theorem d_M_whatIf_32 : decode c_M_whatIf 32 = .ok (.iconst 0, 1) := by decide +kernel
theorem d_M_whatIf_33 : decode c_M_whatIf 33 = .ok (.istore 4, 2) := by decide +kernel
theorem d_M_whatIf_35 : decode c_M_whatIf 35 = .ok (.aload_n 0, 1) := by decide +kernel
theorem d_M_whatIf_36 : decode c_M_whatIf 36 = .ok (.iload 4, 2) := by decide +kernel
theorem d_M_whatIf_38 : decode c_M_whatIf 38 = .ok (.iload 4, 2) := by decide +kernel
theorem d_M_whatIf_40 : decode c_M_whatIf 40 = .ok (.ifCond .ne 16, 3) := by decide +kernel
theorem d_M_whatIf_43 : decode c_M_whatIf 43 = .ok (.aload_n 0, 1) := by decide +kernel
theorem d_M_whatIf_44 : decode c_M_whatIf 44 = .ok (.getfield 31, 3) := by decide +kernel
theorem d_M_whatIf_47 : decode c_M_whatIf 47 = .ok (.iload_n 1, 1) := by decide +kernel
theorem d_M_whatIf_48 : decode c_M_whatIf 48 = .ok (.baload, 1) := by decide +kernel
theorem d_M_whatIf_49 : decode c_M_whatIf 49 = .ok (.ifCond .eq 7, 3) := by decide +kernel
theorem d_M_whatIf_52 : decode c_M_whatIf 52 = .ok (.iconst 1, 1) := by decide +kernel
theorem d_M_whatIf_53 : decode c_M_whatIf 53 = .ok (.goto 4, 3) := by decide +kernel
theorem d_M_whatIf_56 : decode c_M_whatIf 56 = .ok (.iconst 0, 1) := by decide +kernel
theorem d_M_whatIf_57 : decode c_M_whatIf 57 = .ok (.invokevirtual 107, 3) := by decide +kernel
theorem d_M_whatIf_60 : decode c_M_whatIf 60 = .ok (.ifCond .eq 5, 3) := by decide +kernel
theorem d_M_whatIf_63 : decode c_M_whatIf 63 = .ok (.iconst 0, 1) := by decide +kernel
theorem d_M_whatIf_64 : decode c_M_whatIf 64 = .ok (.ireturn, 1) := by decide +kernel
theorem d_M_whatIf_65 : decode c_M_whatIf 65 = .ok (.aload_n 0, 1) := by decide +kernel
theorem d_M_whatIf_66 : decode c_M_whatIf 66 = .ok (.getfield 28, 3) := by decide +kernel
theorem d_M_whatIf_69 : decode c_M_whatIf 69 = .ok (.iload_n 1, 1) := by decide +kernel
theorem d_M_whatIf_70 : decode c_M_whatIf 70 = .ok (.iaload, 1) := by decide +kernel
theorem d_M_whatIf_71 : decode c_M_whatIf 71 = .ok (.istore 5, 2) := by decide +kernel
theorem d_M_whatIf_73 : decode c_M_whatIf 73 = .ok (.aload_n 0, 1) := by decide +kernel
theorem d_M_whatIf_74 : decode c_M_whatIf 74 = .ok (.getfield 28, 3) := by decide +kernel
theorem d_M_whatIf_77 : decode c_M_whatIf 77 = .ok (.iload_n 1, 1) := by decide +kernel
theorem d_M_whatIf_78 : decode c_M_whatIf 78 = .ok (.iload_n 2, 1) := by decide +kernel
theorem d_M_whatIf_79 : decode c_M_whatIf 79 = .ok (.iastore, 1) := by decide +kernel
theorem d_M_whatIf_80 : decode c_M_whatIf 80 = .ok (.aload_n 0, 1) := by decide +kernel
theorem d_M_whatIf_81 : decode c_M_whatIf 81 = .ok (.invokevirtual 194, 3) := by decide +kernel
theorem d_M_whatIf_84 : decode c_M_whatIf 84 = .ok (.aload_n 0, 1) := by decide +kernel
theorem d_M_whatIf_85 : decode c_M_whatIf 85 = .ok (.getfield 28, 3) := by decide +kernel
theorem d_M_whatIf_88 : decode c_M_whatIf 88 = .ok (.iload_n 1, 1) := by decide +kernel
theorem d_M_whatIf_89 : decode c_M_whatIf 89 = .ok (.iload 5, 2) := by decide +kernel
theorem d_M_whatIf_91 : decode c_M_whatIf 91 = .ok (.iastore, 1) := by decide +kernel
theorem d_M_whatIf_92 : decode c_M_whatIf 92 = .ok (.aload_n 0, 1) := by decide +kernel
theorem d_M_whatIf_93 : decode c_M_whatIf 93 = .ok (.getfield 63, 3) := by decide +kernel
theorem d_M_whatIf_96 : decode c_M_whatIf 96 = .ok (.bipush 40, 2) := by decide +kernel
theorem d_M_whatIf_98 : decode c_M_whatIf 98 = .ok (.iload_n 3, 1) := by decide +kernel
theorem d_M_whatIf_99 : decode c_M_whatIf 99 = .ok (.imul, 1) := by decide +kernel
theorem d_M_whatIf_100 : decode c_M_whatIf 100 = .ok (.iload_n 1, 1) := by decide +kernel
theorem d_M_whatIf_101 : decode c_M_whatIf 101 = .ok (.iadd, 1) := by decide +kernel
theorem d_M_whatIf_102 : decode c_M_whatIf 102 = .ok (.laload, 1) := by decide +kernel
theorem d_M_whatIf_103 : decode c_M_whatIf 103 = .ok (.l2i, 1) := by decide +kernel
theorem d_M_whatIf_104 : decode c_M_whatIf 104 = .ok (.ireturn, 1) := by decide +kernel
theorem d_M_window_0 : decode c_M_window 0 = .ok (.aload_n 0, 1) := by decide +kernel
theorem d_M_window_1 : decode c_M_window 1 = .ok (.aload_n 0, 1) := by decide +kernel
theorem d_M_window_2 : decode c_M_window 2 = .ok (.iload_n 1, 1) := by decide +kernel
theorem d_M_window_3 : decode c_M_window 3 = .ok (.invokevirtual 127, 3) := by decide +kernel
theorem d_M_window_6 : decode c_M_window 6 = .ok (.ifCond .eq 24, 3) := by decide +kernel
theorem d_M_window_9 : decode c_M_window 9 = .ok (.aload_n 0, 1) := by decide +kernel
theorem d_M_window_10 : decode c_M_window 10 = .ok (.iload_n 1, 1) := by decide +kernel
theorem d_M_window_11 : decode c_M_window 11 = .ok (.invokevirtual 144, 3) := by decide +kernel
theorem d_M_window_14 : decode c_M_window 14 = .ok (.iconst 3, 1) := by decide +kernel
theorem d_M_window_15 : decode c_M_window 15 = .ok (.if_icmp .ne 15, 3) := by decide +kernel
theorem d_M_window_18 : decode c_M_window 18 = .ok (.iload_n 2, 1) := by decide +kernel
theorem d_M_window_19 : decode c_M_window 19 = .ok (.i2l, 1) := by decide +kernel
theorem d_M_window_20 : decode c_M_window 20 = .ok (.lconst 1, 1) := by decide +kernel
theorem d_M_window_21 : decode c_M_window 21 = .ok (.ldc2_w 134, 3) := by decide +kernel
theorem d_M_window_24 : decode c_M_window 24 = .ok (.invokestatic 93, 3) := by decide +kernel
theorem d_M_window_27 : decode c_M_window 27 = .ok (.ifCond .ne 7, 3) := by decide +kernel
theorem d_M_window_30 : decode c_M_window 30 = .ok (.iconst 1, 1) := by decide +kernel
theorem d_M_window_31 : decode c_M_window 31 = .ok (.goto 4, 3) := by decide +kernel
theorem d_M_window_34 : decode c_M_window 34 = .ok (.iconst 0, 1) := by decide +kernel
theorem d_M_window_35 : decode c_M_window 35 = .ok (.iconst 0, 1) := by decide +kernel
theorem d_M_window_36 : decode c_M_window 36 = .ok (.invokevirtual 107, 3) := by decide +kernel
theorem d_M_window_39 : decode c_M_window 39 = .ok (.ifCond .eq 5, 3) := by decide +kernel
theorem d_M_window_42 : decode c_M_window 42 = .ok (.iconst 0, 1) := by decide +kernel
theorem d_M_window_43 : decode c_M_window 43 = .ok (.ireturn, 1) := by decide +kernel
theorem d_M_window_44 : decode c_M_window 44 = .ok (.aload_n 0, 1) := by decide +kernel
theorem d_M_window_45 : decode c_M_window 45 = .ok (.invokevirtual 194, 3) := by decide +kernel
theorem d_M_window_48 : decode c_M_window 48 = .ok (.aload_n 0, 1) := by decide +kernel
theorem d_M_window_49 : decode c_M_window 49 = .ok (.getfield 72, 3) := by decide +kernel
theorem d_M_window_52 : decode c_M_window 52 = .ok (.bipush 10, 2) := by decide +kernel
theorem d_M_window_54 : decode c_M_window 54 = .ok (.iload_n 1, 1) := by decide +kernel
theorem d_M_window_55 : decode c_M_window 55 = .ok (.imul, 1) := by decide +kernel
theorem d_M_window_56 : decode c_M_window 56 = .ok (.iload_n 2, 1) := by decide +kernel
theorem d_M_window_57 : decode c_M_window 57 = .ok (.iadd, 1) := by decide +kernel
theorem d_M_window_58 : decode c_M_window 58 = .ok (.iaload, 1) := by decide +kernel
theorem d_M_window_59 : decode c_M_window 59 = .ok (.ireturn, 1) := by decide +kernel
end
section
/-! what the bytes say -/
theorem d_L_bill_0 : decode c_L_bill 0 = .ok (.aload_n 2, 1) := by decide +kernel
theorem d_L_bill_1 : decode c_L_bill 1 = .ok (.iconst 0, 1) := by decide +kernel
theorem d_L_bill_2 : decode c_L_bill 2 = .ok (.aload_n 0, 1) := by decide +kernel
theorem d_L_bill_3 : decode c_L_bill 3 = .ok (.iload_n 1, 1) := by decide +kernel
theorem d_L_bill_4 : decode c_L_bill 4 = .ok (.invokevirtual 68, 3) := by decide +kernel
theorem d_L_bill_7 : decode c_L_bill 7 = .ok (.lastore, 1) := by decide +kernel
theorem d_L_bill_8 : decode c_L_bill 8 = .ok (.goto 6, 3) := by decide +kernel
theorem d_L_bill_11 : decode c_L_bill 11 = .ok (.astore_n 3, 1) := by decide +kernel
theorem d_L_bill_12 : decode c_L_bill 12 = .ok (.iconst 1, 1) := by decide +kernel
theorem d_L_bill_13 : decode c_L_bill 13 = .ok (.ireturn, 1) := by decide +kernel
theorem d_L_bill_14 : decode c_L_bill 14 = .ok (.iconst 0, 1) := by decide +kernel
theorem d_L_bill_15 : decode c_L_bill 15 = .ok (.ireturn, 1) := by decide +kernel
theorem d_L_ceded_0 : decode c_L_ceded 0 = .ok (.aload_n 3, 1) := by decide +kernel
theorem d_L_ceded_1 : decode c_L_ceded 1 = .ok (.iconst 0, 1) := by decide +kernel
theorem d_L_ceded_2 : decode c_L_ceded 2 = .ok (.aload_n 0, 1) := by decide +kernel
theorem d_L_ceded_3 : decode c_L_ceded 3 = .ok (.iload_n 1, 1) := by decide +kernel
theorem d_L_ceded_4 : decode c_L_ceded 4 = .ok (.iload_n 2, 1) := by decide +kernel
theorem d_L_ceded_5 : decode c_L_ceded 5 = .ok (.invokevirtual 47, 3) := by decide +kernel
theorem d_L_ceded_8 : decode c_L_ceded 8 = .ok (.i2l, 1) := by decide +kernel
theorem d_L_ceded_9 : decode c_L_ceded 9 = .ok (.lastore, 1) := by decide +kernel
theorem d_L_ceded_10 : decode c_L_ceded 10 = .ok (.goto 7, 3) := by decide +kernel
theorem d_L_ceded_13 : decode c_L_ceded 13 = .ok (.astore 4, 2) := by decide +kernel
theorem d_L_ceded_15 : decode c_L_ceded 15 = .ok (.iconst 1, 1) := by decide +kernel
theorem d_L_ceded_16 : decode c_L_ceded 16 = .ok (.ireturn, 1) := by decide +kernel
theorem d_L_ceded_17 : decode c_L_ceded 17 = .ok (.iconst 0, 1) := by decide +kernel
theorem d_L_ceded_18 : decode c_L_ceded 18 = .ok (.ireturn, 1) := by decide +kernel
theorem d_L_claim_0 : decode c_L_claim 0 = .ok (.aload 4, 2) := by decide +kernel
theorem d_L_claim_2 : decode c_L_claim 2 = .ok (.iconst 0, 1) := by decide +kernel
theorem d_L_claim_3 : decode c_L_claim 3 = .ok (.aload_n 0, 1) := by decide +kernel
theorem d_L_claim_4 : decode c_L_claim 4 = .ok (.iload_n 1, 1) := by decide +kernel
theorem d_L_claim_5 : decode c_L_claim 5 = .ok (.iload_n 2, 1) := by decide +kernel
theorem d_L_claim_6 : decode c_L_claim 6 = .ok (.iload_n 3, 1) := by decide +kernel
theorem d_L_claim_7 : decode c_L_claim 7 = .ok (.invokevirtual 28, 3) := by decide +kernel
theorem d_L_claim_10 : decode c_L_claim 10 = .ok (.i2l, 1) := by decide +kernel
theorem d_L_claim_11 : decode c_L_claim 11 = .ok (.lastore, 1) := by decide +kernel
theorem d_L_claim_12 : decode c_L_claim 12 = .ok (.goto 11, 3) := by decide +kernel
theorem d_L_claim_15 : decode c_L_claim 15 = .ok (.astore 5, 2) := by decide +kernel
theorem d_L_claim_17 : decode c_L_claim 17 = .ok (.iconst 1, 1) := by decide +kernel
theorem d_L_claim_18 : decode c_L_claim 18 = .ok (.ireturn, 1) := by decide +kernel
theorem d_L_claim_19 : decode c_L_claim 19 = .ok (.astore 5, 2) := by decide +kernel
theorem d_L_claim_21 : decode c_L_claim 21 = .ok (.iconst 2, 1) := by decide +kernel
theorem d_L_claim_22 : decode c_L_claim 22 = .ok (.ireturn, 1) := by decide +kernel
theorem d_L_claim_23 : decode c_L_claim 23 = .ok (.iconst 0, 1) := by decide +kernel
theorem d_L_claim_24 : decode c_L_claim 24 = .ok (.ireturn, 1) := by decide +kernel
theorem d_L_dissolve_0 : decode c_L_dissolve 0 = .ok (.aload_n 3, 1) := by decide +kernel
theorem d_L_dissolve_1 : decode c_L_dissolve 1 = .ok (.iconst 0, 1) := by decide +kernel
theorem d_L_dissolve_2 : decode c_L_dissolve 2 = .ok (.aload_n 0, 1) := by decide +kernel
theorem d_L_dissolve_3 : decode c_L_dissolve 3 = .ok (.iload_n 1, 1) := by decide +kernel
theorem d_L_dissolve_4 : decode c_L_dissolve 4 = .ok (.iload_n 2, 1) := by decide +kernel
theorem d_L_dissolve_5 : decode c_L_dissolve 5 = .ok (.invokevirtual 39, 3) := by decide +kernel
theorem d_L_dissolve_8 : decode c_L_dissolve 8 = .ok (.i2l, 1) := by decide +kernel
theorem d_L_dissolve_9 : decode c_L_dissolve 9 = .ok (.lastore, 1) := by decide +kernel
theorem d_L_dissolve_10 : decode c_L_dissolve 10 = .ok (.goto 11, 3) := by decide +kernel
theorem d_L_dissolve_13 : decode c_L_dissolve 13 = .ok (.astore 4, 2) := by decide +kernel
theorem d_L_dissolve_15 : decode c_L_dissolve 15 = .ok (.iconst 1, 1) := by decide +kernel
theorem d_L_dissolve_16 : decode c_L_dissolve 16 = .ok (.ireturn, 1) := by decide +kernel
theorem d_L_dissolve_17 : decode c_L_dissolve 17 = .ok (.astore 4, 2) := by decide +kernel
theorem d_L_dissolve_19 : decode c_L_dissolve 19 = .ok (.iconst 2, 1) := by decide +kernel
theorem d_L_dissolve_20 : decode c_L_dissolve 20 = .ok (.ireturn, 1) := by decide +kernel
theorem d_L_dissolve_21 : decode c_L_dissolve 21 = .ok (.iconst 0, 1) := by decide +kernel
theorem d_L_dissolve_22 : decode c_L_dissolve 22 = .ok (.ireturn, 1) := by decide +kernel
theorem d_L_due_0 : decode c_L_due 0 = .ok (.aload 4, 2) := by decide +kernel
theorem d_L_due_2 : decode c_L_due 2 = .ok (.iconst 0, 1) := by decide +kernel
theorem d_L_due_3 : decode c_L_due 3 = .ok (.aload_n 0, 1) := by decide +kernel
theorem d_L_due_4 : decode c_L_due 4 = .ok (.iload_n 1, 1) := by decide +kernel
theorem d_L_due_5 : decode c_L_due 5 = .ok (.iload_n 2, 1) := by decide +kernel
theorem d_L_due_6 : decode c_L_due 6 = .ok (.iload_n 3, 1) := by decide +kernel
theorem d_L_due_7 : decode c_L_due 7 = .ok (.invokevirtual 61, 3) := by decide +kernel
theorem d_L_due_10 : decode c_L_due 10 = .ok (.lastore, 1) := by decide +kernel
theorem d_L_due_11 : decode c_L_due 11 = .ok (.goto 7, 3) := by decide +kernel
theorem d_L_due_14 : decode c_L_due 14 = .ok (.astore 5, 2) := by decide +kernel
theorem d_L_due_16 : decode c_L_due 16 = .ok (.iconst 1, 1) := by decide +kernel
theorem d_L_due_17 : decode c_L_due 17 = .ok (.ireturn, 1) := by decide +kernel
theorem d_L_due_18 : decode c_L_due 18 = .ok (.iconst 0, 1) := by decide +kernel
theorem d_L_due_19 : decode c_L_due 19 = .ok (.ireturn, 1) := by decide +kernel
theorem d_L_estimate_0 : decode c_L_estimate 0 = .ok (.aload_n 0, 1) := by decide +kernel
theorem d_L_estimate_1 : decode c_L_estimate 1 = .ok (.iload_n 1, 1) := by decide +kernel
theorem d_L_estimate_2 : decode c_L_estimate 2 = .ok (.iload_n 2, 1) := by decide +kernel
theorem d_L_estimate_3 : decode c_L_estimate 3 = .ok (.invokevirtual 32, 3) := by decide +kernel
theorem d_L_estimate_6 : decode c_L_estimate 6 = .ok (.goto 9, 3) := by decide +kernel
theorem d_L_estimate_9 : decode c_L_estimate 9 = .ok (.astore_n 3, 1) := by decide +kernel
theorem d_L_estimate_10 : decode c_L_estimate 10 = .ok (.iconst 1, 1) := by decide +kernel
theorem d_L_estimate_11 : decode c_L_estimate 11 = .ok (.ireturn, 1) := by decide +kernel
theorem d_L_estimate_12 : decode c_L_estimate 12 = .ok (.astore_n 3, 1) := by decide +kernel
theorem d_L_estimate_13 : decode c_L_estimate 13 = .ok (.iconst 2, 1) := by decide +kernel
theorem d_L_estimate_14 : decode c_L_estimate 14 = .ok (.ireturn, 1) := by decide +kernel
theorem d_L_estimate_15 : decode c_L_estimate 15 = .ok (.iconst 0, 1) := by decide +kernel
theorem d_L_estimate_16 : decode c_L_estimate 16 = .ok (.ireturn, 1) := by decide +kernel
theorem d_L_kept_0 : decode c_L_kept 0 = .ok (.aload_n 2, 1) := by decide +kernel
theorem d_L_kept_1 : decode c_L_kept 1 = .ok (.iconst 0, 1) := by decide +kernel
theorem d_L_kept_2 : decode c_L_kept 2 = .ok (.aload_n 0, 1) := by decide +kernel
theorem d_L_kept_3 : decode c_L_kept 3 = .ok (.iload_n 1, 1) := by decide +kernel
theorem d_L_kept_4 : decode c_L_kept 4 = .ok (.invokevirtual 43, 3) := by decide +kernel
theorem d_L_kept_7 : decode c_L_kept 7 = .ok (.i2l, 1) := by decide +kernel
theorem d_L_kept_8 : decode c_L_kept 8 = .ok (.lastore, 1) := by decide +kernel
theorem d_L_kept_9 : decode c_L_kept 9 = .ok (.goto 6, 3) := by decide +kernel
theorem d_L_kept_12 : decode c_L_kept 12 = .ok (.astore_n 3, 1) := by decide +kernel
theorem d_L_kept_13 : decode c_L_kept 13 = .ok (.iconst 1, 1) := by decide +kernel
theorem d_L_kept_14 : decode c_L_kept 14 = .ok (.ireturn, 1) := by decide +kernel
theorem d_L_kept_15 : decode c_L_kept 15 = .ok (.iconst 0, 1) := by decide +kernel
theorem d_L_kept_16 : decode c_L_kept 16 = .ok (.ireturn, 1) := by decide +kernel
theorem d_L_left_0 : decode c_L_left 0 = .ok (.aload_n 2, 1) := by decide +kernel
theorem d_L_left_1 : decode c_L_left 1 = .ok (.iconst 0, 1) := by decide +kernel
theorem d_L_left_2 : decode c_L_left 2 = .ok (.aload_n 0, 1) := by decide +kernel
theorem d_L_left_3 : decode c_L_left 3 = .ok (.iload_n 1, 1) := by decide +kernel
theorem d_L_left_4 : decode c_L_left 4 = .ok (.invokevirtual 50, 3) := by decide +kernel
theorem d_L_left_7 : decode c_L_left 7 = .ok (.lastore, 1) := by decide +kernel
theorem d_L_left_8 : decode c_L_left 8 = .ok (.goto 6, 3) := by decide +kernel
theorem d_L_left_11 : decode c_L_left 11 = .ok (.astore_n 3, 1) := by decide +kernel
theorem d_L_left_12 : decode c_L_left 12 = .ok (.iconst 1, 1) := by decide +kernel
theorem d_L_left_13 : decode c_L_left 13 = .ok (.ireturn, 1) := by decide +kernel
theorem d_L_left_14 : decode c_L_left 14 = .ok (.iconst 0, 1) := by decide +kernel
theorem d_L_left_15 : decode c_L_left 15 = .ok (.ireturn, 1) := by decide +kernel
theorem d_L_premium_0 : decode c_L_premium 0 = .ok (.aload_n 0, 1) := by decide +kernel
theorem d_L_premium_1 : decode c_L_premium 1 = .ok (.iload_n 1, 1) := by decide +kernel
theorem d_L_premium_2 : decode c_L_premium 2 = .ok (.iload_n 2, 1) := by decide +kernel
theorem d_L_premium_3 : decode c_L_premium 3 = .ok (.invokevirtual 17, 3) := by decide +kernel
theorem d_L_premium_6 : decode c_L_premium 6 = .ok (.goto 9, 3) := by decide +kernel
theorem d_L_premium_9 : decode c_L_premium 9 = .ok (.astore_n 3, 1) := by decide +kernel
theorem d_L_premium_10 : decode c_L_premium 10 = .ok (.iconst 1, 1) := by decide +kernel
theorem d_L_premium_11 : decode c_L_premium 11 = .ok (.ireturn, 1) := by decide +kernel
theorem d_L_premium_12 : decode c_L_premium 12 = .ok (.astore_n 3, 1) := by decide +kernel
theorem d_L_premium_13 : decode c_L_premium 13 = .ok (.iconst 2, 1) := by decide +kernel
theorem d_L_premium_14 : decode c_L_premium 14 = .ok (.ireturn, 1) := by decide +kernel
theorem d_L_premium_15 : decode c_L_premium 15 = .ok (.iconst 0, 1) := by decide +kernel
theorem d_L_premium_16 : decode c_L_premium 16 = .ok (.ireturn, 1) := by decide +kernel
theorem d_L_risk_0 : decode c_L_risk 0 = .ok (.aload_n 0, 1) := by decide +kernel
theorem d_L_risk_1 : decode c_L_risk 1 = .ok (.iload_n 1, 1) := by decide +kernel
theorem d_L_risk_2 : decode c_L_risk 2 = .ok (.iload_n 2, 1) := by decide +kernel
theorem d_L_risk_3 : decode c_L_risk 3 = .ok (.iload_n 3, 1) := by decide +kernel
theorem d_L_risk_4 : decode c_L_risk 4 = .ok (.invokevirtual 7, 3) := by decide +kernel
theorem d_L_risk_7 : decode c_L_risk 7 = .ok (.goto 11, 3) := by decide +kernel
theorem d_L_risk_10 : decode c_L_risk 10 = .ok (.astore 4, 2) := by decide +kernel
theorem d_L_risk_12 : decode c_L_risk 12 = .ok (.iconst 1, 1) := by decide +kernel
theorem d_L_risk_13 : decode c_L_risk 13 = .ok (.ireturn, 1) := by decide +kernel
theorem d_L_risk_14 : decode c_L_risk 14 = .ok (.astore 4, 2) := by decide +kernel
theorem d_L_risk_16 : decode c_L_risk 16 = .ok (.iconst 2, 1) := by decide +kernel
theorem d_L_risk_17 : decode c_L_risk 17 = .ok (.ireturn, 1) := by decide +kernel
theorem d_L_risk_18 : decode c_L_risk 18 = .ok (.iconst 0, 1) := by decide +kernel
theorem d_L_risk_19 : decode c_L_risk 19 = .ok (.ireturn, 1) := by decide +kernel
theorem d_L_share_0 : decode c_L_share 0 = .ok (.aload_n 0, 1) := by decide +kernel
theorem d_L_share_1 : decode c_L_share 1 = .ok (.iload_n 1, 1) := by decide +kernel
theorem d_L_share_2 : decode c_L_share 2 = .ok (.iload_n 2, 1) := by decide +kernel
theorem d_L_share_3 : decode c_L_share 3 = .ok (.iload_n 3, 1) := by decide +kernel
theorem d_L_share_4 : decode c_L_share 4 = .ok (.invokevirtual 25, 3) := by decide +kernel
theorem d_L_share_7 : decode c_L_share 7 = .ok (.goto 11, 3) := by decide +kernel
theorem d_L_share_10 : decode c_L_share 10 = .ok (.astore 4, 2) := by decide +kernel
theorem d_L_share_12 : decode c_L_share 12 = .ok (.iconst 1, 1) := by decide +kernel
theorem d_L_share_13 : decode c_L_share 13 = .ok (.ireturn, 1) := by decide +kernel
theorem d_L_share_14 : decode c_L_share 14 = .ok (.astore 4, 2) := by decide +kernel
theorem d_L_share_16 : decode c_L_share 16 = .ok (.iconst 2, 1) := by decide +kernel
theorem d_L_share_17 : decode c_L_share 17 = .ok (.ireturn, 1) := by decide +kernel
theorem d_L_share_18 : decode c_L_share 18 = .ok (.iconst 0, 1) := by decide +kernel
theorem d_L_share_19 : decode c_L_share 19 = .ok (.ireturn, 1) := by decide +kernel
theorem d_L_strike_0 : decode c_L_strike 0 = .ok (.aload_n 0, 1) := by decide +kernel
theorem d_L_strike_1 : decode c_L_strike 1 = .ok (.iload_n 1, 1) := by decide +kernel
theorem d_L_strike_2 : decode c_L_strike 2 = .ok (.invokevirtual 35, 3) := by decide +kernel
theorem d_L_strike_5 : decode c_L_strike 5 = .ok (.goto 9, 3) := by decide +kernel
theorem d_L_strike_8 : decode c_L_strike 8 = .ok (.astore_n 2, 1) := by decide +kernel
theorem d_L_strike_9 : decode c_L_strike 9 = .ok (.iconst 1, 1) := by decide +kernel
theorem d_L_strike_10 : decode c_L_strike 10 = .ok (.ireturn, 1) := by decide +kernel
theorem d_L_strike_11 : decode c_L_strike 11 = .ok (.astore_n 2, 1) := by decide +kernel
theorem d_L_strike_12 : decode c_L_strike 12 = .ok (.iconst 2, 1) := by decide +kernel
theorem d_L_strike_13 : decode c_L_strike 13 = .ok (.ireturn, 1) := by decide +kernel
theorem d_L_strike_14 : decode c_L_strike 14 = .ok (.iconst 0, 1) := by decide +kernel
theorem d_L_strike_15 : decode c_L_strike 15 = .ok (.ireturn, 1) := by decide +kernel
theorem d_L_total_0 : decode c_L_total 0 = .ok (.aload_n 3, 1) := by decide +kernel
theorem d_L_total_1 : decode c_L_total 1 = .ok (.iconst 0, 1) := by decide +kernel
theorem d_L_total_2 : decode c_L_total 2 = .ok (.aload_n 0, 1) := by decide +kernel
theorem d_L_total_3 : decode c_L_total 3 = .ok (.iload_n 1, 1) := by decide +kernel
theorem d_L_total_4 : decode c_L_total 4 = .ok (.iload_n 2, 1) := by decide +kernel
theorem d_L_total_5 : decode c_L_total 5 = .ok (.invokevirtual 57, 3) := by decide +kernel
theorem d_L_total_8 : decode c_L_total 8 = .ok (.lastore, 1) := by decide +kernel
theorem d_L_total_9 : decode c_L_total 9 = .ok (.goto 7, 3) := by decide +kernel
theorem d_L_total_12 : decode c_L_total 12 = .ok (.astore 4, 2) := by decide +kernel
theorem d_L_total_14 : decode c_L_total 14 = .ok (.iconst 1, 1) := by decide +kernel
theorem d_L_total_15 : decode c_L_total 15 = .ok (.ireturn, 1) := by decide +kernel
theorem d_L_total_16 : decode c_L_total 16 = .ok (.iconst 0, 1) := by decide +kernel
theorem d_L_total_17 : decode c_L_total 17 = .ok (.ireturn, 1) := by decide +kernel
theorem d_L_treaty_0 : decode c_L_treaty 0 = .ok (.aload 6, 2) := by decide +kernel
theorem d_L_treaty_2 : decode c_L_treaty 2 = .ok (.iconst 0, 1) := by decide +kernel
theorem d_L_treaty_3 : decode c_L_treaty 3 = .ok (.aload_n 0, 1) := by decide +kernel
theorem d_L_treaty_4 : decode c_L_treaty 4 = .ok (.iload_n 1, 1) := by decide +kernel
theorem d_L_treaty_5 : decode c_L_treaty 5 = .ok (.iload_n 2, 1) := by decide +kernel
theorem d_L_treaty_6 : decode c_L_treaty 6 = .ok (.iload_n 3, 1) := by decide +kernel
theorem d_L_treaty_7 : decode c_L_treaty 7 = .ok (.iload 4, 2) := by decide +kernel
theorem d_L_treaty_9 : decode c_L_treaty 9 = .ok (.iload 5, 2) := by decide +kernel
theorem d_L_treaty_11 : decode c_L_treaty 11 = .ok (.invokevirtual 21, 3) := by decide +kernel
theorem d_L_treaty_14 : decode c_L_treaty 14 = .ok (.i2l, 1) := by decide +kernel
theorem d_L_treaty_15 : decode c_L_treaty 15 = .ok (.lastore, 1) := by decide +kernel
theorem d_L_treaty_16 : decode c_L_treaty 16 = .ok (.goto 11, 3) := by decide +kernel
theorem d_L_treaty_19 : decode c_L_treaty 19 = .ok (.astore 7, 2) := by decide +kernel
theorem d_L_treaty_21 : decode c_L_treaty 21 = .ok (.iconst 1, 1) := by decide +kernel
theorem d_L_treaty_22 : decode c_L_treaty 22 = .ok (.ireturn, 1) := by decide +kernel
theorem d_L_treaty_23 : decode c_L_treaty 23 = .ok (.astore 7, 2) := by decide +kernel
theorem d_L_treaty_25 : decode c_L_treaty 25 = .ok (.iconst 2, 1) := by decide +kernel
theorem d_L_treaty_26 : decode c_L_treaty 26 = .ok (.ireturn, 1) := by decide +kernel
theorem d_L_treaty_27 : decode c_L_treaty 27 = .ok (.iconst 0, 1) := by decide +kernel
theorem d_L_treaty_28 : decode c_L_treaty 28 = .ok (.ireturn, 1) := by decide +kernel
theorem d_L_whatIf_0 : decode c_L_whatIf 0 = .ok (.aload 4, 2) := by decide +kernel
theorem d_L_whatIf_2 : decode c_L_whatIf 2 = .ok (.iconst 0, 1) := by decide +kernel
theorem d_L_whatIf_3 : decode c_L_whatIf 3 = .ok (.aload_n 0, 1) := by decide +kernel
theorem d_L_whatIf_4 : decode c_L_whatIf 4 = .ok (.iload_n 1, 1) := by decide +kernel
theorem d_L_whatIf_5 : decode c_L_whatIf 5 = .ok (.iload_n 2, 1) := by decide +kernel
theorem d_L_whatIf_6 : decode c_L_whatIf 6 = .ok (.iload_n 3, 1) := by decide +kernel
theorem d_L_whatIf_7 : decode c_L_whatIf 7 = .ok (.invokevirtual 65, 3) := by decide +kernel
theorem d_L_whatIf_10 : decode c_L_whatIf 10 = .ok (.i2l, 1) := by decide +kernel
theorem d_L_whatIf_11 : decode c_L_whatIf 11 = .ok (.lastore, 1) := by decide +kernel
theorem d_L_whatIf_12 : decode c_L_whatIf 12 = .ok (.goto 11, 3) := by decide +kernel
theorem d_L_whatIf_15 : decode c_L_whatIf 15 = .ok (.astore 5, 2) := by decide +kernel
theorem d_L_whatIf_17 : decode c_L_whatIf 17 = .ok (.iconst 1, 1) := by decide +kernel
theorem d_L_whatIf_18 : decode c_L_whatIf 18 = .ok (.ireturn, 1) := by decide +kernel
theorem d_L_whatIf_19 : decode c_L_whatIf 19 = .ok (.astore 5, 2) := by decide +kernel
theorem d_L_whatIf_21 : decode c_L_whatIf 21 = .ok (.iconst 2, 1) := by decide +kernel
theorem d_L_whatIf_22 : decode c_L_whatIf 22 = .ok (.ireturn, 1) := by decide +kernel
theorem d_L_whatIf_23 : decode c_L_whatIf 23 = .ok (.iconst 0, 1) := by decide +kernel
theorem d_L_whatIf_24 : decode c_L_whatIf 24 = .ok (.ireturn, 1) := by decide +kernel
theorem d_L_window_0 : decode c_L_window 0 = .ok (.aload_n 3, 1) := by decide +kernel
theorem d_L_window_1 : decode c_L_window 1 = .ok (.iconst 0, 1) := by decide +kernel
theorem d_L_window_2 : decode c_L_window 2 = .ok (.aload_n 0, 1) := by decide +kernel
theorem d_L_window_3 : decode c_L_window 3 = .ok (.iload_n 1, 1) := by decide +kernel
theorem d_L_window_4 : decode c_L_window 4 = .ok (.iload_n 2, 1) := by decide +kernel
theorem d_L_window_5 : decode c_L_window 5 = .ok (.invokevirtual 54, 3) := by decide +kernel
theorem d_L_window_8 : decode c_L_window 8 = .ok (.i2l, 1) := by decide +kernel
theorem d_L_window_9 : decode c_L_window 9 = .ok (.lastore, 1) := by decide +kernel
theorem d_L_window_10 : decode c_L_window 10 = .ok (.goto 7, 3) := by decide +kernel
theorem d_L_window_13 : decode c_L_window 13 = .ok (.astore 4, 2) := by decide +kernel
theorem d_L_window_15 : decode c_L_window 15 = .ok (.iconst 1, 1) := by decide +kernel
theorem d_L_window_16 : decode c_L_window 16 = .ok (.ireturn, 1) := by decide +kernel
theorem d_L_window_17 : decode c_L_window 17 = .ok (.iconst 0, 1) := by decide +kernel
theorem d_L_window_18 : decode c_L_window 18 = .ok (.ireturn, 1) := by decide +kernel
theorem d_L_year_0 : decode c_L_year 0 = .ok (.aload_n 0, 1) := by decide +kernel
theorem d_L_year_1 : decode c_L_year 1 = .ok (.iload_n 1, 1) := by decide +kernel
theorem d_L_year_2 : decode c_L_year 2 = .ok (.iload_n 2, 1) := by decide +kernel
theorem d_L_year_3 : decode c_L_year 3 = .ok (.invokevirtual 71, 3) := by decide +kernel
theorem d_L_year_6 : decode c_L_year 6 = .ok (.goto 9, 3) := by decide +kernel
theorem d_L_year_9 : decode c_L_year 9 = .ok (.astore_n 3, 1) := by decide +kernel
theorem d_L_year_10 : decode c_L_year 10 = .ok (.iconst 1, 1) := by decide +kernel
theorem d_L_year_11 : decode c_L_year 11 = .ok (.ireturn, 1) := by decide +kernel
theorem d_L_year_12 : decode c_L_year 12 = .ok (.astore_n 3, 1) := by decide +kernel
theorem d_L_year_13 : decode c_L_year 13 = .ok (.iconst 2, 1) := by decide +kernel
theorem d_L_year_14 : decode c_L_year 14 = .ok (.ireturn, 1) := by decide +kernel
theorem d_L_year_15 : decode c_L_year 15 = .ok (.iconst 0, 1) := by decide +kernel
theorem d_L_year_16 : decode c_L_year 16 = .ok (.ireturn, 1) := by decide +kernel
theorem d_L_law_0 : decode c_L_law 0 = .ok (.new 8, 3) := by decide +kernel
theorem d_L_law_3 : decode c_L_law 3 = .ok (.dup, 1) := by decide +kernel
theorem d_L_law_4 : decode c_L_law 4 = .ok (.invokespecial 75, 3) := by decide +kernel
theorem d_L_law_7 : decode c_L_law 7 = .ok (.astore_n 1, 1) := by decide +kernel
theorem d_L_law_8 : decode c_L_law 8 = .ok (.new 76, 3) := by decide +kernel
theorem d_L_law_11 : decode c_L_law 11 = .ok (.dup, 1) := by decide +kernel
theorem d_L_law_12 : decode c_L_law 12 = .ok (.invokespecial 78, 3) := by decide +kernel
theorem d_L_law_15 : decode c_L_law 15 = .ok (.astore_n 2, 1) := by decide +kernel
theorem d_L_law_16 : decode c_L_law 16 = .ok (.iconst 1, 1) := by decide +kernel
theorem d_L_law_17 : decode c_L_law 17 = .ok (.newarray .long, 2) := by decide +kernel
theorem d_L_law_19 : decode c_L_law 19 = .ok (.astore_n 3, 1) := by decide +kernel
theorem d_L_law_20 : decode c_L_law 20 = .ok (.iconst 0, 1) := by decide +kernel
theorem d_L_law_21 : decode c_L_law 21 = .ok (.istore 4, 2) := by decide +kernel
theorem d_L_law_23 : decode c_L_law 23 = .ok (.iload 4, 2) := by decide +kernel
theorem d_L_law_25 : decode c_L_law 25 = .ok (.aload_n 0, 1) := by decide +kernel
theorem d_L_law_26 : decode c_L_law 26 = .ok (.arraylength, 1) := by decide +kernel
theorem d_L_law_27 : decode c_L_law 27 = .ok (.bipush 6, 2) := by decide +kernel
theorem d_L_law_29 : decode c_L_law 29 = .ok (.isub, 1) := by decide +kernel
theorem d_L_law_30 : decode c_L_law 30 = .ok (.if_icmp .gt 1196, 3) := by decide +kernel
theorem d_L_law_33 : decode c_L_law 33 = .ok (.aload_n 0, 1) := by decide +kernel
theorem d_L_law_34 : decode c_L_law 34 = .ok (.iload 4, 2) := by decide +kernel
theorem d_L_law_36 : decode c_L_law 36 = .ok (.iaload, 1) := by decide +kernel
theorem d_L_law_37 : decode c_L_law 37 = .ok (.bipush 31, 2) := by decide +kernel
theorem d_L_law_39 : decode c_L_law 39 = .ok (.iand, 1) := by decide +kernel
theorem d_L_law_40 : decode c_L_law 40 = .ok (.tableswitch 1180 0 16 #[84, 144, 192, 296, 356, 436, 484, 520, 588, 644, 712, 767, 835, 902, 981, 1061, 1116], 84) := by decide +kernel
theorem d_L_law_124 : decode c_L_law 124 = .ok (.aload_n 1, 1) := by decide +kernel
theorem d_L_law_125 : decode c_L_law 125 = .ok (.aload_n 0, 1) := by decide +kernel
theorem d_L_law_126 : decode c_L_law 126 = .ok (.iload 4, 2) := by decide +kernel
theorem d_L_law_128 : decode c_L_law 128 = .ok (.iconst 1, 1) := by decide +kernel
theorem d_L_law_129 : decode c_L_law 129 = .ok (.iadd, 1) := by decide +kernel
theorem d_L_law_130 : decode c_L_law 130 = .ok (.iaload, 1) := by decide +kernel
theorem d_L_law_131 : decode c_L_law 131 = .ok (.aload_n 0, 1) := by decide +kernel
theorem d_L_law_132 : decode c_L_law 132 = .ok (.iload 4, 2) := by decide +kernel
theorem d_L_law_134 : decode c_L_law 134 = .ok (.iconst 2, 1) := by decide +kernel
theorem d_L_law_135 : decode c_L_law 135 = .ok (.iadd, 1) := by decide +kernel
theorem d_L_law_136 : decode c_L_law 136 = .ok (.iaload, 1) := by decide +kernel
theorem d_L_law_137 : decode c_L_law 137 = .ok (.aload_n 0, 1) := by decide +kernel
theorem d_L_law_138 : decode c_L_law 138 = .ok (.iload 4, 2) := by decide +kernel
theorem d_L_law_140 : decode c_L_law 140 = .ok (.iconst 3, 1) := by decide +kernel
theorem d_L_law_141 : decode c_L_law 141 = .ok (.iadd, 1) := by decide +kernel
theorem d_L_law_142 : decode c_L_law 142 = .ok (.iaload, 1) := by decide +kernel
theorem d_L_law_143 : decode c_L_law 143 = .ok (.invokestatic 79, 3) := by decide +kernel
theorem d_L_law_146 : decode c_L_law 146 = .ok (.istore 5, 2) := by decide +kernel
theorem d_L_law_148 : decode c_L_law 148 = .ok (.aload_n 2, 1) := by decide +kernel
theorem d_L_law_149 : decode c_L_law 149 = .ok (.aload_n 0, 1) := by decide +kernel
theorem d_L_law_150 : decode c_L_law 150 = .ok (.iload 4, 2) := by decide +kernel
theorem d_L_law_152 : decode c_L_law 152 = .ok (.iconst 1, 1) := by decide +kernel
theorem d_L_law_153 : decode c_L_law 153 = .ok (.iadd, 1) := by decide +kernel
theorem d_L_law_154 : decode c_L_law 154 = .ok (.iaload, 1) := by decide +kernel
theorem d_L_law_155 : decode c_L_law 155 = .ok (.aload_n 0, 1) := by decide +kernel
theorem d_L_law_156 : decode c_L_law 156 = .ok (.iload 4, 2) := by decide +kernel
theorem d_L_law_158 : decode c_L_law 158 = .ok (.iconst 2, 1) := by decide +kernel
theorem d_L_law_159 : decode c_L_law 159 = .ok (.iadd, 1) := by decide +kernel
theorem d_L_law_160 : decode c_L_law 160 = .ok (.iaload, 1) := by decide +kernel
theorem d_L_law_161 : decode c_L_law 161 = .ok (.aload_n 0, 1) := by decide +kernel
theorem d_L_law_162 : decode c_L_law 162 = .ok (.iload 4, 2) := by decide +kernel
theorem d_L_law_164 : decode c_L_law 164 = .ok (.iconst 3, 1) := by decide +kernel
theorem d_L_law_165 : decode c_L_law 165 = .ok (.iadd, 1) := by decide +kernel
theorem d_L_law_166 : decode c_L_law 166 = .ok (.iaload, 1) := by decide +kernel
theorem d_L_law_167 : decode c_L_law 167 = .ok (.invokevirtual 84, 3) := by decide +kernel
theorem d_L_law_170 : decode c_L_law 170 = .ok (.aload_n 2, 1) := by decide +kernel
theorem d_L_law_171 : decode c_L_law 171 = .ok (.invokevirtual 85, 3) := by decide +kernel
theorem d_L_law_174 : decode c_L_law 174 = .ok (.iload 5, 2) := by decide +kernel
theorem d_L_law_176 : decode c_L_law 176 = .ok (.if_icmp .eq 5, 3) := by decide +kernel
theorem d_L_law_179 : decode c_L_law 179 = .ok (.iconst 0, 1) := by decide +kernel
theorem d_L_law_180 : decode c_L_law 180 = .ok (.ireturn, 1) := by decide +kernel
theorem d_L_law_181 : decode c_L_law 181 = .ok (.goto 1039, 3) := by decide +kernel
theorem d_L_law_184 : decode c_L_law 184 = .ok (.aload_n 1, 1) := by decide +kernel
theorem d_L_law_185 : decode c_L_law 185 = .ok (.aload_n 0, 1) := by decide +kernel
theorem d_L_law_186 : decode c_L_law 186 = .ok (.iload 4, 2) := by decide +kernel
theorem d_L_law_188 : decode c_L_law 188 = .ok (.iconst 1, 1) := by decide +kernel
theorem d_L_law_189 : decode c_L_law 189 = .ok (.iadd, 1) := by decide +kernel
theorem d_L_law_190 : decode c_L_law 190 = .ok (.iaload, 1) := by decide +kernel
theorem d_L_law_191 : decode c_L_law 191 = .ok (.aload_n 0, 1) := by decide +kernel
theorem d_L_law_192 : decode c_L_law 192 = .ok (.iload 4, 2) := by decide +kernel
theorem d_L_law_194 : decode c_L_law 194 = .ok (.iconst 2, 1) := by decide +kernel
theorem d_L_law_195 : decode c_L_law 195 = .ok (.iadd, 1) := by decide +kernel
theorem d_L_law_196 : decode c_L_law 196 = .ok (.iaload, 1) := by decide +kernel
theorem d_L_law_197 : decode c_L_law 197 = .ok (.invokestatic 89, 3) := by decide +kernel
theorem d_L_law_200 : decode c_L_law 200 = .ok (.istore 5, 2) := by decide +kernel
theorem d_L_law_202 : decode c_L_law 202 = .ok (.aload_n 2, 1) := by decide +kernel
theorem d_L_law_203 : decode c_L_law 203 = .ok (.aload_n 0, 1) := by decide +kernel
theorem d_L_law_204 : decode c_L_law 204 = .ok (.iload 4, 2) := by decide +kernel
theorem d_L_law_206 : decode c_L_law 206 = .ok (.iconst 1, 1) := by decide +kernel
theorem d_L_law_207 : decode c_L_law 207 = .ok (.iadd, 1) := by decide +kernel
theorem d_L_law_208 : decode c_L_law 208 = .ok (.iaload, 1) := by decide +kernel
theorem d_L_law_209 : decode c_L_law 209 = .ok (.aload_n 0, 1) := by decide +kernel
theorem d_L_law_210 : decode c_L_law 210 = .ok (.iload 4, 2) := by decide +kernel
theorem d_L_law_212 : decode c_L_law 212 = .ok (.iconst 2, 1) := by decide +kernel
theorem d_L_law_213 : decode c_L_law 213 = .ok (.iadd, 1) := by decide +kernel
theorem d_L_law_214 : decode c_L_law 214 = .ok (.iaload, 1) := by decide +kernel
theorem d_L_law_215 : decode c_L_law 215 = .ok (.invokevirtual 92, 3) := by decide +kernel
theorem d_L_law_218 : decode c_L_law 218 = .ok (.aload_n 2, 1) := by decide +kernel
theorem d_L_law_219 : decode c_L_law 219 = .ok (.invokevirtual 85, 3) := by decide +kernel
theorem d_L_law_222 : decode c_L_law 222 = .ok (.iload 5, 2) := by decide +kernel
theorem d_L_law_224 : decode c_L_law 224 = .ok (.if_icmp .eq 5, 3) := by decide +kernel
theorem d_L_law_227 : decode c_L_law 227 = .ok (.iconst 0, 1) := by decide +kernel
theorem d_L_law_228 : decode c_L_law 228 = .ok (.ireturn, 1) := by decide +kernel
theorem d_L_law_229 : decode c_L_law 229 = .ok (.goto 991, 3) := by decide +kernel
theorem d_L_law_232 : decode c_L_law 232 = .ok (.aload_n 1, 1) := by decide +kernel
theorem d_L_law_233 : decode c_L_law 233 = .ok (.aload_n 0, 1) := by decide +kernel
theorem d_L_law_234 : decode c_L_law 234 = .ok (.iload 4, 2) := by decide +kernel
theorem d_L_law_236 : decode c_L_law 236 = .ok (.iconst 1, 1) := by decide +kernel
theorem d_L_law_237 : decode c_L_law 237 = .ok (.iadd, 1) := by decide +kernel
theorem d_L_law_238 : decode c_L_law 238 = .ok (.iaload, 1) := by decide +kernel
theorem d_L_law_239 : decode c_L_law 239 = .ok (.aload_n 0, 1) := by decide +kernel
theorem d_L_law_240 : decode c_L_law 240 = .ok (.iload 4, 2) := by decide +kernel
theorem d_L_law_242 : decode c_L_law 242 = .ok (.iconst 2, 1) := by decide +kernel
theorem d_L_law_243 : decode c_L_law 243 = .ok (.iadd, 1) := by decide +kernel
theorem d_L_law_244 : decode c_L_law 244 = .ok (.iaload, 1) := by decide +kernel
theorem d_L_law_245 : decode c_L_law 245 = .ok (.aload_n 0, 1) := by decide +kernel
theorem d_L_law_246 : decode c_L_law 246 = .ok (.iload 4, 2) := by decide +kernel
theorem d_L_law_248 : decode c_L_law 248 = .ok (.iconst 3, 1) := by decide +kernel
theorem d_L_law_249 : decode c_L_law 249 = .ok (.iadd, 1) := by decide +kernel
theorem d_L_law_250 : decode c_L_law 250 = .ok (.iaload, 1) := by decide +kernel
theorem d_L_law_251 : decode c_L_law 251 = .ok (.aload_n 0, 1) := by decide +kernel
theorem d_L_law_252 : decode c_L_law 252 = .ok (.iload 4, 2) := by decide +kernel
theorem d_L_law_254 : decode c_L_law 254 = .ok (.iconst 4, 1) := by decide +kernel
theorem d_L_law_255 : decode c_L_law 255 = .ok (.iadd, 1) := by decide +kernel
theorem d_L_law_256 : decode c_L_law 256 = .ok (.iaload, 1) := by decide +kernel
theorem d_L_law_257 : decode c_L_law 257 = .ok (.aload_n 0, 1) := by decide +kernel
theorem d_L_law_258 : decode c_L_law 258 = .ok (.iload 4, 2) := by decide +kernel
theorem d_L_law_260 : decode c_L_law 260 = .ok (.iconst 5, 1) := by decide +kernel
theorem d_L_law_261 : decode c_L_law 261 = .ok (.iadd, 1) := by decide +kernel
theorem d_L_law_262 : decode c_L_law 262 = .ok (.iaload, 1) := by decide +kernel
theorem d_L_law_263 : decode c_L_law 263 = .ok (.aload_n 3, 1) := by decide +kernel
theorem d_L_law_264 : decode c_L_law 264 = .ok (.invokestatic 93, 3) := by decide +kernel
theorem d_L_law_267 : decode c_L_law 267 = .ok (.istore 5, 2) := by decide +kernel
theorem d_L_law_269 : decode c_L_law 269 = .ok (.aload_n 2, 1) := by decide +kernel
theorem d_L_law_270 : decode c_L_law 270 = .ok (.aload_n 0, 1) := by decide +kernel
theorem d_L_law_271 : decode c_L_law 271 = .ok (.iload 4, 2) := by decide +kernel
theorem d_L_law_273 : decode c_L_law 273 = .ok (.iconst 1, 1) := by decide +kernel
theorem d_L_law_274 : decode c_L_law 274 = .ok (.iadd, 1) := by decide +kernel
theorem d_L_law_275 : decode c_L_law 275 = .ok (.iaload, 1) := by decide +kernel
theorem d_L_law_276 : decode c_L_law 276 = .ok (.aload_n 0, 1) := by decide +kernel
theorem d_L_law_277 : decode c_L_law 277 = .ok (.iload 4, 2) := by decide +kernel
theorem d_L_law_279 : decode c_L_law 279 = .ok (.iconst 2, 1) := by decide +kernel
theorem d_L_law_280 : decode c_L_law 280 = .ok (.iadd, 1) := by decide +kernel
theorem d_L_law_281 : decode c_L_law 281 = .ok (.iaload, 1) := by decide +kernel
theorem d_L_law_282 : decode c_L_law 282 = .ok (.aload_n 0, 1) := by decide +kernel
theorem d_L_law_283 : decode c_L_law 283 = .ok (.iload 4, 2) := by decide +kernel
theorem d_L_law_285 : decode c_L_law 285 = .ok (.iconst 3, 1) := by decide +kernel
theorem d_L_law_286 : decode c_L_law 286 = .ok (.iadd, 1) := by decide +kernel
theorem d_L_law_287 : decode c_L_law 287 = .ok (.iaload, 1) := by decide +kernel
theorem d_L_law_288 : decode c_L_law 288 = .ok (.aload_n 0, 1) := by decide +kernel
theorem d_L_law_289 : decode c_L_law 289 = .ok (.iload 4, 2) := by decide +kernel
theorem d_L_law_291 : decode c_L_law 291 = .ok (.iconst 4, 1) := by decide +kernel
theorem d_L_law_292 : decode c_L_law 292 = .ok (.iadd, 1) := by decide +kernel
theorem d_L_law_293 : decode c_L_law 293 = .ok (.iaload, 1) := by decide +kernel
theorem d_L_law_294 : decode c_L_law 294 = .ok (.aload_n 0, 1) := by decide +kernel
theorem d_L_law_295 : decode c_L_law 295 = .ok (.iload 4, 2) := by decide +kernel
theorem d_L_law_297 : decode c_L_law 297 = .ok (.iconst 5, 1) := by decide +kernel
theorem d_L_law_298 : decode c_L_law 298 = .ok (.iadd, 1) := by decide +kernel
theorem d_L_law_299 : decode c_L_law 299 = .ok (.iaload, 1) := by decide +kernel
theorem d_L_law_300 : decode c_L_law 300 = .ok (.invokevirtual 96, 3) := by decide +kernel
theorem d_L_law_303 : decode c_L_law 303 = .ok (.istore 6, 2) := by decide +kernel
theorem d_L_law_305 : decode c_L_law 305 = .ok (.aload_n 2, 1) := by decide +kernel
theorem d_L_law_306 : decode c_L_law 306 = .ok (.invokevirtual 85, 3) := by decide +kernel
theorem d_L_law_309 : decode c_L_law 309 = .ok (.iload 5, 2) := by decide +kernel
theorem d_L_law_311 : decode c_L_law 311 = .ok (.if_icmp .eq 5, 3) := by decide +kernel
theorem d_L_law_314 : decode c_L_law 314 = .ok (.iconst 0, 1) := by decide +kernel
theorem d_L_law_315 : decode c_L_law 315 = .ok (.ireturn, 1) := by decide +kernel
theorem d_L_law_316 : decode c_L_law 316 = .ok (.iload 5, 2) := by decide +kernel
theorem d_L_law_318 : decode c_L_law 318 = .ok (.ifCond .ne 15, 3) := by decide +kernel
theorem d_L_law_321 : decode c_L_law 321 = .ok (.aload_n 3, 1) := by decide +kernel
theorem d_L_law_322 : decode c_L_law 322 = .ok (.iconst 0, 1) := by decide +kernel
theorem d_L_law_323 : decode c_L_law 323 = .ok (.laload, 1) := by decide +kernel
theorem d_L_law_324 : decode c_L_law 324 = .ok (.iload 6, 2) := by decide +kernel
theorem d_L_law_326 : decode c_L_law 326 = .ok (.i2l, 1) := by decide +kernel
theorem d_L_law_327 : decode c_L_law 327 = .ok (.lcmp, 1) := by decide +kernel
theorem d_L_law_328 : decode c_L_law 328 = .ok (.ifCond .eq 5, 3) := by decide +kernel
theorem d_L_law_331 : decode c_L_law 331 = .ok (.iconst 0, 1) := by decide +kernel
theorem d_L_law_332 : decode c_L_law 332 = .ok (.ireturn, 1) := by decide +kernel
theorem d_L_law_333 : decode c_L_law 333 = .ok (.goto 887, 3) := by decide +kernel
theorem d_L_law_336 : decode c_L_law 336 = .ok (.aload_n 1, 1) := by decide +kernel
theorem d_L_law_337 : decode c_L_law 337 = .ok (.aload_n 0, 1) := by decide +kernel
theorem d_L_law_338 : decode c_L_law 338 = .ok (.iload 4, 2) := by decide +kernel
theorem d_L_law_340 : decode c_L_law 340 = .ok (.iconst 1, 1) := by decide +kernel
theorem d_L_law_341 : decode c_L_law 341 = .ok (.iadd, 1) := by decide +kernel
theorem d_L_law_342 : decode c_L_law 342 = .ok (.iaload, 1) := by decide +kernel
theorem d_L_law_343 : decode c_L_law 343 = .ok (.aload_n 0, 1) := by decide +kernel
theorem d_L_law_344 : decode c_L_law 344 = .ok (.iload 4, 2) := by decide +kernel
theorem d_L_law_346 : decode c_L_law 346 = .ok (.iconst 2, 1) := by decide +kernel
theorem d_L_law_347 : decode c_L_law 347 = .ok (.iadd, 1) := by decide +kernel
theorem d_L_law_348 : decode c_L_law 348 = .ok (.iaload, 1) := by decide +kernel
theorem d_L_law_349 : decode c_L_law 349 = .ok (.aload_n 0, 1) := by decide +kernel
theorem d_L_law_350 : decode c_L_law 350 = .ok (.iload 4, 2) := by decide +kernel
theorem d_L_law_352 : decode c_L_law 352 = .ok (.iconst 3, 1) := by decide +kernel
theorem d_L_law_353 : decode c_L_law 353 = .ok (.iadd, 1) := by decide +kernel
theorem d_L_law_354 : decode c_L_law 354 = .ok (.iaload, 1) := by decide +kernel
theorem d_L_law_355 : decode c_L_law 355 = .ok (.invokestatic 97, 3) := by decide +kernel
theorem d_L_law_358 : decode c_L_law 358 = .ok (.istore 5, 2) := by decide +kernel
theorem d_L_law_360 : decode c_L_law 360 = .ok (.aload_n 2, 1) := by decide +kernel
theorem d_L_law_361 : decode c_L_law 361 = .ok (.aload_n 0, 1) := by decide +kernel
theorem d_L_law_362 : decode c_L_law 362 = .ok (.iload 4, 2) := by decide +kernel
theorem d_L_law_364 : decode c_L_law 364 = .ok (.iconst 1, 1) := by decide +kernel
theorem d_L_law_365 : decode c_L_law 365 = .ok (.iadd, 1) := by decide +kernel
theorem d_L_law_366 : decode c_L_law 366 = .ok (.iaload, 1) := by decide +kernel
theorem d_L_law_367 : decode c_L_law 367 = .ok (.aload_n 0, 1) := by decide +kernel
theorem d_L_law_368 : decode c_L_law 368 = .ok (.iload 4, 2) := by decide +kernel
theorem d_L_law_370 : decode c_L_law 370 = .ok (.iconst 2, 1) := by decide +kernel
theorem d_L_law_371 : decode c_L_law 371 = .ok (.iadd, 1) := by decide +kernel
theorem d_L_law_372 : decode c_L_law 372 = .ok (.iaload, 1) := by decide +kernel
theorem d_L_law_373 : decode c_L_law 373 = .ok (.aload_n 0, 1) := by decide +kernel
theorem d_L_law_374 : decode c_L_law 374 = .ok (.iload 4, 2) := by decide +kernel
theorem d_L_law_376 : decode c_L_law 376 = .ok (.iconst 3, 1) := by decide +kernel
theorem d_L_law_377 : decode c_L_law 377 = .ok (.iadd, 1) := by decide +kernel
theorem d_L_law_378 : decode c_L_law 378 = .ok (.iaload, 1) := by decide +kernel
theorem d_L_law_379 : decode c_L_law 379 = .ok (.invokevirtual 99, 3) := by decide +kernel
theorem d_L_law_382 : decode c_L_law 382 = .ok (.aload_n 2, 1) := by decide +kernel
theorem d_L_law_383 : decode c_L_law 383 = .ok (.invokevirtual 85, 3) := by decide +kernel
theorem d_L_law_386 : decode c_L_law 386 = .ok (.iload 5, 2) := by decide +kernel
theorem d_L_law_388 : decode c_L_law 388 = .ok (.if_icmp .eq 5, 3) := by decide +kernel
theorem d_L_law_391 : decode c_L_law 391 = .ok (.iconst 0, 1) := by decide +kernel
theorem d_L_law_392 : decode c_L_law 392 = .ok (.ireturn, 1) := by decide +kernel
theorem d_L_law_393 : decode c_L_law 393 = .ok (.goto 827, 3) := by decide +kernel
theorem d_L_law_396 : decode c_L_law 396 = .ok (.aload_n 1, 1) := by decide +kernel
theorem d_L_law_397 : decode c_L_law 397 = .ok (.aload_n 0, 1) := by decide +kernel
theorem d_L_law_398 : decode c_L_law 398 = .ok (.iload 4, 2) := by decide +kernel
theorem d_L_law_400 : decode c_L_law 400 = .ok (.iconst 1, 1) := by decide +kernel
theorem d_L_law_401 : decode c_L_law 401 = .ok (.iadd, 1) := by decide +kernel
theorem d_L_law_402 : decode c_L_law 402 = .ok (.iaload, 1) := by decide +kernel
theorem d_L_law_403 : decode c_L_law 403 = .ok (.aload_n 0, 1) := by decide +kernel
theorem d_L_law_404 : decode c_L_law 404 = .ok (.iload 4, 2) := by decide +kernel
theorem d_L_law_406 : decode c_L_law 406 = .ok (.iconst 2, 1) := by decide +kernel
theorem d_L_law_407 : decode c_L_law 407 = .ok (.iadd, 1) := by decide +kernel
theorem d_L_law_408 : decode c_L_law 408 = .ok (.iaload, 1) := by decide +kernel
theorem d_L_law_409 : decode c_L_law 409 = .ok (.aload_n 0, 1) := by decide +kernel
theorem d_L_law_410 : decode c_L_law 410 = .ok (.iload 4, 2) := by decide +kernel
theorem d_L_law_412 : decode c_L_law 412 = .ok (.iconst 3, 1) := by decide +kernel
theorem d_L_law_413 : decode c_L_law 413 = .ok (.iadd, 1) := by decide +kernel
theorem d_L_law_414 : decode c_L_law 414 = .ok (.iaload, 1) := by decide +kernel
theorem d_L_law_415 : decode c_L_law 415 = .ok (.aload_n 3, 1) := by decide +kernel
theorem d_L_law_416 : decode c_L_law 416 = .ok (.invokestatic 100, 3) := by decide +kernel
theorem d_L_law_419 : decode c_L_law 419 = .ok (.istore 5, 2) := by decide +kernel
theorem d_L_law_421 : decode c_L_law 421 = .ok (.aload_n 2, 1) := by decide +kernel
theorem d_L_law_422 : decode c_L_law 422 = .ok (.aload_n 0, 1) := by decide +kernel
theorem d_L_law_423 : decode c_L_law 423 = .ok (.iload 4, 2) := by decide +kernel
theorem d_L_law_425 : decode c_L_law 425 = .ok (.iconst 1, 1) := by decide +kernel
theorem d_L_law_426 : decode c_L_law 426 = .ok (.iadd, 1) := by decide +kernel
theorem d_L_law_427 : decode c_L_law 427 = .ok (.iaload, 1) := by decide +kernel
theorem d_L_law_428 : decode c_L_law 428 = .ok (.aload_n 0, 1) := by decide +kernel
theorem d_L_law_429 : decode c_L_law 429 = .ok (.iload 4, 2) := by decide +kernel
theorem d_L_law_431 : decode c_L_law 431 = .ok (.iconst 2, 1) := by decide +kernel
theorem d_L_law_432 : decode c_L_law 432 = .ok (.iadd, 1) := by decide +kernel
theorem d_L_law_433 : decode c_L_law 433 = .ok (.iaload, 1) := by decide +kernel
theorem d_L_law_434 : decode c_L_law 434 = .ok (.aload_n 0, 1) := by decide +kernel
theorem d_L_law_435 : decode c_L_law 435 = .ok (.iload 4, 2) := by decide +kernel
theorem d_L_law_437 : decode c_L_law 437 = .ok (.iconst 3, 1) := by decide +kernel
theorem d_L_law_438 : decode c_L_law 438 = .ok (.iadd, 1) := by decide +kernel
theorem d_L_law_439 : decode c_L_law 439 = .ok (.iaload, 1) := by decide +kernel
theorem d_L_law_440 : decode c_L_law 440 = .ok (.invokevirtual 103, 3) := by decide +kernel
theorem d_L_law_443 : decode c_L_law 443 = .ok (.istore 6, 2) := by decide +kernel
theorem d_L_law_445 : decode c_L_law 445 = .ok (.aload_n 2, 1) := by decide +kernel
theorem d_L_law_446 : decode c_L_law 446 = .ok (.invokevirtual 85, 3) := by decide +kernel
theorem d_L_law_449 : decode c_L_law 449 = .ok (.iload 5, 2) := by decide +kernel
theorem d_L_law_451 : decode c_L_law 451 = .ok (.if_icmp .eq 5, 3) := by decide +kernel
theorem d_L_law_454 : decode c_L_law 454 = .ok (.iconst 0, 1) := by decide +kernel
theorem d_L_law_455 : decode c_L_law 455 = .ok (.ireturn, 1) := by decide +kernel
theorem d_L_law_456 : decode c_L_law 456 = .ok (.iload 5, 2) := by decide +kernel
theorem d_L_law_458 : decode c_L_law 458 = .ok (.ifCond .ne 15, 3) := by decide +kernel
theorem d_L_law_461 : decode c_L_law 461 = .ok (.aload_n 3, 1) := by decide +kernel
theorem d_L_law_462 : decode c_L_law 462 = .ok (.iconst 0, 1) := by decide +kernel
theorem d_L_law_463 : decode c_L_law 463 = .ok (.laload, 1) := by decide +kernel
theorem d_L_law_464 : decode c_L_law 464 = .ok (.iload 6, 2) := by decide +kernel
theorem d_L_law_466 : decode c_L_law 466 = .ok (.i2l, 1) := by decide +kernel
theorem d_L_law_467 : decode c_L_law 467 = .ok (.lcmp, 1) := by decide +kernel
theorem d_L_law_468 : decode c_L_law 468 = .ok (.ifCond .eq 5, 3) := by decide +kernel
theorem d_L_law_471 : decode c_L_law 471 = .ok (.iconst 0, 1) := by decide +kernel
theorem d_L_law_472 : decode c_L_law 472 = .ok (.ireturn, 1) := by decide +kernel
theorem d_L_law_473 : decode c_L_law 473 = .ok (.goto 747, 3) := by decide +kernel
theorem d_L_law_476 : decode c_L_law 476 = .ok (.aload_n 1, 1) := by decide +kernel
theorem d_L_law_477 : decode c_L_law 477 = .ok (.aload_n 0, 1) := by decide +kernel
theorem d_L_law_478 : decode c_L_law 478 = .ok (.iload 4, 2) := by decide +kernel
theorem d_L_law_480 : decode c_L_law 480 = .ok (.iconst 1, 1) := by decide +kernel
theorem d_L_law_481 : decode c_L_law 481 = .ok (.iadd, 1) := by decide +kernel
theorem d_L_law_482 : decode c_L_law 482 = .ok (.iaload, 1) := by decide +kernel
theorem d_L_law_483 : decode c_L_law 483 = .ok (.aload_n 0, 1) := by decide +kernel
theorem d_L_law_484 : decode c_L_law 484 = .ok (.iload 4, 2) := by decide +kernel
theorem d_L_law_486 : decode c_L_law 486 = .ok (.iconst 2, 1) := by decide +kernel
theorem d_L_law_487 : decode c_L_law 487 = .ok (.iadd, 1) := by decide +kernel
theorem d_L_law_488 : decode c_L_law 488 = .ok (.iaload, 1) := by decide +kernel
theorem d_L_law_489 : decode c_L_law 489 = .ok (.invokestatic 104, 3) := by decide +kernel
theorem d_L_law_492 : decode c_L_law 492 = .ok (.istore 5, 2) := by decide +kernel
theorem d_L_law_494 : decode c_L_law 494 = .ok (.aload_n 2, 1) := by decide +kernel
theorem d_L_law_495 : decode c_L_law 495 = .ok (.aload_n 0, 1) := by decide +kernel
theorem d_L_law_496 : decode c_L_law 496 = .ok (.iload 4, 2) := by decide +kernel
theorem d_L_law_498 : decode c_L_law 498 = .ok (.iconst 1, 1) := by decide +kernel
theorem d_L_law_499 : decode c_L_law 499 = .ok (.iadd, 1) := by decide +kernel
theorem d_L_law_500 : decode c_L_law 500 = .ok (.iaload, 1) := by decide +kernel
theorem d_L_law_501 : decode c_L_law 501 = .ok (.aload_n 0, 1) := by decide +kernel
theorem d_L_law_502 : decode c_L_law 502 = .ok (.iload 4, 2) := by decide +kernel
theorem d_L_law_504 : decode c_L_law 504 = .ok (.iconst 2, 1) := by decide +kernel
theorem d_L_law_505 : decode c_L_law 505 = .ok (.iadd, 1) := by decide +kernel
theorem d_L_law_506 : decode c_L_law 506 = .ok (.iaload, 1) := by decide +kernel
theorem d_L_law_507 : decode c_L_law 507 = .ok (.invokevirtual 106, 3) := by decide +kernel
theorem d_L_law_510 : decode c_L_law 510 = .ok (.aload_n 2, 1) := by decide +kernel
theorem d_L_law_511 : decode c_L_law 511 = .ok (.invokevirtual 85, 3) := by decide +kernel
theorem d_L_law_514 : decode c_L_law 514 = .ok (.iload 5, 2) := by decide +kernel
theorem d_L_law_516 : decode c_L_law 516 = .ok (.if_icmp .eq 5, 3) := by decide +kernel
theorem d_L_law_519 : decode c_L_law 519 = .ok (.iconst 0, 1) := by decide +kernel
theorem d_L_law_520 : decode c_L_law 520 = .ok (.ireturn, 1) := by decide +kernel
theorem d_L_law_521 : decode c_L_law 521 = .ok (.goto 699, 3) := by decide +kernel
theorem d_L_law_524 : decode c_L_law 524 = .ok (.aload_n 1, 1) := by decide +kernel
theorem d_L_law_525 : decode c_L_law 525 = .ok (.aload_n 0, 1) := by decide +kernel
theorem d_L_law_526 : decode c_L_law 526 = .ok (.iload 4, 2) := by decide +kernel
theorem d_L_law_528 : decode c_L_law 528 = .ok (.iconst 1, 1) := by decide +kernel
theorem d_L_law_529 : decode c_L_law 529 = .ok (.iadd, 1) := by decide +kernel
theorem d_L_law_530 : decode c_L_law 530 = .ok (.iaload, 1) := by decide +kernel
theorem d_L_law_531 : decode c_L_law 531 = .ok (.invokestatic 107, 3) := by decide +kernel
theorem d_L_law_534 : decode c_L_law 534 = .ok (.istore 5, 2) := by decide +kernel
theorem d_L_law_536 : decode c_L_law 536 = .ok (.aload_n 2, 1) := by decide +kernel
theorem d_L_law_537 : decode c_L_law 537 = .ok (.aload_n 0, 1) := by decide +kernel
theorem d_L_law_538 : decode c_L_law 538 = .ok (.iload 4, 2) := by decide +kernel
theorem d_L_law_540 : decode c_L_law 540 = .ok (.iconst 1, 1) := by decide +kernel
theorem d_L_law_541 : decode c_L_law 541 = .ok (.iadd, 1) := by decide +kernel
theorem d_L_law_542 : decode c_L_law 542 = .ok (.iaload, 1) := by decide +kernel
theorem d_L_law_543 : decode c_L_law 543 = .ok (.invokevirtual 110, 3) := by decide +kernel
theorem d_L_law_546 : decode c_L_law 546 = .ok (.aload_n 2, 1) := by decide +kernel
theorem d_L_law_547 : decode c_L_law 547 = .ok (.invokevirtual 85, 3) := by decide +kernel
theorem d_L_law_550 : decode c_L_law 550 = .ok (.iload 5, 2) := by decide +kernel
theorem d_L_law_552 : decode c_L_law 552 = .ok (.if_icmp .eq 5, 3) := by decide +kernel
theorem d_L_law_555 : decode c_L_law 555 = .ok (.iconst 0, 1) := by decide +kernel
theorem d_L_law_556 : decode c_L_law 556 = .ok (.ireturn, 1) := by decide +kernel
theorem d_L_law_557 : decode c_L_law 557 = .ok (.goto 663, 3) := by decide +kernel
theorem d_L_law_560 : decode c_L_law 560 = .ok (.aload_n 1, 1) := by decide +kernel
theorem d_L_law_561 : decode c_L_law 561 = .ok (.aload_n 0, 1) := by decide +kernel
theorem d_L_law_562 : decode c_L_law 562 = .ok (.iload 4, 2) := by decide +kernel
theorem d_L_law_564 : decode c_L_law 564 = .ok (.iconst 1, 1) := by decide +kernel
theorem d_L_law_565 : decode c_L_law 565 = .ok (.iadd, 1) := by decide +kernel
theorem d_L_law_566 : decode c_L_law 566 = .ok (.iaload, 1) := by decide +kernel
theorem d_L_law_567 : decode c_L_law 567 = .ok (.aload_n 0, 1) := by decide +kernel
theorem d_L_law_568 : decode c_L_law 568 = .ok (.iload 4, 2) := by decide +kernel
theorem d_L_law_570 : decode c_L_law 570 = .ok (.iconst 2, 1) := by decide +kernel
theorem d_L_law_571 : decode c_L_law 571 = .ok (.iadd, 1) := by decide +kernel
theorem d_L_law_572 : decode c_L_law 572 = .ok (.iaload, 1) := by decide +kernel
theorem d_L_law_573 : decode c_L_law 573 = .ok (.aload_n 3, 1) := by decide +kernel
theorem d_L_law_574 : decode c_L_law 574 = .ok (.invokestatic 111, 3) := by decide +kernel
theorem d_L_law_577 : decode c_L_law 577 = .ok (.istore 5, 2) := by decide +kernel
theorem d_L_law_579 : decode c_L_law 579 = .ok (.aload_n 2, 1) := by decide +kernel
theorem d_L_law_580 : decode c_L_law 580 = .ok (.aload_n 0, 1) := by decide +kernel
theorem d_L_law_581 : decode c_L_law 581 = .ok (.iload 4, 2) := by decide +kernel
theorem d_L_law_583 : decode c_L_law 583 = .ok (.iconst 1, 1) := by decide +kernel
theorem d_L_law_584 : decode c_L_law 584 = .ok (.iadd, 1) := by decide +kernel
theorem d_L_law_585 : decode c_L_law 585 = .ok (.iaload, 1) := by decide +kernel
theorem d_L_law_586 : decode c_L_law 586 = .ok (.aload_n 0, 1) := by decide +kernel
theorem d_L_law_587 : decode c_L_law 587 = .ok (.iload 4, 2) := by decide +kernel
theorem d_L_law_589 : decode c_L_law 589 = .ok (.iconst 2, 1) := by decide +kernel
theorem d_L_law_590 : decode c_L_law 590 = .ok (.iadd, 1) := by decide +kernel
theorem d_L_law_591 : decode c_L_law 591 = .ok (.iaload, 1) := by decide +kernel
theorem d_L_law_592 : decode c_L_law 592 = .ok (.invokevirtual 114, 3) := by decide +kernel
theorem d_L_law_595 : decode c_L_law 595 = .ok (.istore 6, 2) := by decide +kernel
theorem d_L_law_597 : decode c_L_law 597 = .ok (.aload_n 2, 1) := by decide +kernel
theorem d_L_law_598 : decode c_L_law 598 = .ok (.invokevirtual 85, 3) := by decide +kernel
theorem d_L_law_601 : decode c_L_law 601 = .ok (.iload 5, 2) := by decide +kernel
theorem d_L_law_603 : decode c_L_law 603 = .ok (.if_icmp .eq 5, 3) := by decide +kernel
theorem d_L_law_606 : decode c_L_law 606 = .ok (.iconst 0, 1) := by decide +kernel
theorem d_L_law_607 : decode c_L_law 607 = .ok (.ireturn, 1) := by decide +kernel
theorem d_L_law_608 : decode c_L_law 608 = .ok (.iload 5, 2) := by decide +kernel
theorem d_L_law_610 : decode c_L_law 610 = .ok (.ifCond .ne 15, 3) := by decide +kernel
theorem d_L_law_613 : decode c_L_law 613 = .ok (.aload_n 3, 1) := by decide +kernel
theorem d_L_law_614 : decode c_L_law 614 = .ok (.iconst 0, 1) := by decide +kernel
theorem d_L_law_615 : decode c_L_law 615 = .ok (.laload, 1) := by decide +kernel
theorem d_L_law_616 : decode c_L_law 616 = .ok (.iload 6, 2) := by decide +kernel
theorem d_L_law_618 : decode c_L_law 618 = .ok (.i2l, 1) := by decide +kernel
theorem d_L_law_619 : decode c_L_law 619 = .ok (.lcmp, 1) := by decide +kernel
theorem d_L_law_620 : decode c_L_law 620 = .ok (.ifCond .eq 5, 3) := by decide +kernel
theorem d_L_law_623 : decode c_L_law 623 = .ok (.iconst 0, 1) := by decide +kernel
theorem d_L_law_624 : decode c_L_law 624 = .ok (.ireturn, 1) := by decide +kernel
theorem d_L_law_625 : decode c_L_law 625 = .ok (.goto 595, 3) := by decide +kernel
theorem d_L_law_628 : decode c_L_law 628 = .ok (.aload_n 1, 1) := by decide +kernel
theorem d_L_law_629 : decode c_L_law 629 = .ok (.aload_n 0, 1) := by decide +kernel
theorem d_L_law_630 : decode c_L_law 630 = .ok (.iload 4, 2) := by decide +kernel
theorem d_L_law_632 : decode c_L_law 632 = .ok (.iconst 1, 1) := by decide +kernel
theorem d_L_law_633 : decode c_L_law 633 = .ok (.iadd, 1) := by decide +kernel
theorem d_L_law_634 : decode c_L_law 634 = .ok (.iaload, 1) := by decide +kernel
theorem d_L_law_635 : decode c_L_law 635 = .ok (.aload_n 3, 1) := by decide +kernel
theorem d_L_law_636 : decode c_L_law 636 = .ok (.invokestatic 115, 3) := by decide +kernel
theorem d_L_law_639 : decode c_L_law 639 = .ok (.istore 5, 2) := by decide +kernel
theorem d_L_law_641 : decode c_L_law 641 = .ok (.aload_n 2, 1) := by decide +kernel
theorem d_L_law_642 : decode c_L_law 642 = .ok (.aload_n 0, 1) := by decide +kernel
theorem d_L_law_643 : decode c_L_law 643 = .ok (.iload 4, 2) := by decide +kernel
theorem d_L_law_645 : decode c_L_law 645 = .ok (.iconst 1, 1) := by decide +kernel
theorem d_L_law_646 : decode c_L_law 646 = .ok (.iadd, 1) := by decide +kernel
theorem d_L_law_647 : decode c_L_law 647 = .ok (.iaload, 1) := by decide +kernel
theorem d_L_law_648 : decode c_L_law 648 = .ok (.invokevirtual 118, 3) := by decide +kernel
theorem d_L_law_651 : decode c_L_law 651 = .ok (.istore 6, 2) := by decide +kernel
theorem d_L_law_653 : decode c_L_law 653 = .ok (.aload_n 2, 1) := by decide +kernel
theorem d_L_law_654 : decode c_L_law 654 = .ok (.invokevirtual 85, 3) := by decide +kernel
theorem d_L_law_657 : decode c_L_law 657 = .ok (.iload 5, 2) := by decide +kernel
theorem d_L_law_659 : decode c_L_law 659 = .ok (.if_icmp .eq 5, 3) := by decide +kernel
theorem d_L_law_662 : decode c_L_law 662 = .ok (.iconst 0, 1) := by decide +kernel
theorem d_L_law_663 : decode c_L_law 663 = .ok (.ireturn, 1) := by decide +kernel
theorem d_L_law_664 : decode c_L_law 664 = .ok (.iload 5, 2) := by decide +kernel
theorem d_L_law_666 : decode c_L_law 666 = .ok (.ifCond .ne 15, 3) := by decide +kernel
theorem d_L_law_669 : decode c_L_law 669 = .ok (.aload_n 3, 1) := by decide +kernel
theorem d_L_law_670 : decode c_L_law 670 = .ok (.iconst 0, 1) := by decide +kernel
theorem d_L_law_671 : decode c_L_law 671 = .ok (.laload, 1) := by decide +kernel
theorem d_L_law_672 : decode c_L_law 672 = .ok (.iload 6, 2) := by decide +kernel
theorem d_L_law_674 : decode c_L_law 674 = .ok (.i2l, 1) := by decide +kernel
theorem d_L_law_675 : decode c_L_law 675 = .ok (.lcmp, 1) := by decide +kernel
theorem d_L_law_676 : decode c_L_law 676 = .ok (.ifCond .eq 5, 3) := by decide +kernel
theorem d_L_law_679 : decode c_L_law 679 = .ok (.iconst 0, 1) := by decide +kernel
theorem d_L_law_680 : decode c_L_law 680 = .ok (.ireturn, 1) := by decide +kernel
theorem d_L_law_681 : decode c_L_law 681 = .ok (.goto 539, 3) := by decide +kernel
theorem d_L_law_684 : decode c_L_law 684 = .ok (.aload_n 1, 1) := by decide +kernel
theorem d_L_law_685 : decode c_L_law 685 = .ok (.aload_n 0, 1) := by decide +kernel
theorem d_L_law_686 : decode c_L_law 686 = .ok (.iload 4, 2) := by decide +kernel
theorem d_L_law_688 : decode c_L_law 688 = .ok (.iconst 1, 1) := by decide +kernel
theorem d_L_law_689 : decode c_L_law 689 = .ok (.iadd, 1) := by decide +kernel
theorem d_L_law_690 : decode c_L_law 690 = .ok (.iaload, 1) := by decide +kernel
theorem d_L_law_691 : decode c_L_law 691 = .ok (.aload_n 0, 1) := by decide +kernel
theorem d_L_law_692 : decode c_L_law 692 = .ok (.iload 4, 2) := by decide +kernel
theorem d_L_law_694 : decode c_L_law 694 = .ok (.iconst 2, 1) := by decide +kernel
theorem d_L_law_695 : decode c_L_law 695 = .ok (.iadd, 1) := by decide +kernel
theorem d_L_law_696 : decode c_L_law 696 = .ok (.iaload, 1) := by decide +kernel
theorem d_L_law_697 : decode c_L_law 697 = .ok (.aload_n 3, 1) := by decide +kernel
theorem d_L_law_698 : decode c_L_law 698 = .ok (.invokestatic 119, 3) := by decide +kernel
theorem d_L_law_701 : decode c_L_law 701 = .ok (.istore 5, 2) := by decide +kernel
theorem d_L_law_703 : decode c_L_law 703 = .ok (.aload_n 2, 1) := by decide +kernel
theorem d_L_law_704 : decode c_L_law 704 = .ok (.aload_n 0, 1) := by decide +kernel
theorem d_L_law_705 : decode c_L_law 705 = .ok (.iload 4, 2) := by decide +kernel
theorem d_L_law_707 : decode c_L_law 707 = .ok (.iconst 1, 1) := by decide +kernel
theorem d_L_law_708 : decode c_L_law 708 = .ok (.iadd, 1) := by decide +kernel
theorem d_L_law_709 : decode c_L_law 709 = .ok (.iaload, 1) := by decide +kernel
theorem d_L_law_710 : decode c_L_law 710 = .ok (.aload_n 0, 1) := by decide +kernel
theorem d_L_law_711 : decode c_L_law 711 = .ok (.iload 4, 2) := by decide +kernel
theorem d_L_law_713 : decode c_L_law 713 = .ok (.iconst 2, 1) := by decide +kernel
theorem d_L_law_714 : decode c_L_law 714 = .ok (.iadd, 1) := by decide +kernel
theorem d_L_law_715 : decode c_L_law 715 = .ok (.iaload, 1) := by decide +kernel
theorem d_L_law_716 : decode c_L_law 716 = .ok (.invokevirtual 121, 3) := by decide +kernel
theorem d_L_law_719 : decode c_L_law 719 = .ok (.istore 6, 2) := by decide +kernel
theorem d_L_law_721 : decode c_L_law 721 = .ok (.aload_n 2, 1) := by decide +kernel
theorem d_L_law_722 : decode c_L_law 722 = .ok (.invokevirtual 85, 3) := by decide +kernel
theorem d_L_law_725 : decode c_L_law 725 = .ok (.iload 5, 2) := by decide +kernel
theorem d_L_law_727 : decode c_L_law 727 = .ok (.if_icmp .eq 5, 3) := by decide +kernel
theorem d_L_law_730 : decode c_L_law 730 = .ok (.iconst 0, 1) := by decide +kernel
theorem d_L_law_731 : decode c_L_law 731 = .ok (.ireturn, 1) := by decide +kernel
theorem d_L_law_732 : decode c_L_law 732 = .ok (.iload 5, 2) := by decide +kernel
theorem d_L_law_734 : decode c_L_law 734 = .ok (.ifCond .ne 15, 3) := by decide +kernel
theorem d_L_law_737 : decode c_L_law 737 = .ok (.aload_n 3, 1) := by decide +kernel
theorem d_L_law_738 : decode c_L_law 738 = .ok (.iconst 0, 1) := by decide +kernel
theorem d_L_law_739 : decode c_L_law 739 = .ok (.laload, 1) := by decide +kernel
theorem d_L_law_740 : decode c_L_law 740 = .ok (.iload 6, 2) := by decide +kernel
theorem d_L_law_742 : decode c_L_law 742 = .ok (.i2l, 1) := by decide +kernel
theorem d_L_law_743 : decode c_L_law 743 = .ok (.lcmp, 1) := by decide +kernel
theorem d_L_law_744 : decode c_L_law 744 = .ok (.ifCond .eq 5, 3) := by decide +kernel
theorem d_L_law_747 : decode c_L_law 747 = .ok (.iconst 0, 1) := by decide +kernel
theorem d_L_law_748 : decode c_L_law 748 = .ok (.ireturn, 1) := by decide +kernel
theorem d_L_law_749 : decode c_L_law 749 = .ok (.goto 471, 3) := by decide +kernel
theorem d_L_law_752 : decode c_L_law 752 = .ok (.aload_n 1, 1) := by decide +kernel
theorem d_L_law_753 : decode c_L_law 753 = .ok (.aload_n 0, 1) := by decide +kernel
theorem d_L_law_754 : decode c_L_law 754 = .ok (.iload 4, 2) := by decide +kernel
theorem d_L_law_756 : decode c_L_law 756 = .ok (.iconst 1, 1) := by decide +kernel
theorem d_L_law_757 : decode c_L_law 757 = .ok (.iadd, 1) := by decide +kernel
theorem d_L_law_758 : decode c_L_law 758 = .ok (.iaload, 1) := by decide +kernel
theorem d_L_law_759 : decode c_L_law 759 = .ok (.aload_n 3, 1) := by decide +kernel
theorem d_L_law_760 : decode c_L_law 760 = .ok (.invokestatic 122, 3) := by decide +kernel
theorem d_L_law_763 : decode c_L_law 763 = .ok (.istore 5, 2) := by decide +kernel
theorem d_L_law_765 : decode c_L_law 765 = .ok (.aload_n 2, 1) := by decide +kernel
theorem d_L_law_766 : decode c_L_law 766 = .ok (.aload_n 0, 1) := by decide +kernel
theorem d_L_law_767 : decode c_L_law 767 = .ok (.iload 4, 2) := by decide +kernel
theorem d_L_law_769 : decode c_L_law 769 = .ok (.iconst 1, 1) := by decide +kernel
theorem d_L_law_770 : decode c_L_law 770 = .ok (.iadd, 1) := by decide +kernel
theorem d_L_law_771 : decode c_L_law 771 = .ok (.iaload, 1) := by decide +kernel
theorem d_L_law_772 : decode c_L_law 772 = .ok (.invokevirtual 124, 3) := by decide +kernel
theorem d_L_law_775 : decode c_L_law 775 = .ok (.lstore 6, 2) := by decide +kernel
theorem d_L_law_777 : decode c_L_law 777 = .ok (.aload_n 2, 1) := by decide +kernel
theorem d_L_law_778 : decode c_L_law 778 = .ok (.invokevirtual 85, 3) := by decide +kernel
theorem d_L_law_781 : decode c_L_law 781 = .ok (.iload 5, 2) := by decide +kernel
theorem d_L_law_783 : decode c_L_law 783 = .ok (.if_icmp .eq 5, 3) := by decide +kernel
theorem d_L_law_786 : decode c_L_law 786 = .ok (.iconst 0, 1) := by decide +kernel
theorem d_L_law_787 : decode c_L_law 787 = .ok (.ireturn, 1) := by decide +kernel
theorem d_L_law_788 : decode c_L_law 788 = .ok (.iload 5, 2) := by decide +kernel
theorem d_L_law_790 : decode c_L_law 790 = .ok (.ifCond .ne 14, 3) := by decide +kernel
theorem d_L_law_793 : decode c_L_law 793 = .ok (.aload_n 3, 1) := by decide +kernel
theorem d_L_law_794 : decode c_L_law 794 = .ok (.iconst 0, 1) := by decide +kernel
theorem d_L_law_795 : decode c_L_law 795 = .ok (.laload, 1) := by decide +kernel
theorem d_L_law_796 : decode c_L_law 796 = .ok (.lload 6, 2) := by decide +kernel
theorem d_L_law_798 : decode c_L_law 798 = .ok (.lcmp, 1) := by decide +kernel
theorem d_L_law_799 : decode c_L_law 799 = .ok (.ifCond .eq 5, 3) := by decide +kernel
theorem d_L_law_802 : decode c_L_law 802 = .ok (.iconst 0, 1) := by decide +kernel
theorem d_L_law_803 : decode c_L_law 803 = .ok (.ireturn, 1) := by decide +kernel
theorem d_L_law_804 : decode c_L_law 804 = .ok (.goto 416, 3) := by decide +kernel
theorem d_L_law_807 : decode c_L_law 807 = .ok (.aload_n 1, 1) := by decide +kernel
theorem d_L_law_808 : decode c_L_law 808 = .ok (.aload_n 0, 1) := by decide +kernel
theorem d_L_law_809 : decode c_L_law 809 = .ok (.iload 4, 2) := by decide +kernel
theorem d_L_law_811 : decode c_L_law 811 = .ok (.iconst 1, 1) := by decide +kernel
theorem d_L_law_812 : decode c_L_law 812 = .ok (.iadd, 1) := by decide +kernel
theorem d_L_law_813 : decode c_L_law 813 = .ok (.iaload, 1) := by decide +kernel
theorem d_L_law_814 : decode c_L_law 814 = .ok (.aload_n 0, 1) := by decide +kernel
theorem d_L_law_815 : decode c_L_law 815 = .ok (.iload 4, 2) := by decide +kernel
theorem d_L_law_817 : decode c_L_law 817 = .ok (.iconst 2, 1) := by decide +kernel
theorem d_L_law_818 : decode c_L_law 818 = .ok (.iadd, 1) := by decide +kernel
theorem d_L_law_819 : decode c_L_law 819 = .ok (.iaload, 1) := by decide +kernel
theorem d_L_law_820 : decode c_L_law 820 = .ok (.aload_n 3, 1) := by decide +kernel
theorem d_L_law_821 : decode c_L_law 821 = .ok (.invokestatic 125, 3) := by decide +kernel
theorem d_L_law_824 : decode c_L_law 824 = .ok (.istore 5, 2) := by decide +kernel
theorem d_L_law_826 : decode c_L_law 826 = .ok (.aload_n 2, 1) := by decide +kernel
theorem d_L_law_827 : decode c_L_law 827 = .ok (.aload_n 0, 1) := by decide +kernel
theorem d_L_law_828 : decode c_L_law 828 = .ok (.iload 4, 2) := by decide +kernel
theorem d_L_law_830 : decode c_L_law 830 = .ok (.iconst 1, 1) := by decide +kernel
theorem d_L_law_831 : decode c_L_law 831 = .ok (.iadd, 1) := by decide +kernel
theorem d_L_law_832 : decode c_L_law 832 = .ok (.iaload, 1) := by decide +kernel
theorem d_L_law_833 : decode c_L_law 833 = .ok (.aload_n 0, 1) := by decide +kernel
theorem d_L_law_834 : decode c_L_law 834 = .ok (.iload 4, 2) := by decide +kernel
theorem d_L_law_836 : decode c_L_law 836 = .ok (.iconst 2, 1) := by decide +kernel
theorem d_L_law_837 : decode c_L_law 837 = .ok (.iadd, 1) := by decide +kernel
theorem d_L_law_838 : decode c_L_law 838 = .ok (.iaload, 1) := by decide +kernel
theorem d_L_law_839 : decode c_L_law 839 = .ok (.invokevirtual 127, 3) := by decide +kernel
theorem d_L_law_842 : decode c_L_law 842 = .ok (.istore 6, 2) := by decide +kernel
theorem d_L_law_844 : decode c_L_law 844 = .ok (.aload_n 2, 1) := by decide +kernel
theorem d_L_law_845 : decode c_L_law 845 = .ok (.invokevirtual 85, 3) := by decide +kernel
theorem d_L_law_848 : decode c_L_law 848 = .ok (.iload 5, 2) := by decide +kernel
theorem d_L_law_850 : decode c_L_law 850 = .ok (.if_icmp .eq 5, 3) := by decide +kernel
theorem d_L_law_853 : decode c_L_law 853 = .ok (.iconst 0, 1) := by decide +kernel
theorem d_L_law_854 : decode c_L_law 854 = .ok (.ireturn, 1) := by decide +kernel
theorem d_L_law_855 : decode c_L_law 855 = .ok (.iload 5, 2) := by decide +kernel
theorem d_L_law_857 : decode c_L_law 857 = .ok (.ifCond .ne 15, 3) := by decide +kernel
theorem d_L_law_860 : decode c_L_law 860 = .ok (.aload_n 3, 1) := by decide +kernel
theorem d_L_law_861 : decode c_L_law 861 = .ok (.iconst 0, 1) := by decide +kernel
theorem d_L_law_862 : decode c_L_law 862 = .ok (.laload, 1) := by decide +kernel
theorem d_L_law_863 : decode c_L_law 863 = .ok (.iload 6, 2) := by decide +kernel
theorem d_L_law_865 : decode c_L_law 865 = .ok (.i2l, 1) := by decide +kernel
theorem d_L_law_866 : decode c_L_law 866 = .ok (.lcmp, 1) := by decide +kernel
theorem d_L_law_867 : decode c_L_law 867 = .ok (.ifCond .eq 5, 3) := by decide +kernel
theorem d_L_law_870 : decode c_L_law 870 = .ok (.iconst 0, 1) := by decide +kernel
theorem d_L_law_871 : decode c_L_law 871 = .ok (.ireturn, 1) := by decide +kernel
theorem d_L_law_872 : decode c_L_law 872 = .ok (.goto 348, 3) := by decide +kernel
theorem d_L_law_875 : decode c_L_law 875 = .ok (.aload_n 1, 1) := by decide +kernel
theorem d_L_law_876 : decode c_L_law 876 = .ok (.aload_n 0, 1) := by decide +kernel
theorem d_L_law_877 : decode c_L_law 877 = .ok (.iload 4, 2) := by decide +kernel
theorem d_L_law_879 : decode c_L_law 879 = .ok (.iconst 1, 1) := by decide +kernel
theorem d_L_law_880 : decode c_L_law 880 = .ok (.iadd, 1) := by decide +kernel
theorem d_L_law_881 : decode c_L_law 881 = .ok (.iaload, 1) := by decide +kernel
theorem d_L_law_882 : decode c_L_law 882 = .ok (.aload_n 0, 1) := by decide +kernel
theorem d_L_law_883 : decode c_L_law 883 = .ok (.iload 4, 2) := by decide +kernel
theorem d_L_law_885 : decode c_L_law 885 = .ok (.iconst 2, 1) := by decide +kernel
theorem d_L_law_886 : decode c_L_law 886 = .ok (.iadd, 1) := by decide +kernel
theorem d_L_law_887 : decode c_L_law 887 = .ok (.iaload, 1) := by decide +kernel
theorem d_L_law_888 : decode c_L_law 888 = .ok (.aload_n 3, 1) := by decide +kernel
theorem d_L_law_889 : decode c_L_law 889 = .ok (.invokestatic 128, 3) := by decide +kernel
theorem d_L_law_892 : decode c_L_law 892 = .ok (.istore 5, 2) := by decide +kernel
theorem d_L_law_894 : decode c_L_law 894 = .ok (.aload_n 2, 1) := by decide +kernel
theorem d_L_law_895 : decode c_L_law 895 = .ok (.aload_n 0, 1) := by decide +kernel
theorem d_L_law_896 : decode c_L_law 896 = .ok (.iload 4, 2) := by decide +kernel
theorem d_L_law_898 : decode c_L_law 898 = .ok (.iconst 1, 1) := by decide +kernel
theorem d_L_law_899 : decode c_L_law 899 = .ok (.iadd, 1) := by decide +kernel
theorem d_L_law_900 : decode c_L_law 900 = .ok (.iaload, 1) := by decide +kernel
theorem d_L_law_901 : decode c_L_law 901 = .ok (.aload_n 0, 1) := by decide +kernel
theorem d_L_law_902 : decode c_L_law 902 = .ok (.iload 4, 2) := by decide +kernel
theorem d_L_law_904 : decode c_L_law 904 = .ok (.iconst 2, 1) := by decide +kernel
theorem d_L_law_905 : decode c_L_law 905 = .ok (.iadd, 1) := by decide +kernel
theorem d_L_law_906 : decode c_L_law 906 = .ok (.iaload, 1) := by decide +kernel
theorem d_L_law_907 : decode c_L_law 907 = .ok (.invokevirtual 130, 3) := by decide +kernel
theorem d_L_law_910 : decode c_L_law 910 = .ok (.lstore 6, 2) := by decide +kernel
theorem d_L_law_912 : decode c_L_law 912 = .ok (.aload_n 2, 1) := by decide +kernel
theorem d_L_law_913 : decode c_L_law 913 = .ok (.invokevirtual 85, 3) := by decide +kernel
theorem d_L_law_916 : decode c_L_law 916 = .ok (.iload 5, 2) := by decide +kernel
theorem d_L_law_918 : decode c_L_law 918 = .ok (.if_icmp .eq 5, 3) := by decide +kernel
theorem d_L_law_921 : decode c_L_law 921 = .ok (.iconst 0, 1) := by decide +kernel
theorem d_L_law_922 : decode c_L_law 922 = .ok (.ireturn, 1) := by decide +kernel
theorem d_L_law_923 : decode c_L_law 923 = .ok (.iload 5, 2) := by decide +kernel
theorem d_L_law_925 : decode c_L_law 925 = .ok (.ifCond .ne 14, 3) := by decide +kernel
theorem d_L_law_928 : decode c_L_law 928 = .ok (.aload_n 3, 1) := by decide +kernel
theorem d_L_law_929 : decode c_L_law 929 = .ok (.iconst 0, 1) := by decide +kernel
theorem d_L_law_930 : decode c_L_law 930 = .ok (.laload, 1) := by decide +kernel
theorem d_L_law_931 : decode c_L_law 931 = .ok (.lload 6, 2) := by decide +kernel
theorem d_L_law_933 : decode c_L_law 933 = .ok (.lcmp, 1) := by decide +kernel
theorem d_L_law_934 : decode c_L_law 934 = .ok (.ifCond .eq 5, 3) := by decide +kernel
theorem d_L_law_937 : decode c_L_law 937 = .ok (.iconst 0, 1) := by decide +kernel
theorem d_L_law_938 : decode c_L_law 938 = .ok (.ireturn, 1) := by decide +kernel
theorem d_L_law_939 : decode c_L_law 939 = .ok (.goto 281, 3) := by decide +kernel
theorem d_L_law_942 : decode c_L_law 942 = .ok (.aload_n 1, 1) := by decide +kernel
theorem d_L_law_943 : decode c_L_law 943 = .ok (.aload_n 0, 1) := by decide +kernel
theorem d_L_law_944 : decode c_L_law 944 = .ok (.iload 4, 2) := by decide +kernel
theorem d_L_law_946 : decode c_L_law 946 = .ok (.iconst 1, 1) := by decide +kernel
theorem d_L_law_947 : decode c_L_law 947 = .ok (.iadd, 1) := by decide +kernel
theorem d_L_law_948 : decode c_L_law 948 = .ok (.iaload, 1) := by decide +kernel
theorem d_L_law_949 : decode c_L_law 949 = .ok (.aload_n 0, 1) := by decide +kernel
theorem d_L_law_950 : decode c_L_law 950 = .ok (.iload 4, 2) := by decide +kernel
theorem d_L_law_952 : decode c_L_law 952 = .ok (.iconst 2, 1) := by decide +kernel
theorem d_L_law_953 : decode c_L_law 953 = .ok (.iadd, 1) := by decide +kernel
theorem d_L_law_954 : decode c_L_law 954 = .ok (.iaload, 1) := by decide +kernel
theorem d_L_law_955 : decode c_L_law 955 = .ok (.aload_n 0, 1) := by decide +kernel
theorem d_L_law_956 : decode c_L_law 956 = .ok (.iload 4, 2) := by decide +kernel
theorem d_L_law_958 : decode c_L_law 958 = .ok (.iconst 3, 1) := by decide +kernel
theorem d_L_law_959 : decode c_L_law 959 = .ok (.iadd, 1) := by decide +kernel
theorem d_L_law_960 : decode c_L_law 960 = .ok (.iaload, 1) := by decide +kernel
theorem d_L_law_961 : decode c_L_law 961 = .ok (.aload_n 3, 1) := by decide +kernel
theorem d_L_law_962 : decode c_L_law 962 = .ok (.invokestatic 131, 3) := by decide +kernel
theorem d_L_law_965 : decode c_L_law 965 = .ok (.istore 5, 2) := by decide +kernel
theorem d_L_law_967 : decode c_L_law 967 = .ok (.aload_n 2, 1) := by decide +kernel
theorem d_L_law_968 : decode c_L_law 968 = .ok (.aload_n 0, 1) := by decide +kernel
theorem d_L_law_969 : decode c_L_law 969 = .ok (.iload 4, 2) := by decide +kernel
theorem d_L_law_971 : decode c_L_law 971 = .ok (.iconst 1, 1) := by decide +kernel
theorem d_L_law_972 : decode c_L_law 972 = .ok (.iadd, 1) := by decide +kernel
theorem d_L_law_973 : decode c_L_law 973 = .ok (.iaload, 1) := by decide +kernel
theorem d_L_law_974 : decode c_L_law 974 = .ok (.aload_n 0, 1) := by decide +kernel
theorem d_L_law_975 : decode c_L_law 975 = .ok (.iload 4, 2) := by decide +kernel
theorem d_L_law_977 : decode c_L_law 977 = .ok (.iconst 2, 1) := by decide +kernel
theorem d_L_law_978 : decode c_L_law 978 = .ok (.iadd, 1) := by decide +kernel
theorem d_L_law_979 : decode c_L_law 979 = .ok (.iaload, 1) := by decide +kernel
theorem d_L_law_980 : decode c_L_law 980 = .ok (.aload_n 0, 1) := by decide +kernel
theorem d_L_law_981 : decode c_L_law 981 = .ok (.iload 4, 2) := by decide +kernel
theorem d_L_law_983 : decode c_L_law 983 = .ok (.iconst 3, 1) := by decide +kernel
theorem d_L_law_984 : decode c_L_law 984 = .ok (.iadd, 1) := by decide +kernel
theorem d_L_law_985 : decode c_L_law 985 = .ok (.iaload, 1) := by decide +kernel
theorem d_L_law_986 : decode c_L_law 986 = .ok (.invokevirtual 133, 3) := by decide +kernel
theorem d_L_law_989 : decode c_L_law 989 = .ok (.lstore 6, 2) := by decide +kernel
theorem d_L_law_991 : decode c_L_law 991 = .ok (.aload_n 2, 1) := by decide +kernel
theorem d_L_law_992 : decode c_L_law 992 = .ok (.invokevirtual 85, 3) := by decide +kernel
theorem d_L_law_995 : decode c_L_law 995 = .ok (.iload 5, 2) := by decide +kernel
theorem d_L_law_997 : decode c_L_law 997 = .ok (.if_icmp .eq 5, 3) := by decide +kernel
theorem d_L_law_1000 : decode c_L_law 1000 = .ok (.iconst 0, 1) := by decide +kernel
theorem d_L_law_1001 : decode c_L_law 1001 = .ok (.ireturn, 1) := by decide +kernel
theorem d_L_law_1002 : decode c_L_law 1002 = .ok (.iload 5, 2) := by decide +kernel
theorem d_L_law_1004 : decode c_L_law 1004 = .ok (.ifCond .ne 14, 3) := by decide +kernel
theorem d_L_law_1007 : decode c_L_law 1007 = .ok (.aload_n 3, 1) := by decide +kernel
theorem d_L_law_1008 : decode c_L_law 1008 = .ok (.iconst 0, 1) := by decide +kernel
theorem d_L_law_1009 : decode c_L_law 1009 = .ok (.laload, 1) := by decide +kernel
theorem d_L_law_1010 : decode c_L_law 1010 = .ok (.lload 6, 2) := by decide +kernel
theorem d_L_law_1012 : decode c_L_law 1012 = .ok (.lcmp, 1) := by decide +kernel
theorem d_L_law_1013 : decode c_L_law 1013 = .ok (.ifCond .eq 5, 3) := by decide +kernel
theorem d_L_law_1016 : decode c_L_law 1016 = .ok (.iconst 0, 1) := by decide +kernel
theorem d_L_law_1017 : decode c_L_law 1017 = .ok (.ireturn, 1) := by decide +kernel
theorem d_L_law_1018 : decode c_L_law 1018 = .ok (.goto 202, 3) := by decide +kernel
theorem d_L_law_1021 : decode c_L_law 1021 = .ok (.aload_n 1, 1) := by decide +kernel
theorem d_L_law_1022 : decode c_L_law 1022 = .ok (.aload_n 0, 1) := by decide +kernel
theorem d_L_law_1023 : decode c_L_law 1023 = .ok (.iload 4, 2) := by decide +kernel
theorem d_L_law_1025 : decode c_L_law 1025 = .ok (.iconst 1, 1) := by decide +kernel
theorem d_L_law_1026 : decode c_L_law 1026 = .ok (.iadd, 1) := by decide +kernel
theorem d_L_law_1027 : decode c_L_law 1027 = .ok (.iaload, 1) := by decide +kernel
theorem d_L_law_1028 : decode c_L_law 1028 = .ok (.aload_n 0, 1) := by decide +kernel
theorem d_L_law_1029 : decode c_L_law 1029 = .ok (.iload 4, 2) := by decide +kernel
theorem d_L_law_1031 : decode c_L_law 1031 = .ok (.iconst 2, 1) := by decide +kernel
theorem d_L_law_1032 : decode c_L_law 1032 = .ok (.iadd, 1) := by decide +kernel
theorem d_L_law_1033 : decode c_L_law 1033 = .ok (.iaload, 1) := by decide +kernel
theorem d_L_law_1034 : decode c_L_law 1034 = .ok (.aload_n 0, 1) := by decide +kernel
theorem d_L_law_1035 : decode c_L_law 1035 = .ok (.iload 4, 2) := by decide +kernel
theorem d_L_law_1037 : decode c_L_law 1037 = .ok (.iconst 3, 1) := by decide +kernel
theorem d_L_law_1038 : decode c_L_law 1038 = .ok (.iadd, 1) := by decide +kernel
theorem d_L_law_1039 : decode c_L_law 1039 = .ok (.iaload, 1) := by decide +kernel
theorem d_L_law_1040 : decode c_L_law 1040 = .ok (.aload_n 3, 1) := by decide +kernel
theorem d_L_law_1041 : decode c_L_law 1041 = .ok (.invokestatic 134, 3) := by decide +kernel
theorem d_L_law_1044 : decode c_L_law 1044 = .ok (.istore 5, 2) := by decide +kernel
theorem d_L_law_1046 : decode c_L_law 1046 = .ok (.aload_n 2, 1) := by decide +kernel
theorem d_L_law_1047 : decode c_L_law 1047 = .ok (.aload_n 0, 1) := by decide +kernel
theorem d_L_law_1048 : decode c_L_law 1048 = .ok (.iload 4, 2) := by decide +kernel
theorem d_L_law_1050 : decode c_L_law 1050 = .ok (.iconst 1, 1) := by decide +kernel
theorem d_L_law_1051 : decode c_L_law 1051 = .ok (.iadd, 1) := by decide +kernel
theorem d_L_law_1052 : decode c_L_law 1052 = .ok (.iaload, 1) := by decide +kernel
theorem d_L_law_1053 : decode c_L_law 1053 = .ok (.aload_n 0, 1) := by decide +kernel
theorem d_L_law_1054 : decode c_L_law 1054 = .ok (.iload 4, 2) := by decide +kernel
theorem d_L_law_1056 : decode c_L_law 1056 = .ok (.iconst 2, 1) := by decide +kernel
theorem d_L_law_1057 : decode c_L_law 1057 = .ok (.iadd, 1) := by decide +kernel
theorem d_L_law_1058 : decode c_L_law 1058 = .ok (.iaload, 1) := by decide +kernel
theorem d_L_law_1059 : decode c_L_law 1059 = .ok (.aload_n 0, 1) := by decide +kernel
theorem d_L_law_1060 : decode c_L_law 1060 = .ok (.iload 4, 2) := by decide +kernel
theorem d_L_law_1062 : decode c_L_law 1062 = .ok (.iconst 3, 1) := by decide +kernel
theorem d_L_law_1063 : decode c_L_law 1063 = .ok (.iadd, 1) := by decide +kernel
theorem d_L_law_1064 : decode c_L_law 1064 = .ok (.iaload, 1) := by decide +kernel
theorem d_L_law_1065 : decode c_L_law 1065 = .ok (.invokevirtual 136, 3) := by decide +kernel
theorem d_L_law_1068 : decode c_L_law 1068 = .ok (.istore 6, 2) := by decide +kernel
theorem d_L_law_1070 : decode c_L_law 1070 = .ok (.aload_n 2, 1) := by decide +kernel
theorem d_L_law_1071 : decode c_L_law 1071 = .ok (.invokevirtual 85, 3) := by decide +kernel
theorem d_L_law_1074 : decode c_L_law 1074 = .ok (.iload 5, 2) := by decide +kernel
theorem d_L_law_1076 : decode c_L_law 1076 = .ok (.if_icmp .eq 5, 3) := by decide +kernel
theorem d_L_law_1079 : decode c_L_law 1079 = .ok (.iconst 0, 1) := by decide +kernel
theorem d_L_law_1080 : decode c_L_law 1080 = .ok (.ireturn, 1) := by decide +kernel
theorem d_L_law_1081 : decode c_L_law 1081 = .ok (.iload 5, 2) := by decide +kernel
theorem d_L_law_1083 : decode c_L_law 1083 = .ok (.ifCond .ne 15, 3) := by decide +kernel
theorem d_L_law_1086 : decode c_L_law 1086 = .ok (.aload_n 3, 1) := by decide +kernel
theorem d_L_law_1087 : decode c_L_law 1087 = .ok (.iconst 0, 1) := by decide +kernel
theorem d_L_law_1088 : decode c_L_law 1088 = .ok (.laload, 1) := by decide +kernel
theorem d_L_law_1089 : decode c_L_law 1089 = .ok (.iload 6, 2) := by decide +kernel
theorem d_L_law_1091 : decode c_L_law 1091 = .ok (.i2l, 1) := by decide +kernel
theorem d_L_law_1092 : decode c_L_law 1092 = .ok (.lcmp, 1) := by decide +kernel
theorem d_L_law_1093 : decode c_L_law 1093 = .ok (.ifCond .eq 5, 3) := by decide +kernel
theorem d_L_law_1096 : decode c_L_law 1096 = .ok (.iconst 0, 1) := by decide +kernel
theorem d_L_law_1097 : decode c_L_law 1097 = .ok (.ireturn, 1) := by decide +kernel
theorem d_L_law_1098 : decode c_L_law 1098 = .ok (.goto 122, 3) := by decide +kernel
theorem d_L_law_1101 : decode c_L_law 1101 = .ok (.aload_n 1, 1) := by decide +kernel
theorem d_L_law_1102 : decode c_L_law 1102 = .ok (.aload_n 0, 1) := by decide +kernel
theorem d_L_law_1103 : decode c_L_law 1103 = .ok (.iload 4, 2) := by decide +kernel
theorem d_L_law_1105 : decode c_L_law 1105 = .ok (.iconst 1, 1) := by decide +kernel
theorem d_L_law_1106 : decode c_L_law 1106 = .ok (.iadd, 1) := by decide +kernel
theorem d_L_law_1107 : decode c_L_law 1107 = .ok (.iaload, 1) := by decide +kernel
theorem d_L_law_1108 : decode c_L_law 1108 = .ok (.aload_n 3, 1) := by decide +kernel
theorem d_L_law_1109 : decode c_L_law 1109 = .ok (.invokestatic 137, 3) := by decide +kernel
theorem d_L_law_1112 : decode c_L_law 1112 = .ok (.istore 5, 2) := by decide +kernel
theorem d_L_law_1114 : decode c_L_law 1114 = .ok (.aload_n 2, 1) := by decide +kernel
theorem d_L_law_1115 : decode c_L_law 1115 = .ok (.aload_n 0, 1) := by decide +kernel
theorem d_L_law_1116 : decode c_L_law 1116 = .ok (.iload 4, 2) := by decide +kernel
theorem d_L_law_1118 : decode c_L_law 1118 = .ok (.iconst 1, 1) := by decide +kernel
theorem d_L_law_1119 : decode c_L_law 1119 = .ok (.iadd, 1) := by decide +kernel
theorem d_L_law_1120 : decode c_L_law 1120 = .ok (.iaload, 1) := by decide +kernel
theorem d_L_law_1121 : decode c_L_law 1121 = .ok (.invokevirtual 139, 3) := by decide +kernel
theorem d_L_law_1124 : decode c_L_law 1124 = .ok (.lstore 6, 2) := by decide +kernel
theorem d_L_law_1126 : decode c_L_law 1126 = .ok (.aload_n 2, 1) := by decide +kernel
theorem d_L_law_1127 : decode c_L_law 1127 = .ok (.invokevirtual 85, 3) := by decide +kernel
theorem d_L_law_1130 : decode c_L_law 1130 = .ok (.iload 5, 2) := by decide +kernel
theorem d_L_law_1132 : decode c_L_law 1132 = .ok (.if_icmp .eq 5, 3) := by decide +kernel
theorem d_L_law_1135 : decode c_L_law 1135 = .ok (.iconst 0, 1) := by decide +kernel
theorem d_L_law_1136 : decode c_L_law 1136 = .ok (.ireturn, 1) := by decide +kernel
theorem d_L_law_1137 : decode c_L_law 1137 = .ok (.iload 5, 2) := by decide +kernel
theorem d_L_law_1139 : decode c_L_law 1139 = .ok (.ifCond .ne 14, 3) := by decide +kernel
theorem d_L_law_1142 : decode c_L_law 1142 = .ok (.aload_n 3, 1) := by decide +kernel
theorem d_L_law_1143 : decode c_L_law 1143 = .ok (.iconst 0, 1) := by decide +kernel
theorem d_L_law_1144 : decode c_L_law 1144 = .ok (.laload, 1) := by decide +kernel
theorem d_L_law_1145 : decode c_L_law 1145 = .ok (.lload 6, 2) := by decide +kernel
theorem d_L_law_1147 : decode c_L_law 1147 = .ok (.lcmp, 1) := by decide +kernel
theorem d_L_law_1148 : decode c_L_law 1148 = .ok (.ifCond .eq 5, 3) := by decide +kernel
theorem d_L_law_1151 : decode c_L_law 1151 = .ok (.iconst 0, 1) := by decide +kernel
theorem d_L_law_1152 : decode c_L_law 1152 = .ok (.ireturn, 1) := by decide +kernel
theorem d_L_law_1153 : decode c_L_law 1153 = .ok (.goto 67, 3) := by decide +kernel
theorem d_L_law_1156 : decode c_L_law 1156 = .ok (.aload_n 1, 1) := by decide +kernel
theorem d_L_law_1157 : decode c_L_law 1157 = .ok (.aload_n 0, 1) := by decide +kernel
theorem d_L_law_1158 : decode c_L_law 1158 = .ok (.iload 4, 2) := by decide +kernel
theorem d_L_law_1160 : decode c_L_law 1160 = .ok (.iconst 1, 1) := by decide +kernel
theorem d_L_law_1161 : decode c_L_law 1161 = .ok (.iadd, 1) := by decide +kernel
theorem d_L_law_1162 : decode c_L_law 1162 = .ok (.iaload, 1) := by decide +kernel
theorem d_L_law_1163 : decode c_L_law 1163 = .ok (.aload_n 0, 1) := by decide +kernel
theorem d_L_law_1164 : decode c_L_law 1164 = .ok (.iload 4, 2) := by decide +kernel
theorem d_L_law_1166 : decode c_L_law 1166 = .ok (.iconst 2, 1) := by decide +kernel
theorem d_L_law_1167 : decode c_L_law 1167 = .ok (.iadd, 1) := by decide +kernel
theorem d_L_law_1168 : decode c_L_law 1168 = .ok (.iaload, 1) := by decide +kernel
theorem d_L_law_1169 : decode c_L_law 1169 = .ok (.ifCond .eq 7, 3) := by decide +kernel
theorem d_L_law_1172 : decode c_L_law 1172 = .ok (.iconst 1, 1) := by decide +kernel
theorem d_L_law_1173 : decode c_L_law 1173 = .ok (.goto 4, 3) := by decide +kernel
theorem d_L_law_1176 : decode c_L_law 1176 = .ok (.iconst 0, 1) := by decide +kernel
theorem d_L_law_1177 : decode c_L_law 1177 = .ok (.invokestatic 140, 3) := by decide +kernel
theorem d_L_law_1180 : decode c_L_law 1180 = .ok (.istore 5, 2) := by decide +kernel
theorem d_L_law_1182 : decode c_L_law 1182 = .ok (.aload_n 2, 1) := by decide +kernel
theorem d_L_law_1183 : decode c_L_law 1183 = .ok (.aload_n 0, 1) := by decide +kernel
theorem d_L_law_1184 : decode c_L_law 1184 = .ok (.iload 4, 2) := by decide +kernel
theorem d_L_law_1186 : decode c_L_law 1186 = .ok (.iconst 1, 1) := by decide +kernel
theorem d_L_law_1187 : decode c_L_law 1187 = .ok (.iadd, 1) := by decide +kernel
theorem d_L_law_1188 : decode c_L_law 1188 = .ok (.iaload, 1) := by decide +kernel
theorem d_L_law_1189 : decode c_L_law 1189 = .ok (.aload_n 0, 1) := by decide +kernel
theorem d_L_law_1190 : decode c_L_law 1190 = .ok (.iload 4, 2) := by decide +kernel
theorem d_L_law_1192 : decode c_L_law 1192 = .ok (.iconst 2, 1) := by decide +kernel
theorem d_L_law_1193 : decode c_L_law 1193 = .ok (.iadd, 1) := by decide +kernel
theorem d_L_law_1194 : decode c_L_law 1194 = .ok (.iaload, 1) := by decide +kernel
theorem d_L_law_1195 : decode c_L_law 1195 = .ok (.ifCond .eq 7, 3) := by decide +kernel
theorem d_L_law_1198 : decode c_L_law 1198 = .ok (.iconst 1, 1) := by decide +kernel
theorem d_L_law_1199 : decode c_L_law 1199 = .ok (.goto 4, 3) := by decide +kernel
theorem d_L_law_1202 : decode c_L_law 1202 = .ok (.iconst 0, 1) := by decide +kernel
theorem d_L_law_1203 : decode c_L_law 1203 = .ok (.invokevirtual 143, 3) := by decide +kernel
theorem d_L_law_1206 : decode c_L_law 1206 = .ok (.aload_n 2, 1) := by decide +kernel
theorem d_L_law_1207 : decode c_L_law 1207 = .ok (.invokevirtual 85, 3) := by decide +kernel
theorem d_L_law_1210 : decode c_L_law 1210 = .ok (.iload 5, 2) := by decide +kernel
theorem d_L_law_1212 : decode c_L_law 1212 = .ok (.if_icmp .eq 5, 3) := by decide +kernel
theorem d_L_law_1215 : decode c_L_law 1215 = .ok (.iconst 0, 1) := by decide +kernel
theorem d_L_law_1216 : decode c_L_law 1216 = .ok (.ireturn, 1) := by decide +kernel
theorem d_L_law_1217 : decode c_L_law 1217 = .ok (.goto 3, 3) := by decide +kernel
theorem d_L_law_1220 : decode c_L_law 1220 = .ok (.iinc 4 6, 3) := by decide +kernel
theorem d_L_law_1223 : decode c_L_law 1223 = .ok (.goto (-1200), 3) := by decide +kernel
theorem d_L_law_1226 : decode c_L_law 1226 = .ok (.iconst 1, 1) := by decide +kernel
theorem d_L_law_1227 : decode c_L_law 1227 = .ok (.ireturn, 1) := by decide +kernel
end
section
/-! calls by the kind of their answer -/
section RdCallKinds
variable {x : rd_X} {pc : Nat} {L : List (Option Value)} {st stk : List Value} {M : rd_M} {n n' : Nat} {Q : rd_R → rd_M → Prop}
theorem rd_callSi {ix np : Nat} {y : rd_X} (As : List Value) (hd : decode (rd_cd x) pc = .ok (.invokestatic ix, 3)) (hk : rd_lS (rd_nm x).cls ix y np) (hdp : rd_dp y + 1 ≤ rd_dp x) (hlb : 19 + rd_ml y + rd_lb y ≤ rd_lb x) (hcp : n + rd_cp y ≤ rd_cp x) (hn : n + rd_cp y = n') (hst : As.reverse ++ st = stk) (hlen : As.length = np) (hsl : (rd_en As).length ≤ rd_ml y) (hW : (st.map fun v => v.category).sum ≤ 8)
    (k : rd_G y 0 (rd_ep (rd_ml y) As) [] M 0 (fun r M' => ∃ a : Int, r = .inl (some (rd_i a)) ∧ rd_G x (pc + 3) L (rd_i a :: st) M' n' Q)) : rd_G x pc L stk M n Q := by
  subst hn
  refine rd_callS As hd hk hdp hlb hcp hst hlen hsl hW (rd_mono (fun r M' hq => ?_) k)
  obtain ⟨a, rfl, h⟩ := hq
  exact ⟨some (rd_i a), rfl, h⟩
theorem rd_callVi {ix np ci q : Nat} {fs : List (Nat ⊕ Nat)} {y : rd_X} (As : List Value) (hd : decode (rd_cd x) pc = .ok (.invokevirtual ix, 3)) (hk : rd_lV (rd_nm x).cls ix y np ci) (hq : rd_SH[q]? = some (.inr (ci, fs))) (hdp : rd_dp y + 1 ≤ rd_dp x) (hlb : 19 + rd_ml y + rd_lb y ≤ rd_lb x) (hcp : n + rd_cp y ≤ rd_cp x) (hn : n + rd_cp y = n') (hst : As.reverse ++ .ref q :: st = stk) (hlen : As.length = np) (hsl : (rd_en (.ref q :: As)).length ≤ rd_ml y) (hW : (st.map fun v => v.category).sum ≤ 8)
    (k : rd_G y 0 (rd_ep (rd_ml y) (.ref q :: As)) [] M 0 (fun r M' => ∃ a : Int, r = .inl (some (rd_i a)) ∧ rd_G x (pc + 3) L (rd_i a :: st) M' n' Q)) : rd_G x pc L stk M n Q := by
  subst hn
  refine rd_callV As hd hk hq hdp hlb hcp hst hlen hsl hW (rd_mono (fun r M' hq => ?_) k)
  obtain ⟨a, rfl, h⟩ := hq
  exact ⟨some (rd_i a), rfl, h⟩
theorem rd_callSl {ix np : Nat} {y : rd_X} (As : List Value) (hd : decode (rd_cd x) pc = .ok (.invokestatic ix, 3)) (hk : rd_lS (rd_nm x).cls ix y np) (hdp : rd_dp y + 1 ≤ rd_dp x) (hlb : 19 + rd_ml y + rd_lb y ≤ rd_lb x) (hcp : n + rd_cp y ≤ rd_cp x) (hn : n + rd_cp y = n') (hst : As.reverse ++ st = stk) (hlen : As.length = np) (hsl : (rd_en As).length ≤ rd_ml y) (hW : (st.map fun v => v.category).sum ≤ 8)
    (k : rd_G y 0 (rd_ep (rd_ml y) As) [] M 0 (fun r M' => ∃ a : Int, r = .inl (some (rd_l a)) ∧ rd_G x (pc + 3) L (rd_l a :: st) M' n' Q)) : rd_G x pc L stk M n Q := by
  subst hn
  refine rd_callS As hd hk hdp hlb hcp hst hlen hsl hW (rd_mono (fun r M' hq => ?_) k)
  obtain ⟨a, rfl, h⟩ := hq
  exact ⟨some (rd_l a), rfl, h⟩
theorem rd_callVl {ix np ci q : Nat} {fs : List (Nat ⊕ Nat)} {y : rd_X} (As : List Value) (hd : decode (rd_cd x) pc = .ok (.invokevirtual ix, 3)) (hk : rd_lV (rd_nm x).cls ix y np ci) (hq : rd_SH[q]? = some (.inr (ci, fs))) (hdp : rd_dp y + 1 ≤ rd_dp x) (hlb : 19 + rd_ml y + rd_lb y ≤ rd_lb x) (hcp : n + rd_cp y ≤ rd_cp x) (hn : n + rd_cp y = n') (hst : As.reverse ++ .ref q :: st = stk) (hlen : As.length = np) (hsl : (rd_en (.ref q :: As)).length ≤ rd_ml y) (hW : (st.map fun v => v.category).sum ≤ 8)
    (k : rd_G y 0 (rd_ep (rd_ml y) (.ref q :: As)) [] M 0 (fun r M' => ∃ a : Int, r = .inl (some (rd_l a)) ∧ rd_G x (pc + 3) L (rd_l a :: st) M' n' Q)) : rd_G x pc L stk M n Q := by
  subst hn
  refine rd_callV As hd hk hq hdp hlb hcp hst hlen hsl hW (rd_mono (fun r M' hq => ?_) k)
  obtain ⟨a, rfl, h⟩ := hq
  exact ⟨some (rd_l a), rfl, h⟩
theorem rd_callSv {ix np : Nat} {y : rd_X} (As : List Value) (hd : decode (rd_cd x) pc = .ok (.invokestatic ix, 3)) (hk : rd_lS (rd_nm x).cls ix y np) (hdp : rd_dp y + 1 ≤ rd_dp x) (hlb : 19 + rd_ml y + rd_lb y ≤ rd_lb x) (hcp : n + rd_cp y ≤ rd_cp x) (hn : n + rd_cp y = n') (hst : As.reverse ++ st = stk) (hlen : As.length = np) (hsl : (rd_en As).length ≤ rd_ml y) (hW : (st.map fun v => v.category).sum ≤ 8)
    (k : rd_G y 0 (rd_ep (rd_ml y) As) [] M 0 (fun r M' => r = .inl (none) ∧ rd_G x (pc + 3) L (st) M' n' Q)) : rd_G x pc L stk M n Q := by
  subst hn
  refine rd_callS As hd hk hdp hlb hcp hst hlen hsl hW (rd_mono (fun r M' hq => ?_) k)
  obtain ⟨rfl, h⟩ := hq
  exact ⟨none, rfl, h⟩
theorem rd_callVv {ix np ci q : Nat} {fs : List (Nat ⊕ Nat)} {y : rd_X} (As : List Value) (hd : decode (rd_cd x) pc = .ok (.invokevirtual ix, 3)) (hk : rd_lV (rd_nm x).cls ix y np ci) (hq : rd_SH[q]? = some (.inr (ci, fs))) (hdp : rd_dp y + 1 ≤ rd_dp x) (hlb : 19 + rd_ml y + rd_lb y ≤ rd_lb x) (hcp : n + rd_cp y ≤ rd_cp x) (hn : n + rd_cp y = n') (hst : As.reverse ++ .ref q :: st = stk) (hlen : As.length = np) (hsl : (rd_en (.ref q :: As)).length ≤ rd_ml y) (hW : (st.map fun v => v.category).sum ≤ 8)
    (k : rd_G y 0 (rd_ep (rd_ml y) (.ref q :: As)) [] M 0 (fun r M' => r = .inl (none) ∧ rd_G x (pc + 3) L (st) M' n' Q)) : rd_G x pc L stk M n Q := by
  subst hn
  refine rd_callV As hd hk hq hdp hlb hcp hst hlen hsl hW (rd_mono (fun r M' hq => ?_) k)
  obtain ⟨rfl, h⟩ := hq
  exact ⟨none, rfl, h⟩
theorem rd_gi {ix ci k q : Nat} {ki : Int} {fs : List (Nat ⊕ Nat)} (hd : decode (rd_cd x) pc = .ok (.getfield ix, 3)) (hf : rd_fl (rd_nm x).cls ix ci k) (hq : rd_SH[q]? = some (.inr (ci, fs))) (hk : fs[k]? = some (.inr 0)) (hi : (k : Int) = ki) (kk : rd_G x (pc + 3) L (rd_i (M q ki) :: st) M n Q) : rd_G x pc L (.ref q :: st) M n Q := by
  subst hi
  exact rd_geti hd hf hq hk kk
theorem rd_gl {ix ci k q : Nat} {ki : Int} {fs : List (Nat ⊕ Nat)} (hd : decode (rd_cd x) pc = .ok (.getfield ix, 3)) (hf : rd_fl (rd_nm x).cls ix ci k) (hq : rd_SH[q]? = some (.inr (ci, fs))) (hk : fs[k]? = some (.inr 1)) (hi : (k : Int) = ki) (kk : rd_G x (pc + 3) L (rd_l (M q ki) :: st) M n Q) : rd_G x pc L (.ref q :: st) M n Q := by
  subst hi
  exact rd_getl hd hf hq hk kk
theorem rd_pi {ix ci k q : Nat} {ki a : Int} {fs : List (Nat ⊕ Nat)} (hd : decode (rd_cd x) pc = .ok (.putfield ix, 3)) (hf : rd_fl (rd_nm x).cls ix ci k) (hp : rd_fp ci k .int) (hq : rd_SH[q]? = some (.inr (ci, fs))) (hk : fs[k]? = some (.inr 0)) (hi : (k : Int) = ki) (kk : rd_G x (pc + 3) L st (rd_up M q ki a) n Q) : rd_G x pc L (rd_i a :: .ref q :: st) M n Q := by
  subst hi
  exact rd_puti hd hf hp hq hk kk
theorem rd_pl {ix ci k q : Nat} {ki a : Int} {fs : List (Nat ⊕ Nat)} (hd : decode (rd_cd x) pc = .ok (.putfield ix, 3)) (hf : rd_fl (rd_nm x).cls ix ci k) (hp : rd_fp ci k .long) (hq : rd_SH[q]? = some (.inr (ci, fs))) (hk : fs[k]? = some (.inr 1)) (hi : (k : Int) = ki) (kk : rd_G x (pc + 3) L st (rd_up M q ki a) n Q) : rd_G x pc L (rd_l a :: .ref q :: st) M n Q := by
  subst hi
  exact rd_putl hd hf hp hq hk kk
end RdCallKinds
end
section
/-! the memory, read behind writes -/
theorem rd_up_app {M : rd_M} {p q : Nat} {i v j : Int} (h : q ≠ p) : rd_up M p i v q j = M q j := by rw [rd_up_ne h]
theorem rd_up_hit {M : rd_M} {p : Nat} {i v : Int} : rd_up M p i v p i = v := by simp [rd_up]
theorem rd_up_at {M : rd_M} {p : Nat} {i v j : Int} : rd_up M p i v p j = if j = i then v else M p j := rd_up_same
def rd_sm (f : Int → Int) : Nat → Int
  | 0 => 0
  | n + 1 => rd_sm f n + f n
theorem rd_sm_s {f : Int → Int} {i : Int} (h : 0 ≤ i) : rd_sm f (i + 1).toNat = rd_sm f i.toNat + f i := by
  obtain ⟨n, rfl⟩ := Int.eq_ofNat_of_zero_le h
  rfl
theorem rd_sm_0 {f : Int → Int} : rd_sm f (0 : Int).toNat = 0 := rfl
theorem rd_sm_b {f : Int → Int} {A B : Int} : ∀ (n : Nat), (∀ i : Int, 0 ≤ i → i < n → A ≤ f i ∧ f i ≤ B) → n * A ≤ rd_sm f n ∧ rd_sm f n ≤ n * B
  | 0, _ => by simp [rd_sm]
  | n + 1, h => by
    have h1 := rd_sm_b n (fun i a b => h i a (by omega))
    have h2 := h n (by omega) (by omega)
    have e1 : ((n + 1 : Nat) : Int) * A = n * A + A := by rw [Int.natCast_add]; simp [Int.add_mul]
    have e2 : ((n + 1 : Nat) : Int) * B = n * B + B := by rw [Int.natCast_add]; simp [Int.add_mul]
    rw [e1, e2]
    show _ ≤ rd_sm f n + f n ∧ rd_sm f n + f n ≤ _
    omega
theorem rd_sm_c {f g : Int → Int} : ∀ (n : Nat), (∀ i : Int, 0 ≤ i → i < n → f i = g i) → rd_sm f n = rd_sm g n
  | 0, _ => rfl
  | n + 1, h => by
    show rd_sm f n + f n = rd_sm g n + g n
    rw [rd_sm_c n (fun i a b => h i a (by omega)), h n (by omega) (by omega)]
/-! numbers of treaties -/
/-- the part, in millionths, that a quota (kind 0) or a surplus takes of a sum insured -/
def sp_part (k a b s : Int) : Int := if s ≤ 0 then 0 else if k = 0 then (if s ≤ b then a else (a * b).tdiv s) else (1000000 * min (max (s - a) 0) (a * b)).tdiv s
def sp_layer (a b v : Int) : Int := min (max (v - a) 0) b
def sp_lim (b c : Int) : Int := b * (1 + c)
def sp_T (b c d v : Int) : Int := min (max (v - d) 0) (b * (1 + c))
theorem rd_mulb {a b A B : Int} (h0 : 0 ≤ a) (h1 : a ≤ A) (h2 : 0 ≤ b) (h3 : b ≤ B) : 0 ≤ a * b ∧ a * b ≤ A * B :=
  ⟨Int.mul_nonneg h0 h2, Int.mul_le_mul h1 h3 h2 (Int.le_trans h0 h1)⟩
theorem rd_tdivb {a b : Int} (h0 : 0 ≤ a) (h1 : 0 < b) : 0 ≤ a.tdiv b ∧ a.tdiv b ≤ a := by
  rw [Int.tdiv_eq_ediv_of_nonneg h0]
  exact ⟨Int.ediv_nonneg h0 (Int.le_of_lt h1), Int.ediv_le_self _ h0⟩
/-- what the class's data keep to -/
def c_I (M : rd_M) : Prop :=
  (0 ≤ M 2 0 ∧ M 2 0 ≤ 40) ∧ (0 ≤ M 3 0 ∧ M 3 0 ≤ 10) ∧
  (∀ r, 0 ≤ r → r < 12 → (0 ≤ M 7 r ∧ M 7 r ≤ 1000000000) ∧ (0 ≤ M 8 r ∧ M 8 r ≤ 1000000000) ∧ (0 ≤ M 9 r ∧ M 9 r ≤ 3)) ∧
  (∀ k, 0 ≤ k → k < 40 → (0 ≤ M 10 k ∧ M 10 k < 12) ∧ (0 ≤ M 11 k ∧ M 11 k ≤ 9) ∧ (0 ≤ M 12 k ∧ M 12 k ≤ 100000) ∧ (0 ≤ M 13 k ∧ M 13 k ≤ 1000000000) ∧ (0 ≤ M 14 k ∧ M 14 k ≤ 1) ∧ (0 ≤ M 15 k ∧ M 15 k < 40)) ∧
  (∀ t, 0 ≤ t → t < 10 → (0 ≤ M 16 t ∧ M 16 t ≤ 4) ∧ (0 ≤ M 17 t ∧ M 17 t ≤ 3) ∧ (0 ≤ M 18 t ∧ M 18 t ≤ 1000000000) ∧ (0 ≤ M 19 t ∧ M 19 t ≤ 1000000000) ∧ (0 ≤ M 20 t ∧ M 20 t ≤ 5) ∧ (0 ≤ M 21 t ∧ M 21 t ≤ 1000000000)) ∧
  (∀ i, 0 ≤ i → i < 60 → 0 ≤ M 22 i ∧ M 22 i ≤ 1000000) ∧ (∀ y, 0 ≤ y → y < 4 → 0 ≤ M 5 y ∧ M 5 y ≤ 1)
theorem c_I.risk {M : rd_M} (h : c_I M) {r : Int} (h0 : 0 ≤ r) (h1 : r < 12) : (0 ≤ M 7 r ∧ M 7 r ≤ 1000000000) ∧ (0 ≤ M 8 r ∧ M 8 r ≤ 1000000000) ∧ (0 ≤ M 9 r ∧ M 9 r ≤ 3) := h.2.2.1 r h0 h1
theorem c_I.claim {M : rd_M} (h : c_I M) {k : Int} (h0 : 0 ≤ k) (h1 : k < 40) : (0 ≤ M 10 k ∧ M 10 k < 12) ∧ (0 ≤ M 11 k ∧ M 11 k ≤ 9) ∧ (0 ≤ M 12 k ∧ M 12 k ≤ 100000) ∧ (0 ≤ M 13 k ∧ M 13 k ≤ 1000000000) ∧ (0 ≤ M 14 k ∧ M 14 k ≤ 1) ∧ (0 ≤ M 15 k ∧ M 15 k < 40) := h.2.2.2.1 k h0 h1
theorem c_I.treaty {M : rd_M} (h : c_I M) {t : Int} (h0 : 0 ≤ t) (h1 : t < 10) : (0 ≤ M 16 t ∧ M 16 t ≤ 4) ∧ (0 ≤ M 17 t ∧ M 17 t ≤ 3) ∧ (0 ≤ M 18 t ∧ M 18 t ≤ 1000000000) ∧ (0 ≤ M 19 t ∧ M 19 t ≤ 1000000000) ∧ (0 ≤ M 20 t ∧ M 20 t ≤ 5) ∧ (0 ≤ M 21 t ∧ M 21 t ≤ 1000000000) := h.2.2.2.2.1 t h0 h1
theorem c_I.part {M : rd_M} (h : c_I M) {i : Int} (h0 : 0 ≤ i) (h1 : i < 60) : 0 ≤ M 22 i ∧ M 22 i ≤ 1000000 := h.2.2.2.2.2.1 i h0 h1
theorem c_I.closed {M : rd_M} (h : c_I M) {y : Int} (h0 : 0 ≤ y) (h1 : y < 4) : 0 ≤ M 5 y ∧ M 5 y ≤ 1 := h.2.2.2.2.2.2 y h0 h1
theorem c_I.lim {M : rd_M} (h : c_I M) {t : Int} (h0 : 0 ≤ t) (h1 : t < 10) : 0 ≤ M 19 t * (1 + M 20 t) ∧ M 19 t * (1 + M 20 t) ≤ 6000000000 := by
  obtain ⟨-, -, -, hb, hc, -⟩ := h.treaty h0 h1
  have := rd_mulb hb.1 hb.2 (show 0 ≤ 1 + M 20 t by omega) (show 1 + M 20 t ≤ 6 by omega)
  omega
end
section
/-! throwing, and a call whose exceptions are caught here -/
abbrev rd_ns : List String := ["java/lang/RuntimeException", "java/lang/Exception"]
/-- what 'throw new E(text)' needs of the words -/
def rd_tw (own : String) (ik ic kd : Nat) : Prop := Cond.classLink own ik (rd_xn kd) ∈ rd_ws ∧ Cond.initialized (rd_xn kd) ∈ rd_ws ∧ (∀ w ∈ vx_atS own ic (rd_xn kd) rd_ns, w ∈ rd_ws) ∧ (∀ w ∈ Cond.classLink own ik (rd_xn kd) :: Cond.initialized (rd_xn kd) :: vx_atS own ic (rd_xn kd) rd_ns, vx_ot w = true) ∧ Bundle.fit (rd_xn kd) = true
set_option maxRecDepth 100000 in
theorem tw_D_55_59 : rd_tw "ReinsuranceDesk" 55 59 0 := ⟨rd_m 213 (by decide +kernel), rd_m 10 (by decide +kernel), fun w h => of_decide_eq_true (List.all_eq_true.mp (by decide +kernel : (vx_atS "ReinsuranceDesk" 59 (rd_xn 0) rd_ns).all (fun w => decide (w ∈ rd_ws)) = true) w h), fun w h => List.all_eq_true.mp (by decide +kernel : (Cond.classLink "ReinsuranceDesk" 55 (rd_xn 0) :: Cond.initialized (rd_xn 0) :: vx_atS "ReinsuranceDesk" 59 (rd_xn 0) rd_ns).all vx_ot = true) w h, by decide +kernel⟩
set_option maxRecDepth 100000 in
theorem tw_D_66_70 : rd_tw "ReinsuranceDesk" 66 70 1 := ⟨rd_m 284 (by decide +kernel), rd_m 11 (by decide +kernel), fun w h => of_decide_eq_true (List.all_eq_true.mp (by decide +kernel : (vx_atS "ReinsuranceDesk" 70 (rd_xn 1) rd_ns).all (fun w => decide (w ∈ rd_ws)) = true) w h), fun w h => List.all_eq_true.mp (by decide +kernel : (Cond.classLink "ReinsuranceDesk" 66 (rd_xn 1) :: Cond.initialized (rd_xn 1) :: vx_atS "ReinsuranceDesk" 70 (rd_xn 1) rd_ns).all vx_ot = true) w h, by decide +kernel⟩
theorem rd_nsfit : ∀ n ∈ rd_ns, Bundle.fit n = true := List.all_eq_true.mp (by decide +kernel)
section RdThrow
variable {x : rd_X} {pc : Nat} {L : List (Option Value)} {st stk : List Value} {M : rd_M} {n n' : Nat} {Q : rd_R → rd_M → Prop}
theorem rd_throw {ik is ic kd : Nat} (d0 : decode (rd_cd x) pc = .ok (.new ik, 3)) (d3 : decode (rd_cd x) (pc + 3) = .ok (.dup, 1)) (d4 : decode (rd_cd x) (pc + 4) = .ok (.ldc is, 2)) (d6 : decode (rd_cd x) (pc + 6) = .ok (.invokespecial ic, 3)) (d9 : decode (rd_cd x) (pc + 9) = .ok (.athrow, 1)) (hh : rd_hs x = []) (tw : rd_tw (rd_nm x).cls ik ic kd)
    (hs9 : (rd_ss.any fun q => decide (q.1 = (rd_nm x).cls ∧ q.2.1 = is)) = true) (hdp : 6 ≤ rd_dp x) (hlb : 100 ≤ rd_lb x) (hn : n + 1 ≤ rd_cp x) (hst : (st.map fun v => v.category).sum ≤ 8) (hQ : Q (.inr kd) M) : rd_G x pc L st M n Q := by
  intro p l e R s m args below meth c σ D cA A C H locs ls cells slots hc hs hP hS hl
  obtain ⟨hx, hb, hml, hown, hts, hK, hj, hA, hAs, ⟨r1, r2, r3, r4⟩, hrt, hlk, htb, hXF, hSC⟩ := id C
  obtain ⟨f1, f2, f3, f4, f5, f6⟩ := hXF
  obtain ⟨w1, w2, w3, w4, w5⟩ := tw
  obtain ⟨q9, hq9, hq8⟩ := List.any_eq_true.mp hs9
  have hq8 := of_decide_eq_true hq8
  obtain ⟨sa, hsa⟩ := f5 q9 hq9
  rw [hq8.1, hq8.2] at hsa
  unfold rd_KC at hc r3
  unfold rd_KS at hs r4
  have hw := vx_throwS (p := p) (l := l) (e := e) (R := R) (s := s) (m := m) (args := args) (below := below) (meth := meth) (c := c) (H := H) (locs := locs) (cells := cells) (slots := slots) (ls := ls) (rest := st.map (rd_pv σ)) (Qc := fun _ _ _ _ => False) (XC := fun E _ t => E = rd_xn kd ∧ H.size ≤ t.heap.size ∧ ∀ q : Nat, q < H.size → t.heap[q]? = H[q]?) (free := A) (mc := rd_cp x * rd_KC) (ms := rd_cp x * rd_KS)
    hx hb f1 hown w5 rd_nsfit (hts _ w1) (hts _ w2) hsa (fun w h => hts w (w3 w h)) w4 f2 f3 hS (hl.1.trans hml.symm) d0 d3 d4 d6 d9 (by rw [htb, hh]; intro z hz; cases hz) (by show 2 + 3 < R.frames; omega) (by rw [rd_cats]; show _ + (13 * (2 + 1) + 43) ≤ R.locals; omega) (by omega) (by omega) hlk (fun t _ h1 h2 => ⟨rfl, h1, h2⟩) hS.2.2 (by unfold rd_KC; omega) (by unfold rd_KS; omega)
  intro T hT X
  obtain ⟨t, a1, o, b1, b2, b3⟩ := hw T hT X
  rcases b3 with ⟨h, -⟩ | ⟨q, rfl, E, ce, Lc, ⟨rfl, e1, e2⟩, c1, c2, c3, c4, c5, c6⟩
  · exact h.elim
  · exact ⟨t, a1, .threw q, .inr kd, M, b1, b2, ⟨q, ce, rfl, c1, c2, by rw [c4.alike.findClass]; exact c3⟩, hQ, hP.kept (fun k z hz => e2 z.1 ((hP k z hz).lt)), Lc, c4, c5, c6, Nat.le_trans hS.1 e1, fun q h1 h2 => (e2 q (Nat.lt_of_lt_of_le h1 hS.1)).trans (hS.2.1 q h1 h2)⟩
/-- which handler takes an exception at a place -/
def rd_hx (x : rd_X) (pc kd h : Nat) : Prop := ∃ (pre : List ExceptionTableEntry) (z : ExceptionTableEntry) (suf : List ExceptionTableEntry), tableOf (rd_hs x) = pre ++ z :: suf ∧ z.handlerPc = h ∧ (∀ y ∈ pre, covers y pc = false ∨ (y.catchType ≠ 0 ∧ Cond.classLink (rd_nm x).cls y.catchType (rd_xn 0) ∈ rd_ws ∧ kd = 1)) ∧ covers z pc = true ∧ z.catchType ≠ 0 ∧ Cond.classLink (rd_nm x).cls z.catchType (rd_xn kd) ∈ rd_ws ∧ Cond.castable (rd_xn kd) (rd_xn kd) ∈ rd_ws
/-- a handler lays the exception by and goes on -/
def rd_ha (x : rd_X) (h : Nat) (M : rd_M) (n : Nat) (Q : rd_R → rd_M → Prop) : Prop :=
  (∃ k : Fin 4, decode (rd_cd x) h = .ok (.astore_n k, 1) ∧ (k : Nat) < rd_ml x ∧ rd_G x (h + 1) [] [] M n Q) ∨ (∃ k : Nat, decode (rd_cd x) h = .ok (.astore k, 2) ∧ k < rd_ml x ∧ rd_G x (h + 2) [] [] M n Q)
theorem rd_callVX {ix np ci q : Nat} {fs : List (Nat ⊕ Nat)} {y : rd_X} (As : List Value) (hd : decode (rd_cd x) pc = .ok (.invokevirtual ix, 3)) (hk : rd_lV (rd_nm x).cls ix y np ci) (hq : rd_SH[q]? = some (.inr (ci, fs))) (hdp : rd_dp y + 1 ≤ rd_dp x) (hlb : 19 + rd_ml y + rd_lb y ≤ rd_lb x) (hcp : n + rd_cp y ≤ rd_cp x) (hn : n + rd_cp y = n') (hst : As.reverse ++ .ref q :: st = stk) (hlen : As.length = np) (hsl : (rd_en (.ref q :: As)).length ≤ rd_ml y) (hW : (st.map fun v => v.category).sum ≤ 8)
    (k : rd_G y 0 (rd_ep (rd_ml y) (.ref q :: As)) [] M 0 (fun r M' => (∃ v, r = .inl v ∧ rd_G x (pc + 3) L (v.toList ++ st) M' n' Q) ∨ (∃ kd h, r = .inr kd ∧ rd_hx x pc kd h ∧ rd_ha x h M' n' Q))) : rd_G x pc L stk M n Q := by
  subst hst
  subst hn
  intro p l e R s m args below meth c σ D cA A C H locs ls cells slots hc hs hP hS hl T hT X
  obtain ⟨hx, hb, hml, hown, hts, hK, hj, hA, hAs, hrm, hrt, hlks, htb, hXF, hSC⟩ := id C
  obtain ⟨hok, hlink, hinst, hy, hnp, Cn, Tn, Nn, hcl, hsel⟩ := hk
  obtain ⟨mk9, methM9, cM, hnamed9, hmethM9, -, -, -, -, -, -, hsigM⟩ := rd_ok_code hok hts
  obtain ⟨mk, methM, hnamed, hmethM, hstM, habM⟩ := Cond.instanceMethod_spec (hts _ hinst)
  cases hnamed.symm.trans hnamed9
  cases hmethM.symm.trans hmethM9
  subst hT
  obtain ⟨rr, hr1, cellB, hq1, hq2, hq3, -⟩ := hP q _ (rd_wd_at (σ := σ) (cA := cA) (M := M) hq)
  cases hr1.symm.trans hcl
  obtain ⟨-, hfc, -⟩ := hK.1 ci _ hcl
  have hcls : s.vm.findClass Cn = some cellB.cls := by rw [hq2]; exact hfc
  obtain ⟨c2, r2, m2, q1, q2, q3, q4, kP, hkP, hkPi⟩ := Cond.selects_spec (hts _ hsel)
  cases hcls.symm.trans q1
  cases (State.methodFound?_of_named hnamed hy).symm.trans q2
  cases hnamed.symm.trans q3
  have hselP : selectMethod e.platform s.vm cellB.cls mk9 = .method mk9 := by rw [Launch.admits_selectMethod X.admits]; exact q4
  have hnp' : (As.map (rd_pv σ)).length = methM9.sig.parameters.length := by
    rw [hsigM] at hnp
    have := Option.some.inj hnp
    rw [List.length_map, hlen, ← this]
  obtain ⟨vm₁, X₁, hstep₁⟩ := X.invokevirtual hx hown (hts _ hlink) hnamed hmethM hstM hkP hkPi hy (a := σ q) (cell := cellB) hq1 (fun z h => by rw [hq3] at h; cases h) hselP hmethM habM hkP hkPi (g := F0 m pc ls ((As.reverse ++ .ref q :: st).map (rd_pv σ))) rfl (argsL := As.map (rd_pv σ)) (rest := st.map (rd_pv σ)) hnp' (by simp [rd_pv]) (by rw [hb]; exact hd)
  obtain ⟨t, hs1, o, r, M', b1, b2, b3, b4, b5, Lc, b6, b7, b8, b9⟩ := rd_run (T := T.setVm vm₁) (As := .ref q :: As) (g := F0 m pc ls (st.map (rd_pv σ))) (ig := .invokevirtual ix) (len := 3) X₁ C rfl (hl.1.trans hml.symm) (by rw [hb]; exact hd) (by rw [rd_cats]; simpa using hW) hok hdp hlb hc hs hcp (X₁.named hnamed) hP hS hsl k
  rcases b4 with ⟨v, rfl, hG⟩ | ⟨kd, h, rfl, hH, hG⟩
  · have b3 : o = .returned (v.map (rd_pv σ)) := b3
    subst b3
    obtain ⟨t2, c1, c2⟩ := rd_back (y := y) (T := T.setVm vm₁) X₁ C rfl (by rw [hb]; exact hd) hc hs hS hl b2 b5 b6 b7 b8 b9 hG
    exact ⟨t2, hstep₁ _ fun acts => by rw [doInvoke_state]; exact hs1.trans c1, c2⟩
  · obtain ⟨a, ce, rfl, g1, g2, g3⟩ := b3
    obtain ⟨T', X', hW', hB, ht⟩ := X₁.outOfThrown (g := F0 m pc ls (st.map (rd_pv σ))) rfl b2 b6 b7
    have hh : T'.heap = t.heap := by rw [ht, throwing_heap]
    have hvm : t.vm = T'.vm := by rw [ht, throwing_vm]
    have hsz : s.heap.size ≤ T.heap.size := hS.1
    have hAA : ∀ z, rd_A σ T.heap.size z → A z := fun z hz => by
      rcases hz with ⟨i, hi, rfl⟩ | hz
      · exact hA i hi
      · exact hAs z (Nat.le_trans hsz hz)
    have hF2 : T.heap.size ≤ t.heap.size ∧ ∀ z : Nat, z < T.heap.size → ¬ rd_A σ T.heap.size z → t.heap[z]? = T.heap[z]? := b9
    have hS' : va_S A s.heap T'.heap (locs ++ Lc) := ⟨by rw [hh]; exact Nat.le_trans hsz hF2.1, fun z h1 h2 => by
        rw [hh, hF2.2 z (Nat.lt_of_lt_of_le h1 hsz) (fun w => h2 (hAA z w))]
        exact hS.2.1 z h1 h2, fun z hz => by
        rcases List.mem_append.mp hz with h | h
        · exact hS.2.2 z h
        · exact hAA _ (b8 z h)⟩
    have hcn : cells + rd_cp y * rd_KC ≤ (n + rd_cp y) * rd_KC := by rw [Nat.add_mul]; omega
    have hsn : slots + rd_cp y * rd_KS ≤ (n + rd_cp y) * rd_KS := by rw [Nat.add_mul]; omega
    have hgo : W p l e R s m args below meth c T'.heap (locs ++ Lc) (cells + rd_cp y * rd_KC) (slots + rd_cp y * rd_KS) (rd_E x below s σ D cA A Q) (F0 m h ls [.ref a]) := by
      rcases hG with ⟨k9, e1, e2, e3⟩ | ⟨k9, e1, e2, e3⟩
      · exact lv_astore_n (rest := []) hx hb e1 rfl (⟨hl.1, hl.2.1, fun _ hz => by cases hz⟩ : lv_has ls (rd_ml x) []) e2 rfl (fun ls' h' => e3 p l e R s m args below meth c σ D cA A C T'.heap _ ls' _ _ hcn hsn (by rw [hh]; exact b5) hS' ⟨h'.1, h'.2.1, Nat.zero_le _, fun i v hv => by simp at hv⟩)
      · exact lv_astore (rest := []) hx hb e1 (⟨hl.1, hl.2.1, fun _ hz => by cases hz⟩ : lv_has ls (rd_ml x) []) e2 rfl (fun ls' h' => e3 p l e R s m args below meth c σ D cA A C T'.heap _ ls' _ _ hcn hsn (by rw [hh]; exact b5) hS' ⟨h'.1, h'.2.1, Nat.zero_le _, fun i v hv => by simp at hv⟩)
    obtain ⟨pre, z, suf, k1, rfl, k3, k4, k5, k6, k7⟩ := hH
    have hcl' : s.vm.findClass (rd_xn kd) = some ce.cls := by rw [← X'.warmed.alike.findClass, ← hvm]; exact g3
    obtain ⟨t2, c1, c2⟩ := vx_catch (pc := pc) (ls := ls) (rest := st.map (rd_pv σ)) hown pre z suf (htb.trans k1) (fun w hw => by
        rcases k3 w hw with h9 | ⟨h9, h8, rfl⟩
        · exact Or.inl h9
        · exact Or.inr ⟨h9, _, hts _ h8, hXF.2.2.2.2.2⟩) k4 k5 (hts _ k6) (hts _ k7) (by rw [hh]; exact g1) g2 hcl' hgo T' rfl X'
    exact ⟨t2, hstep₁ _ fun acts => by rw [doInvoke_state]; rw [← ht] at c1; exact hs1.trans c1, c2⟩
end RdThrow
end
section
/-- what take does: kept, ceded, taken -/
def c_take (M : rd_M) (t k v : Int) : rd_M :=
  rd_up (rd_up (rd_up M 24 k (M 24 k - v)) 25 (t * 40 + k) (M 25 (t * 40 + k) + v)) 26 t (M 26 t + v)
/-! small methods of the class -/
set_option maxHeartbeats 4000000 in
set_option maxRecDepth 100000 in
theorem ev_D_isBelow {a b : Int} {M : rd_M} {Q : rd_R → rd_M → Prop} (ha : rd_I a) (hb : rd_I b) (hT : 0 ≤ a ∧ a < b → Q (.inl (some (rd_i 1))) M) (hF : ¬ (0 ≤ a ∧ a < b) → Q (.inl (some (rd_i 0))) M) : rd_G x_D_isBelow 0 [some (rd_i a), some (rd_i b)] [] M 0 Q := by
  refine rd_ildn (pc := 0) d_D_isBelow_0 rfl ?_
  refine rd_if_lt (pc := 1) (tgt := 13) d_D_isBelow_1 rfl ⟨by omega, by omega⟩ (fun h1 => ?_) (fun h1 => ?_)
  · skip
    refine rd_iconst (pc := 13) d_D_isBelow_13 ?_
    exact rd_zret (pc := 14) d_D_isBelow_14 rfl (Nat.le_of_ble_eq_true rfl) (by omega) (by first | exact hT (by omega) | exact hF (by omega))
  · skip
    refine rd_ildn (pc := 4) d_D_isBelow_4 rfl ?_
    refine rd_ildn (pc := 5) d_D_isBelow_5 rfl ?_
    refine rd_icmp_ge (pc := 6) (tgt := 13) d_D_isBelow_6 rfl ⟨by omega, by omega⟩ ⟨by omega, by omega⟩ (fun h6 => ?_) (fun h6 => ?_)
    · skip
      refine rd_iconst (pc := 13) d_D_isBelow_13 ?_
      exact rd_zret (pc := 14) d_D_isBelow_14 rfl (Nat.le_of_ble_eq_true rfl) (by omega) (by first | exact hT (by omega) | exact hF (by omega))
    · skip
      refine rd_iconst (pc := 9) d_D_isBelow_9 ?_
      refine rd_goto (pc := 10) (tgt := 14) d_D_isBelow_10 rfl ?_
      exact rd_zret (pc := 14) d_D_isBelow_14 rfl (Nat.le_of_ble_eq_true rfl) (by omega) (by first | exact hT (by omega) | exact hF (by omega))
set_option maxHeartbeats 4000000 in
set_option maxRecDepth 100000 in
theorem ev_D_isFromOne {a b : Int} {M : rd_M} {Q : rd_R → rd_M → Prop} (ha : rd_I a) (hb : rd_I b) (hT : 1 ≤ a ∧ a ≤ b → Q (.inl (some (rd_i 1))) M) (hF : ¬ (1 ≤ a ∧ a ≤ b) → Q (.inl (some (rd_i 0))) M) : rd_G x_D_isFromOne 0 [some (rd_i a), some (rd_i b)] [] M 0 Q := by
  refine rd_ildn (pc := 0) d_D_isFromOne_0 rfl ?_
  refine rd_iconst (pc := 1) d_D_isFromOne_1 ?_
  refine rd_icmp_lt (pc := 2) (tgt := 14) d_D_isFromOne_2 rfl ⟨by omega, by omega⟩ ⟨by omega, by omega⟩ (fun h2 => ?_) (fun h2 => ?_)
  · skip
    refine rd_iconst (pc := 14) d_D_isFromOne_14 ?_
    exact rd_zret (pc := 15) d_D_isFromOne_15 rfl (Nat.le_of_ble_eq_true rfl) (by omega) (by first | exact hT (by omega) | exact hF (by omega))
  · skip
    refine rd_ildn (pc := 5) d_D_isFromOne_5 rfl ?_
    refine rd_ildn (pc := 6) d_D_isFromOne_6 rfl ?_
    refine rd_icmp_gt (pc := 7) (tgt := 14) d_D_isFromOne_7 rfl ⟨by omega, by omega⟩ ⟨by omega, by omega⟩ (fun h7 => ?_) (fun h7 => ?_)
    · skip
      refine rd_iconst (pc := 14) d_D_isFromOne_14 ?_
      exact rd_zret (pc := 15) d_D_isFromOne_15 rfl (Nat.le_of_ble_eq_true rfl) (by omega) (by first | exact hT (by omega) | exact hF (by omega))
    · skip
      refine rd_iconst (pc := 10) d_D_isFromOne_10 ?_
      refine rd_goto (pc := 11) (tgt := 15) d_D_isFromOne_11 rfl ?_
      exact rd_zret (pc := 15) d_D_isFromOne_15 rfl (Nat.le_of_ble_eq_true rfl) (by omega) (by first | exact hT (by omega) | exact hF (by omega))
set_option maxHeartbeats 4000000 in
set_option maxRecDepth 100000 in
theorem ev_D_isAmount {a : Int} {M : rd_M} {Q : rd_R → rd_M → Prop} (ha : rd_I a) (hT : 0 ≤ a ∧ a ≤ 1000000000 → Q (.inl (some (rd_i 1))) M) (hF : ¬ (0 ≤ a ∧ a ≤ 1000000000) → Q (.inl (some (rd_i 0))) M) : rd_G x_D_isAmount 0 [some (rd_i a)] [] M 0 Q := by
  refine rd_ildn (pc := 0) d_D_isAmount_0 rfl ?_
  refine rd_if_lt (pc := 1) (tgt := 14) d_D_isAmount_1 rfl ⟨by omega, by omega⟩ (fun h1 => ?_) (fun h1 => ?_)
  · skip
    refine rd_iconst (pc := 14) d_D_isAmount_14 ?_
    exact rd_zret (pc := 15) d_D_isAmount_15 rfl (Nat.le_of_ble_eq_true rfl) (by omega) (by first | exact hT (by omega) | exact hF (by omega))
  · skip
    refine rd_ildn (pc := 4) d_D_isAmount_4 rfl ?_
    refine rd_ldc (pc := 5) (v := 1000000000) d_D_isAmount_5 kc_D_51 ?_
    refine rd_icmp_gt (pc := 7) (tgt := 14) d_D_isAmount_7 rfl ⟨by omega, by omega⟩ ⟨by omega, by omega⟩ (fun h7 => ?_) (fun h7 => ?_)
    · skip
      refine rd_iconst (pc := 14) d_D_isAmount_14 ?_
      exact rd_zret (pc := 15) d_D_isAmount_15 rfl (Nat.le_of_ble_eq_true rfl) (by omega) (by first | exact hT (by omega) | exact hF (by omega))
    · skip
      refine rd_iconst (pc := 10) d_D_isAmount_10 ?_
      refine rd_goto (pc := 11) (tgt := 15) d_D_isAmount_11 rfl ?_
      exact rd_zret (pc := 15) d_D_isAmount_15 rfl (Nat.le_of_ble_eq_true rfl) (by omega) (by first | exact hT (by omega) | exact hF (by omega))
set_option maxHeartbeats 4000000 in
set_option maxRecDepth 100000 in
theorem ev_D_isShape {a : Int} {M : rd_M} {Q : rd_R → rd_M → Prop} (ha : rd_I a) (hT : (0 ≤ a ∧ a < 50) ∧ a.tmod 10 < 4 → Q (.inl (some (rd_i 1))) M) (hF : ¬ ((0 ≤ a ∧ a < 50) ∧ a.tmod 10 < 4) → Q (.inl (some (rd_i 0))) M) : rd_G x_D_isShape 0 [some (rd_i a)] [] M 0 Q := by
  refine rd_ildn (pc := 0) d_D_isShape_0 rfl ?_
  refine rd_bipush (pc := 1) d_D_isShape_1 rfl ?_
  refine rd_callSi (pc := 3) (n' := 0) [_, _] d_D_isShape_3 ml_D_47 (Nat.le_of_ble_eq_true rfl) (Nat.le_of_ble_eq_true rfl) (Nat.le_of_ble_eq_true rfl) rfl rfl rfl (Nat.le_of_ble_eq_true rfl) (Nat.le_of_ble_eq_true rfl) ?_
  refine ev_D_isBelow ⟨by omega, by omega⟩ ⟨by omega, by omega⟩ (fun c3 => ⟨_, rfl, ?_⟩) (fun c3 => ⟨_, rfl, ?_⟩)
  · skip
    have hm : 0 ≤ a.tmod 10 ∧ a.tmod 10 < 10 := by rw [Int.tmod_eq_emod_of_nonneg (by omega)]; omega
    refine rd_if_eq (pc := 6) (tgt := 21) d_D_isShape_6 rfl ⟨by omega, by omega⟩ (fun h6 => ?_) (fun h6 => ?_)
    · exact absurd h6 (by decide)
    · skip
      refine rd_ildn (pc := 9) d_D_isShape_9 rfl ?_
      refine rd_bipush (pc := 10) d_D_isShape_10 rfl ?_
      refine rd_irem (pc := 12) d_D_isShape_12 ⟨by omega, by omega⟩ ⟨by omega, by omega⟩ (by omega) ?_
      refine rd_iconst (pc := 13) d_D_isShape_13 ?_
      refine rd_icmp_ge (pc := 14) (tgt := 21) d_D_isShape_14 rfl ⟨by omega, by omega⟩ ⟨by omega, by omega⟩ (fun h14 => ?_) (fun h14 => ?_)
      · skip
        refine rd_iconst (pc := 21) d_D_isShape_21 ?_
        exact rd_zret (pc := 22) d_D_isShape_22 rfl (Nat.le_of_ble_eq_true rfl) (by omega) (by first | exact hT (by omega) | exact hF (by omega))
      · skip
        refine rd_iconst (pc := 17) d_D_isShape_17 ?_
        refine rd_goto (pc := 18) (tgt := 22) d_D_isShape_18 rfl ?_
        exact rd_zret (pc := 22) d_D_isShape_22 rfl (Nat.le_of_ble_eq_true rfl) (by omega) (by first | exact hT (by omega) | exact hF (by omega))
  · skip
    refine rd_if_eq (pc := 6) (tgt := 21) d_D_isShape_6 rfl ⟨by omega, by omega⟩ (fun h6 => ?_) (fun h6 => ?_)
    · skip
      refine rd_iconst (pc := 21) d_D_isShape_21 ?_
      exact rd_zret (pc := 22) d_D_isShape_22 rfl (Nat.le_of_ble_eq_true rfl) (by omega) (by first | exact hT (by omega) | exact hF (by omega))
    · exact absurd h6 (by decide)
set_option maxHeartbeats 4000000 in
set_option maxRecDepth 100000 in
theorem ev_R_isTold {r : Int} {M : rd_M} {Q : rd_R → rd_M → Prop} (hI : c_I M) (hr : rd_I r) (hT : (0 ≤ r ∧ r < 12) ∧ 0 < M 7 r → Q (.inl (some (rd_i 1))) M) (hF : ¬ ((0 ≤ r ∧ r < 12) ∧ 0 < M 7 r) → Q (.inl (some (rd_i 0))) M) : rd_G x_R_isTold 0 [some (.ref 1), some (rd_i r)] [] M 0 Q := by
  refine rd_ildn (pc := 0) d_R_isTold_0 rfl ?_
  refine rd_if_lt (pc := 1) (tgt := 23) d_R_isTold_1 rfl ⟨by omega, by omega⟩ (fun h1 => ?_) (fun h1 => ?_)
  · skip
    refine rd_iconst (pc := 23) d_R_isTold_23 ?_
    exact rd_zret (pc := 24) d_R_isTold_24 rfl (Nat.le_of_ble_eq_true rfl) (by omega) (by first | exact hT (by omega) | exact hF (by omega))
  · skip
    refine rd_ildn (pc := 4) d_R_isTold_4 rfl ?_
    refine rd_bipush (pc := 5) d_R_isTold_5 rfl ?_
    refine rd_icmp_ge (pc := 7) (tgt := 23) d_R_isTold_7 rfl ⟨by omega, by omega⟩ ⟨by omega, by omega⟩ (fun h7 => ?_) (fun h7 => ?_)
    · skip
      refine rd_iconst (pc := 23) d_R_isTold_23 ?_
      exact rd_zret (pc := 24) d_R_isTold_24 rfl (Nat.le_of_ble_eq_true rfl) (by omega) (by first | exact hT (by omega) | exact hF (by omega))
    · skip
      have hs := hI.risk (r := r) (by omega) (by omega)
      refine rd_aldn (pc := 10) d_R_isTold_10 rfl ?_
      refine rd_getr (pc := 11) d_R_isTold_11 fl_R_9 rfl rfl ?_
      refine rd_ildn (pc := 14) d_R_isTold_14 rfl ?_
      refine rd_iald (pc := 15) d_R_isTold_15 rfl (by omega) (by omega) ?_
      refine rd_if_le (pc := 16) (tgt := 23) d_R_isTold_16 rfl ⟨by omega, by omega⟩ (fun h16 => ?_) (fun h16 => ?_)
      · skip
        refine rd_iconst (pc := 23) d_R_isTold_23 ?_
        exact rd_zret (pc := 24) d_R_isTold_24 rfl (Nat.le_of_ble_eq_true rfl) (by omega) (by first | exact hT (by omega) | exact hF (by omega))
      · skip
        refine rd_iconst (pc := 19) d_R_isTold_19 ?_
        refine rd_goto (pc := 20) (tgt := 24) d_R_isTold_20 rfl ?_
        exact rd_zret (pc := 24) d_R_isTold_24 rfl (Nat.le_of_ble_eq_true rfl) (by omega) (by first | exact hT (by omega) | exact hF (by omega))
set_option maxHeartbeats 4000000 in
set_option maxRecDepth 100000 in
theorem ev_C_has {k : Int} {M : rd_M} {Q : rd_R → rd_M → Prop} (hI : c_I M) (hk : rd_I k) (hT : 0 ≤ k ∧ k < M 2 0 → Q (.inl (some (rd_i 1))) M) (hF : ¬ (0 ≤ k ∧ k < M 2 0) → Q (.inl (some (rd_i 0))) M) : rd_G x_C_has 0 [some (.ref 2), some (rd_i k)] [] M 0 Q := by
  have hn := hI.1
  refine rd_ildn (pc := 0) d_C_has_0 rfl ?_
  refine rd_if_lt (pc := 1) (tgt := 16) d_C_has_1 rfl ⟨by omega, by omega⟩ (fun h1 => ?_) (fun h1 => ?_)
  · skip
    refine rd_iconst (pc := 16) d_C_has_16 ?_
    exact rd_zret (pc := 17) d_C_has_17 rfl (Nat.le_of_ble_eq_true rfl) (by omega) (by first | exact hT (by omega) | exact hF (by omega))
  · skip
    refine rd_ildn (pc := 4) d_C_has_4 rfl ?_
    refine rd_aldn (pc := 5) d_C_has_5 rfl ?_
    refine rd_gi (pc := 6) (ki := 0) d_C_has_6 fl_C_31 rfl rfl rfl ?_
    refine rd_icmp_ge (pc := 9) (tgt := 16) d_C_has_9 rfl ⟨by omega, by omega⟩ ⟨by omega, by omega⟩ (fun h9 => ?_) (fun h9 => ?_)
    · skip
      refine rd_iconst (pc := 16) d_C_has_16 ?_
      exact rd_zret (pc := 17) d_C_has_17 rfl (Nat.le_of_ble_eq_true rfl) (by omega) (by first | exact hT (by omega) | exact hF (by omega))
    · skip
      refine rd_iconst (pc := 12) d_C_has_12 ?_
      refine rd_goto (pc := 13) (tgt := 17) d_C_has_13 rfl ?_
      exact rd_zret (pc := 17) d_C_has_17 rfl (Nat.le_of_ble_eq_true rfl) (by omega) (by first | exact hT (by omega) | exact hF (by omega))
set_option maxHeartbeats 4000000 in
set_option maxRecDepth 100000 in
theorem ev_T_has {t : Int} {M : rd_M} {Q : rd_R → rd_M → Prop} (hI : c_I M) (hk : rd_I t) (hT : 0 ≤ t ∧ t < M 3 0 → Q (.inl (some (rd_i 1))) M) (hF : ¬ (0 ≤ t ∧ t < M 3 0) → Q (.inl (some (rd_i 0))) M) : rd_G x_T_has 0 [some (.ref 3), some (rd_i t)] [] M 0 Q := by
  have hn := hI.2.1
  refine rd_ildn (pc := 0) d_T_has_0 rfl ?_
  refine rd_if_lt (pc := 1) (tgt := 16) d_T_has_1 rfl ⟨by omega, by omega⟩ (fun h1 => ?_) (fun h1 => ?_)
  · skip
    refine rd_iconst (pc := 16) d_T_has_16 ?_
    exact rd_zret (pc := 17) d_T_has_17 rfl (Nat.le_of_ble_eq_true rfl) (by omega) (by first | exact hT (by omega) | exact hF (by omega))
  · skip
    refine rd_ildn (pc := 4) d_T_has_4 rfl ?_
    refine rd_aldn (pc := 5) d_T_has_5 rfl ?_
    refine rd_gi (pc := 6) (ki := 0) d_T_has_6 fl_T_34 rfl rfl rfl ?_
    refine rd_icmp_ge (pc := 9) (tgt := 16) d_T_has_9 rfl ⟨by omega, by omega⟩ ⟨by omega, by omega⟩ (fun h9 => ?_) (fun h9 => ?_)
    · skip
      refine rd_iconst (pc := 16) d_T_has_16 ?_
      exact rd_zret (pc := 17) d_T_has_17 rfl (Nat.le_of_ble_eq_true rfl) (by omega) (by first | exact hT (by omega) | exact hF (by omega))
    · skip
      refine rd_iconst (pc := 12) d_T_has_12 ?_
      refine rd_goto (pc := 13) (tgt := 17) d_T_has_13 rfl ?_
      exact rd_zret (pc := 17) d_T_has_17 rfl (Nat.le_of_ble_eq_true rfl) (by omega) (by first | exact hT (by omega) | exact hF (by omega))
set_option maxHeartbeats 4000000 in
set_option maxRecDepth 100000 in
theorem ev_T_isExcess {t : Int} {M : rd_M} {Q : rd_R → rd_M → Prop} (hI : c_I M) (h0 : 0 ≤ t) (h1 : t < 10) (hT : M 16 t = 2 ∨ M 16 t = 3 → Q (.inl (some (rd_i 1))) M) (hF : ¬ (M 16 t = 2 ∨ M 16 t = 3) → Q (.inl (some (rd_i 0))) M) : rd_G x_T_isExcess 0 [some (.ref 3), some (rd_i t)] [] M 0 Q := by
  have hn := hI.treaty h0 h1
  refine rd_aldn (pc := 0) d_T_isExcess_0 rfl ?_
  refine rd_getr (pc := 1) d_T_isExcess_1 fl_T_9 rfl rfl ?_
  refine rd_ildn (pc := 4) d_T_isExcess_4 rfl ?_
  refine rd_iald (pc := 5) d_T_isExcess_5 rfl (by omega) (by omega) ?_
  refine rd_iconst (pc := 6) d_T_isExcess_6 ?_
  refine rd_icmp_eq (pc := 7) (tgt := 20) d_T_isExcess_7 rfl ⟨by omega, by omega⟩ ⟨by omega, by omega⟩ (fun h7 => ?_) (fun h7 => ?_)
  · skip
    refine rd_iconst (pc := 20) d_T_isExcess_20 ?_
    refine rd_goto (pc := 21) (tgt := 25) d_T_isExcess_21 rfl ?_
    exact rd_zret (pc := 25) d_T_isExcess_25 rfl (Nat.le_of_ble_eq_true rfl) (by omega) (by first | exact hT (by omega) | exact hF (by omega))
  · skip
    refine rd_aldn (pc := 10) d_T_isExcess_10 rfl ?_
    refine rd_getr (pc := 11) d_T_isExcess_11 fl_T_9 rfl rfl ?_
    refine rd_ildn (pc := 14) d_T_isExcess_14 rfl ?_
    refine rd_iald (pc := 15) d_T_isExcess_15 rfl (by omega) (by omega) ?_
    refine rd_iconst (pc := 16) d_T_isExcess_16 ?_
    refine rd_icmp_ne (pc := 17) (tgt := 24) d_T_isExcess_17 rfl ⟨by omega, by omega⟩ ⟨by omega, by omega⟩ (fun h17 => ?_) (fun h17 => ?_)
    · skip
      refine rd_iconst (pc := 24) d_T_isExcess_24 ?_
      exact rd_zret (pc := 25) d_T_isExcess_25 rfl (Nat.le_of_ble_eq_true rfl) (by omega) (by first | exact hT (by omega) | exact hF (by omega))
    · skip
      refine rd_iconst (pc := 20) d_T_isExcess_20 ?_
      refine rd_goto (pc := 21) (tgt := 25) d_T_isExcess_21 rfl ?_
      exact rd_zret (pc := 25) d_T_isExcess_25 rfl (Nat.le_of_ble_eq_true rfl) (by omega) (by first | exact hT (by omega) | exact hF (by omega))
set_option maxHeartbeats 4000000 in
set_option maxRecDepth 100000 in
theorem ev_J_max {a b : Int} {M : rd_M} {Q : rd_R → rd_M → Prop} (ha : rd_J a) (hb : rd_J b) (hQ : Q (.inl (some (rd_l (max a b)))) (M)) : rd_G x_J_max 0 [some (rd_l a), none, some (rd_l b), none] [] M 0 Q := by
  refine rd_lldn (pc := 0) d_J_max_0 rfl ?_
  refine rd_lldn (pc := 1) d_J_max_1 rfl ?_
  refine rd_lcmp_lt (pc := 2) (tgt := 10) d_J_max_2 d_J_max_3 rfl ⟨by omega, by omega⟩ ⟨by omega, by omega⟩ (fun h2 => ?_) (fun h2 => ?_)
  · skip
    refine rd_lldn (pc := 10) d_J_max_10 rfl ?_
    exact rd_lret (pc := 11) d_J_max_11 rfl (Nat.le_of_ble_eq_true rfl) (by first | (rw [show max a b = a by omega] at hQ; exact hQ) | (rw [show max a b = b by omega] at hQ; exact hQ))
  · skip
    refine rd_lldn (pc := 6) d_J_max_6 rfl ?_
    refine rd_goto (pc := 7) (tgt := 11) d_J_max_7 rfl ?_
    exact rd_lret (pc := 11) d_J_max_11 rfl (Nat.le_of_ble_eq_true rfl) (by first | (rw [show max a b = a by omega] at hQ; exact hQ) | (rw [show max a b = b by omega] at hQ; exact hQ))
set_option maxHeartbeats 4000000 in
set_option maxRecDepth 100000 in
theorem ev_J_min {a b : Int} {M : rd_M} {Q : rd_R → rd_M → Prop} (ha : rd_J a) (hb : rd_J b) (hQ : Q (.inl (some (rd_l (min a b)))) (M)) : rd_G x_J_min 0 [some (rd_l a), none, some (rd_l b), none] [] M 0 Q := by
  refine rd_lldn (pc := 0) d_J_min_0 rfl ?_
  refine rd_lldn (pc := 1) d_J_min_1 rfl ?_
  refine rd_lcmp_gt (pc := 2) (tgt := 10) d_J_min_2 d_J_min_3 rfl ⟨by omega, by omega⟩ ⟨by omega, by omega⟩ (fun h2 => ?_) (fun h2 => ?_)
  · skip
    refine rd_lldn (pc := 10) d_J_min_10 rfl ?_
    exact rd_lret (pc := 11) d_J_min_11 rfl (Nat.le_of_ble_eq_true rfl) (by first | (rw [show min a b = a by omega] at hQ; exact hQ) | (rw [show min a b = b by omega] at hQ; exact hQ))
  · skip
    refine rd_lldn (pc := 6) d_J_min_6 rfl ?_
    refine rd_goto (pc := 7) (tgt := 11) d_J_min_7 rfl ?_
    exact rd_lret (pc := 11) d_J_min_11 rfl (Nat.le_of_ble_eq_true rfl) (by first | (rw [show min a b = a by omega] at hQ; exact hQ) | (rw [show min a b = b by omega] at hQ; exact hQ))
set_option maxHeartbeats 4000000 in
set_option maxRecDepth 100000 in
theorem ev_T_limitOf {t : Int} {M : rd_M} {Q : rd_R → rd_M → Prop} (h0 : 0 ≤ t) (h1 : t < 10) (hQ : Q (.inl (some (rd_l (sp_lim (M 19 t) (M 20 t))))) (M)) : rd_G x_T_limitOf 0 [some (.ref 3), some (rd_i t)] [] M 0 Q := by
  refine rd_aldn (pc := 0) d_T_limitOf_0 rfl ?_
  refine rd_getr (pc := 1) d_T_limitOf_1 fl_T_22 rfl rfl ?_
  refine rd_ildn (pc := 4) d_T_limitOf_4 rfl ?_
  refine rd_lald (pc := 5) d_T_limitOf_5 rfl (by omega) (by omega) ?_
  refine rd_lconst (pc := 6) (v := 1) d_T_limitOf_6 rfl ?_
  refine rd_aldn (pc := 7) d_T_limitOf_7 rfl ?_
  refine rd_getr (pc := 8) d_T_limitOf_8 fl_T_25 rfl rfl ?_
  refine rd_ildn (pc := 11) d_T_limitOf_11 rfl ?_
  refine rd_lald (pc := 12) d_T_limitOf_12 rfl (by omega) (by omega) ?_
  refine rd_ladd (pc := 13) d_T_limitOf_13 ?_
  refine rd_lmul (pc := 14) d_T_limitOf_14 ?_
  exact rd_lret (pc := 15) d_T_limitOf_15 rfl (Nat.le_of_ble_eq_true rfl) (hQ)
set_option maxHeartbeats 4000000 in
set_option maxRecDepth 100000 in
theorem ev_T_layerOf {t v : Int} {M : rd_M} {Q : rd_R → rd_M → Prop} (hI : c_I M) (h0 : 0 ≤ t) (h1 : t < 10) (hv : -1000000000000 ≤ v ∧ v ≤ 1000000000000) (hQ : Q (.inl (some (rd_l (sp_layer (M 18 t) (M 19 t) v)))) (M)) : rd_G x_T_layerOf 0 [some (.ref 3), some (rd_i t), some (rd_l v), none] [] M 0 Q := by
  have hn := hI.treaty h0 h1
  refine rd_lldn (pc := 0) d_T_layerOf_0 rfl ?_
  refine rd_aldn (pc := 1) d_T_layerOf_1 rfl ?_
  refine rd_getr (pc := 2) d_T_layerOf_2 fl_T_18 rfl rfl ?_
  refine rd_ildn (pc := 5) d_T_layerOf_5 rfl ?_
  refine rd_lald (pc := 6) d_T_layerOf_6 rfl (by omega) (by omega) ?_
  refine rd_lsub (pc := 7) d_T_layerOf_7 ?_
  refine rd_lconst (pc := 8) (v := 0) d_T_layerOf_8 rfl ?_
  refine rd_callSl (pc := 9) (n' := 0) [_, _] d_T_layerOf_9 ml_T_40 (Nat.le_of_ble_eq_true rfl) (Nat.le_of_ble_eq_true rfl) (Nat.le_of_ble_eq_true rfl) rfl rfl rfl (Nat.le_of_ble_eq_true rfl) (Nat.le_of_ble_eq_true rfl) ?_
  refine ev_J_max ⟨by omega, by omega⟩ ⟨by omega, by omega⟩ ?_
  refine ⟨_, rfl, ?_⟩
  refine rd_aldn (pc := 12) d_T_layerOf_12 rfl ?_
  refine rd_getr (pc := 13) d_T_layerOf_13 fl_T_22 rfl rfl ?_
  refine rd_ildn (pc := 16) d_T_layerOf_16 rfl ?_
  refine rd_lald (pc := 17) d_T_layerOf_17 rfl (by omega) (by omega) ?_
  refine rd_callSl (pc := 18) (n' := 0) [_, _] d_T_layerOf_18 ml_T_46 (Nat.le_of_ble_eq_true rfl) (Nat.le_of_ble_eq_true rfl) (Nat.le_of_ble_eq_true rfl) rfl rfl rfl (Nat.le_of_ble_eq_true rfl) (Nat.le_of_ble_eq_true rfl) ?_
  refine ev_J_min ⟨by omega, by omega⟩ ⟨by omega, by omega⟩ ?_
  refine ⟨_, rfl, ?_⟩
  exact rd_lret (pc := 21) d_T_layerOf_21 rfl (Nat.le_of_ble_eq_true rfl) (hQ)
set_option maxHeartbeats 4000000 in
set_option maxRecDepth 100000 in
theorem ev_T_takenOfLayers {t v : Int} {M : rd_M} {Q : rd_R → rd_M → Prop} (hI : c_I M) (h0 : 0 ≤ t) (h1 : t < 10) (hv : -1000000000000 ≤ v ∧ v ≤ 1000000000000) (hQ : Q (.inl (some (rd_l (sp_T (M 19 t) (M 20 t) (M 21 t) v)))) (M)) : rd_G x_T_takenOfLayers 0 [some (.ref 3), some (rd_i t), some (rd_l v), none] [] M 0 Q := by
  have hn := hI.treaty h0 h1
  have hl : 0 ≤ sp_lim (M 19 t) (M 20 t) ∧ sp_lim (M 19 t) (M 20 t) ≤ 6000000000 := hI.lim h0 h1
  refine rd_lldn (pc := 0) d_T_takenOfLayers_0 rfl ?_
  refine rd_aldn (pc := 1) d_T_takenOfLayers_1 rfl ?_
  refine rd_getr (pc := 2) d_T_takenOfLayers_2 fl_T_28 rfl rfl ?_
  refine rd_ildn (pc := 5) d_T_takenOfLayers_5 rfl ?_
  refine rd_lald (pc := 6) d_T_takenOfLayers_6 rfl (by omega) (by omega) ?_
  refine rd_lsub (pc := 7) d_T_takenOfLayers_7 ?_
  refine rd_lconst (pc := 8) (v := 0) d_T_takenOfLayers_8 rfl ?_
  refine rd_callSl (pc := 9) (n' := 0) [_, _] d_T_takenOfLayers_9 ml_T_40 (Nat.le_of_ble_eq_true rfl) (Nat.le_of_ble_eq_true rfl) (Nat.le_of_ble_eq_true rfl) rfl rfl rfl (Nat.le_of_ble_eq_true rfl) (Nat.le_of_ble_eq_true rfl) ?_
  refine ev_J_max ⟨by omega, by omega⟩ ⟨by omega, by omega⟩ ?_
  refine ⟨_, rfl, ?_⟩
  refine rd_aldn (pc := 12) d_T_takenOfLayers_12 rfl ?_
  refine rd_ildn (pc := 13) d_T_takenOfLayers_13 rfl ?_
  refine rd_callVl (pc := 14) (n' := 0) [_] d_T_takenOfLayers_14 ml_T_49 rfl (Nat.le_of_ble_eq_true rfl) (Nat.le_of_ble_eq_true rfl) (Nat.le_of_ble_eq_true rfl) rfl rfl rfl (Nat.le_of_ble_eq_true rfl) (Nat.le_of_ble_eq_true rfl) ?_
  refine ev_T_limitOf h0 h1 ?_
  refine ⟨_, rfl, ?_⟩
  refine rd_callSl (pc := 17) (n' := 0) [_, _] d_T_takenOfLayers_17 ml_T_46 (Nat.le_of_ble_eq_true rfl) (Nat.le_of_ble_eq_true rfl) (Nat.le_of_ble_eq_true rfl) rfl rfl rfl (Nat.le_of_ble_eq_true rfl) (Nat.le_of_ble_eq_true rfl) ?_
  refine ev_J_min ⟨by omega, by omega⟩ ⟨by omega, by omega⟩ ?_
  refine ⟨_, rfl, ?_⟩
  exact rd_lret (pc := 20) d_T_takenOfLayers_20 rfl (Nat.le_of_ble_eq_true rfl) (hQ)
set_option maxHeartbeats 4000000 in
set_option maxRecDepth 100000 in
theorem ev_S_take {t k v : Int} {M : rd_M} {Q : rd_R → rd_M → Prop} (h0 : 0 ≤ t) (h1 : t < 10) (h2 : 0 ≤ k) (h3 : k < 40) (hQ : Q (.inl none) (c_take M t k v)) : rd_G x_S_take 0 [some (.ref 4), some (rd_i t), some (rd_i k), some (rd_l v), none] [] M 0 Q := by
  refine rd_aldn (pc := 0) d_S_take_0 rfl ?_
  refine rd_getr (pc := 1) d_S_take_1 fl_S_27 rfl rfl ?_
  refine rd_ildn (pc := 4) d_S_take_4 rfl ?_
  refine rd_dup2 (pc := 5) d_S_take_5 rfl rfl ?_
  refine rd_iald (pc := 6) d_S_take_6 rfl (by omega) (by omega) ?_
  refine rd_lldn (pc := 7) d_S_take_7 rfl ?_
  refine rd_l2i (pc := 8) d_S_take_8 ?_
  refine rd_isub (pc := 9) d_S_take_9 ?_
  refine rd_iast (pc := 10) d_S_take_10 rfl (by omega) (by omega) ?_
  refine rd_aldn (pc := 11) d_S_take_11 rfl ?_
  refine rd_getr (pc := 12) d_S_take_12 fl_S_31 rfl rfl ?_
  refine rd_ildn (pc := 15) d_S_take_15 rfl ?_
  refine rd_bipush (pc := 16) d_S_take_16 rfl ?_
  refine rd_imul (pc := 18) d_S_take_18 ?_
  refine rd_ildn (pc := 19) d_S_take_19 rfl ?_
  refine rd_iadd (pc := 20) d_S_take_20 ?_
  refine rd_dup2 (pc := 21) d_S_take_21 rfl rfl ?_
  refine rd_iald (pc := 22) d_S_take_22 rfl (by omega) (by omega) ?_
  try simp (decide := true) only [rd_up_app, rd_up_hit]
  refine rd_lldn (pc := 23) d_S_take_23 rfl ?_
  refine rd_l2i (pc := 24) d_S_take_24 ?_
  refine rd_iadd (pc := 25) d_S_take_25 ?_
  refine rd_iast (pc := 26) d_S_take_26 rfl (by omega) (by omega) ?_
  refine rd_aldn (pc := 27) d_S_take_27 rfl ?_
  refine rd_getr (pc := 28) d_S_take_28 fl_S_34 rfl rfl ?_
  refine rd_ildn (pc := 31) d_S_take_31 rfl ?_
  refine rd_dup2 (pc := 32) d_S_take_32 rfl rfl ?_
  refine rd_lald (pc := 33) d_S_take_33 rfl (by omega) (by omega) ?_
  try simp (decide := true) only [rd_up_app, rd_up_hit]
  refine rd_lldn (pc := 34) d_S_take_34 rfl ?_
  refine rd_ladd (pc := 35) d_S_take_35 ?_
  refine rd_last (pc := 36) d_S_take_36 rfl (by omega) (by omega) ?_
  exact rd_vret (pc := 37) d_S_take_37 rfl (Nat.le_of_ble_eq_true rfl) (hQ)
end
section
/-! loops of treaties, and what fills arrays -/
def rd_fill (M : rd_M) (q : Nat) (len v : Int) : rd_M := fun p j => if p = q ∧ 0 ≤ j ∧ j < len then v else M p j
theorem rd_fill_0 {M : rd_M} {q : Nat} {v : Int} : rd_fill M q 0 v = M := by
  funext p j
  unfold rd_fill
  rw [if_neg (by omega)]
theorem rd_fill_s {M : rd_M} {q : Nat} {i v : Int} (h : 0 ≤ i) : rd_up (rd_fill M q i v) q i v = rd_fill M q (i + 1) v := by
  funext p j
  simp only [rd_fill, rd_up]
  by_cases c1 : p = q ∧ j = i
  · rw [if_pos c1, if_pos ⟨c1.1, by omega, by omega⟩]
  · rw [if_neg c1]
    by_cases c2 : p = q ∧ 0 ≤ j ∧ j < i
    · rw [if_pos c2, if_pos ⟨c2.1, by omega, by omega⟩]
    · rw [if_neg c2, if_neg (by omega)]
set_option maxHeartbeats 4000000 in
set_option maxRecDepth 100000 in
theorem lq_J_fillI {q len : Nat} {v : Int} {M : rd_M} {Q : rd_R → rd_M → Prop} (hq : rd_SH[q]? = some (.inl (0, len))) (hl : len ≤ 1000) (hQ : Q (.inl none) (rd_fill M q len v)) : ∀ (d : Nat) (i : Int) (M1 : rd_M), (len - i).toNat = d → (0 ≤ i) → (i ≤ len) → (M1 = rd_fill M q i v) → rd_G x_J_fillI 5 [some (.ref q), some (rd_i v), some (rd_i i), some (rd_i len)] [] M1 0 Q := by
  intro d
  induction d using Nat.strongRecOn with
  | ind d ih =>
    intro i M1 hd h0 h1 hM
    refine rd_ildn (pc := 5) d_J_fillI_5 rfl ?_
    refine rd_ildn (pc := 6) d_J_fillI_6 rfl ?_
    refine rd_icmp_ge (pc := 7) (tgt := 20) d_J_fillI_7 rfl ⟨by omega, by omega⟩ ⟨by omega, by omega⟩ (fun h7 => ?_) (fun h7 => ?_)
    · skip
      exact rd_vret (pc := 20) d_J_fillI_20 rfl (Nat.le_of_ble_eq_true rfl) (by rw [hM, show i = (len : Int) by omega]; exact hQ)
    · skip
      refine rd_aldn (pc := 10) d_J_fillI_10 rfl ?_
      refine rd_ildn (pc := 11) d_J_fillI_11 rfl ?_
      refine rd_ildn (pc := 12) d_J_fillI_12 rfl ?_
      refine rd_iast (pc := 13) d_J_fillI_13 hq (by omega) (by omega) ?_
      refine rd_iinc2 (pc := 14) d_J_fillI_14 rfl ?_
      refine rd_goto (pc := 17) (tgt := 5) d_J_fillI_17 rfl ?_
      subst hM
      exact ih _ (by omega) (i + 1) _ rfl (by omega) (by omega) (rd_fill_s h0)
set_option maxHeartbeats 4000000 in
set_option maxRecDepth 100000 in
theorem ev_J_fillI {q len : Nat} {v : Int} {M : rd_M} {Q : rd_R → rd_M → Prop} (hq : rd_SH[q]? = some (.inl (0, len))) (hl : len ≤ 1000) (hQ : Q (.inl none) (rd_fill M q len v)) : rd_G x_J_fillI 0 [some (.ref q), some (rd_i v), none, none] [] M 0 Q := by
  refine rd_iconst (pc := 0) d_J_fillI_0 ?_
  refine rd_ist2 (pc := 1) d_J_fillI_1 rfl ?_
  refine rd_aldn (pc := 2) d_J_fillI_2 rfl ?_
  refine rd_alen (pc := 3) d_J_fillI_3 hq (by decide) ?_
  refine rd_ist3 (pc := 4) d_J_fillI_4 rfl ?_
  exact lq_J_fillI hq hl hQ _ 0 M rfl (by omega) (by omega) rd_fill_0.symm
set_option maxHeartbeats 4000000 in
set_option maxRecDepth 100000 in
theorem lq_J_fillJ {q len : Nat} {v : Int} {M : rd_M} {Q : rd_R → rd_M → Prop} (hq : rd_SH[q]? = some (.inl (1, len))) (hl : len ≤ 1000) (hQ : Q (.inl none) (rd_fill M q len v)) : ∀ (d : Nat) (i : Int) (M1 : rd_M), (len - i).toNat = d → (0 ≤ i) → (i ≤ len) → (M1 = rd_fill M q i v) → rd_G x_J_fillJ 6 [some (.ref q), some (rd_l v), none, some (rd_i i), some (rd_i len)] [] M1 0 Q := by
  intro d
  induction d using Nat.strongRecOn with
  | ind d ih =>
    intro i M1 hd h0 h1 hM
    refine rd_ildn (pc := 6) d_J_fillJ_6 rfl ?_
    refine rd_ild (pc := 7) d_J_fillJ_7 rfl ?_
    refine rd_icmp_ge (pc := 9) (tgt := 22) d_J_fillJ_9 rfl ⟨by omega, by omega⟩ ⟨by omega, by omega⟩ (fun h9 => ?_) (fun h9 => ?_)
    · skip
      exact rd_vret (pc := 22) d_J_fillJ_22 rfl (Nat.le_of_ble_eq_true rfl) (by rw [hM, show i = (len : Int) by omega]; exact hQ)
    · skip
      refine rd_aldn (pc := 12) d_J_fillJ_12 rfl ?_
      refine rd_ildn (pc := 13) d_J_fillJ_13 rfl ?_
      refine rd_lldn (pc := 14) d_J_fillJ_14 rfl ?_
      refine rd_last (pc := 15) d_J_fillJ_15 hq (by omega) (by omega) ?_
      refine rd_iinc3 (pc := 16) d_J_fillJ_16 rfl ?_
      refine rd_goto (pc := 19) (tgt := 6) d_J_fillJ_19 rfl ?_
      subst hM
      exact ih _ (by omega) (i + 1) _ rfl (by omega) (by omega) (rd_fill_s h0)
set_option maxHeartbeats 4000000 in
set_option maxRecDepth 100000 in
theorem ev_J_fillJ {q len : Nat} {v : Int} {M : rd_M} {Q : rd_R → rd_M → Prop} (hq : rd_SH[q]? = some (.inl (1, len))) (hl : len ≤ 1000) (hQ : Q (.inl none) (rd_fill M q len v)) : rd_G x_J_fillJ 0 [some (.ref q), some (rd_l v), none, none, none] [] M 0 Q := by
  refine rd_iconst (pc := 0) d_J_fillJ_0 ?_
  refine rd_ist3 (pc := 1) d_J_fillJ_1 rfl ?_
  refine rd_aldn (pc := 2) d_J_fillJ_2 rfl ?_
  refine rd_alen (pc := 3) d_J_fillJ_3 hq (by decide) ?_
  refine rd_ist4 (pc := 4) d_J_fillJ_4 rfl ?_
  exact lq_J_fillJ hq hl hQ _ 0 M rfl (by omega) (by omega) rd_fill_0.symm
set_option maxHeartbeats 4000000 in
set_option maxRecDepth 100000 in
theorem lq_T_partsOfOthers {t r : Int} {M : rd_M} {Q : rd_R → rd_M → Prop} (hI : c_I M) (h0 : 0 ≤ t) (h1 : t < 10) (hr : rd_I r) (hQ : Q (.inl (some (rd_i (rd_sm (fun o => if o = r then 0 else M 22 (t * 6 + o)) 6)))) M) : ∀ (d : Nat) (i a : Int), (6 - i).toNat = d → (0 ≤ i) → (i ≤ 6) → (a = rd_sm (fun o => if o = r then 0 else M 22 (t * 6 + o)) i.toNat) → rd_G x_T_partsOfOthers 5 [some (.ref 3), some (rd_i t), some (rd_i r), some (rd_i a), some (rd_i i)] [] M 0 Q := by
  intro d
  induction d using Nat.strongRecOn with
  | ind d ih =>
    intro i a hd i0 i1 ha
    refine rd_ild (pc := 5) d_T_partsOfOthers_5 rfl ?_
    refine rd_bipush (pc := 7) d_T_partsOfOthers_7 rfl ?_
    refine rd_icmp_ge (pc := 9) (tgt := 39) d_T_partsOfOthers_9 rfl ⟨by omega, by omega⟩ ⟨by omega, by omega⟩ (fun h9 => ?_) (fun h9 => ?_)
    · skip
      refine rd_ildn (pc := 39) d_T_partsOfOthers_39 rfl ?_
      exact rd_iret (pc := 40) d_T_partsOfOthers_40 rfl (Nat.le_of_ble_eq_true rfl) (by rw [show i = 6 by omega] at ha; rw [ha]; exact hQ)
    · skip
      have hs := rd_sm_s (f := (fun o => if o = r then 0 else M 22 (t * 6 + o))) i0
      refine rd_ild (pc := 12) d_T_partsOfOthers_12 rfl ?_
      refine rd_ildn (pc := 14) d_T_partsOfOthers_14 rfl ?_
      refine rd_icmp_eq (pc := 15) (tgt := 33) d_T_partsOfOthers_15 rfl ⟨by omega, by omega⟩ ⟨by omega, by omega⟩ (fun h15 => ?_) (fun h15 => ?_)
      · skip
        refine rd_iinc4 (pc := 33) d_T_partsOfOthers_33 rfl ?_
        refine rd_goto (pc := 36) (tgt := 5) d_T_partsOfOthers_36 rfl ?_
        exact ih _ (by omega) (i + 1) _ rfl (by omega) (by omega) (by rw [hs, ha]; first | (rw [if_pos (by omega)]; omega) | (rw [if_neg (by omega)]))
      · skip
        refine rd_ildn (pc := 18) d_T_partsOfOthers_18 rfl ?_
        refine rd_aldn (pc := 19) d_T_partsOfOthers_19 rfl ?_
        refine rd_getr (pc := 20) d_T_partsOfOthers_20 fl_T_31 rfl rfl ?_
        refine rd_ildn (pc := 23) d_T_partsOfOthers_23 rfl ?_
        refine rd_bipush (pc := 24) d_T_partsOfOthers_24 rfl ?_
        refine rd_imul (pc := 26) d_T_partsOfOthers_26 ?_
        refine rd_ild (pc := 27) d_T_partsOfOthers_27 rfl ?_
        refine rd_iadd (pc := 29) d_T_partsOfOthers_29 ?_
        refine rd_iald (pc := 30) d_T_partsOfOthers_30 rfl (by omega) (by omega) ?_
        refine rd_iadd (pc := 31) d_T_partsOfOthers_31 ?_
        refine rd_ist3 (pc := 32) d_T_partsOfOthers_32 rfl ?_
        refine rd_iinc4 (pc := 33) d_T_partsOfOthers_33 rfl ?_
        refine rd_goto (pc := 36) (tgt := 5) d_T_partsOfOthers_36 rfl ?_
        exact ih _ (by omega) (i + 1) _ rfl (by omega) (by omega) (by rw [hs, ha]; first | (rw [if_pos (by omega)]; omega) | (rw [if_neg (by omega)]))
set_option maxHeartbeats 4000000 in
set_option maxRecDepth 100000 in
theorem ev_T_partsOfOthers {t r : Int} {M : rd_M} {Q : rd_R → rd_M → Prop} (hI : c_I M) (h0 : 0 ≤ t) (h1 : t < 10) (hr : rd_I r) (hQ : Q (.inl (some (rd_i (rd_sm (fun o => if o = r then 0 else M 22 (t * 6 + o)) 6)))) (M)) : rd_G x_T_partsOfOthers 0 [some (.ref 3), some (rd_i t), some (rd_i r), none, none] [] M 0 Q := by
  refine rd_iconst (pc := 0) d_T_partsOfOthers_0 ?_
  refine rd_ist3 (pc := 1) d_T_partsOfOthers_1 rfl ?_
  refine rd_iconst (pc := 2) d_T_partsOfOthers_2 ?_
  refine rd_ist4 (pc := 3) d_T_partsOfOthers_3 rfl ?_
  exact lq_T_partsOfOthers hI h0 h1 hr hQ _ 0 0 rfl (by omega) (by omega) rfl
set_option maxHeartbeats 4000000 in
set_option maxRecDepth 100000 in
theorem ev_T_partOf {v t r : Int} {M : rd_M} {Q : rd_R → rd_M → Prop} (hI : c_I M) (h0 : 0 ≤ t) (h1 : t < 10) (h2 : 0 ≤ r) (h3 : r < 6) (hv : 0 ≤ v ∧ v ≤ 1000000000000) (hQ : Q (.inl (some (rd_l ((v * M 22 (t * 6 + r)).tdiv 1000000)))) (M)) : rd_G x_T_partOf 0 [some (.ref 3), some (rd_l v), none, some (rd_i t), some (rd_i r)] [] M 0 Q := by
  have hp := hI.part (i := t * 6 + r) (by omega) (by omega)
  have hm := rd_mulb hv.1 hv.2 hp.1 hp.2
  refine rd_lldn (pc := 0) d_T_partOf_0 rfl ?_
  refine rd_aldn (pc := 1) d_T_partOf_1 rfl ?_
  refine rd_getr (pc := 2) d_T_partOf_2 fl_T_31 rfl rfl ?_
  refine rd_ildn (pc := 5) d_T_partOf_5 rfl ?_
  refine rd_bipush (pc := 6) d_T_partOf_6 rfl ?_
  refine rd_imul (pc := 8) d_T_partOf_8 ?_
  refine rd_ild (pc := 9) d_T_partOf_9 rfl ?_
  refine rd_iadd (pc := 11) d_T_partOf_11 ?_
  refine rd_iald (pc := 12) d_T_partOf_12 rfl (by omega) (by omega) ?_
  refine rd_i2l (pc := 13) d_T_partOf_13 ⟨by omega, by omega⟩ ?_
  refine rd_lmul (pc := 14) d_T_partOf_14 ?_
  refine rd_ldc2 (pc := 15) (v := 1000000) d_T_partOf_15 kl_T_38 ?_
  refine rd_ldiv (pc := 18) d_T_partOf_18 ⟨by omega, by omega⟩ ⟨by omega, by omega⟩ (by omega) ?_
  exact rd_lret (pc := 19) d_T_partOf_19 rfl (Nat.le_of_ble_eq_true rfl) (hQ)
set_option maxHeartbeats 4000000 in
set_option maxRecDepth 100000 in
theorem ev_T_partOfRisk {t s : Int} {M : rd_M} {Q : rd_R → rd_M → Prop} (hI : c_I M) (h0 : 0 ≤ t) (h1 : t < 10) (hs : 0 ≤ s ∧ s ≤ 1000000000) (hQ : Q (.inl (some (rd_l (sp_part (M 16 t) (M 18 t) (M 19 t) s)))) (M)) : rd_G x_T_partOfRisk 0 [some (.ref 3), some (rd_i t), some (rd_l s), none, none, none] [] M 0 Q := by
  obtain ⟨hk, hy, ha, hb, hc, hdd⟩ := hI.treaty h0 h1
  have hm := rd_mulb ha.1 ha.2 hb.1 hb.2
  have hz : 0 ≤ min (max (s - M 18 t) 0) (M 18 t * M 19 t) ∧ min (max (s - M 18 t) 0) (M 18 t * M 19 t) ≤ 1000000000 := by omega
  unfold sp_part at hQ
  refine rd_lldn (pc := 0) d_T_partOfRisk_0 rfl ?_
  refine rd_lconst (pc := 1) (v := 0) d_T_partOfRisk_1 rfl ?_
  refine rd_lcmp_gt (pc := 2) (tgt := 8) d_T_partOfRisk_2 d_T_partOfRisk_3 rfl ⟨by omega, by omega⟩ ⟨by omega, by omega⟩ (fun h2 => ?_) (fun h2 => ?_)
  · skip
    refine rd_aldn (pc := 8) d_T_partOfRisk_8 rfl ?_
    refine rd_getr (pc := 9) d_T_partOfRisk_9 fl_T_9 rfl rfl ?_
    refine rd_ildn (pc := 12) d_T_partOfRisk_12 rfl ?_
    refine rd_iald (pc := 13) d_T_partOfRisk_13 rfl (by omega) (by omega) ?_
    refine rd_if_ne (pc := 14) (tgt := 53) d_T_partOfRisk_14 rfl ⟨by omega, by omega⟩ (fun h14 => ?_) (fun h14 => ?_)
    · skip
      refine rd_lldn (pc := 53) d_T_partOfRisk_53 rfl ?_
      refine rd_aldn (pc := 54) d_T_partOfRisk_54 rfl ?_
      refine rd_getr (pc := 55) d_T_partOfRisk_55 fl_T_18 rfl rfl ?_
      refine rd_ildn (pc := 58) d_T_partOfRisk_58 rfl ?_
      refine rd_lald (pc := 59) d_T_partOfRisk_59 rfl (by omega) (by omega) ?_
      refine rd_lsub (pc := 60) d_T_partOfRisk_60 ?_
      refine rd_lconst (pc := 61) (v := 0) d_T_partOfRisk_61 rfl ?_
      refine rd_callSl (pc := 62) (n' := 0) [_, _] d_T_partOfRisk_62 ml_T_40 (Nat.le_of_ble_eq_true rfl) (Nat.le_of_ble_eq_true rfl) (Nat.le_of_ble_eq_true rfl) rfl rfl rfl (Nat.le_of_ble_eq_true rfl) (Nat.le_of_ble_eq_true rfl) ?_
      refine ev_J_max ⟨by omega, by omega⟩ ⟨by omega, by omega⟩ ?_
      refine ⟨_, rfl, ?_⟩
      refine rd_lst4 (pc := 65) d_T_partOfRisk_65 rfl ?_
      refine rd_ldc2 (pc := 67) (v := 1000000) d_T_partOfRisk_67 kl_T_38 ?_
      refine rd_lld (pc := 70) d_T_partOfRisk_70 rfl ?_
      refine rd_aldn (pc := 72) d_T_partOfRisk_72 rfl ?_
      refine rd_getr (pc := 73) d_T_partOfRisk_73 fl_T_18 rfl rfl ?_
      refine rd_ildn (pc := 76) d_T_partOfRisk_76 rfl ?_
      refine rd_lald (pc := 77) d_T_partOfRisk_77 rfl (by omega) (by omega) ?_
      refine rd_aldn (pc := 78) d_T_partOfRisk_78 rfl ?_
      refine rd_getr (pc := 79) d_T_partOfRisk_79 fl_T_22 rfl rfl ?_
      refine rd_ildn (pc := 82) d_T_partOfRisk_82 rfl ?_
      refine rd_lald (pc := 83) d_T_partOfRisk_83 rfl (by omega) (by omega) ?_
      refine rd_lmul (pc := 84) d_T_partOfRisk_84 ?_
      refine rd_callSl (pc := 85) (n' := 0) [_, _] d_T_partOfRisk_85 ml_T_46 (Nat.le_of_ble_eq_true rfl) (Nat.le_of_ble_eq_true rfl) (Nat.le_of_ble_eq_true rfl) rfl rfl rfl (Nat.le_of_ble_eq_true rfl) (Nat.le_of_ble_eq_true rfl) ?_
      refine ev_J_min ⟨by omega, by omega⟩ ⟨by omega, by omega⟩ ?_
      refine ⟨_, rfl, ?_⟩
      refine rd_lmul (pc := 88) d_T_partOfRisk_88 ?_
      refine rd_lldn (pc := 89) d_T_partOfRisk_89 rfl ?_
      refine rd_ldiv (pc := 90) d_T_partOfRisk_90 ⟨by omega, by omega⟩ ⟨by omega, by omega⟩ (by omega) ?_
      exact rd_lret (pc := 91) d_T_partOfRisk_91 rfl (Nat.le_of_ble_eq_true rfl) (by first | (rw [if_pos (by omega)] at hQ; exact hQ) | (rw [if_neg (by omega), if_pos (by omega), if_pos (by omega)] at hQ; exact hQ) | (rw [if_neg (by omega), if_pos (by omega), if_neg (by omega)] at hQ; exact hQ) | (rw [if_neg (by omega), if_neg (by omega)] at hQ; exact hQ))
    · skip
      refine rd_lldn (pc := 17) d_T_partOfRisk_17 rfl ?_
      refine rd_aldn (pc := 18) d_T_partOfRisk_18 rfl ?_
      refine rd_getr (pc := 19) d_T_partOfRisk_19 fl_T_22 rfl rfl ?_
      refine rd_ildn (pc := 22) d_T_partOfRisk_22 rfl ?_
      refine rd_lald (pc := 23) d_T_partOfRisk_23 rfl (by omega) (by omega) ?_
      refine rd_lcmp_gt (pc := 24) (tgt := 37) d_T_partOfRisk_24 d_T_partOfRisk_25 rfl ⟨by omega, by omega⟩ ⟨by omega, by omega⟩ (fun h24 => ?_) (fun h24 => ?_)
      · skip
        refine rd_aldn (pc := 37) d_T_partOfRisk_37 rfl ?_
        refine rd_getr (pc := 38) d_T_partOfRisk_38 fl_T_18 rfl rfl ?_
        refine rd_ildn (pc := 41) d_T_partOfRisk_41 rfl ?_
        refine rd_lald (pc := 42) d_T_partOfRisk_42 rfl (by omega) (by omega) ?_
        refine rd_aldn (pc := 43) d_T_partOfRisk_43 rfl ?_
        refine rd_getr (pc := 44) d_T_partOfRisk_44 fl_T_22 rfl rfl ?_
        refine rd_ildn (pc := 47) d_T_partOfRisk_47 rfl ?_
        refine rd_lald (pc := 48) d_T_partOfRisk_48 rfl (by omega) (by omega) ?_
        refine rd_lmul (pc := 49) d_T_partOfRisk_49 ?_
        refine rd_lldn (pc := 50) d_T_partOfRisk_50 rfl ?_
        refine rd_ldiv (pc := 51) d_T_partOfRisk_51 ⟨by omega, by omega⟩ ⟨by omega, by omega⟩ (by omega) ?_
        exact rd_lret (pc := 52) d_T_partOfRisk_52 rfl (Nat.le_of_ble_eq_true rfl) (by first | (rw [if_pos (by omega)] at hQ; exact hQ) | (rw [if_neg (by omega), if_pos (by omega), if_pos (by omega)] at hQ; exact hQ) | (rw [if_neg (by omega), if_pos (by omega), if_neg (by omega)] at hQ; exact hQ) | (rw [if_neg (by omega), if_neg (by omega)] at hQ; exact hQ))
      · skip
        refine rd_aldn (pc := 28) d_T_partOfRisk_28 rfl ?_
        refine rd_getr (pc := 29) d_T_partOfRisk_29 fl_T_18 rfl rfl ?_
        refine rd_ildn (pc := 32) d_T_partOfRisk_32 rfl ?_
        refine rd_lald (pc := 33) d_T_partOfRisk_33 rfl (by omega) (by omega) ?_
        refine rd_goto (pc := 34) (tgt := 52) d_T_partOfRisk_34 rfl ?_
        exact rd_lret (pc := 52) d_T_partOfRisk_52 rfl (Nat.le_of_ble_eq_true rfl) (by first | (rw [if_pos (by omega)] at hQ; exact hQ) | (rw [if_neg (by omega), if_pos (by omega), if_pos (by omega)] at hQ; exact hQ) | (rw [if_neg (by omega), if_pos (by omega), if_neg (by omega)] at hQ; exact hQ) | (rw [if_neg (by omega), if_neg (by omega)] at hQ; exact hQ))
  · skip
    refine rd_lconst (pc := 6) (v := 0) d_T_partOfRisk_6 rfl ?_
    exact rd_lret (pc := 7) d_T_partOfRisk_7 rfl (Nat.le_of_ble_eq_true rfl) (by first | (rw [if_pos (by omega)] at hQ; exact hQ) | (rw [if_neg (by omega), if_pos (by omega), if_pos (by omega)] at hQ; exact hQ) | (rw [if_neg (by omega), if_pos (by omega), if_neg (by omega)] at hQ; exact hQ) | (rw [if_neg (by omega), if_neg (by omega)] at hQ; exact hQ))
end
section
/-! what treaties take: the class's memory behind takes -/
theorem rd_sm_add {w : Int → Int} {k a : Int} : ∀ (n : Nat), 0 ≤ k → k < n → rd_sm (fun j => if j = k then w j + a else w j) n = rd_sm w n + a
  | 0, h0, h1 => by omega
  | n + 1, h0, h1 => by
    show rd_sm _ n + (if (n : Int) = k then w n + a else w n) = rd_sm w n + w n + a
    by_cases hk : (n : Int) = k
    · rw [if_pos hk, rd_sm_c (g := w) n (fun i a b => by rw [if_neg (by omega)])]
      omega
    · rw [if_neg hk, rd_sm_add n h0 (by omega)]
      omega
theorem rd_sm_z {w : Int → Int} : ∀ (n : Nat), (∀ i : Int, 0 ≤ i → i < n → w i = 0) → rd_sm w n = 0
  | 0, _ => rfl
  | n + 1, h => by
    show rd_sm w n + w n = 0
    rw [rd_sm_z n (fun i a b => h i a (by omega)), h n (by omega) (by omega)]
    rfl
/-- each claim k below n has given w k to the treaty t -/
def c_tks (M : rd_M) (t : Int) (n : Nat) (w : Int → Int) : rd_M := fun q =>
  if q = 24 then (fun j => if 0 ≤ j ∧ j < n then M 24 j - w j else M 24 j)
  else if q = 25 then (fun j => if t * 40 ≤ j ∧ j < t * 40 + n then M 25 j + w (j - t * 40) else M 25 j)
  else if q = 26 then (fun j => if j = t then M 26 j + rd_sm w n else M 26 j) else M q
theorem c_tks_24 {M : rd_M} {t j : Int} {n : Nat} {w : Int → Int} : c_tks M t n w 24 j = if 0 ≤ j ∧ j < n then M 24 j - w j else M 24 j := rfl
theorem c_tks_25 {M : rd_M} {t j : Int} {n : Nat} {w : Int → Int} : c_tks M t n w 25 j = if t * 40 ≤ j ∧ j < t * 40 + n then M 25 j + w (j - t * 40) else M 25 j := rfl
theorem c_tks_26 {M : rd_M} {t j : Int} {n : Nat} {w : Int → Int} : c_tks M t n w 26 j = if j = t then M 26 j + rd_sm w n else M 26 j := rfl
theorem c_tks_ne {M : rd_M} {t : Int} {n : Nat} {w : Int → Int} {q : Nat} (h1 : q ≠ 24) (h2 : q ≠ 25) (h3 : q ≠ 26) : c_tks M t n w q = M q := by
  unfold c_tks; rw [if_neg h1, if_neg h2, if_neg h3]
theorem c_tks_congr {M : rd_M} {t : Int} {n : Nat} {w w' : Int → Int} (h : ∀ j : Int, 0 ≤ j → j < n → w j = w' j) : c_tks M t n w = c_tks M t n w' := by
  funext q j
  by_cases h1 : q = 24
  · subst h1
    rw [c_tks_24, c_tks_24]
    by_cases hj : 0 ≤ j ∧ j < n
    · rw [if_pos hj, if_pos hj, h j hj.1 hj.2]
    · rw [if_neg hj, if_neg hj]
  · by_cases h2 : q = 25
    · subst h2
      rw [c_tks_25, c_tks_25]
      by_cases hj : t * 40 ≤ j ∧ j < t * 40 + n
      · rw [if_pos hj, if_pos hj, h (j - t * 40) (by omega) (by omega)]
      · rw [if_neg hj, if_neg hj]
    · by_cases h3 : q = 26
      · subst h3
        rw [c_tks_26, c_tks_26, rd_sm_c n h]
      · rw [c_tks_ne h1 h2 h3, c_tks_ne h1 h2 h3]
theorem c_tks_0 {M : rd_M} {t : Int} {n : Nat} {w : Int → Int} (h : ∀ j : Int, 0 ≤ j → j < n → w j = 0) : c_tks M t n w = M := by
  funext q j
  by_cases h1 : q = 24
  · subst h1
    rw [c_tks_24]
    by_cases hj : 0 ≤ j ∧ j < n
    · rw [if_pos hj, h j hj.1 hj.2]; omega
    · rw [if_neg hj]
  · by_cases h2 : q = 25
    · subst h2
      rw [c_tks_25]
      by_cases hj : t * 40 ≤ j ∧ j < t * 40 + n
      · rw [if_pos hj, h (j - t * 40) (by omega) (by omega)]; omega
      · rw [if_neg hj]
    · by_cases h3 : q = 26
      · subst h3
        rw [c_tks_26, rd_sm_z n h]
        by_cases hj : j = t
        · rw [if_pos hj]; omega
        · rw [if_neg hj]
      · rw [c_tks_ne h1 h2 h3]
theorem c_tks_take {M : rd_M} {t k a : Int} {n : Nat} {w : Int → Int} (h0 : 0 ≤ k) (h1 : k < n) : c_take (c_tks M t n w) t k a = c_tks M t n (fun j => if j = k then w j + a else w j) := by
  funext q j
  unfold c_take
  by_cases h24 : q = 24
  · subst h24
    rw [rd_up_app (by decide), rd_up_app (by decide), rd_up_at, c_tks_24, c_tks_24, c_tks_24]
    by_cases hj : j = k
    · subst hj
      rw [if_pos rfl, if_pos ⟨h0, h1⟩, if_pos ⟨h0, h1⟩, if_pos rfl]
      omega
    · rw [if_neg hj, if_neg hj]
  · by_cases h25 : q = 25
    · subst h25
      rw [rd_up_app (by decide), rd_up_at, rd_up_app (by decide), c_tks_25, c_tks_25, c_tks_25]
      by_cases hj : j = t * 40 + k
      · subst hj
        rw [if_pos rfl, if_pos (by omega), if_pos (by omega), if_pos (by omega)]
        omega
      · rw [if_neg hj]
        by_cases hr : t * 40 ≤ j ∧ j < t * 40 + n
        · rw [if_pos hr, if_pos hr, if_neg (by omega)]
        · rw [if_neg hr, if_neg hr]
    · by_cases h26 : q = 26
      · subst h26
        rw [rd_up_at, rd_up_app (by decide), rd_up_app (by decide), c_tks_26, c_tks_26, c_tks_26, rd_sm_add n h0 h1]
        by_cases hj : j = t
        · subst hj
          rw [if_pos rfl, if_pos rfl, if_pos rfl]
          omega
        · rw [if_neg hj, if_neg hj, if_neg hj]
      · rw [rd_up_app h26, rd_up_app h25, rd_up_app h24, c_tks_ne h24 h25 h26, c_tks_ne h24 h25 h26]
/-- the class's data, as the document names them: 0 sum, 1 premium, 2 year (of a risk), 3 risk, 4 event, 5 hour, 6 estimate, 7 struck (of a claim), 8 kind, 9 year, 10 a, 11 b, 12 c, 13 d (of a treaty), 14 shares -/
def c_d (M : rd_M) : rd_M := fun q => match q with
  | 0 => M 7 | 1 => M 8 | 2 => M 9 | 3 => M 10 | 4 => M 11 | 5 => M 12 | 6 => M 13 | 7 => M 14 | 8 => M 16 | 9 => M 17 | 10 => M 18 | 11 => M 19 | 12 => M 20 | 13 => M 21 | _ => M 22
/-- a claim counts for a year -/
abbrev sp_cnt (d : rd_M) (y k : Int) : Prop := d 7 k = 0 ∧ d 2 (d 3 k) = y
theorem c_I.of {M M1 : rd_M} (h : c_I M) (he : ∀ q, q ≤ 22 → M1 q = M q) : c_I M1 := by
  unfold c_I at *
  rw [he 2 (by decide), he 3 (by decide), he 5 (by decide), he 7 (by decide), he 8 (by decide), he 9 (by decide), he 10 (by decide), he 11 (by decide), he 12 (by decide), he 13 (by decide), he 14 (by decide), he 15 (by decide), he 16 (by decide), he 17 (by decide), he 18 (by decide), he 19 (by decide), he 20 (by decide), he 21 (by decide), he 22 (by decide)]
  exact h
theorem c_d_of {M M1 : rd_M} (he : ∀ q, q ≤ 22 → M1 q = M q) : c_d M1 = c_d M := by
  funext q
  unfold c_d
  split <;> exact he _ (by decide)
theorem c_tks_low {M : rd_M} {t : Int} {n : Nat} {w : Int → Int} : ∀ q, q ≤ 22 → c_tks M t n w q = M q := fun q h => c_tks_ne (by omega) (by omega) (by omega)
/-- a year's cession is under way: counts say which claims count; what is kept is a sum of money -/
def c_Y (M : rd_M) (y : Int) : Prop := ∀ k, 0 ≤ k → k < M 2 0 → (M 23 k = if sp_cnt (c_d M) y k then 1 else 0) ∧ 0 ≤ M 24 k ∧ M 24 k ≤ 1000000000 ∧ (¬ sp_cnt (c_d M) y k → M 24 k = 0)
def sp_tkP (d : rd_M) (t : Int) (kept : Int → Int) (k : Int) : Int := if sp_cnt d (d 9 t) k then (kept k * sp_part (d 8 t) (d 10 t) (d 11 t) (d 0 (d 3 k))).tdiv 1000000 else 0
end
section
/-! premiums and parts: quota and surplus -/
/-- each risk r below 12 has given u r of its premium to the treaty t -/
def c_prm (M : rd_M) (t : Int) (u : Int → Int) : rd_M := fun q =>
  if q = 28 then (fun j => if 0 ≤ j ∧ j < 12 then M 28 j - u j else M 28 j) else if q = 29 then (fun j => if j = t then M 29 j + rd_sm u 12 else M 29 j) else M q
theorem c_prm_28 {M : rd_M} {t j : Int} {u : Int → Int} : c_prm M t u 28 j = if 0 ≤ j ∧ j < 12 then M 28 j - u j else M 28 j := rfl
theorem c_prm_29 {M : rd_M} {t j : Int} {u : Int → Int} : c_prm M t u 29 j = if j = t then M 29 j + rd_sm u 12 else M 29 j := rfl
theorem c_prm_ne {M : rd_M} {t : Int} {u : Int → Int} {q : Nat} (h1 : q ≠ 28) (h2 : q ≠ 29) : c_prm M t u q = M q := by
  unfold c_prm; rw [if_neg h1, if_neg h2]
theorem c_prm_congr {M : rd_M} {t : Int} {u u' : Int → Int} (h : ∀ j : Int, 0 ≤ j → j < 12 → u j = u' j) : c_prm M t u = c_prm M t u' := by
  funext q j
  by_cases h1 : q = 28
  · subst h1
    rw [c_prm_28, c_prm_28]
    by_cases hj : 0 ≤ j ∧ j < 12
    · rw [if_pos hj, if_pos hj, h j hj.1 hj.2]
    · rw [if_neg hj, if_neg hj]
  · by_cases h2 : q = 29
    · subst h2
      rw [c_prm_29, c_prm_29, rd_sm_c 12 (fun i a b => h i a (by omega))]
    · rw [c_prm_ne h1 h2, c_prm_ne h1 h2]
theorem c_prm_0 {M : rd_M} {t : Int} {u : Int → Int} (h : ∀ j : Int, 0 ≤ j → j < 12 → u j = 0) : c_prm M t u = M := by
  funext q j
  by_cases h1 : q = 28
  · subst h1
    rw [c_prm_28]
    by_cases hj : 0 ≤ j ∧ j < 12
    · rw [if_pos hj, h j hj.1 hj.2]; omega
    · rw [if_neg hj]
  · by_cases h2 : q = 29
    · subst h2
      rw [c_prm_29, rd_sm_z 12 (fun i a b => h i a (by omega))]
      by_cases hj : j = t
      · rw [if_pos hj]; omega
      · rw [if_neg hj]
    · rw [c_prm_ne h1 h2]
theorem c_prm_add {M : rd_M} {t k a : Int} {u : Int → Int} (h0 : 0 ≤ k) (h1 : k < 12) : rd_up (rd_up (c_prm M t u) 28 k (c_prm M t u 28 k - a)) 29 t (c_prm M t u 29 t + a) = c_prm M t (fun j => if j = k then u j + a else u j) := by
  funext q j
  by_cases h28 : q = 28
  · subst h28
    rw [rd_up_app (by decide), rd_up_at, c_prm_28, c_prm_28, c_prm_28]
    by_cases hj : j = k
    · subst hj
      rw [if_pos rfl, if_pos ⟨h0, h1⟩, if_pos ⟨h0, h1⟩, if_pos rfl]
      omega
    · rw [if_neg hj, if_neg hj]
  · by_cases h29 : q = 29
    · subst h29
      rw [rd_up_at, rd_up_app (by decide), c_prm_29, c_prm_29, c_prm_29, rd_sm_add 12 h0 (by omega)]
      by_cases hj : j = t
      · subst hj
        rw [if_pos rfl, if_pos rfl, if_pos rfl]
        omega
      · rw [if_neg hj, if_neg hj, if_neg hj]
    · rw [rd_up_app h29, rd_up_app h28, c_prm_ne h28 h29, c_prm_ne h28 h29]
theorem sp_part_b {k a b s : Int} (ha : 0 ≤ a ∧ a ≤ 1000000000) (hb : 0 ≤ b ∧ b ≤ 1000000000) (hs : 0 ≤ s ∧ s ≤ 1000000000) (hq : k = 0 → a ≤ 1000000) : 0 ≤ sp_part k a b s ∧ sp_part k a b s ≤ 1000000 := by
  have hm := rd_mulb ha.1 ha.2 hb.1 hb.2
  unfold sp_part
  by_cases h1 : s ≤ 0
  · rw [if_pos h1]; omega
  · rw [if_neg h1]
    by_cases h2 : k = 0
    · rw [if_pos h2]
      by_cases h3 : s ≤ b
      · rw [if_pos h3]; have := hq h2; omega
      · rw [if_neg h3]
        have h4 := rd_tdivb (a := a * b) (b := s) hm.1 (by omega)
        refine ⟨h4.1, ?_⟩
        rw [Int.tdiv_eq_ediv_of_nonneg hm.1]
        have h5 : a * b ≤ 1000000 * s := Int.mul_le_mul (hq h2) (by omega) hb.1 (by omega)
        exact Int.ediv_le_of_le_mul (by omega) h5
    · rw [if_neg h2]
      have hz : 0 ≤ min (max (s - a) 0) (a * b) ∧ min (max (s - a) 0) (a * b) ≤ s := by omega
      have h4 := rd_tdivb (a := 1000000 * min (max (s - a) 0) (a * b)) (b := s) (by omega) (by omega)
      refine ⟨h4.1, ?_⟩
      rw [Int.tdiv_eq_ediv_of_nonneg (by omega)]
      exact Int.ediv_le_of_le_mul (by omega) (by omega)
/-- quotas' first terms are parts of a million -/
def c_Q (M : rd_M) : Prop := ∀ t, 0 ≤ t → t < 10 → M 16 t = 0 → M 18 t ≤ 1000000
/-- what is left of premiums is a sum of money -/
def c_PL (M : rd_M) : Prop := ∀ r, 0 ≤ r → r < 12 → 0 ≤ M 28 r ∧ M 28 r ≤ 1000000000
theorem rd_part_b {a b : Int} (h0 : 0 ≤ a) (h1 : 0 ≤ b) (h2 : b ≤ 1000000) : 0 ≤ (a * b).tdiv 1000000 ∧ (a * b).tdiv 1000000 ≤ a := by
  have h3 := Int.mul_nonneg h0 h1
  rw [Int.tdiv_eq_ediv_of_nonneg h3]
  exact ⟨Int.ediv_nonneg h3 (by omega), Int.ediv_le_of_le_mul (by omega) (Int.mul_le_mul_of_nonneg_left h2 h0)⟩
set_option maxHeartbeats 4000000 in
set_option maxRecDepth 100000 in
theorem lq_S_cedePremiums {t : Int} {M : rd_M} {Q : rd_R → rd_M → Prop} (hI : c_I M) (hC : c_Q M) (hL : c_PL M) (h0 : 0 ≤ t) (h1 : t < 10) (hQ : Q (.inl none) (c_prm M t (fun r => (M 28 r * sp_part (M 16 t) (M 18 t) (M 19 t) (M 7 r)).tdiv 1000000))) : ∀ (d : Nat) (i : Int) (M1 : rd_M), (12 - i).toNat = d → (0 ≤ i) → (i ≤ 12) → (M1 = c_prm M t (fun j => if j < i then (fun r => (M 28 r * sp_part (M 16 t) (M 18 t) (M 19 t) (M 7 r)).tdiv 1000000) j else 0)) → rd_G x_S_cedePremiums 2 [some (.ref 4), some (rd_i t), some (rd_i i), none, none] [] M1 0 Q := by
  intro d
  induction d using Nat.strongRecOn with
  | ind d ih =>
    intro i M1 hd i0 i1 hM
    refine rd_ildn (pc := 2) d_S_cedePremiums_2 rfl ?_
    refine rd_bipush (pc := 3) d_S_cedePremiums_3 rfl ?_
    refine rd_icmp_ge (pc := 5) (tgt := 64) d_S_cedePremiums_5 rfl ⟨by omega, by omega⟩ ⟨by omega, by omega⟩ (fun h5 => ?_) (fun h5 => ?_)
    · skip
      exact rd_vret (pc := 64) d_S_cedePremiums_64 rfl (Nat.le_of_ble_eq_true rfl) (by rw [hM, c_prm_congr (u' := (fun r => (M 28 r * sp_part (M 16 t) (M 18 t) (M 19 t) (M 7 r)).tdiv 1000000)) (fun j a b => by rw [if_pos (by omega)])]; exact hQ)
    · skip
      have hI1 : c_I M1 := hI.of (fun q h => by rw [hM]; exact c_prm_ne (by omega) (by omega))
      have e7 : M1 7 = M 7 := by rw [hM]; exact c_prm_ne (by decide) (by decide)
      have e16 : M1 16 = M 16 := by rw [hM]; exact c_prm_ne (by decide) (by decide)
      have e18 : M1 18 = M 18 := by rw [hM]; exact c_prm_ne (by decide) (by decide)
      have e19 : M1 19 = M 19 := by rw [hM]; exact c_prm_ne (by decide) (by decide)
      have e28 : M1 28 i = M 28 i := by rw [hM, c_prm_28, if_pos (by omega), if_neg (by omega)]; omega
      obtain ⟨hs, hp, hy⟩ := hI.risk i0 (by omega)
      have hl := hL i i0 (by omega)
      obtain ⟨hk, hty, ha, hb, hc, hdd⟩ := hI.treaty h0 h1
      have hpt := sp_part_b (k := M 16 t) ha hb hs (fun z => hC t h0 h1 z)
      have hmul := rd_mulb hl.1 hl.2 hpt.1 hpt.2
      refine rd_aldn (pc := 8) d_S_cedePremiums_8 rfl ?_
      refine rd_getr (pc := 9) d_S_cedePremiums_9 fl_S_41 rfl rfl ?_
      refine rd_ildn (pc := 12) d_S_cedePremiums_12 rfl ?_
      refine rd_lald (pc := 13) d_S_cedePremiums_13 rfl (by omega) (by omega) ?_
      try simp (decide := true) only [rd_up_app, rd_up_hit, e7, e16, e18, e19, e28]
      refine rd_aldn (pc := 14) d_S_cedePremiums_14 rfl ?_
      refine rd_getr (pc := 15) d_S_cedePremiums_15 fl_S_19 rfl rfl ?_
      refine rd_ildn (pc := 18) d_S_cedePremiums_18 rfl ?_
      refine rd_aldn (pc := 19) d_S_cedePremiums_19 rfl ?_
      refine rd_getr (pc := 20) d_S_cedePremiums_20 fl_S_9 rfl rfl ?_
      refine rd_getr (pc := 23) d_S_cedePremiums_23 fl_S_117 rfl rfl ?_
      refine rd_ildn (pc := 26) d_S_cedePremiums_26 rfl ?_
      refine rd_iald (pc := 27) d_S_cedePremiums_27 rfl (by omega) (by omega) ?_
      try simp (decide := true) only [rd_up_app, rd_up_hit, e7, e16, e18, e19, e28]
      refine rd_i2l (pc := 28) d_S_cedePremiums_28 ⟨by omega, by omega⟩ ?_
      refine rd_callVl (pc := 29) (n' := 0) [_, _] d_S_cedePremiums_29 ml_S_120 rfl (Nat.le_of_ble_eq_true rfl) (Nat.le_of_ble_eq_true rfl) (Nat.le_of_ble_eq_true rfl) rfl rfl rfl (Nat.le_of_ble_eq_true rfl) (Nat.le_of_ble_eq_true rfl) ?_
      refine ev_T_partOfRisk hI1 h0 h1 ⟨by omega, by omega⟩ ?_
      refine ⟨_, rfl, ?_⟩
      try simp (decide := true) only [rd_up_app, rd_up_hit, e7, e16, e18, e19, e28]
      refine rd_lmul (pc := 32) d_S_cedePremiums_32 ?_
      refine rd_ldc2 (pc := 33) (v := 1000000) d_S_cedePremiums_33 kl_S_124 ?_
      refine rd_ldiv (pc := 36) d_S_cedePremiums_36 ⟨by omega, by omega⟩ ⟨by omega, by omega⟩ (by omega) ?_
      refine rd_lst3 (pc := 37) d_S_cedePremiums_37 rfl ?_
      refine rd_aldn (pc := 38) d_S_cedePremiums_38 rfl ?_
      refine rd_getr (pc := 39) d_S_cedePremiums_39 fl_S_41 rfl rfl ?_
      refine rd_ildn (pc := 42) d_S_cedePremiums_42 rfl ?_
      refine rd_dup2 (pc := 43) d_S_cedePremiums_43 rfl rfl ?_
      refine rd_lald (pc := 44) d_S_cedePremiums_44 rfl (by omega) (by omega) ?_
      try simp (decide := true) only [rd_up_app, rd_up_hit, e7, e16, e18, e19, e28]
      refine rd_lldn (pc := 45) d_S_cedePremiums_45 rfl ?_
      refine rd_lsub (pc := 46) d_S_cedePremiums_46 ?_
      refine rd_last (pc := 47) d_S_cedePremiums_47 rfl (by omega) (by omega) ?_
      refine rd_aldn (pc := 48) d_S_cedePremiums_48 rfl ?_
      refine rd_getr (pc := 49) d_S_cedePremiums_49 fl_S_44 rfl rfl ?_
      refine rd_ildn (pc := 52) d_S_cedePremiums_52 rfl ?_
      refine rd_dup2 (pc := 53) d_S_cedePremiums_53 rfl rfl ?_
      refine rd_lald (pc := 54) d_S_cedePremiums_54 rfl (by omega) (by omega) ?_
      try simp (decide := true) only [rd_up_app, rd_up_hit, e7, e16, e18, e19, e28]
      refine rd_lldn (pc := 55) d_S_cedePremiums_55 rfl ?_
      refine rd_ladd (pc := 56) d_S_cedePremiums_56 ?_
      refine rd_last (pc := 57) d_S_cedePremiums_57 rfl (by omega) (by omega) ?_
      refine rd_iinc2 (pc := 58) d_S_cedePremiums_58 rfl ?_
      refine rd_goto (pc := 61) (tgt := 2) d_S_cedePremiums_61 rfl ?_
      refine rd_weak (L' := [some (.ref 4), some (rd_i t), some (rd_i (i + 1)), none, none]) (by simp [rd_le]) ?_
      refine ih _ (by omega) (i + 1) _ rfl (by omega) (by omega) ?_
      subst hM
      have hz := c_prm_add (M := M) (t := t) (u := fun j => if j < i then (fun r => (M 28 r * sp_part (M 16 t) (M 18 t) (M 19 t) (M 7 r)).tdiv 1000000) j else 0) (k := i) (a := (fun r => (M 28 r * sp_part (M 16 t) (M 18 t) (M 19 t) (M 7 r)).tdiv 1000000) i) i0 (by omega)
      rw [e28] at hz
      rw [hz]
      exact c_prm_congr (fun j a b => by by_cases hj : j = i; (subst hj; rw [if_pos rfl, if_neg (by omega), if_pos (by omega)]; omega); (rw [if_neg hj]; by_cases hji : j < i; (rw [if_pos hji, if_pos (by omega)]); (rw [if_neg hji, if_neg (by omega)])))
set_option maxHeartbeats 4000000 in
set_option maxRecDepth 100000 in
theorem ev_S_cedePremiums {t : Int} {M : rd_M} {Q : rd_R → rd_M → Prop} (hI : c_I M) (hC : c_Q M) (hL : c_PL M) (h0 : 0 ≤ t) (h1 : t < 10) (hQ : Q (.inl none) (c_prm M t (fun r => (M 28 r * sp_part (M 16 t) (M 18 t) (M 19 t) (M 7 r)).tdiv 1000000))) : rd_G x_S_cedePremiums 0 [some (.ref 4), some (rd_i t), none, none, none] [] M 0 Q := by
  refine rd_iconst (pc := 0) d_S_cedePremiums_0 ?_
  refine rd_ist2 (pc := 1) d_S_cedePremiums_1 rfl ?_
  exact lq_S_cedePremiums hI hC hL h0 h1 hQ _ 0 M rfl (by omega) (by omega) (c_prm_0 (fun j a b => by rw [if_neg (by omega)])).symm
end
section
/-! pure: orders, ranks, and what is spread -/
theorem rd_sm_le {f g : Int → Int} : ∀ (n : Nat), (∀ i : Int, 0 ≤ i → i < n → f i ≤ g i) → rd_sm f n ≤ rd_sm g n
  | 0, _ => Int.le_refl _
  | n + 1, h => by
    have h1 := rd_sm_le n (fun i a b => h i a (by omega))
    have h2 := h n (by omega) (by omega)
    show rd_sm f n + f n ≤ rd_sm g n + g n
    omega
theorem rd_sm_p {f g : Int → Int} : ∀ (n : Nat), rd_sm (fun i => f i + g i) n = rd_sm f n + rd_sm g n
  | 0 => rfl
  | n + 1 => by
    show rd_sm _ n + (f n + g n) = rd_sm f n + f n + (rd_sm g n + g n)
    rw [rd_sm_p n]; omega
theorem rd_sm_m {f : Int → Int} {c : Int} : ∀ (n : Nat), rd_sm (fun i => c * f i) n = c * rd_sm f n
  | 0 => (Int.mul_zero c).symm
  | n + 1 => by
    show rd_sm _ n + c * f n = c * (rd_sm f n + f n)
    rw [rd_sm_m n, Int.mul_add]
theorem rd_sm_nn {f : Int → Int} (n : Nat) (h : ∀ i : Int, 0 ≤ i → i < n → 0 ≤ f i) : 0 ≤ rd_sm f n := by
  have h1 := rd_sm_le (f := fun _ => 0) n (g := f) h
  rw [rd_sm_z n (fun i a b => rfl)] at h1
  exact h1
theorem rd_sm_one {f : Int → Int} {n : Nat} {k : Int} (h : ∀ i : Int, 0 ≤ i → i < n → 0 ≤ f i) (h0 : 0 ≤ k) (h1 : k < n) : f k ≤ rd_sm f n := by
  have h2 := rd_sm_add (w := fun _ => 0) (k := k) (a := f k) n h0 h1
  rw [rd_sm_z n (fun i a b => rfl)] at h2
  have h3 := rd_sm_le (f := fun j => if j = k then 0 + f k else 0) (g := f) n (fun i a b => by
    by_cases hi : i = k
    · rw [if_pos hi, hi]; omega
    · rw [if_neg hi]; exact h i a b)
  omega
/-- j stands before k: a greater key, or the same key and a lower number -/
abbrev sp_bf (f : Int → Int) (j k : Int) : Prop := f k < f j ∨ (f j = f k ∧ j < k)
/-- how many of those that p tells stand before k -/
def sp_rk (n : Nat) (p f : Int → Int) (k : Int) : Int := rd_sm (fun j => if p j = 1 ∧ sp_bf f j k then 1 else 0) n
def sp_cn (n : Nat) (p : Int → Int) : Int := rd_sm (fun j => if p j = 1 then 1 else 0) n
theorem rd_01 {P : Prop} [Decidable P] : (0 : Int) ≤ (if P then 1 else 0) ∧ (if P then 1 else 0 : Int) ≤ 1 := by
  by_cases h : P
  · rw [if_pos h]; omega
  · rw [if_neg h]; omega
theorem sp_rk_nn {n : Nat} {p f : Int → Int} {k : Int} : 0 ≤ sp_rk n p f k := rd_sm_nn n (fun _ _ _ => rd_01.1)
theorem sp_rk_lt {n : Nat} {p f : Int → Int} {k j : Int} (h0 : 0 ≤ k) (h1 : k < n) (hp : p k = 1) (hb : sp_bf f k j) : sp_rk n p f k < sp_rk n p f j := by
  have h2 := rd_sm_add (w := fun i => if p i = 1 ∧ sp_bf f i k then 1 else 0) (k := k) (a := 1) n h0 h1
  have h3 := rd_sm_le (f := fun i => if i = k then (if p i = 1 ∧ sp_bf f i k then 1 else 0) + 1 else (if p i = 1 ∧ sp_bf f i k then 1 else 0)) (g := fun i => if p i = 1 ∧ sp_bf f i j then 1 else 0) n (fun i a b => by
    by_cases hi : i = k
    · subst hi
      rw [if_pos rfl, if_neg (by omega), if_pos ⟨hp, hb⟩]; omega
    · rw [if_neg hi]
      by_cases hq : p i = 1 ∧ sp_bf f i k
      · rw [if_pos hq, if_pos ⟨hq.1, by omega⟩]; omega
      · rw [if_neg hq]; exact rd_01.1)
  unfold sp_rk
  omega
theorem sp_least {f : Int → Int} {q : Int → Prop} : ∀ (n : Nat), (∃ k : Int, 0 ≤ k ∧ k < n ∧ q k) → ∃ k : Int, 0 ≤ k ∧ k < n ∧ q k ∧ ∀ j : Int, 0 ≤ j → j < n → q j → ¬ sp_bf f j k
  | 0, h => by obtain ⟨k, a, b, _⟩ := h; omega
  | n + 1, h => by
    by_cases hn : ∃ k : Int, 0 ≤ k ∧ k < n ∧ q k
    · obtain ⟨k, k0, k1, kq, km⟩ := sp_least (f := f) n hn
      by_cases hq : q n ∧ sp_bf f n k
      · refine ⟨n, by omega, by omega, hq.1, fun j a b c => ?_⟩
        by_cases hj : j = n
        · subst hj; omega
        · have := km j a (by omega) c
          have := hq.2
          omega
      · refine ⟨k, k0, by omega, kq, fun j a b c => ?_⟩
        by_cases hj : j = n
        · subst hj; exact fun hb => hq ⟨c, hb⟩
        · exact km j a (by omega) c
    · obtain ⟨k, k0, k1, kq⟩ := h
      have hk : k = n := by
        by_cases hk : k = n
        · exact hk
        · exact absurd ⟨k, k0, by omega, kq⟩ hn
      subst hk
      refine ⟨n, by omega, by omega, kq, fun j a b c => ?_⟩
      by_cases hj : j = n
      · subst hj; omega
      · exact absurd ⟨j, a, by omega, c⟩ hn
theorem sp_rk_eq {n : Nat} {p f : Int → Int} {k c : Int} (hs : rd_sm (fun j => if p j = 1 ∧ sp_rk n p f j < c then 1 else 0) n = c) (h0 : 0 ≤ k) (h1 : k < n) (hp : p k = 1) (hc : c ≤ sp_rk n p f k) (hm : ∀ j : Int, 0 ≤ j → j < n → p j = 1 → c ≤ sp_rk n p f j → ¬ sp_bf f j k) : sp_rk n p f k = c := by
  rw [← hs]
  show rd_sm _ n = _
  refine rd_sm_c n (fun j a b => ?_)
  by_cases hj : p j = 1
  · by_cases hb : sp_bf f j k
    · have hz : sp_rk n p f j < c := by
        by_cases hz : sp_rk n p f j < c
        · exact hz
        · exact absurd hb (hm j a b hj (by omega))
      rw [if_pos ⟨hj, hb⟩, if_pos ⟨hj, hz⟩]
    · rw [if_neg (fun z => hb z.2), if_neg (fun z => ?_)]
      by_cases hk : j = k
      · subst hk; omega
      · have := sp_rk_lt (n := n) (j := j) (f := f) h0 h1 hp (by omega)
        omega
  · rw [if_neg (fun z => hj z.1), if_neg (fun z => hj z.1)]
theorem sp_rk_c {n : Nat} {p f : Int → Int} : ∀ (c : Nat), (c : Int) ≤ sp_cn n p → rd_sm (fun j => if p j = 1 ∧ sp_rk n p f j < c then 1 else 0) n = c
  | 0, _ => rd_sm_z n (fun i a b => if_neg (fun z => by have := sp_rk_nn (n := n) (p := p) (f := f) (k := i); omega))
  | c + 1, h => by
    have ih := sp_rk_c (n := n) (p := p) (f := f) c (by omega)
    have he : ∃ k : Int, 0 ≤ k ∧ k < n ∧ (p k = 1 ∧ (c : Int) ≤ sp_rk n p f k) := by
      refine Classical.byContradiction (fun hne => ?_)
      have : sp_cn n p = c := by
        rw [← ih]
        refine rd_sm_c n (fun j a b => ?_)
        by_cases hj : p j = 1
        · have hz : sp_rk n p f j < c := by
            by_cases hz : sp_rk n p f j < c
            · exact hz
            · exact absurd ⟨j, a, b, hj, by omega⟩ hne
          rw [if_pos hj, if_pos ⟨hj, hz⟩]
        · rw [if_neg hj, if_neg (fun z => hj z.1)]
      omega
    obtain ⟨k, k0, k1, ⟨kp, kc⟩, km⟩ := sp_least (f := f) n he
    have hk := sp_rk_eq ih k0 k1 kp kc (fun j a b hj hc => km j a b ⟨hj, hc⟩)
    have ha := rd_sm_add (w := fun j => if p j = 1 ∧ sp_rk n p f j < c then 1 else 0) (k := k) (a := 1) n k0 k1
    rw [ih] at ha
    rw [show ((c + 1 : Nat) : Int) = (c : Int) + 1 by omega, ← ha]
    refine rd_sm_c n (fun j a b => ?_)
    by_cases hj : j = k
    · subst hj
      rw [if_pos ⟨kp, by omega⟩, if_pos rfl, if_neg (by omega)]; rfl
    · rw [if_neg hj]
      by_cases hp : p j = 1
      · by_cases hz : sp_rk n p f j < c
        · rw [if_pos ⟨hp, by omega⟩, if_pos ⟨hp, hz⟩]
        · have : sp_rk n p f j ≠ c := by
            intro hh
            by_cases hb : sp_bf f j k
            · have := sp_rk_lt (n := n) (f := f) a b hp hb; omega
            · have := sp_rk_lt (n := n) (j := j) (f := f) k0 k1 kp (by omega); omega
          rw [if_neg (by omega), if_neg (by omega)]
      · rw [if_neg (fun z => hp z.1), if_neg (fun z => hp z.1)]
/-- the next one that gets a cent is the one whose rank is c -/
theorem sp_rk_next {n : Nat} {p f : Int → Int} {k c : Int} (hc0 : 0 ≤ c) (hc1 : c ≤ sp_cn n p) (h0 : 0 ≤ k) (h1 : k < n) (hp : p k = 1) (hc : c ≤ sp_rk n p f k) (hm : ∀ j : Int, 0 ≤ j → j < n → p j = 1 → c ≤ sp_rk n p f j → ¬ sp_bf f j k) : sp_rk n p f k = c := by
  refine sp_rk_eq ?_ h0 h1 hp hc hm
  have h := sp_rk_c (n := n) (p := p) (f := f) c.toNat (by omega)
  rw [show ((c.toNat : Nat) : Int) = c by omega] at h
  exact h
theorem sp_rk_ex {n : Nat} {p f : Int → Int} {c : Int} (hc0 : 0 ≤ c) (hc1 : c < sp_cn n p) : ∃ k : Int, 0 ≤ k ∧ k < n ∧ p k = 1 ∧ c ≤ sp_rk n p f k := by
  refine Classical.byContradiction (fun hne => ?_)
  have ih := sp_rk_c (n := n) (p := p) (f := f) c.toNat (by omega)
  rw [show ((c.toNat : Nat) : Int) = c by omega] at ih
  have : sp_cn n p = c := by
    rw [← ih]
    refine rd_sm_c n (fun j a b => ?_)
    by_cases hj : p j = 1
    · have hz : sp_rk n p f j < c := by
        by_cases hz : sp_rk n p f j < c
        · exact hz
        · exact absurd ⟨j, a, b, hj, by omega⟩ hne
      rw [if_pos hj, if_pos ⟨hj, hz⟩]
    · rw [if_neg hj, if_neg (fun z => hj z.1)]
  omega
theorem sp_rk_inj {n : Nat} {p f : Int → Int} {j k : Int} (j0 : 0 ≤ j) (j1 : j < n) (k0 : 0 ≤ k) (k1 : k < n) (pj : p j = 1) (pk : p k = 1) (h : sp_rk n p f j = sp_rk n p f k) : j = k := by
  by_cases hjk : j = k
  · exact hjk
  · by_cases hb : sp_bf f j k
    · have := sp_rk_lt (n := n) (f := f) j0 j1 pj hb; omega
    · have := sp_rk_lt (n := n) (j := j) (f := f) k0 k1 pk (by omega); omega
/-- the sum over those that p tells -/
def sp_sum (n : Nat) (p κ : Int → Int) : Int := rd_sm (fun k => if p k = 1 then κ k else 0) n
def sp_q (κ : Int → Int) (v all k : Int) : Int := (κ k * v).tdiv all
def sp_r (κ : Int → Int) (v all k : Int) : Int := (κ k * v).tmod all
def sp_ov (n : Nat) (p κ : Int → Int) (v all : Int) : Int := v - sp_sum n p (sp_q κ v all)
/-- v, spread over those that p tells by what is kept of them -/
def sp_spr (n : Nat) (p κ : Int → Int) (v all k : Int) : Int :=
  if all ≤ 0 then 0 else if p k = 1 then sp_q κ v all k + (if sp_rk n p (sp_r κ v all) k < sp_ov n p κ v all then 1 else 0) else 0
theorem sp_qr {κ : Int → Int} {v all k : Int} (hk : 0 ≤ κ k) (hv : 0 ≤ v) (hva : v ≤ all) (ha : 0 < all) : κ k * v = all * sp_q κ v all k + sp_r κ v all k ∧ 0 ≤ sp_r κ v all k ∧ sp_r κ v all k < all ∧ 0 ≤ sp_q κ v all k ∧ sp_q κ v all k ≤ κ k ∧ (0 < sp_r κ v all k → sp_q κ v all k < κ k) := by
  have hm := Int.mul_nonneg hk hv
  have e := Int.mul_tdiv_add_tmod (κ k * v) all
  have r0 : 0 ≤ (κ k * v).tmod all := Int.tmod_nonneg _ hm
  have r1 : (κ k * v).tmod all < all := Int.tmod_lt_of_pos _ ha
  have q0 : 0 ≤ (κ k * v).tdiv all := (rd_tdivb hm ha).1
  have hle : κ k * v ≤ κ k * all := Int.mul_le_mul_of_nonneg_left hva hk
  have hq : ∀ z, κ k + z ≤ (κ k * v).tdiv all → all * (κ k + z) ≤ all * (κ k * v).tdiv all := fun z hz => Int.mul_le_mul_of_nonneg_left hz (by omega)
  have hcm : κ k * all = all * κ k := Int.mul_comm _ _
  refine ⟨e.symm, r0, r1, q0, ?_, fun hr => ?_⟩
  · show (κ k * v).tdiv all ≤ κ k
    by_cases hz : κ k + 1 ≤ (κ k * v).tdiv all
    · have := hq 1 hz
      rw [Int.mul_add] at this
      omega
    · omega
  · show (κ k * v).tdiv all < κ k
    have hr' : 0 < (κ k * v).tmod all := hr
    by_cases hz : κ k + 0 ≤ (κ k * v).tdiv all
    · have := hq 0 hz
      rw [Int.mul_add] at this
      omega
    · omega
theorem sp_sum_c {n : Nat} {p κ κ' : Int → Int} (h : ∀ k : Int, 0 ≤ k → k < n → p k = 1 → κ k = κ' k) : sp_sum n p κ = sp_sum n p κ' := by
  refine rd_sm_c n (fun k a b => ?_)
  by_cases hp : p k = 1
  · rw [if_pos hp, if_pos hp, h k a b hp]
  · rw [if_neg hp, if_neg hp]
theorem sp_sum_p {n : Nat} {p f g : Int → Int} : sp_sum n p (fun k => f k + g k) = sp_sum n p f + sp_sum n p g := by
  unfold sp_sum
  rw [← rd_sm_p]
  refine rd_sm_c n (fun k a b => ?_)
  by_cases hp : p k = 1
  · rw [if_pos hp, if_pos hp, if_pos hp]
  · rw [if_neg hp, if_neg hp, if_neg hp]; rfl
theorem sp_sum_m {n : Nat} {p f : Int → Int} {c : Int} : sp_sum n p (fun k => c * f k) = c * sp_sum n p f := by
  unfold sp_sum
  rw [← rd_sm_m]
  refine rd_sm_c n (fun k a b => ?_)
  by_cases hp : p k = 1
  · rw [if_pos hp, if_pos hp]
  · rw [if_neg hp, if_neg hp, Int.mul_zero]
/-- what rounding leaves is no more than there are remainders -/
theorem sp_ov_b {n : Nat} {p κ : Int → Int} {v : Int} (hk : ∀ k : Int, 0 ≤ k → k < n → p k = 1 → 0 ≤ κ k) (hv : 0 ≤ v) (hva : v ≤ sp_sum n p κ) (ha : 0 < sp_sum n p κ) : 0 ≤ sp_ov n p κ v (sp_sum n p κ) ∧ sp_ov n p κ v (sp_sum n p κ) ≤ rd_sm (fun k => if p k = 1 ∧ 0 < sp_r κ v (sp_sum n p κ) k then 1 else 0) n := by
  generalize hall : sp_sum n p κ = all at *
  have h1 : sp_sum n p (fun k => v * κ k) = v * all := by rw [sp_sum_m, hall]
  have h2 : sp_sum n p (fun k => v * κ k) = all * sp_sum n p (sp_q κ v all) + sp_sum n p (sp_r κ v all) := by
    rw [← sp_sum_m, ← sp_sum_p]
    refine sp_sum_c (fun k a b hp => ?_)
    rw [Int.mul_comm]
    exact (sp_qr (hk k a b hp) hv hva ha).1
  have h3 : all * sp_ov n p κ v all = sp_sum n p (sp_r κ v all) := by
    unfold sp_ov
    rw [Int.mul_sub, Int.mul_comm all v]
    omega
  have h4 : 0 ≤ sp_sum n p (sp_r κ v all) := rd_sm_nn n (fun k a b => by
    by_cases hp : p k = 1
    · rw [if_pos hp]; exact (sp_qr (hk k a b hp) hv hva ha).2.1
    · rw [if_neg hp]; exact Int.le_refl _)
  have h5 : sp_sum n p (sp_r κ v all) ≤ all * rd_sm (fun k => if p k = 1 ∧ 0 < sp_r κ v all k then 1 else 0) n := by
    rw [← rd_sm_m]
    refine rd_sm_le n (fun k a b => ?_)
    by_cases hp : p k = 1
    · obtain ⟨_, r0, r1, _⟩ := sp_qr (hk k a b hp) hv hva ha
      by_cases hr : 0 < sp_r κ v all k
      · rw [if_pos hp, if_pos ⟨hp, hr⟩]; omega
      · rw [if_pos hp, if_neg (fun z => hr z.2)]; omega
    · rw [if_neg hp, if_neg (fun z => hp z.1)]; omega
  rw [← h3] at h4 h5
  exact ⟨Int.nonneg_of_mul_nonneg_right h4 ha, Int.le_of_mul_le_mul_left h5 ha⟩
theorem sp_ov_cn {n : Nat} {p κ : Int → Int} {v : Int} (hk : ∀ k : Int, 0 ≤ k → k < n → p k = 1 → 0 ≤ κ k) (hv : 0 ≤ v) (hva : v ≤ sp_sum n p κ) (ha : 0 < sp_sum n p κ) : 0 ≤ sp_ov n p κ v (sp_sum n p κ) ∧ sp_ov n p κ v (sp_sum n p κ) ≤ sp_cn n p := by
  have h := sp_ov_b hk hv hva ha
  have h1 : rd_sm (fun k => if p k = 1 ∧ 0 < sp_r κ v (sp_sum n p κ) k then 1 else 0) n ≤ sp_cn n p := rd_sm_le n (fun k a b => by
    by_cases hp : p k = 1
    · rw [if_pos hp]; exact rd_01.2
    · rw [if_neg hp, if_neg (fun z => hp z.1)]; omega)
  exact ⟨h.1, Int.le_trans h.2 h1⟩
/-- each gives from none to all that is kept of it -/
theorem sp_spr_b {n : Nat} {p κ : Int → Int} {v k : Int} (hk : ∀ k : Int, 0 ≤ k → k < n → p k = 1 → 0 ≤ κ k) (hv : 0 ≤ v) (hva : v ≤ sp_sum n p κ) (k0 : 0 ≤ k) (k1 : k < n) (kk : 0 ≤ κ k) : 0 ≤ sp_spr n p κ v (sp_sum n p κ) k ∧ sp_spr n p κ v (sp_sum n p κ) k ≤ κ k := by
  unfold sp_spr
  by_cases ha : sp_sum n p κ ≤ 0
  · rw [if_pos ha]; omega
  · rw [if_neg ha]
    by_cases hp : p k = 1
    · rw [if_pos hp]
      obtain ⟨_, r0, r1, q0, q1, q2⟩ := sp_qr kk hv hva (by omega)
      by_cases hr : 0 < sp_r κ v (sp_sum n p κ) k
      · have := q2 hr
        have := rd_01 (P := sp_rk n p (sp_r κ v (sp_sum n p κ)) k < sp_ov n p κ v (sp_sum n p κ))
        omega
      · rw [if_neg]
        · omega
        · have h1 := (sp_ov_b hk hv hva (by omega)).2
          have h2 : rd_sm (fun j => if p j = 1 ∧ 0 < sp_r κ v (sp_sum n p κ) j then 1 else 0) n ≤ sp_rk n p (sp_r κ v (sp_sum n p κ)) k := rd_sm_le n (fun j a b => by
            by_cases hj : p j = 1 ∧ 0 < sp_r κ v (sp_sum n p κ) j
            · rw [if_pos hj, if_pos ⟨hj.1, by omega⟩]; omega
            · rw [if_neg hj]; exact rd_01.1)
          omega
    · rw [if_neg hp]; omega
/-- all of v is given -/
theorem sp_spr_s {n : Nat} {p κ : Int → Int} {v : Int} (hk : ∀ k : Int, 0 ≤ k → k < n → p k = 1 → 0 ≤ κ k) (hv : 0 ≤ v) (hva : v ≤ sp_sum n p κ) : rd_sm (sp_spr n p κ v (sp_sum n p κ)) n = v := by
  by_cases ha : sp_sum n p κ ≤ 0
  · rw [rd_sm_z (w := sp_spr n p κ v (sp_sum n p κ)) n (fun i a b => if_pos ha)]; omega
  · have ho := sp_ov_cn hk hv hva (by omega)
    have hc := sp_rk_c (n := n) (p := p) (f := sp_r κ v (sp_sum n p κ)) (sp_ov n p κ v (sp_sum n p κ)).toNat (by omega)
    rw [show (((sp_ov n p κ v (sp_sum n p κ)).toNat : Nat) : Int) = sp_ov n p κ v (sp_sum n p κ) by omega] at hc
    have h1 : rd_sm (sp_spr n p κ v (sp_sum n p κ)) n = sp_sum n p (sp_q κ v (sp_sum n p κ)) + sp_ov n p κ v (sp_sum n p κ) := by
      refine Eq.trans ?_ (congrArg (fun z => sp_sum n p (sp_q κ v (sp_sum n p κ)) + z) hc)
      show _ = rd_sm _ n + rd_sm _ n
      rw [← rd_sm_p]
      refine rd_sm_c n (fun j a b => ?_)
      unfold sp_spr
      rw [if_neg ha]
      by_cases hp : p j = 1
      · rw [if_pos hp, if_pos hp]
        by_cases hr : sp_rk n p (sp_r κ v (sp_sum n p κ)) j < sp_ov n p κ v (sp_sum n p κ)
        · rw [if_pos hr, if_pos ⟨hp, hr⟩]
        · rw [if_neg hr, if_neg (fun z => hr z.2)]
      · rw [if_neg hp, if_neg hp, if_neg (fun z => hp z.1)]; rfl
    rw [h1]; unfold sp_ov; omega
end
section
/-! pure: what a treaty takes of each claim -/
/-- claims that count for the year y -/
def sp_in (d : rd_M) (y k : Int) : Int := if sp_cnt d y k then 1 else 0
/-- claims that count and are of the event e -/
def sp_inE (d : rd_M) (y e k : Int) : Int := if sp_cnt d y k ∧ d 4 k = e then 1 else 0
/-- of these, those from the hour h on in 72 hours -/
def sp_inW (d : rd_M) (y e h k : Int) : Int := if sp_inE d y e k = 1 ∧ h ≤ d 5 k ∧ d 5 k < h + 72 then 1 else 0
abbrev sp_Tt (d : rd_M) (t v : Int) : Int := sp_T (d 11 t) (d 12 t) (d 13 t) v
abbrev sp_Lt (d : rd_M) (t v : Int) : Int := sp_layer (d 10 t) (d 11 t) v
/-- terms that no treaty goes beyond -/
def sp_tm (d : rd_M) (t : Int) : Prop := (0 ≤ d 8 t ∧ d 8 t ≤ 4) ∧ (0 ≤ d 10 t ∧ d 10 t ≤ 1000000000) ∧ (0 ≤ d 11 t ∧ d 11 t ≤ 1000000000) ∧ (0 ≤ d 12 t ∧ d 12 t ≤ 5) ∧ (0 ≤ d 13 t ∧ d 13 t ≤ 1000000000) ∧ (d 8 t = 0 → d 10 t ≤ 1000000)
theorem sp_tm.lim {d : rd_M} {t : Int} (h : sp_tm d t) : 0 ≤ d 11 t * (1 + d 12 t) ∧ d 11 t * (1 + d 12 t) ≤ 1000000000 * 6 := rd_mulb h.2.2.1.1 h.2.2.1.2 (by have := h.2.2.2.1; omega) (by have := h.2.2.2.1; omega)
theorem sp_Lt_b {d : rd_M} {t v : Int} (h : sp_tm d t) (hv : 0 ≤ v) : 0 ≤ sp_Lt d t v ∧ sp_Lt d t v ≤ v ∧ sp_Lt d t v ≤ 1000000000 := by
  obtain ⟨_, ha, hb, _⟩ := h
  show 0 ≤ sp_layer _ _ _ ∧ sp_layer _ _ _ ≤ _ ∧ sp_layer _ _ _ ≤ _
  unfold sp_layer
  omega
theorem sp_Tt_0 {d : rd_M} {t : Int} (h : sp_tm d t) : sp_Tt d t 0 = 0 := by
  have hl := h.lim
  obtain ⟨_, ha, hb, hc, hd, _⟩ := h
  show sp_T _ _ _ _ = 0
  unfold sp_T
  omega
theorem sp_Tt_b {d : rd_M} {t B l : Int} (h : sp_tm d t) (hB : 0 ≤ B) (hl : 0 ≤ l) : 0 ≤ sp_Tt d t B ∧ sp_Tt d t B ≤ B ∧ sp_Tt d t B ≤ sp_Tt d t (B + l) ∧ sp_Tt d t (B + l) ≤ sp_Tt d t B + l := by
  have hL := h.lim
  obtain ⟨_, ha, hb, hc, hd, _⟩ := h
  show 0 ≤ sp_T _ _ _ _ ∧ sp_T _ _ _ _ ≤ B ∧ sp_T _ _ _ _ ≤ sp_T _ _ _ _ ∧ sp_T _ _ _ _ ≤ sp_T _ _ _ _ + l
  unfold sp_T
  omega
/-- layers of the claims before k -/
def sp_xB (d : rd_M) (n : Nat) (t : Int) (κ : Int → Int) (k : Int) : Int := rd_sm (fun j => if sp_in d (d 9 t) j = 1 ∧ sp_bf (fun i => - d 5 i) j k then sp_Lt d t (κ j) else 0) n
def sp_tkX (d : rd_M) (n : Nat) (t : Int) (κ : Int → Int) (k : Int) : Int := if sp_in d (d 9 t) k = 1 then sp_Tt d t (sp_xB d n t κ k + sp_Lt d t (κ k)) - sp_Tt d t (sp_xB d n t κ k) else 0
theorem sp_tkX_b {d : rd_M} {n : Nat} {t k : Int} {κ : Int → Int} (h : sp_tm d t) (hk : ∀ j : Int, 0 ≤ j → j < n → 0 ≤ κ j) (k0 : 0 ≤ k) (k1 : k < n) : 0 ≤ sp_tkX d n t κ k ∧ sp_tkX d n t κ k ≤ κ k := by
  have hl := sp_Lt_b h (hk k k0 k1)
  unfold sp_tkX
  by_cases hi : sp_in d (d 9 t) k = 1
  · have hB : 0 ≤ sp_xB d n t κ k := rd_sm_nn n (fun j a b => by
      by_cases hj : sp_in d (d 9 t) j = 1 ∧ sp_bf (fun i => - d 5 i) j k
      · rw [if_pos hj]; exact (sp_Lt_b h (hk j a b)).1
      · rw [if_neg hj]; exact Int.le_refl _)
    have := sp_Tt_b h hB hl.1
    rw [if_pos hi]
    omega
  · rw [if_neg hi]; have := hk k k0 k1; omega
/-- what a stop loss takes -/
def sp_tkS (d : rd_M) (n : Nat) (t : Int) (κ : Int → Int) (k : Int) : Int := sp_spr n (sp_in d (d 9 t)) κ (sp_Lt d t (sp_sum n (sp_in d (d 9 t)) κ)) (sp_sum n (sp_in d (d 9 t)) κ) k
/-- the sum in the window from h on -/
def sp_W (d : rd_M) (n : Nat) (y e : Int) (κ : Int → Int) (h : Int) : Int := sp_sum n (sp_inW d y e h) κ
/-- where the window of the event starts, as the claims below i have it -/
def sp_st (d : rd_M) (n : Nat) (y e : Int) (κ : Int → Int) : Nat → Int
  | 0 => -1
  | i + 1 => if sp_inE d y e i = 1 ∧ (sp_st d n y e κ i < 0 ∨ sp_W d n y e κ (sp_st d n y e κ i) < sp_W d n y e κ (d 5 i) ∨ (sp_W d n y e κ (d 5 i) = sp_W d n y e κ (sp_st d n y e κ i) ∧ d 5 i < sp_st d n y e κ i)) then d 5 i else sp_st d n y e κ i
/-- the events below e + 1: what was taken of each claim, and the layers -/
def sp_ev (d : rd_M) (n : Nat) (t : Int) (κ : Int → Int) : Nat → (Int → Int) × Int
  | 0 => (fun _ => 0, 0)
  | e + 1 =>
    let w := (sp_ev d n t κ e).1
    let l := (sp_ev d n t κ e).2
    let κ' := fun k => κ k - w k
    let at' := sp_st d n (d 9 t) (e + 1) κ' n
    let all := sp_W d n (d 9 t) (e + 1) κ' at'
    if at' < 0 then (w, l) else (fun k => w k + sp_spr n (sp_inW d (d 9 t) (e + 1) at') κ' (sp_Tt d t (l + sp_Lt d t all) - sp_Tt d t l) all k, l + sp_Lt d t all)
def sp_tkE (d : rd_M) (n : Nat) (t : Int) (κ : Int → Int) (k : Int) : Int := (sp_ev d n t κ 9).1 k
/-- the kept sums of claims before the event e is looked at -/
def sp_evK (d : rd_M) (n : Nat) (t : Int) (κ : Int → Int) (e : Nat) (k : Int) : Int := κ k - (sp_ev d n t κ e).1 k
/-- the window of the event e -/
def sp_evO (d : rd_M) (n : Nat) (t : Int) (κ : Int → Int) (e : Nat) : Int := sp_st d n (d 9 t) (e + 1) (sp_evK d n t κ e) n
def sp_evA (d : rd_M) (n : Nat) (t : Int) (κ : Int → Int) (e : Nat) : Int := sp_W d n (d 9 t) (e + 1) (sp_evK d n t κ e) (sp_evO d n t κ e)
def sp_evV (d : rd_M) (n : Nat) (t : Int) (κ : Int → Int) (e : Nat) : Int := sp_Tt d t ((sp_ev d n t κ e).2 + sp_Lt d t (sp_evA d n t κ e)) - sp_Tt d t (sp_ev d n t κ e).2
theorem sp_ev_n {d : rd_M} {n : Nat} {t : Int} {κ : Int → Int} {e : Nat} (h : sp_evO d n t κ e < 0) : sp_ev d n t κ (e + 1) = sp_ev d n t κ e := by
  show (if sp_evO d n t κ e < 0 then _ else _) = _
  rw [if_pos h]
theorem sp_ev_p {d : rd_M} {n : Nat} {t : Int} {κ : Int → Int} {e : Nat} (h : ¬ sp_evO d n t κ e < 0) : sp_ev d n t κ (e + 1) = (fun k => (sp_ev d n t κ e).1 k + sp_spr n (sp_inW d (d 9 t) (e + 1) (sp_evO d n t κ e)) (sp_evK d n t κ e) (sp_evV d n t κ e) (sp_evA d n t κ e) k, (sp_ev d n t κ e).2 + sp_Lt d t (sp_evA d n t κ e)) := by
  show (if sp_evO d n t κ e < 0 then _ else _) = _
  rw [if_neg h]
  rfl
theorem sp_sum_nn {n : Nat} {p κ : Int → Int} (h : ∀ k : Int, 0 ≤ k → k < n → 0 ≤ κ k) : 0 ≤ sp_sum n p κ := rd_sm_nn n (fun k a b => by
  by_cases hp : p k = 1
  · rw [if_pos hp]; exact h k a b
  · rw [if_neg hp]; exact Int.le_refl _)
theorem sp_sum_hi {n : Nat} {p κ : Int → Int} (h : ∀ k : Int, 0 ≤ k → k < n → 0 ≤ κ k ∧ κ k ≤ 1000000000) : sp_sum n p κ ≤ n * 1000000000 := (rd_sm_b (A := 0) (B := 1000000000) n (fun k a b => by
  by_cases hp : p k = 1
  · rw [if_pos hp]; exact h k a b
  · rw [if_neg hp]; omega)).2
/-- behind e events: what is kept is from none to all, the layers are so much, and the treaty has taken what they allow -/
theorem sp_ev_b {d : rd_M} {n : Nat} {t : Int} {κ : Int → Int} (h : sp_tm d t) (hk : ∀ j : Int, 0 ≤ j → j < n → 0 ≤ κ j) : ∀ e : Nat, (∀ k : Int, 0 ≤ k → k < n → 0 ≤ (sp_ev d n t κ e).1 k ∧ (sp_ev d n t κ e).1 k ≤ κ k) ∧ 0 ≤ (sp_ev d n t κ e).2 ∧ (sp_ev d n t κ e).2 ≤ e * 1000000000 ∧ rd_sm (sp_ev d n t κ e).1 n = sp_Tt d t (sp_ev d n t κ e).2
  | 0 => by
    refine ⟨fun k a b => ⟨Int.le_refl _, hk k a b⟩, Int.le_refl _, Int.le_refl _, ?_⟩
    show rd_sm (fun _ => 0) n = sp_Tt d t 0
    rw [sp_Tt_0 h, rd_sm_z n (fun _ _ _ => rfl)]
  | e + 1 => by
    obtain ⟨i1, i2, i3, i4⟩ := sp_ev_b h hk e
    by_cases ho : sp_evO d n t κ e < 0
    · rw [sp_ev_n ho]
      exact ⟨i1, i2, by omega, i4⟩
    · rw [sp_ev_p ho]
      have kn : ∀ k : Int, 0 ≤ k → k < n → 0 ≤ sp_evK d n t κ e k := fun k a b => by
        have := i1 k a b
        unfold sp_evK; omega
      have hA : 0 ≤ sp_evA d n t κ e := sp_sum_nn kn
      have hL := sp_Lt_b h hA
      have hT := sp_Tt_b h i2 hL.1
      have hV : 0 ≤ sp_evV d n t κ e ∧ sp_evV d n t κ e ≤ sp_evA d n t κ e := by unfold sp_evV; omega
      have hs := sp_spr_s (n := n) (p := sp_inW d (d 9 t) (e + 1) (sp_evO d n t κ e)) (κ := sp_evK d n t κ e) (v := sp_evV d n t κ e) (fun k a b _ => kn k a b) hV.1 hV.2
      refine ⟨fun k a b => ?_, by show 0 ≤ _ + _; omega, by show _ + _ ≤ _; omega, ?_⟩
      · have hb := sp_spr_b (n := n) (p := sp_inW d (d 9 t) (e + 1) (sp_evO d n t κ e)) (κ := sp_evK d n t κ e) (v := sp_evV d n t κ e) (fun k a b _ => kn k a b) hV.1 hV.2 a b (kn k a b)
        have := i1 k a b
        have hb1 : 0 ≤ sp_spr n (sp_inW d (d 9 t) (e + 1) (sp_evO d n t κ e)) (sp_evK d n t κ e) (sp_evV d n t κ e) (sp_evA d n t κ e) k ∧ sp_spr n (sp_inW d (d 9 t) (e + 1) (sp_evO d n t κ e)) (sp_evK d n t κ e) (sp_evV d n t κ e) (sp_evA d n t κ e) k ≤ κ k - (sp_ev d n t κ e).1 k := hb
        show 0 ≤ _ + _ ∧ _ + _ ≤ _
        omega
      · show rd_sm (fun k => (sp_ev d n t κ e).1 k + sp_spr n (sp_inW d (d 9 t) (e + 1) (sp_evO d n t κ e)) (sp_evK d n t κ e) (sp_evV d n t κ e) (sp_evA d n t κ e) k) n = sp_Tt d t ((sp_ev d n t κ e).2 + sp_Lt d t (sp_evA d n t κ e))
        rw [rd_sm_p, i4]
        have hs1 : rd_sm (fun k => sp_spr n (sp_inW d (d 9 t) (e + 1) (sp_evO d n t κ e)) (sp_evK d n t κ e) (sp_evV d n t κ e) (sp_evA d n t κ e) k) n = sp_evV d n t κ e := hs
        rw [hs1]
        unfold sp_evV
        omega
/-- what the treaty takes of the claim k -/
def sp_tk (d : rd_M) (n : Nat) (t : Int) (κ : Int → Int) : Int → Int :=
  if d 8 t < 2 then sp_tkP d t κ else if d 8 t = 2 then sp_tkX d n t κ else if d 8 t = 3 then sp_tkE d n t κ else sp_tkS d n t κ
theorem sp_tk_b {d : rd_M} {n : Nat} {t k : Int} {κ : Int → Int} (h : sp_tm d t) (hs : ∀ j : Int, 0 ≤ j → j < n → 0 ≤ d 0 (d 3 j) ∧ d 0 (d 3 j) ≤ 1000000000) (hk : ∀ j : Int, 0 ≤ j → j < n → 0 ≤ κ j) (k0 : 0 ≤ k) (k1 : k < n) : 0 ≤ sp_tk d n t κ k ∧ sp_tk d n t κ k ≤ κ k := by
  unfold sp_tk
  by_cases h2 : d 8 t < 2
  · rw [if_pos h2]
    unfold sp_tkP
    have := hk k k0 k1
    by_cases hc : sp_cnt d (d 9 t) k
    · rw [if_pos hc]
      have hp := sp_part_b (k := d 8 t) h.2.1 h.2.2.1 (hs k k0 k1) h.2.2.2.2.2
      exact rd_part_b (hk k k0 k1) hp.1 hp.2
    · rw [if_neg hc]; omega
  · rw [if_neg h2]
    by_cases h3 : d 8 t = 2
    · rw [if_pos h3]; exact sp_tkX_b h hk k0 k1
    · rw [if_neg h3]
      by_cases h4 : d 8 t = 3
      · rw [if_pos h4]; exact (sp_ev_b h hk 9).1 k k0 k1
      · rw [if_neg h4]
        have hA : 0 ≤ sp_sum n (sp_in d (d 9 t)) κ := sp_sum_nn hk
        have hL := sp_Lt_b h hA
        exact sp_spr_b (fun k a b _ => hk k a b) hL.1 hL.2.1 k0 k1 (hk k k0 k1)
theorem sp_spr_out {n : Nat} {p κ : Int → Int} {v all k : Int} (h : p k ≠ 1) : sp_spr n p κ v all k = 0 := by
  unfold sp_spr
  rw [if_neg h]
  split <;> rfl
theorem sp_ev_out {d : rd_M} {n : Nat} {t k : Int} {κ : Int → Int} (h : ¬ sp_cnt d (d 9 t) k) : ∀ e : Nat, (sp_ev d n t κ e).1 k = 0
  | 0 => rfl
  | e + 1 => by
    by_cases ho : sp_evO d n t κ e < 0
    · rw [sp_ev_n ho]; exact sp_ev_out h e
    · rw [sp_ev_p ho]
      show (sp_ev d n t κ e).1 k + sp_spr _ _ _ _ _ _ = 0
      rw [sp_ev_out h e, sp_spr_out]
      · rfl
      · have hE : sp_inE d (d 9 t) (e + 1) k ≠ 1 := by unfold sp_inE; rw [if_neg (fun z => h z.1)]; omega
        unfold sp_inW
        rw [if_neg (fun z => hE z.1)]; omega
/-- of a claim that does not count nothing is taken -/
theorem sp_tk_out {d : rd_M} {n : Nat} {t k : Int} {κ : Int → Int} (h : ¬ sp_cnt d (d 9 t) k) : sp_tk d n t κ k = 0 := by
  have hi : sp_in d (d 9 t) k ≠ 1 := by unfold sp_in; rw [if_neg h]; omega
  unfold sp_tk
  split
  · exact if_neg h
  · split
    · exact if_neg hi
    · split
      · exact sp_ev_out h 9
      · exact sp_spr_out hi
end
section
/-! groups of claims, lowest number first -/
theorem sp_cn_s {n : Nat} {p : Int → Int} : sp_cn (n + 1) p = sp_cn n p + (if p n = 1 then 1 else 0) := rfl
theorem sp_cn_le {p : Int → Int} {a : Nat} : ∀ (b : Nat), a ≤ b → sp_cn a p ≤ sp_cn b p
  | 0, h => by rw [show a = 0 by omega]; exact Int.le_refl _
  | b + 1, h => by
    by_cases hb : a = b + 1
    · rw [hb]; exact Int.le_refl _
    · have := sp_cn_le (p := p) b (a := a) (by omega)
      have := rd_01 (P := p b = 1)
      rw [sp_cn_s]; omega
theorem sp_cn_nn {n : Nat} {p : Int → Int} : 0 ≤ sp_cn n p := rd_sm_nn n (fun _ _ _ => rd_01.1)
theorem sp_cn_hi {n : Nat} {p : Int → Int} : sp_cn n p ≤ n := by
  have := (rd_sm_b (f := fun j => if p j = 1 then 1 else 0) (A := 0) (B := 1) n (fun _ _ _ => rd_01)).2
  unfold sp_cn; omega
theorem sp_cn_k {p : Int → Int} {k : Int} {n : Nat} (h0 : 0 ≤ k) (h1 : k < n) (hp : p k = 1) : sp_cn k.toNat p < sp_cn n p ∧ sp_cn (k + 1).toNat p = sp_cn k.toNat p + 1 := by
  have e : (k + 1).toNat = k.toNat + 1 := by omega
  have h2 := sp_cn_le (p := p) (a := k.toNat + 1) n (by omega)
  have h3 : sp_cn (k.toNat + 1) p = sp_cn k.toNat p + 1 := by
    rw [sp_cn_s, if_pos (by rw [show ((k.toNat : Nat) : Int) = k by omega]; exact hp)]
  rw [e]
  omega
theorem sp_cn_no {p : Int → Int} {a b : Nat} {k : Int} (h : sp_cn a p = sp_cn b p) (h0 : (a : Int) ≤ k) (h1 : k < b) : p k ≠ 1 := by
  intro hp
  have h2 := sp_cn_k (n := b) (p := p) (by omega) h1 hp
  have h3 := sp_cn_le (p := p) (a := a) k.toNat (by omega)
  omega
/-- what a group sums over its first m -/
def sp_gs (n : Nat) (p f : Int → Int) (m : Int) : Int := rd_sm (fun k => if p k = 1 ∧ sp_cn k.toNat p < m then f k else 0) n
/-- G lists those that p tells below n -/
def c_g (G : Int → Int) (n : Nat) (p : Int → Int) : Prop := (∀ m : Int, 0 ≤ m → m < sp_cn n p → 0 ≤ G m ∧ G m < n ∧ p (G m) = 1 ∧ sp_cn (G m).toNat p = m) ∧ (∀ k : Int, 0 ≤ k → k < n → p k = 1 → G (sp_cn k.toNat p) = k)
theorem sp_gs_0 {n : Nat} {p f : Int → Int} : sp_gs n p f 0 = 0 := rd_sm_z n (fun i a b => if_neg (fun z => by have := sp_cn_nn (n := i.toNat) (p := p); omega))
theorem sp_gs_e {n : Nat} {p f : Int → Int} {m : Int} (h : sp_cn n p ≤ m) : sp_gs n p f m = sp_sum n p f := rd_sm_c n (fun k a b => by
  by_cases hp : p k = 1
  · have := sp_cn_k (n := n) (p := p) a b hp
    rw [if_pos hp, if_pos ⟨hp, by omega⟩]
  · rw [if_neg hp, if_neg (fun z => hp z.1)])
theorem sp_gs_s {G : Int → Int} {n : Nat} {p f : Int → Int} {m : Int} (h : c_g G n p) (m0 : 0 ≤ m) (m1 : m < sp_cn n p) : sp_gs n p f (m + 1) = sp_gs n p f m + f (G m) := by
  obtain ⟨g0, g1, gp, gc⟩ := h.1 m m0 m1
  have ha := rd_sm_add (w := fun k => if p k = 1 ∧ sp_cn k.toNat p < m then f k else 0) (k := G m) (a := f (G m)) n g0 g1
  unfold sp_gs
  rw [← ha]
  refine rd_sm_c n (fun j a b => ?_)
  by_cases hj : j = G m
  · rw [if_pos hj, hj, if_pos ⟨gp, by omega⟩, if_neg (by omega)]; omega
  · rw [if_neg hj]
    by_cases hp : p j = 1
    · have hne : sp_cn j.toNat p ≠ m := fun z => hj (by rw [← z]; exact (h.2 j a b hp).symm)
      by_cases hz : sp_cn j.toNat p < m
      · rw [if_pos ⟨hp, by omega⟩, if_pos ⟨hp, hz⟩]
      · rw [if_neg (by omega), if_neg (by omega)]
    · rw [if_neg (fun z => hp z.1), if_neg (fun z => hp z.1)]
theorem c_g_0 {G p : Int → Int} : c_g G 0 p := ⟨fun m a b => by have : sp_cn 0 p = 0 := rfl; omega, fun k a b => by omega⟩
theorem c_g_skip {G p : Int → Int} {a b : Nat} (h : c_g G a p) (hab : a ≤ b) (he : sp_cn a p = sp_cn b p) : c_g G b p := by
  refine ⟨fun m m0 m1 => ?_, fun k k0 k1 kp => ?_⟩
  · have := h.1 m m0 (by omega)
    exact ⟨this.1, by omega, this.2.2⟩
  · by_cases hk : k < a
    · exact h.2 k k0 hk kp
    · exact absurd kp (sp_cn_no he (by omega) k1)
theorem c_g_n {G p : Int → Int} {n : Nat} (h : c_g G n p) (hp : p n ≠ 1) : c_g G (n + 1) p := c_g_skip h (by omega) (by rw [sp_cn_s, if_neg hp]; omega)
theorem c_g_p {G p : Int → Int} {n : Nat} (h : c_g G n p) (hp : p n = 1) : c_g (fun j => if j = sp_cn n p then (n : Int) else G j) (n + 1) p := by
  have hs : sp_cn (n + 1) p = sp_cn n p + 1 := by rw [sp_cn_s, if_pos hp]
  refine ⟨fun m m0 m1 => ?_, fun k k0 k1 kp => ?_⟩
  · by_cases hm : m = sp_cn n p
    · simp only [if_pos hm]
      exact ⟨by omega, by omega, hp, by rw [show ((n : Int)).toNat = n by omega]; exact hm.symm⟩
    · simp only [if_neg hm]
      have := h.1 m m0 (by omega)
      exact ⟨this.1, by omega, this.2.2⟩
  · by_cases hk : k = n
    · rw [hk, show ((n : Int)).toNat = n by omega]; exact if_pos rfl
    · have hlt := sp_cn_k (n := n) (p := p) k0 (by omega) kp
      show (if sp_cn k.toNat p = sp_cn n p then _ else _) = k
      rw [if_neg (by omega)]
      exact h.2 k k0 (by omega) kp
/-- the class's group is that of those that p tells -/
def c_G (M : rd_M) (n : Nat) (p : Int → Int) : Prop := M 4 11 = sp_cn n p ∧ c_g (M 30) n p
/-- the same but for rows that are used again -/
def c_sm (M M' : rd_M) : Prop := ∀ q, q ≠ 4 → q ≠ 30 → q ≠ 31 → M q = M' q
theorem c_sm.trans {A B C : rd_M} (h : c_sm A B) (h' : c_sm B C) : c_sm A C := fun q a b c => (h q a b c).trans (h' q a b c)
theorem c_sm.tks {A B : rd_M} {t : Int} {n : Nat} {w : Int → Int} (h : c_sm A B) : c_sm (c_tks A t n w) (c_tks B t n w) := by
  intro q a b c
  unfold c_tks
  rw [h 24 (by decide) (by decide) (by decide), h 25 (by decide) (by decide) (by decide), h 26 (by decide) (by decide) (by decide), h q a b c]
theorem c_tks_tks {M : rd_M} {t : Int} {n : Nat} {w w' : Int → Int} : c_tks (c_tks M t n w) t n w' = c_tks M t n (fun k => w k + w' k) := by
  funext q j
  by_cases h1 : q = 24
  · subst h1
    rw [c_tks_24, c_tks_24, c_tks_24]
    by_cases hj : 0 ≤ j ∧ j < n
    · rw [if_pos hj, if_pos hj, if_pos hj]; omega
    · rw [if_neg hj, if_neg hj, if_neg hj]
  · by_cases h2 : q = 25
    · subst h2
      rw [c_tks_25, c_tks_25, c_tks_25]
      by_cases hj : t * 40 ≤ j ∧ j < t * 40 + n
      · rw [if_pos hj, if_pos hj, if_pos hj]; omega
      · rw [if_neg hj, if_neg hj, if_neg hj]
    · by_cases h3 : q = 26
      · subst h3
        rw [c_tks_26, c_tks_26, c_tks_26, rd_sm_p]
        by_cases hj : j = t
        · rw [if_pos hj, if_pos hj, if_pos hj]; omega
        · rw [if_neg hj, if_neg hj, if_neg hj]
      · rw [c_tks_ne h1 h2 h3, c_tks_ne h1 h2 h3, c_tks_ne h1 h2 h3]
theorem c_tks_up {M : rd_M} {t i v : Int} {n : Nat} {w : Int → Int} {p : Nat} (h1 : p ≠ 24) (h2 : p ≠ 25) (h3 : p ≠ 26) : rd_up (c_tks M t n w) p i v = c_tks (rd_up M p i v) t n w := by
  funext q j
  by_cases e1 : q = 24
  · subst e1
    rw [rd_up_app h1.symm, c_tks_24, c_tks_24, rd_up_app h1.symm]
  · by_cases e2 : q = 25
    · subst e2
      rw [rd_up_app h2.symm, c_tks_25, c_tks_25, rd_up_app h2.symm]
    · by_cases e3 : q = 26
      · subst e3
        rw [rd_up_app h3.symm, c_tks_26, c_tks_26, rd_up_app h3.symm]
      · rw [c_tks_ne e1 e2 e3]
        by_cases hq : q = p
        · subst hq
          rw [rd_up_at, rd_up_at, c_tks_ne e1 e2 e3]
        · rw [rd_up_app hq, rd_up_app hq, c_tks_ne e1 e2 e3]
theorem sp_st_skip {d : rd_M} {n : Nat} {y e : Int} {κ : Int → Int} {a : Nat} : ∀ (b : Nat), a ≤ b → sp_cn a (sp_inE d y e) = sp_cn b (sp_inE d y e) → sp_st d n y e κ b = sp_st d n y e κ a
  | 0, h, _ => by rw [show a = 0 by omega]
  | b + 1, h, he => by
    by_cases hb : a = b + 1
    · rw [hb]
    · have h1 := sp_cn_le (p := sp_inE d y e) (a := a) b (by omega)
      have h2 := sp_cn_le (p := sp_inE d y e) (a := b) (b + 1) (by omega)
      have hn := sp_cn_no (p := sp_inE d y e) (a := b) (b := b + 1) (k := b) (by omega) (by omega) (by omega)
      show (if _ ∧ _ then _ else _) = _
      rw [if_neg (fun z => hn z.1)]
      exact sp_st_skip b (by omega) (by omega)
theorem sp_st_s {d : rd_M} {n : Nat} {y e : Int} {κ : Int → Int} {i : Nat} : sp_st d n y e κ (i + 1) = if sp_inE d y e i = 1 ∧ (sp_st d n y e κ i < 0 ∨ sp_W d n y e κ (sp_st d n y e κ i) < sp_W d n y e κ (d 5 i) ∨ (sp_W d n y e κ (d 5 i) = sp_W d n y e κ (sp_st d n y e κ i) ∧ d 5 i < sp_st d n y e κ i)) then d 5 i else sp_st d n y e κ i := rfl
/-- claims stand by hour, then by number; o tells the place -/
def c_H (M : rd_M) (n : Nat) (o : Int → Int) : Prop := (∀ k : Int, 0 ≤ k → k < n → (0 ≤ o k ∧ o k < n) ∧ M 15 (o k) = k) ∧ (∀ i : Int, 0 ≤ i → i < n → (0 ≤ M 15 i ∧ M 15 i < n) ∧ o (M 15 i) = i) ∧ (∀ i j : Int, 0 ≤ i → i < j → j < n → sp_bf (fun k => - M 12 k) (M 15 i) (M 15 j))
theorem c_I.tm {M : rd_M} {t : Int} (h : c_I M) (hC : c_Q M) (h0 : 0 ≤ t) (h1 : t < 10) : sp_tm (c_d M) t := by
  obtain ⟨a, b, c, e, f, g⟩ := h.treaty h0 h1
  exact ⟨a, c, e, f, g, fun z => hC t h0 h1 z⟩
end
section
/-! cession: claim by claim, and groups -/
theorem c_Y.cnt {M : rd_M} {y k : Int} {n : Nat} (h : c_Y M y) (hn : M 2 0 = n) (h0 : 0 ≤ k) (h1 : k < n) : M 23 k = sp_in (c_d M) y k ∧ (0 ≤ M 24 k ∧ M 24 k ≤ 1000000000) ∧ (¬ sp_cnt (c_d M) y k → M 24 k = 0) := by
  obtain ⟨a, b, c, e⟩ := h k h0 (by omega)
  exact ⟨a, ⟨b, c⟩, e⟩
theorem c_I.n {M : rd_M} {n : Nat} (h : c_I M) (hn : M 2 0 = n) : n ≤ 40 := by
  have h1 := h.1
  omega
theorem sp_in_1 {d : rd_M} {y k : Int} : sp_in d y k = 1 ↔ sp_cnt d y k := by
  unfold sp_in
  by_cases h : sp_cnt d y k
  · rw [if_pos h]; exact ⟨fun _ => h, fun _ => rfl⟩
  · rw [if_neg h]; exact ⟨fun z => by omega, fun z => absurd z h⟩
theorem rd_grow {w : Int → Int} {i j a : Int} (ha : a = w i) : (if j = i then (if j < i then w j else 0) + a else (if j < i then w j else 0)) = if j < i + 1 then w j else 0 := by
  by_cases hj : j = i
  · subst hj; rw [if_pos rfl, if_neg (by omega), if_pos (by omega), ha]; omega
  · rw [if_neg hj]
    by_cases h : j < i
    · rw [if_pos h, if_pos (by omega)]
    · rw [if_neg h, if_neg (by omega)]
theorem rd_grow0 {w : Int → Int} {i j : Int} (ha : w i = 0) : (if j < i then w j else 0) = if j < i + 1 then w j else 0 := by
  by_cases hj : j = i
  · subst hj; rw [if_neg (by omega), if_pos (by omega), ha]
  · by_cases h : j < i
    · rw [if_pos h, if_pos (by omega)]
    · rw [if_neg h, if_neg (by omega)]
theorem sp_in_01 {d : rd_M} {y k : Int} : 0 ≤ sp_in d y k ∧ sp_in d y k ≤ 1 := rd_01

set_option maxHeartbeats 4000000 in
set_option maxRecDepth 100000 in
theorem lq_S_cedePartOfEachClaim {t : Int} {n : Nat} {M : rd_M} {Q : rd_R → rd_M → Prop} (hI : c_I M) (hC : c_Q M) (hn : M 2 0 = n) (hY : c_Y M (M 17 t)) (h0 : 0 ≤ t) (h1 : t < 10) (hQ : Q (.inl none) (c_tks M t n (sp_tkP (c_d M) t (M 24)))) : ∀ (d : Nat) (i : Int) (M1 : rd_M), (n - i).toNat = d → (0 ≤ i) → (i ≤ n) → (M1 = c_tks M t n (fun k => if k < i then (sp_tkP (c_d M) t (M 24)) k else 0)) → rd_G x_S_cedePartOfEachClaim 2 [some (.ref 4), some (rd_i t), some (rd_i i), none, none] [] M1 0 Q := by
  intro d
  induction d using Nat.strongRecOn with
  | ind d ih =>
    intro i M1 hd i0 i1 hM
    have hn40 := hI.n hn
    have hI1 : c_I M1 := hI.of (fun q h => by rw [hM]; exact c_tks_low q h)
    have e2 : M1 2 = M 2 := by rw [hM]; exact c_tks_ne (by decide) (by decide) (by decide)
    have e7 : M1 7 = M 7 := by rw [hM]; exact c_tks_ne (by decide) (by decide) (by decide)
    have e10 : M1 10 = M 10 := by rw [hM]; exact c_tks_ne (by decide) (by decide) (by decide)
    have e16 : M1 16 = M 16 := by rw [hM]; exact c_tks_ne (by decide) (by decide) (by decide)
    have e18 : M1 18 = M 18 := by rw [hM]; exact c_tks_ne (by decide) (by decide) (by decide)
    have e19 : M1 19 = M 19 := by rw [hM]; exact c_tks_ne (by decide) (by decide) (by decide)
    have e23 : M1 23 = M 23 := by rw [hM]; exact c_tks_ne (by decide) (by decide) (by decide)
    refine rd_ildn (pc := 2) d_S_cedePartOfEachClaim_2 rfl ?_
    refine rd_aldn (pc := 3) d_S_cedePartOfEachClaim_3 rfl ?_
    refine rd_getr (pc := 4) d_S_cedePartOfEachClaim_4 fl_S_15 rfl rfl ?_
    refine rd_gi (pc := 7) (ki := 0) d_S_cedePartOfEachClaim_7 fl_S_69 rfl rfl rfl ?_
    first | simp (decide := true) only [rd_up_app, rd_up_hit, e2, e7, e10, e16, e18, e19, e23, e24] | simp (decide := true) only [rd_up_app, rd_up_hit, e2, e7, e10, e16, e18, e19, e23] | skip
    refine rd_icmp_ge (pc := 10) (tgt := 74) d_S_cedePartOfEachClaim_10 rfl ⟨by omega, by omega⟩ ⟨by omega, by omega⟩ (fun h10 => ?_) (fun h10 => ?_)
    · skip
      exact rd_vret (pc := 74) d_S_cedePartOfEachClaim_74 rfl (Nat.le_of_ble_eq_true rfl) (by rw [hM, c_tks_congr (w' := (sp_tkP (c_d M) t (M 24))) (fun j a b => by rw [if_pos (by omega)])]; exact hQ)
    · skip
      have e24 : M1 24 i = M 24 i := by rw [hM, c_tks_24, if_pos (by omega), if_neg (by omega)]; omega
      obtain ⟨y1, y2, y3⟩ := hY.cnt hn i0 (by omega)
      have y4 := sp_in_01 (d := c_d M) (y := M 17 t) (k := i)
      obtain ⟨hr, _⟩ := hI.claim i0 (by omega)
      obtain ⟨hs, hp, hy⟩ := hI.risk hr.1 hr.2
      obtain ⟨hk, hty, ha, hb, hc, hdd⟩ := hI.treaty h0 h1
      have hpt := sp_part_b (k := M 16 t) ha hb hs (fun z => hC t h0 h1 z)
      have hmul := rd_mulb y2.1 y2.2 hpt.1 hpt.2
      refine rd_aldn (pc := 13) d_S_cedePartOfEachClaim_13 rfl ?_
      refine rd_getr (pc := 14) d_S_cedePartOfEachClaim_14 fl_S_23 rfl rfl ?_
      refine rd_ildn (pc := 17) d_S_cedePartOfEachClaim_17 rfl ?_
      refine rd_zald (pc := 18) d_S_cedePartOfEachClaim_18 rfl (by omega) (by omega) ?_
      first | simp (decide := true) only [rd_up_app, rd_up_hit, e2, e7, e10, e16, e18, e19, e23, e24] | simp (decide := true) only [rd_up_app, rd_up_hit, e2, e7, e10, e16, e18, e19, e23] | skip
      refine rd_if_eq (pc := 19) (tgt := 68) d_S_cedePartOfEachClaim_19 rfl ⟨by omega, by omega⟩ (fun h19 => ?_) (fun h19 => ?_)
      · skip
        refine rd_iinc2 (pc := 68) d_S_cedePartOfEachClaim_68 rfl ?_
        refine rd_goto (pc := 71) (tgt := 2) d_S_cedePartOfEachClaim_71 rfl ?_
        refine rd_weak (L' := [some (.ref 4), some (rd_i t), some (rd_i (i + 1)), none, none]) (by simp [rd_le]) ?_
        refine ih _ (by omega) (i + 1) _ rfl (by omega) (by omega) ?_
        subst hM
        first
          | (rw [c_tks_take i0 (by omega)]; exact c_tks_congr (fun j a b => rd_grow (w := (sp_tkP (c_d M) t (M 24))) (if_pos (sp_in_1.1 (show sp_in (c_d M) (M 17 t) i = 1 by omega))).symm))
          | exact c_tks_congr (fun j a b => rd_grow0 (w := (sp_tkP (c_d M) t (M 24))) (if_neg (fun z => absurd (sp_in_1.2 z) (show sp_in (c_d M) (M 17 t) i ≠ 1 by omega))))
      · skip
        refine rd_aldn (pc := 22) d_S_cedePartOfEachClaim_22 rfl ?_
        refine rd_getr (pc := 23) d_S_cedePartOfEachClaim_23 fl_S_19 rfl rfl ?_
        refine rd_ildn (pc := 26) d_S_cedePartOfEachClaim_26 rfl ?_
        refine rd_aldn (pc := 27) d_S_cedePartOfEachClaim_27 rfl ?_
        refine rd_getr (pc := 28) d_S_cedePartOfEachClaim_28 fl_S_9 rfl rfl ?_
        refine rd_getr (pc := 31) d_S_cedePartOfEachClaim_31 fl_S_117 rfl rfl ?_
        refine rd_aldn (pc := 34) d_S_cedePartOfEachClaim_34 rfl ?_
        refine rd_getr (pc := 35) d_S_cedePartOfEachClaim_35 fl_S_15 rfl rfl ?_
        refine rd_getr (pc := 38) d_S_cedePartOfEachClaim_38 fl_S_83 rfl rfl ?_
        refine rd_ildn (pc := 41) d_S_cedePartOfEachClaim_41 rfl ?_
        refine rd_iald (pc := 42) d_S_cedePartOfEachClaim_42 rfl (by omega) (by omega) ?_
        first | simp (decide := true) only [rd_up_app, rd_up_hit, e2, e7, e10, e16, e18, e19, e23, e24] | simp (decide := true) only [rd_up_app, rd_up_hit, e2, e7, e10, e16, e18, e19, e23] | skip
        refine rd_iald (pc := 43) d_S_cedePartOfEachClaim_43 rfl (by omega) (by omega) ?_
        first | simp (decide := true) only [rd_up_app, rd_up_hit, e2, e7, e10, e16, e18, e19, e23, e24] | simp (decide := true) only [rd_up_app, rd_up_hit, e2, e7, e10, e16, e18, e19, e23] | skip
        refine rd_i2l (pc := 44) d_S_cedePartOfEachClaim_44 ⟨by omega, by omega⟩ ?_
        refine rd_callVl (pc := 45) (n' := 0) [_, _] d_S_cedePartOfEachClaim_45 ml_S_120 rfl (Nat.le_of_ble_eq_true rfl) (Nat.le_of_ble_eq_true rfl) (Nat.le_of_ble_eq_true rfl) rfl rfl rfl (Nat.le_of_ble_eq_true rfl) (Nat.le_of_ble_eq_true rfl) ?_
        refine ev_T_partOfRisk hI1 h0 h1 ⟨by omega, by omega⟩ ?_
        refine ⟨_, rfl, ?_⟩
        first | simp (decide := true) only [rd_up_app, rd_up_hit, e2, e7, e10, e16, e18, e19, e23, e24] | simp (decide := true) only [rd_up_app, rd_up_hit, e2, e7, e10, e16, e18, e19, e23] | skip
        refine rd_lst3 (pc := 48) d_S_cedePartOfEachClaim_48 rfl ?_
        refine rd_aldn (pc := 49) d_S_cedePartOfEachClaim_49 rfl ?_
        refine rd_ildn (pc := 50) d_S_cedePartOfEachClaim_50 rfl ?_
        refine rd_ildn (pc := 51) d_S_cedePartOfEachClaim_51 rfl ?_
        refine rd_aldn (pc := 52) d_S_cedePartOfEachClaim_52 rfl ?_
        refine rd_getr (pc := 53) d_S_cedePartOfEachClaim_53 fl_S_27 rfl rfl ?_
        refine rd_ildn (pc := 56) d_S_cedePartOfEachClaim_56 rfl ?_
        refine rd_iald (pc := 57) d_S_cedePartOfEachClaim_57 rfl (by omega) (by omega) ?_
        first | simp (decide := true) only [rd_up_app, rd_up_hit, e2, e7, e10, e16, e18, e19, e23, e24] | simp (decide := true) only [rd_up_app, rd_up_hit, e2, e7, e10, e16, e18, e19, e23] | skip
        refine rd_i2l (pc := 58) d_S_cedePartOfEachClaim_58 ⟨by omega, by omega⟩ ?_
        refine rd_lldn (pc := 59) d_S_cedePartOfEachClaim_59 rfl ?_
        refine rd_lmul (pc := 60) d_S_cedePartOfEachClaim_60 ?_
        refine rd_ldc2 (pc := 61) (v := 1000000) d_S_cedePartOfEachClaim_61 kl_S_124 ?_
        refine rd_ldiv (pc := 64) d_S_cedePartOfEachClaim_64 ⟨by omega, by omega⟩ ⟨by omega, by omega⟩ (by omega) ?_
        refine rd_callVv (pc := 65) (n' := 0) [_, _, _] d_S_cedePartOfEachClaim_65 ml_S_126 rfl (Nat.le_of_ble_eq_true rfl) (Nat.le_of_ble_eq_true rfl) (Nat.le_of_ble_eq_true rfl) rfl rfl rfl (Nat.le_of_ble_eq_true rfl) (Nat.le_of_ble_eq_true rfl) ?_
        refine ev_S_take h0 h1 i0 (by omega) ?_
        refine ⟨rfl, ?_⟩
        first | simp (decide := true) only [rd_up_app, rd_up_hit, e2, e7, e10, e16, e18, e19, e23, e24] | simp (decide := true) only [rd_up_app, rd_up_hit, e2, e7, e10, e16, e18, e19, e23] | skip
        refine rd_iinc2 (pc := 68) d_S_cedePartOfEachClaim_68 rfl ?_
        refine rd_goto (pc := 71) (tgt := 2) d_S_cedePartOfEachClaim_71 rfl ?_
        refine rd_weak (L' := [some (.ref 4), some (rd_i t), some (rd_i (i + 1)), none, none]) (by simp [rd_le]) ?_
        refine ih _ (by omega) (i + 1) _ rfl (by omega) (by omega) ?_
        subst hM
        first
          | (rw [c_tks_take i0 (by omega)]; exact c_tks_congr (fun j a b => rd_grow (w := (sp_tkP (c_d M) t (M 24))) (if_pos (sp_in_1.1 (show sp_in (c_d M) (M 17 t) i = 1 by omega))).symm))
          | exact c_tks_congr (fun j a b => rd_grow0 (w := (sp_tkP (c_d M) t (M 24))) (if_neg (fun z => absurd (sp_in_1.2 z) (show sp_in (c_d M) (M 17 t) i ≠ 1 by omega))))
set_option maxHeartbeats 4000000 in
set_option maxRecDepth 100000 in
theorem ev_S_cedePartOfEachClaim {t : Int} {n : Nat} {M : rd_M} {Q : rd_R → rd_M → Prop} (hI : c_I M) (hC : c_Q M) (hn : M 2 0 = n) (hY : c_Y M (M 17 t)) (h0 : 0 ≤ t) (h1 : t < 10) (hQ : Q (.inl none) (c_tks M t n (sp_tkP (c_d M) t (M 24)))) : rd_G x_S_cedePartOfEachClaim 0 [some (.ref 4), some (rd_i t), none, none, none] [] M 0 Q := by
  refine rd_iconst (pc := 0) d_S_cedePartOfEachClaim_0 ?_
  refine rd_ist2 (pc := 1) d_S_cedePartOfEachClaim_1 rfl ?_
  exact lq_S_cedePartOfEachClaim hI hC hn hY h0 h1 hQ _ 0 M rfl (by omega) (by omega) (c_tks_0 (fun j a b => by rw [if_neg (by omega)])).symm
end
section
/-! cession: the excess of each claim; groups gathered -/
theorem fp_0_11 : rd_fp 0 11 .int := ⟨_, _, _, rd_t0, rfl, by decide, rd_tt0, rd_nn0, rfl, by decide +kernel⟩
theorem fp_1_0 : rd_fp 1 0 .int := ⟨_, _, _, rd_t1, rfl, by decide, rd_tt1, rd_nn1, rfl, by decide +kernel⟩
theorem fp_3_0 : rd_fp 3 0 .int := ⟨_, _, _, rd_t3, rfl, by decide, rd_tt3, rd_nn3, rfl, by decide +kernel⟩
theorem fp_5_9 : rd_fp 5 9 .int := ⟨_, _, _, rd_t5, rfl, by decide, rd_tt5, rd_nn5, rfl, by decide +kernel⟩
theorem fp_5_15 : rd_fp 5 15 .int := ⟨_, _, _, rd_t5, rfl, by decide, rd_tt5, rd_nn5, rfl, by decide +kernel⟩
theorem fp_5_28 : rd_fp 5 28 .long := ⟨_, _, _, rd_t5, rfl, by decide, rd_tt5, rd_nn5, rfl, by decide +kernel⟩
theorem fp_5_29 : rd_fp 5 29 .long := ⟨_, _, _, rd_t5, rfl, by decide, rd_tt5, rd_nn5, rfl, by decide +kernel⟩
theorem c_H.bf {M : rd_M} {n : Nat} {o : Int → Int} {i j : Int} (h : c_H M n o) (j0 : 0 ≤ j) (j1 : j < n) (i0 : 0 ≤ i) (i1 : i < n) : o j < i ↔ sp_bf (fun k => - M 12 k) j (M 15 i) := by
  obtain ⟨h1, h2, h3⟩ := h
  have a := h1 j j0 j1
  have b := h2 i i0 i1
  constructor
  · intro hlt
    have := h3 (o j) i a.1.1 hlt i1
    rw [a.2] at this
    exact this
  · intro hb
    by_cases c : o j < i
    · exact c
    · by_cases c2 : o j = i
      · have e : M 15 i = j := by rw [← c2]; exact a.2
        rw [e] at hb
        omega
      · have := h3 i (o j) i0 (by omega) a.1.2
        rw [a.2] at this
        omega
theorem rd_growo {w o : Int → Int} {c i j a : Int} (ha : a = w c) (hc : o c = i) (hj : o j = i → j = c) : (if j = c then (if o j < i then w j else 0) + a else (if o j < i then w j else 0)) = if o j < i + 1 then w j else 0 := by
  by_cases h : j = c
  · subst h; rw [if_pos rfl, if_neg (by omega), if_pos (by omega), ha]; omega
  · rw [if_neg h]
    have : o j ≠ i := fun z => h (hj z)
    by_cases h : o j < i
    · rw [if_pos h, if_pos (by omega)]
    · rw [if_neg h, if_neg (by omega)]
theorem rd_growo0 {w o : Int → Int} {c i j : Int} (ha : w c = 0) (hj : o j = i → j = c) : (if o j < i then w j else 0) = if o j < i + 1 then w j else 0 := by
  by_cases h : j = c
  · subst h; rw [ha]; split <;> split <;> rfl
  · have : o j ≠ i := fun z => h (hj z)
    by_cases h : o j < i
    · rw [if_pos h, if_pos (by omega)]
    · rw [if_neg h, if_neg (by omega)]
theorem c_take_26 {M : rd_M} {t k v : Int} : c_take M t k v 26 t = M 26 t + v := by
  unfold c_take
  simp (decide := true) only [rd_up_app, rd_up_hit]
/-- the layers of the claims whose place is below i -/
def sp_oB (d : rd_M) (n : Nat) (t : Int) (κ o : Int → Int) (i : Int) : Int := rd_sm (fun k => if sp_in d (d 9 t) k = 1 ∧ o k < i then sp_Lt d t (κ k) else 0) n
theorem sp_oB_b {d : rd_M} {n : Nat} {t i : Int} {κ o : Int → Int} (h : sp_tm d t) (hk : ∀ j : Int, 0 ≤ j → j < n → 0 ≤ κ j) : 0 ≤ sp_oB d n t κ o i ∧ sp_oB d n t κ o i ≤ n * 1000000000 := by
  have := rd_sm_b (f := fun k => if sp_in d (d 9 t) k = 1 ∧ o k < i then sp_Lt d t (κ k) else 0) (A := 0) (B := 1000000000) n (fun j a b => by
    have := sp_Lt_b h (hk j a b)
    by_cases hj : sp_in d (d 9 t) j = 1 ∧ o j < i
    · rw [if_pos hj]; omega
    · rw [if_neg hj]; omega)
  unfold sp_oB
  omega
theorem sp_oB_s {d : rd_M} {n : Nat} {t i c : Int} {κ o : Int → Int} (hc : o c = i) (c0 : 0 ≤ c) (c1 : c < n) (hj : ∀ j : Int, 0 ≤ j → j < n → o j = i → j = c) : sp_oB d n t κ o (i + 1) = sp_oB d n t κ o i + (if sp_in d (d 9 t) c = 1 then sp_Lt d t (κ c) else 0) := by
  unfold sp_oB
  rw [← rd_sm_add (w := fun k => if sp_in d (d 9 t) k = 1 ∧ o k < i then sp_Lt d t (κ k) else 0) (k := c) n c0 c1]
  refine rd_sm_c n (fun j a b => ?_)
  by_cases h : j = c
  · subst h
    rw [if_pos rfl, if_neg (c := sp_in d (d 9 t) j = 1 ∧ o j < i) (fun z => by omega)]
    by_cases hi : sp_in d (d 9 t) j = 1
    · rw [if_pos ⟨hi, by omega⟩, if_pos hi]; omega
    · rw [if_neg (fun z => hi z.1), if_neg hi]; rfl
  · rw [if_neg h]
    have hne : o j ≠ i := fun z => h (hj j a b z)
    by_cases hi : sp_in d (d 9 t) j = 1
    · by_cases hz : o j < i
      · rw [if_pos ⟨hi, by omega⟩, if_pos ⟨hi, hz⟩]
      · rw [if_neg (by omega), if_neg (by omega)]
    · rw [if_neg (fun z => hi z.1), if_neg (fun z => hi z.1)]
theorem c_H.xB {M : rd_M} {n : Nat} {o : Int → Int} {t i : Int} (h : c_H M n o) (i0 : 0 ≤ i) (i1 : i < n) : sp_xB (c_d M) n t (M 24) (M 15 i) = sp_oB (c_d M) n t (M 24) o i := by
  refine rd_sm_c n (fun j a b => ?_)
  have hb := h.bf a b i0 i1
  by_cases hj : sp_in (c_d M) (c_d M 9 t) j = 1 ∧ o j < i
  · rw [if_pos ⟨hj.1, hb.1 hj.2⟩, if_pos hj]
  · rw [if_neg (fun z => hj ⟨z.1, hb.2 z.2⟩), if_neg hj]
set_option maxHeartbeats 4000000 in
set_option maxRecDepth 100000 in
theorem lq_S_cedeExcessOfEachClaim {t : Int} {n : Nat} {o : Int → Int} {M : rd_M} {Q : rd_R → rd_M → Prop} (hI : c_I M) (hC : c_Q M) (hn : M 2 0 = n) (hY : c_Y M (M 17 t)) (h0 : 0 ≤ t) (h1 : t < 10) (hH : c_H M n o) (hz : M 26 t = 0) (hQ : Q (.inl none) (c_tks M t n (sp_tkX (c_d M) n t (M 24)))) : ∀ (d : Nat) (i B : Int) (M1 : rd_M), (n - i).toNat = d → (0 ≤ i) → (i ≤ n) → (B = sp_oB (c_d M) n t (M 24) o i) → (M1 = c_tks M t n (fun k => if o k < i then (sp_tkX (c_d M) n t (M 24)) k else 0)) → (M1 26 t = sp_Tt (c_d M) t B) → rd_G x_S_cedeExcessOfEachClaim 5 [some (.ref 4), some (rd_i t), some (rd_l B), none, some (rd_i i), none] [] M1 0 Q := by
  intro d
  induction d using Nat.strongRecOn with
  | ind d ih =>
    intro i B M1 hd i0 i1 hB hM hT
    have hn40 := hI.n hn
    have hI1 : c_I M1 := hI.of (fun q h => by rw [hM]; exact c_tks_low q h)
    have e2 : M1 2 = M 2 := by rw [hM]; exact c_tks_ne (by decide) (by decide) (by decide)
    have e15 : M1 15 = M 15 := by rw [hM]; exact c_tks_ne (by decide) (by decide) (by decide)
    have e18 : M1 18 = M 18 := by rw [hM]; exact c_tks_ne (by decide) (by decide) (by decide)
    have e19 : M1 19 = M 19 := by rw [hM]; exact c_tks_ne (by decide) (by decide) (by decide)
    have e20 : M1 20 = M 20 := by rw [hM]; exact c_tks_ne (by decide) (by decide) (by decide)
    have e21 : M1 21 = M 21 := by rw [hM]; exact c_tks_ne (by decide) (by decide) (by decide)
    have e23 : M1 23 = M 23 := by rw [hM]; exact c_tks_ne (by decide) (by decide) (by decide)
    refine rd_ild (pc := 5) d_S_cedeExcessOfEachClaim_5 rfl ?_
    refine rd_aldn (pc := 7) d_S_cedeExcessOfEachClaim_7 rfl ?_
    refine rd_getr (pc := 8) d_S_cedeExcessOfEachClaim_8 fl_S_15 rfl rfl ?_
    refine rd_gi (pc := 11) (ki := 0) d_S_cedeExcessOfEachClaim_11 fl_S_69 rfl rfl rfl ?_
    first | simp (decide := true) only [rd_up_app, rd_up_hit, e2, e15, e18, e19, e20, e21, e23, e24] | simp (decide := true) only [rd_up_app, rd_up_hit, e2, e15, e18, e19, e20, e21, e23] | skip
    refine rd_icmp_ge (pc := 14) (tgt := 87) d_S_cedeExcessOfEachClaim_14 rfl ⟨by omega, by omega⟩ ⟨by omega, by omega⟩ (fun h14 => ?_) (fun h14 => ?_)
    · skip
      exact rd_vret (pc := 87) d_S_cedeExcessOfEachClaim_87 rfl (Nat.le_of_ble_eq_true rfl) (by rw [hM, c_tks_congr (w' := (sp_tkX (c_d M) n t (M 24))) (fun j a b => by rw [if_pos (by have := (hH.1 j a b).1; omega)])]; exact hQ)
    · skip
      obtain ⟨hc, hoc⟩ := hH.2.1 i i0 (by omega)
      have hoj : ∀ j : Int, 0 ≤ j → j < n → o j = i → j = M 15 i := fun j a b z => by rw [← z]; exact (hH.1 j a b).2.symm
      have e24 : M1 24 (M 15 i) = M 24 (M 15 i) := by rw [hM, c_tks_24, if_pos ⟨hc.1, by omega⟩, if_neg (by omega)]; omega
      obtain ⟨y1, y2, y3⟩ := hY.cnt hn hc.1 (by omega)
      have y4 := sp_in_01 (d := c_d M) (y := M 17 t) (k := M 15 i)
      have htm := hI.tm hC h0 h1
      have hkn : ∀ j : Int, 0 ≤ j → j < n → 0 ≤ M 24 j := fun j a b => (hY.cnt hn a b).2.1.1
      have hBb := sp_oB_b (i := i) (o := o) htm hkn
      have hLb := sp_Lt_b htm (hkn _ hc.1 (by omega))
      have hLb' : 0 ≤ sp_layer (M 18 t) (M 19 t) (M 24 (M 15 i)) ∧ sp_layer (M 18 t) (M 19 t) (M 24 (M 15 i)) ≤ 1000000000 := ⟨hLb.1, hLb.2.2⟩
      have hBs := sp_oB_s (d := c_d M) (t := t) (κ := M 24) hoc hc.1 (by omega) hoj
      refine rd_aldn (pc := 17) d_S_cedeExcessOfEachClaim_17 rfl ?_
      refine rd_getr (pc := 18) d_S_cedeExcessOfEachClaim_18 fl_S_15 rfl rfl ?_
      refine rd_getr (pc := 21) d_S_cedeExcessOfEachClaim_21 fl_S_130 rfl rfl ?_
      refine rd_ild (pc := 24) d_S_cedeExcessOfEachClaim_24 rfl ?_
      refine rd_iald (pc := 26) d_S_cedeExcessOfEachClaim_26 rfl (by omega) (by omega) ?_
      first | simp (decide := true) only [rd_up_app, rd_up_hit, e2, e15, e18, e19, e20, e21, e23, e24] | simp (decide := true) only [rd_up_app, rd_up_hit, e2, e15, e18, e19, e20, e21, e23] | skip
      refine rd_ist5 (pc := 27) d_S_cedeExcessOfEachClaim_27 rfl ?_
      refine rd_aldn (pc := 29) d_S_cedeExcessOfEachClaim_29 rfl ?_
      refine rd_getr (pc := 30) d_S_cedeExcessOfEachClaim_30 fl_S_23 rfl rfl ?_
      refine rd_ild (pc := 33) d_S_cedeExcessOfEachClaim_33 rfl ?_
      refine rd_zald (pc := 35) d_S_cedeExcessOfEachClaim_35 rfl (by omega) (by omega) ?_
      first | simp (decide := true) only [rd_up_app, rd_up_hit, e2, e15, e18, e19, e20, e21, e23, e24] | simp (decide := true) only [rd_up_app, rd_up_hit, e2, e15, e18, e19, e20, e21, e23] | skip
      refine rd_if_eq (pc := 36) (tgt := 81) d_S_cedeExcessOfEachClaim_36 rfl ⟨by omega, by omega⟩ (fun h36 => ?_) (fun h36 => ?_)
      · skip
        refine rd_iinc4 (pc := 81) d_S_cedeExcessOfEachClaim_81 rfl ?_
        refine rd_goto (pc := 84) (tgt := 5) d_S_cedeExcessOfEachClaim_84 rfl ?_
        first
          | (refine rd_weak (L' := [some (.ref 4), some (rd_i t), some (rd_l (B + sp_layer (M 18 t) (M 19 t) (M 24 (M 15 i)))), none, some (rd_i (i + 1)), none]) (by simp [rd_le]) ?_
             have hin : sp_in (c_d M) (c_d M 9 t) (M 15 i) = 1 := (show sp_in (c_d M) (M 17 t) (M 15 i) = 1 by omega)
             rw [if_pos hin] at hBs
             refine ih _ (by omega) (i + 1) _ _ rfl (by omega) (by omega) (by rw [hBs, hB]; rfl) ?_ ?_
             · rw [hT, hM, c_tks_take hc.1 hc.2]
               refine c_tks_congr (fun j a b => rd_growo (w := (sp_tkX (c_d M) n t (M 24))) ?_ hoc (hoj j a b))
               unfold sp_tkX
               rw [if_pos hin, hH.xB i0 (by omega), ← hB]
               rfl
             · rw [c_take_26, hT]
               show _ + (sp_T (M 19 t) (M 20 t) (M 21 t) (B + sp_layer (M 18 t) (M 19 t) (M 24 (M 15 i))) - _) = sp_T (M 19 t) (M 20 t) (M 21 t) (B + sp_layer (M 18 t) (M 19 t) (M 24 (M 15 i)))
               omega)
          | (refine rd_weak (L' := [some (.ref 4), some (rd_i t), some (rd_l B), none, some (rd_i (i + 1)), none]) (by simp [rd_le]) ?_
             have hin : sp_in (c_d M) (c_d M 9 t) (M 15 i) ≠ 1 := (show sp_in (c_d M) (M 17 t) (M 15 i) ≠ 1 by omega)
             rw [if_neg hin] at hBs
             refine ih _ (by omega) (i + 1) _ _ rfl (by omega) (by omega) (by omega) ?_ hT
             rw [hM]; exact c_tks_congr (fun j a b => rd_growo0 (w := (sp_tkX (c_d M) n t (M 24))) (c := M 15 i) (if_neg hin) (hoj j a b)))
      · skip
        refine rd_lldn (pc := 39) d_S_cedeExcessOfEachClaim_39 rfl ?_
        refine rd_aldn (pc := 40) d_S_cedeExcessOfEachClaim_40 rfl ?_
        refine rd_getr (pc := 41) d_S_cedeExcessOfEachClaim_41 fl_S_19 rfl rfl ?_
        refine rd_ildn (pc := 44) d_S_cedeExcessOfEachClaim_44 rfl ?_
        refine rd_aldn (pc := 45) d_S_cedeExcessOfEachClaim_45 rfl ?_
        refine rd_getr (pc := 46) d_S_cedeExcessOfEachClaim_46 fl_S_27 rfl rfl ?_
        refine rd_ild (pc := 49) d_S_cedeExcessOfEachClaim_49 rfl ?_
        refine rd_iald (pc := 51) d_S_cedeExcessOfEachClaim_51 rfl (by omega) (by omega) ?_
        first | simp (decide := true) only [rd_up_app, rd_up_hit, e2, e15, e18, e19, e20, e21, e23, e24] | simp (decide := true) only [rd_up_app, rd_up_hit, e2, e15, e18, e19, e20, e21, e23] | skip
        refine rd_i2l (pc := 52) d_S_cedeExcessOfEachClaim_52 ⟨by omega, by omega⟩ ?_
        refine rd_callVl (pc := 53) (n' := 0) [_, _] d_S_cedeExcessOfEachClaim_53 ml_S_133 rfl (Nat.le_of_ble_eq_true rfl) (Nat.le_of_ble_eq_true rfl) (Nat.le_of_ble_eq_true rfl) rfl rfl rfl (Nat.le_of_ble_eq_true rfl) (Nat.le_of_ble_eq_true rfl) ?_
        refine ev_T_layerOf hI1 h0 h1 ⟨by omega, by omega⟩ ?_
        refine ⟨_, rfl, ?_⟩
        first | simp (decide := true) only [rd_up_app, rd_up_hit, e2, e15, e18, e19, e20, e21, e23, e24] | simp (decide := true) only [rd_up_app, rd_up_hit, e2, e15, e18, e19, e20, e21, e23] | skip
        refine rd_ladd (pc := 56) d_S_cedeExcessOfEachClaim_56 ?_
        refine rd_lst2 (pc := 57) d_S_cedeExcessOfEachClaim_57 rfl ?_
        refine rd_aldn (pc := 58) d_S_cedeExcessOfEachClaim_58 rfl ?_
        refine rd_ildn (pc := 59) d_S_cedeExcessOfEachClaim_59 rfl ?_
        refine rd_ild (pc := 60) d_S_cedeExcessOfEachClaim_60 rfl ?_
        refine rd_aldn (pc := 62) d_S_cedeExcessOfEachClaim_62 rfl ?_
        refine rd_getr (pc := 63) d_S_cedeExcessOfEachClaim_63 fl_S_19 rfl rfl ?_
        refine rd_ildn (pc := 66) d_S_cedeExcessOfEachClaim_66 rfl ?_
        refine rd_lldn (pc := 67) d_S_cedeExcessOfEachClaim_67 rfl ?_
        refine rd_callVl (pc := 68) (n' := 0) [_, _] d_S_cedeExcessOfEachClaim_68 ml_S_136 rfl (Nat.le_of_ble_eq_true rfl) (Nat.le_of_ble_eq_true rfl) (Nat.le_of_ble_eq_true rfl) rfl rfl rfl (Nat.le_of_ble_eq_true rfl) (Nat.le_of_ble_eq_true rfl) ?_
        refine ev_T_takenOfLayers hI1 h0 h1 ⟨by omega, by omega⟩ ?_
        refine ⟨_, rfl, ?_⟩
        first | simp (decide := true) only [rd_up_app, rd_up_hit, e2, e15, e18, e19, e20, e21, e23, e24] | simp (decide := true) only [rd_up_app, rd_up_hit, e2, e15, e18, e19, e20, e21, e23] | skip
        refine rd_aldn (pc := 71) d_S_cedeExcessOfEachClaim_71 rfl ?_
        refine rd_getr (pc := 72) d_S_cedeExcessOfEachClaim_72 fl_S_34 rfl rfl ?_
        refine rd_ildn (pc := 75) d_S_cedeExcessOfEachClaim_75 rfl ?_
        refine rd_lald (pc := 76) d_S_cedeExcessOfEachClaim_76 rfl (by omega) (by omega) ?_
        first | simp (decide := true) only [rd_up_app, rd_up_hit, e2, e15, e18, e19, e20, e21, e23, e24] | simp (decide := true) only [rd_up_app, rd_up_hit, e2, e15, e18, e19, e20, e21, e23] | skip
        refine rd_lsub (pc := 77) d_S_cedeExcessOfEachClaim_77 ?_
        refine rd_callVv (pc := 78) (n' := 0) [_, _, _] d_S_cedeExcessOfEachClaim_78 ml_S_126 rfl (Nat.le_of_ble_eq_true rfl) (Nat.le_of_ble_eq_true rfl) (Nat.le_of_ble_eq_true rfl) rfl rfl rfl (Nat.le_of_ble_eq_true rfl) (Nat.le_of_ble_eq_true rfl) ?_
        refine ev_S_take h0 h1 hc.1 (by omega) ?_
        refine ⟨rfl, ?_⟩
        first | simp (decide := true) only [rd_up_app, rd_up_hit, e2, e15, e18, e19, e20, e21, e23, e24] | simp (decide := true) only [rd_up_app, rd_up_hit, e2, e15, e18, e19, e20, e21, e23] | skip
        refine rd_iinc4 (pc := 81) d_S_cedeExcessOfEachClaim_81 rfl ?_
        refine rd_goto (pc := 84) (tgt := 5) d_S_cedeExcessOfEachClaim_84 rfl ?_
        first
          | (refine rd_weak (L' := [some (.ref 4), some (rd_i t), some (rd_l (B + sp_layer (M 18 t) (M 19 t) (M 24 (M 15 i)))), none, some (rd_i (i + 1)), none]) (by simp [rd_le]) ?_
             have hin : sp_in (c_d M) (c_d M 9 t) (M 15 i) = 1 := (show sp_in (c_d M) (M 17 t) (M 15 i) = 1 by omega)
             rw [if_pos hin] at hBs
             refine ih _ (by omega) (i + 1) _ _ rfl (by omega) (by omega) (by rw [hBs, hB]; rfl) ?_ ?_
             · rw [hT, hM, c_tks_take hc.1 hc.2]
               refine c_tks_congr (fun j a b => rd_growo (w := (sp_tkX (c_d M) n t (M 24))) ?_ hoc (hoj j a b))
               unfold sp_tkX
               rw [if_pos hin, hH.xB i0 (by omega), ← hB]
               rfl
             · rw [c_take_26, hT]
               show _ + (sp_T (M 19 t) (M 20 t) (M 21 t) (B + sp_layer (M 18 t) (M 19 t) (M 24 (M 15 i))) - _) = sp_T (M 19 t) (M 20 t) (M 21 t) (B + sp_layer (M 18 t) (M 19 t) (M 24 (M 15 i)))
               omega)
          | (refine rd_weak (L' := [some (.ref 4), some (rd_i t), some (rd_l B), none, some (rd_i (i + 1)), none]) (by simp [rd_le]) ?_
             have hin : sp_in (c_d M) (c_d M 9 t) (M 15 i) ≠ 1 := (show sp_in (c_d M) (M 17 t) (M 15 i) ≠ 1 by omega)
             rw [if_neg hin] at hBs
             refine ih _ (by omega) (i + 1) _ _ rfl (by omega) (by omega) (by omega) ?_ hT
             rw [hM]; exact c_tks_congr (fun j a b => rd_growo0 (w := (sp_tkX (c_d M) n t (M 24))) (c := M 15 i) (if_neg hin) (hoj j a b)))
set_option maxHeartbeats 4000000 in
set_option maxRecDepth 100000 in
theorem ev_S_cedeExcessOfEachClaim {t : Int} {n : Nat} {o : Int → Int} {M : rd_M} {Q : rd_R → rd_M → Prop} (hI : c_I M) (hC : c_Q M) (hn : M 2 0 = n) (hY : c_Y M (M 17 t)) (h0 : 0 ≤ t) (h1 : t < 10) (hH : c_H M n o) (hz : M 26 t = 0) (hQ : Q (.inl none) (c_tks M t n (sp_tkX (c_d M) n t (M 24)))) : rd_G x_S_cedeExcessOfEachClaim 0 [some (.ref 4), some (rd_i t), none, none, none, none] [] M 0 Q := by
  refine rd_lconst (pc := 0) (v := 0) d_S_cedeExcessOfEachClaim_0 rfl ?_
  refine rd_lst2 (pc := 1) d_S_cedeExcessOfEachClaim_1 rfl ?_
  refine rd_iconst (pc := 2) d_S_cedeExcessOfEachClaim_2 ?_
  refine rd_ist4 (pc := 3) d_S_cedeExcessOfEachClaim_3 rfl ?_
  have hs0 : sp_oB (c_d M) n t (M 24) o 0 = 0 := rd_sm_z n (fun j a b => if_neg (fun z => by have := (hH.1 j a b).1; omega))
  exact lq_S_cedeExcessOfEachClaim hI hC hn hY h0 h1 hH hz hQ _ 0 0 M rfl (by omega) (by omega) hs0.symm (c_tks_0 (fun j a b => by rw [if_neg (by have := (hH.1 j a b).1; omega)])).symm (by rw [hz, sp_Tt_0 (hI.tm hC h0 h1)])
theorem c_G_p {M : rd_M} {p : Int → Int} {n : Nat} {s : Int} (hs : s = sp_cn n p) (h : c_g (M 30) n p) (hp : p n = 1) : c_G (rd_up (rd_up M 30 s n) 4 11 (s + 1)) (n + 1) p := by
  refine ⟨by rw [rd_up_hit, sp_cn_s, if_pos hp, hs], ?_⟩
  have e : (rd_up (rd_up M 30 s n) 4 11 (s + 1)) 30 = fun j => if j = sp_cn n p then (n : Int) else M 30 j := by
    funext j
    rw [rd_up_app (by decide), rd_up_at, hs]
  rw [e]
  exact c_g_p h hp
theorem c_sm.refl {M : rd_M} : c_sm M M := fun _ _ _ _ => rfl
theorem c_sm.up {M M1 : rd_M} {q : Nat} {i v : Int} (h : c_sm M1 M) (hq : q = 4 ∨ q = 30 ∨ q = 31) : c_sm (rd_up M1 q i v) M := fun r a b c => by
  rw [rd_up_ne (by omega)]; exact h r a b c
theorem c_sm.low {M M1 : rd_M} (h : c_sm M1 M) (hI : c_I M) : c_I M1 := by
  have h2 := h 2 (by decide) (by decide) (by decide)
  unfold c_I at *
  rw [h 2 (by decide) (by decide) (by decide), h 3 (by decide) (by decide) (by decide), h 5 (by decide) (by decide) (by decide), h 7 (by decide) (by decide) (by decide), h 8 (by decide) (by decide) (by decide), h 9 (by decide) (by decide) (by decide), h 10 (by decide) (by decide) (by decide), h 11 (by decide) (by decide) (by decide), h 12 (by decide) (by decide) (by decide), h 13 (by decide) (by decide) (by decide), h 14 (by decide) (by decide) (by decide), h 15 (by decide) (by decide) (by decide), h 16 (by decide) (by decide) (by decide), h 17 (by decide) (by decide) (by decide), h 18 (by decide) (by decide) (by decide), h 19 (by decide) (by decide) (by decide), h 20 (by decide) (by decide) (by decide), h 21 (by decide) (by decide) (by decide), h 22 (by decide) (by decide) (by decide)]
  exact hI
theorem c_sm.d {M M1 : rd_M} (h : c_sm M1 M) : c_d M1 = c_d M := by
  funext q
  unfold c_d
  split <;> exact h _ (by decide) (by decide) (by decide)
theorem sp_inE_1 {d : rd_M} {y e k : Int} : sp_inE d y e k = 1 ↔ sp_cnt d y k ∧ d 4 k = e := by
  unfold sp_inE
  by_cases h : sp_cnt d y k ∧ d 4 k = e
  · rw [if_pos h]; exact ⟨fun _ => h, fun _ => rfl⟩
  · rw [if_neg h]; exact ⟨fun z => by omega, fun z => absurd z h⟩
theorem c_g_n' {G p : Int → Int} {i : Int} (i0 : 0 ≤ i) (h : c_g G i.toNat p) (hp : p i ≠ 1) : c_g G (i + 1).toNat p ∧ sp_cn (i + 1).toNat p = sp_cn i.toNat p := by
  have e : (i + 1).toNat = i.toNat + 1 := by omega
  have f : ((i.toNat : Nat) : Int) = i := by omega
  rw [e]
  refine ⟨c_g_n h (by rw [f]; exact hp), ?_⟩
  rw [sp_cn_s, f, if_neg hp]; omega
theorem c_G_p' {M : rd_M} {p : Int → Int} {i s : Int} (i0 : 0 ≤ i) (hs : s = sp_cn i.toNat p) (h : c_g (M 30) i.toNat p) (hp : p i = 1) : c_G (rd_up (rd_up M 30 s i) 4 11 (s + 1)) (i + 1).toNat p := by
  have e : (i + 1).toNat = i.toNat + 1 := by omega
  have f : ((i.toNat : Nat) : Int) = i := by omega
  rw [e]
  have := c_G_p hs h (by rw [f]; exact hp)
  rw [f] at this
  exact this
set_option maxHeartbeats 4000000 in
set_option maxRecDepth 100000 in
theorem lq_S_gatherEvent {y e : Int} {n : Nat} {M : rd_M} {Q : rd_R → rd_M → Prop} (hI : c_I M) (hn : M 2 0 = n) (hY : c_Y M y) (he : 0 ≤ e ∧ e ≤ 9) (hQ : ∀ M', c_sm M' M → c_G M' n (sp_inE (c_d M) y e) → Q (.inl none) M') : ∀ (d : Nat) (i : Int) (M1 : rd_M), (n - i).toNat = d → (0 ≤ i) → (i ≤ n) → (c_sm M1 M) → (c_G M1 i.toNat (sp_inE (c_d M) y e)) → rd_G x_S_gatherEvent 7 [some (.ref 4), some (rd_i e), some (rd_i i)] [] M1 0 Q := by
  intro d
  induction d using Nat.strongRecOn with
  | ind d ih =>
    intro i M1 hd i0 i1 hS hG
    have hn40 := hI.n hn
    have hsz := sp_cn_hi (n := i.toNat) (p := (sp_inE (c_d M) y e))
    have hs0 := sp_cn_nn (n := i.toNat) (p := (sp_inE (c_d M) y e))
    obtain ⟨hG1, hG2⟩ := hG
    have e2 : M1 2 = M 2 := hS 2 (by decide) (by decide) (by decide)
    have e11 : M1 11 = M 11 := hS 11 (by decide) (by decide) (by decide)
    have e23 : M1 23 = M 23 := hS 23 (by decide) (by decide) (by decide)
    refine rd_ildn (pc := 7) d_S_gatherEvent_7 rfl ?_
    refine rd_aldn (pc := 8) d_S_gatherEvent_8 rfl ?_
    refine rd_getr (pc := 9) d_S_gatherEvent_9 fl_S_15 rfl rfl ?_
    refine rd_gi (pc := 12) (ki := 0) d_S_gatherEvent_12 fl_S_69 rfl rfl rfl ?_
    first | simp (decide := true) only [rd_up_app, rd_up_hit, e2, e11, e23, hG1] | simp (decide := true) only [rd_up_app, rd_up_hit, e2, e11, e23] | skip
    refine rd_icmp_ge (pc := 15) (tgt := 66) d_S_gatherEvent_15 rfl ⟨by omega, by omega⟩ ⟨by omega, by omega⟩ (fun h15 => ?_) (fun h15 => ?_)
    · skip
      exact rd_vret (pc := 66) d_S_gatherEvent_66 rfl (Nat.le_of_ble_eq_true rfl) (by have e : i.toNat = n := (by omega); rw [e] at hG1 hG2; exact hQ _ hS ⟨hG1, hG2⟩)
    · skip
      obtain ⟨y1, y2, y3⟩ := hY.cnt hn i0 (by omega)
      have y4 := sp_in_01 (d := c_d M) (y := y) (k := i)
      obtain ⟨hr, hev, _⟩ := hI.claim i0 (by omega)
      refine rd_aldn (pc := 18) d_S_gatherEvent_18 rfl ?_
      refine rd_getr (pc := 19) d_S_gatherEvent_19 fl_S_23 rfl rfl ?_
      refine rd_ildn (pc := 22) d_S_gatherEvent_22 rfl ?_
      refine rd_zald (pc := 23) d_S_gatherEvent_23 rfl (by omega) (by omega) ?_
      first | simp (decide := true) only [rd_up_app, rd_up_hit, e2, e11, e23, hG1] | simp (decide := true) only [rd_up_app, rd_up_hit, e2, e11, e23] | skip
      refine rd_if_eq (pc := 24) (tgt := 60) d_S_gatherEvent_24 rfl ⟨by omega, by omega⟩ (fun h24 => ?_) (fun h24 => ?_)
      · skip
        refine rd_iinc2 (pc := 60) d_S_gatherEvent_60 rfl ?_
        refine rd_goto (pc := 63) (tgt := 7) d_S_gatherEvent_63 rfl ?_
        first
          | (refine ih _ (by omega) (i + 1) _ rfl (by omega) (by omega) ((hS.up (by omega)).up (by omega)) ?_
             exact c_G_p' i0 rfl hG2 (sp_inE_1.2 ⟨sp_in_1.1 (by omega), (show M 11 i = e by omega)⟩))
          | (have hno : (sp_inE (c_d M) y e) i ≠ 1 := fun z => (by have z1 := sp_inE_1.1 z; have z2 := sp_in_1.2 z1.1; have z3 : M 11 i = e := z1.2; omega)
             have hg := c_g_n' i0 hG2 hno
             exact ih _ (by omega) (i + 1) _ rfl (by omega) (by omega) hS ⟨by rw [hG1, hg.2], hg.1⟩)
      · skip
        refine rd_aldn (pc := 27) d_S_gatherEvent_27 rfl ?_
        refine rd_getr (pc := 28) d_S_gatherEvent_28 fl_S_15 rfl rfl ?_
        refine rd_getr (pc := 31) d_S_gatherEvent_31 fl_S_160 rfl rfl ?_
        refine rd_ildn (pc := 34) d_S_gatherEvent_34 rfl ?_
        refine rd_iald (pc := 35) d_S_gatherEvent_35 rfl (by omega) (by omega) ?_
        first | simp (decide := true) only [rd_up_app, rd_up_hit, e2, e11, e23, hG1] | simp (decide := true) only [rd_up_app, rd_up_hit, e2, e11, e23] | skip
        refine rd_ildn (pc := 36) d_S_gatherEvent_36 rfl ?_
        refine rd_icmp_ne (pc := 37) (tgt := 60) d_S_gatherEvent_37 rfl ⟨by omega, by omega⟩ ⟨by omega, by omega⟩ (fun h37 => ?_) (fun h37 => ?_)
        · skip
          refine rd_iinc2 (pc := 60) d_S_gatherEvent_60 rfl ?_
          refine rd_goto (pc := 63) (tgt := 7) d_S_gatherEvent_63 rfl ?_
          first
            | (refine ih _ (by omega) (i + 1) _ rfl (by omega) (by omega) ((hS.up (by omega)).up (by omega)) ?_
               exact c_G_p' i0 rfl hG2 (sp_inE_1.2 ⟨sp_in_1.1 (by omega), (show M 11 i = e by omega)⟩))
            | (have hno : (sp_inE (c_d M) y e) i ≠ 1 := fun z => (by have z1 := sp_inE_1.1 z; have z2 := sp_in_1.2 z1.1; have z3 : M 11 i = e := z1.2; omega)
               have hg := c_g_n' i0 hG2 hno
               exact ih _ (by omega) (i + 1) _ rfl (by omega) (by omega) hS ⟨by rw [hG1, hg.2], hg.1⟩)
        · skip
          refine rd_aldn (pc := 40) d_S_gatherEvent_40 rfl ?_
          refine rd_getr (pc := 41) d_S_gatherEvent_41 fl_S_47 rfl rfl ?_
          refine rd_aldn (pc := 44) d_S_gatherEvent_44 rfl ?_
          refine rd_gi (pc := 45) (ki := 11) d_S_gatherEvent_45 fl_S_142 rfl rfl rfl ?_
          first | simp (decide := true) only [rd_up_app, rd_up_hit, e2, e11, e23, hG1] | simp (decide := true) only [rd_up_app, rd_up_hit, e2, e11, e23] | skip
          refine rd_ildn (pc := 48) d_S_gatherEvent_48 rfl ?_
          refine rd_iast (pc := 49) d_S_gatherEvent_49 rfl (by omega) (by omega) ?_
          refine rd_aldn (pc := 50) d_S_gatherEvent_50 rfl ?_
          refine rd_dup (pc := 51) d_S_gatherEvent_51 rfl ?_
          refine rd_gi (pc := 52) (ki := 11) d_S_gatherEvent_52 fl_S_142 rfl rfl rfl ?_
          first | simp (decide := true) only [rd_up_app, rd_up_hit, e2, e11, e23, hG1] | simp (decide := true) only [rd_up_app, rd_up_hit, e2, e11, e23] | skip
          refine rd_iconst (pc := 55) d_S_gatherEvent_55 ?_
          refine rd_iadd (pc := 56) d_S_gatherEvent_56 ?_
          refine rd_pi (pc := 57) (ki := 11) d_S_gatherEvent_57 fl_S_142 fp_0_11 rfl rfl rfl ?_
          refine rd_iinc2 (pc := 60) d_S_gatherEvent_60 rfl ?_
          refine rd_goto (pc := 63) (tgt := 7) d_S_gatherEvent_63 rfl ?_
          first
            | (refine ih _ (by omega) (i + 1) _ rfl (by omega) (by omega) ((hS.up (by omega)).up (by omega)) ?_
               exact c_G_p' i0 rfl hG2 (sp_inE_1.2 ⟨sp_in_1.1 (by omega), (show M 11 i = e by omega)⟩))
            | (have hno : (sp_inE (c_d M) y e) i ≠ 1 := fun z => (by have z1 := sp_inE_1.1 z; have z2 := sp_in_1.2 z1.1; have z3 : M 11 i = e := z1.2; omega)
               have hg := c_g_n' i0 hG2 hno
               exact ih _ (by omega) (i + 1) _ rfl (by omega) (by omega) hS ⟨by rw [hG1, hg.2], hg.1⟩)
set_option maxHeartbeats 4000000 in
set_option maxRecDepth 100000 in
theorem ev_S_gatherEvent {y e : Int} {n : Nat} {M : rd_M} {Q : rd_R → rd_M → Prop} (hI : c_I M) (hn : M 2 0 = n) (hY : c_Y M y) (he : 0 ≤ e ∧ e ≤ 9) (hQ : ∀ M', c_sm M' M → c_G M' n (sp_inE (c_d M) y e) → Q (.inl none) M') : rd_G x_S_gatherEvent 0 [some (.ref 4), some (rd_i e), none] [] M 0 Q := by
  refine rd_aldn (pc := 0) d_S_gatherEvent_0 rfl ?_
  refine rd_iconst (pc := 1) d_S_gatherEvent_1 ?_
  refine rd_pi (pc := 2) (ki := 11) d_S_gatherEvent_2 fl_S_142 fp_0_11 rfl rfl rfl ?_
  refine rd_iconst (pc := 5) d_S_gatherEvent_5 ?_
  refine rd_ist2 (pc := 6) d_S_gatherEvent_6 rfl ?_
  exact lq_S_gatherEvent hI hn hY he hQ _ 0 _ rfl (by omega) (by omega) (c_sm.refl.up (by omega)) ⟨rd_up_hit, c_g_0⟩
end
section
/-! cession: windows of events -/
set_option maxHeartbeats 4000000 in
set_option maxRecDepth 100000 in
theorem lq_S_keptFrom {h : Int} {n : Nat} {p : Int → Int} {M : rd_M} {Q : rd_R → rd_M → Prop} (hI : c_I M) (hn : M 2 0 = n) (hK : ∀ k : Int, 0 ≤ k → k < n → 0 ≤ M 24 k ∧ M 24 k ≤ 1000000000) (hG : c_G M n p) (hh : -1 ≤ h ∧ h ≤ 100000) (hQ : Q (.inl (some (rd_l (sp_sum n p (fun k => if h ≤ M 12 k ∧ M 12 k < h + 72 then M 24 k else 0))))) M) : ∀ (d : Nat) (m a : Int), (sp_cn n p - m).toNat = d → (0 ≤ m) → (m ≤ sp_cn n p) → (a = sp_gs n p (fun k => if h ≤ M 12 k ∧ M 12 k < h + 72 then M 24 k else 0) m) → rd_G x_S_keptFrom 5 [some (.ref 4), some (rd_i h), some (rd_l a), none, some (rd_i m), none] [] M 0 Q := by
  intro d
  induction d using Nat.strongRecOn with
  | ind d ih =>
    intro m a hd m0 m1 ha
    have hn40 := hI.n hn
    have hsz := sp_cn_hi (n := n) (p := p)
    have hG1 := hG.1
    have hG2 := hG.2
    refine rd_ild (pc := 5) d_S_keptFrom_5 rfl ?_
    refine rd_aldn (pc := 7) d_S_keptFrom_7 rfl ?_
    refine rd_gi (pc := 8) (ki := 11) d_S_keptFrom_8 fl_S_142 rfl rfl rfl ?_
    refine rd_icmp_ge (pc := 11) (tgt := 68) d_S_keptFrom_11 rfl ⟨by omega, by omega⟩ ⟨by omega, by omega⟩ (fun h11 => ?_) (fun h11 => ?_)
    · skip
      refine rd_lldn (pc := 68) d_S_keptFrom_68 rfl ?_
      exact rd_lret (pc := 69) d_S_keptFrom_69 rfl (Nat.le_of_ble_eq_true rfl) (by rw [ha, sp_gs_e (by omega)]; exact hQ)
    · skip
      obtain ⟨g0, g1, g2, g3⟩ := hG2.1 m m0 (by omega)
      have gk := hK _ g0 g1
      obtain ⟨_, _, gh, _⟩ := hI.claim g0 (by omega)
      have gs := sp_gs_s (f := (fun k => if h ≤ M 12 k ∧ M 12 k < h + 72 then M 24 k else 0)) hG2 m0 (by omega)
      refine rd_aldn (pc := 14) d_S_keptFrom_14 rfl ?_
      refine rd_getr (pc := 15) d_S_keptFrom_15 fl_S_15 rfl rfl ?_
      refine rd_getr (pc := 18) d_S_keptFrom_18 fl_S_163 rfl rfl ?_
      refine rd_aldn (pc := 21) d_S_keptFrom_21 rfl ?_
      refine rd_getr (pc := 22) d_S_keptFrom_22 fl_S_47 rfl rfl ?_
      refine rd_ild (pc := 25) d_S_keptFrom_25 rfl ?_
      refine rd_iald (pc := 27) d_S_keptFrom_27 rfl (by omega) (by omega) ?_
      refine rd_iald (pc := 28) d_S_keptFrom_28 rfl (by omega) (by omega) ?_
      refine rd_ist5 (pc := 29) d_S_keptFrom_29 rfl ?_
      refine rd_ild (pc := 31) d_S_keptFrom_31 rfl ?_
      refine rd_ildn (pc := 33) d_S_keptFrom_33 rfl ?_
      refine rd_icmp_lt (pc := 34) (tgt := 62) d_S_keptFrom_34 rfl ⟨by omega, by omega⟩ ⟨by omega, by omega⟩ (fun h34 => ?_) (fun h34 => ?_)
      · skip
        refine rd_iinc4 (pc := 62) d_S_keptFrom_62 rfl ?_
        refine rd_goto (pc := 65) (tgt := 5) d_S_keptFrom_65 rfl ?_
        first
          | (refine rd_weak (L' := [some (.ref 4), some (rd_i h), some (rd_l (a + M 24 (M 30 m))), none, some (rd_i (m + 1)), none]) (by simp [rd_le]) ?_
             exact ih _ (by omega) (m + 1) _ rfl (by omega) (by omega) (by rw [gs, ha, if_pos (by omega)]))
          | (refine rd_weak (L' := [some (.ref 4), some (rd_i h), some (rd_l a), none, some (rd_i (m + 1)), none]) (by simp [rd_le]) ?_
             exact ih _ (by omega) (m + 1) _ rfl (by omega) (by omega) (by rw [gs, ha, if_neg (by omega)]; omega))
      · skip
        refine rd_ild (pc := 37) d_S_keptFrom_37 rfl ?_
        refine rd_ildn (pc := 39) d_S_keptFrom_39 rfl ?_
        refine rd_bipush (pc := 40) d_S_keptFrom_40 rfl ?_
        refine rd_iadd (pc := 42) d_S_keptFrom_42 ?_
        refine rd_icmp_ge (pc := 43) (tgt := 62) d_S_keptFrom_43 rfl ⟨by omega, by omega⟩ ⟨by omega, by omega⟩ (fun h43 => ?_) (fun h43 => ?_)
        · skip
          refine rd_iinc4 (pc := 62) d_S_keptFrom_62 rfl ?_
          refine rd_goto (pc := 65) (tgt := 5) d_S_keptFrom_65 rfl ?_
          first
            | (refine rd_weak (L' := [some (.ref 4), some (rd_i h), some (rd_l (a + M 24 (M 30 m))), none, some (rd_i (m + 1)), none]) (by simp [rd_le]) ?_
               exact ih _ (by omega) (m + 1) _ rfl (by omega) (by omega) (by rw [gs, ha, if_pos (by omega)]))
            | (refine rd_weak (L' := [some (.ref 4), some (rd_i h), some (rd_l a), none, some (rd_i (m + 1)), none]) (by simp [rd_le]) ?_
               exact ih _ (by omega) (m + 1) _ rfl (by omega) (by omega) (by rw [gs, ha, if_neg (by omega)]; omega))
        · skip
          refine rd_lldn (pc := 46) d_S_keptFrom_46 rfl ?_
          refine rd_aldn (pc := 47) d_S_keptFrom_47 rfl ?_
          refine rd_getr (pc := 48) d_S_keptFrom_48 fl_S_27 rfl rfl ?_
          refine rd_aldn (pc := 51) d_S_keptFrom_51 rfl ?_
          refine rd_getr (pc := 52) d_S_keptFrom_52 fl_S_47 rfl rfl ?_
          refine rd_ild (pc := 55) d_S_keptFrom_55 rfl ?_
          refine rd_iald (pc := 57) d_S_keptFrom_57 rfl (by omega) (by omega) ?_
          refine rd_iald (pc := 58) d_S_keptFrom_58 rfl (by omega) (by omega) ?_
          refine rd_i2l (pc := 59) d_S_keptFrom_59 ⟨by omega, by omega⟩ ?_
          refine rd_ladd (pc := 60) d_S_keptFrom_60 ?_
          refine rd_lst2 (pc := 61) d_S_keptFrom_61 rfl ?_
          refine rd_iinc4 (pc := 62) d_S_keptFrom_62 rfl ?_
          refine rd_goto (pc := 65) (tgt := 5) d_S_keptFrom_65 rfl ?_
          first
            | (refine rd_weak (L' := [some (.ref 4), some (rd_i h), some (rd_l (a + M 24 (M 30 m))), none, some (rd_i (m + 1)), none]) (by simp [rd_le]) ?_
               exact ih _ (by omega) (m + 1) _ rfl (by omega) (by omega) (by rw [gs, ha, if_pos (by omega)]))
            | (refine rd_weak (L' := [some (.ref 4), some (rd_i h), some (rd_l a), none, some (rd_i (m + 1)), none]) (by simp [rd_le]) ?_
               exact ih _ (by omega) (m + 1) _ rfl (by omega) (by omega) (by rw [gs, ha, if_neg (by omega)]; omega))
set_option maxHeartbeats 4000000 in
set_option maxRecDepth 100000 in
theorem ev_S_keptFrom {h : Int} {n : Nat} {p : Int → Int} {M : rd_M} {Q : rd_R → rd_M → Prop} (hI : c_I M) (hn : M 2 0 = n) (hK : ∀ k : Int, 0 ≤ k → k < n → 0 ≤ M 24 k ∧ M 24 k ≤ 1000000000) (hG : c_G M n p) (hh : -1 ≤ h ∧ h ≤ 100000) (hQ : Q (.inl (some (rd_l (sp_sum n p (fun k => if h ≤ M 12 k ∧ M 12 k < h + 72 then M 24 k else 0))))) (M)) : rd_G x_S_keptFrom 0 [some (.ref 4), some (rd_i h), none, none, none, none] [] M 0 Q := by
  refine rd_lconst (pc := 0) (v := 0) d_S_keptFrom_0 rfl ?_
  refine rd_lst2 (pc := 1) d_S_keptFrom_1 rfl ?_
  refine rd_iconst (pc := 2) d_S_keptFrom_2 ?_
  refine rd_ist4 (pc := 3) d_S_keptFrom_3 rfl ?_
  have := sp_cn_nn (n := n) (p := p)
  exact lq_S_keptFrom hI hn hK hG hh hQ _ 0 0 rfl (by omega) (by omega) sp_gs_0.symm
theorem sp_W_eq {M : rd_M} {n : Nat} {y e h : Int} : sp_sum n (sp_inE (c_d M) y e) (fun k => if h ≤ M 12 k ∧ M 12 k < h + 72 then M 24 k else 0) = sp_W (c_d M) n y e (M 24) h := by
  refine rd_sm_c n (fun k a b => ?_)
  by_cases h1 : sp_inE (c_d M) y e k = 1
  · rw [if_pos h1]
    show (if h ≤ M 12 k ∧ M 12 k < h + 72 then M 24 k else 0) = _
    by_cases h2 : h ≤ M 12 k ∧ M 12 k < h + 72
    · rw [if_pos h2, if_pos (show sp_inW (c_d M) y e h k = 1 from if_pos ⟨h1, h2⟩)]
    · rw [if_neg h2, if_neg]
      unfold sp_inW
      rw [if_neg (fun z => h2 z.2)]; omega
  · rw [if_neg h1, if_neg]
    unfold sp_inW
    rw [if_neg (fun z => h1 z.1)]; omega
theorem sp_W_eq2 {M : rd_M} {n : Nat} {y e h : Int} : sp_sum n (sp_inW (c_d M) y e h) (fun k => if h ≤ M 12 k ∧ M 12 k < h + 72 then M 24 k else 0) = sp_W (c_d M) n y e (M 24) h := by
  refine sp_sum_c (fun k a b hp => ?_)
  unfold sp_inW at hp
  by_cases h1 : sp_inE (c_d M) y e k = 1 ∧ h ≤ c_d M 5 k ∧ c_d M 5 k < h + 72
  · exact if_pos h1.2
  · rw [if_neg h1] at hp; omega
theorem sp_W_b {d : rd_M} {n : Nat} {y e h : Int} {κ : Int → Int} (hn : n ≤ 40) (hK : ∀ k : Int, 0 ≤ k → k < n → 0 ≤ κ k ∧ κ k ≤ 1000000000) : 0 ≤ sp_W d n y e κ h ∧ sp_W d n y e κ h ≤ 40000000000 := by
  have h1 := sp_sum_nn (p := sp_inW d y e h) (fun k a b => (hK k a b).1)
  have h2 := sp_sum_hi (p := sp_inW d y e h) hK
  unfold sp_W
  omega
theorem sp_st_b {d : rd_M} {n : Nat} {y e : Int} {κ : Int → Int} (hh : ∀ k : Int, 0 ≤ k → k < 40 → 0 ≤ d 5 k ∧ d 5 k ≤ 100000) : ∀ i : Nat, i ≤ 40 → -1 ≤ sp_st d n y e κ i ∧ sp_st d n y e κ i ≤ 100000
  | 0, _ => by show -1 ≤ (-1 : Int) ∧ (-1 : Int) ≤ 100000; omega
  | i + 1, h => by
    have ih := sp_st_b (n := n) (y := y) (e := e) (κ := κ) hh i (by omega)
    have := hh i (by omega) (by omega)
    rw [sp_st_s]
    split <;> omega
set_option maxHeartbeats 4000000 in
set_option maxRecDepth 100000 in
theorem lq_S_startOfWindow {y e : Int} {n : Nat} {M : rd_M} {Q : rd_R → rd_M → Prop} (hI : c_I M) (hn : M 2 0 = n) (hK : ∀ k : Int, 0 ≤ k → k < n → 0 ≤ M 24 k ∧ M 24 k ≤ 1000000000) (hG : c_G M n (sp_inE (c_d M) y e)) (hQ : Q (.inl (some (rd_i (sp_st (c_d M) n y e (M 24) n)))) M) : ∀ (d : Nat) (m b s : Int) (K : Nat), (sp_cn n (sp_inE (c_d M) y e) - m).toNat = d → (0 ≤ m) → (m ≤ sp_cn n (sp_inE (c_d M) y e)) → (K ≤ n) → (sp_cn K (sp_inE (c_d M) y e) = m) → (b = sp_st (c_d M) n y e (M 24) K) → (s = if b < 0 then -1 else sp_W (c_d M) n y e (M 24) b) → rd_G x_S_startOfWindow 9 [some (.ref 4), some (rd_i b), some (rd_l s), none, some (rd_i m), none, none, none] [] M 0 Q := by
  intro d
  induction d using Nat.strongRecOn with
  | ind d ih =>
    intro m b s K hd m0 m1 k1 hk hb hs
    have hn40 := hI.n hn
    have hsz := sp_cn_hi (n := n) (p := sp_inE (c_d M) y e)
    have hG1 := hG.1
    have hG2 := hG.2
    have hbb := sp_st_b (d := c_d M) (n := n) (y := y) (e := e) (κ := M 24) (fun k a c => (hI.claim a c).2.2.1) K (by omega)
    rw [← hb] at hbb
    have hWb := sp_W_b (d := c_d M) (y := y) (e := e) (h := b) hn40 hK
    have hsb : -1 ≤ s ∧ s ≤ 40000000000 ∧ (b < 0 → s = -1) ∧ (0 ≤ b → s = sp_W (c_d M) n y e (M 24) b) := by (by_cases hz : b < 0; (rw [if_pos hz] at hs; omega); (rw [if_neg hz] at hs; omega))
    refine rd_ild (pc := 9) d_S_startOfWindow_9 rfl ?_
    refine rd_aldn (pc := 11) d_S_startOfWindow_11 rfl ?_
    refine rd_gi (pc := 12) (ki := 11) d_S_startOfWindow_12 fl_S_142 rfl rfl rfl ?_
    refine rd_icmp_ge (pc := 15) (tgt := 75) d_S_startOfWindow_15 rfl ⟨by omega, by omega⟩ ⟨by omega, by omega⟩ (fun h15 => ?_) (fun h15 => ?_)
    · skip
      refine rd_ildn (pc := 75) d_S_startOfWindow_75 rfl ?_
      exact rd_iret (pc := 76) d_S_startOfWindow_76 rfl (Nat.le_of_ble_eq_true rfl) (by rw [hb, ← sp_st_skip (a := K) n (by omega) (by omega)]; exact hQ)
    · skip
      obtain ⟨g0, g1, g2, g3⟩ := hG2.1 m m0 (by omega)
      have gk := hK _ g0 g1
      obtain ⟨_, _, gh, _⟩ := hI.claim g0 (by omega)
      have hWg := sp_W_b (d := c_d M) (y := y) (e := e) (h := M 12 (M 30 m)) hn40 hK
      have hKg : K ≤ (M 30 m).toNat := by (by_cases hz : K ≤ (M 30 m).toNat; exact hz; have hq := sp_cn_k (n := K) (p := sp_inE (c_d M) y e) g0 (by omega) g2; omega)
      have hst := sp_st_skip (d := c_d M) (n := n) (y := y) (e := e) (κ := M 24) (a := K) (M 30 m).toNat hKg (by omega)
      have hss := sp_st_s (d := c_d M) (n := n) (y := y) (e := e) (κ := M 24) (i := (M 30 m).toNat)
      rw [hst, ← hb, show (((M 30 m).toNat : Nat) : Int) = M 30 m by omega] at hss
      have hcn := (sp_cn_k (n := n) g0 g1 g2).2
      have eN : (M 30 m + 1).toNat = (M 30 m).toNat + 1 := by omega
      rw [eN, g3] at hcn
      refine rd_aldn (pc := 18) d_S_startOfWindow_18 rfl ?_
      refine rd_getr (pc := 19) d_S_startOfWindow_19 fl_S_15 rfl rfl ?_
      refine rd_getr (pc := 22) d_S_startOfWindow_22 fl_S_163 rfl rfl ?_
      refine rd_aldn (pc := 25) d_S_startOfWindow_25 rfl ?_
      refine rd_getr (pc := 26) d_S_startOfWindow_26 fl_S_47 rfl rfl ?_
      refine rd_ild (pc := 29) d_S_startOfWindow_29 rfl ?_
      refine rd_iald (pc := 31) d_S_startOfWindow_31 rfl (by omega) (by omega) ?_
      refine rd_iald (pc := 32) d_S_startOfWindow_32 rfl (by omega) (by omega) ?_
      refine rd_ist5 (pc := 33) d_S_startOfWindow_33 rfl ?_
      refine rd_aldn (pc := 35) d_S_startOfWindow_35 rfl ?_
      refine rd_ild (pc := 36) d_S_startOfWindow_36 rfl ?_
      refine rd_callVl (pc := 38) (n' := 0) [_] d_S_startOfWindow_38 ml_S_152 rfl (Nat.le_of_ble_eq_true rfl) (Nat.le_of_ble_eq_true rfl) (Nat.le_of_ble_eq_true rfl) rfl rfl rfl (Nat.le_of_ble_eq_true rfl) (Nat.le_of_ble_eq_true rfl) ?_
      refine ev_S_keptFrom hI hn hK hG ⟨by omega, by omega⟩ ?_
      rw [sp_W_eq]
      refine ⟨_, rfl, ?_⟩
      refine rd_lst6 (pc := 41) d_S_startOfWindow_41 rfl ?_
      refine rd_lld (pc := 43) d_S_startOfWindow_43 rfl ?_
      refine rd_lldn (pc := 45) d_S_startOfWindow_45 rfl ?_
      refine rd_lcmp_gt (pc := 46) (tgt := 63) d_S_startOfWindow_46 d_S_startOfWindow_47 rfl ⟨by omega, by omega⟩ ⟨by omega, by omega⟩ (fun h46 => ?_) (fun h46 => ?_)
      · skip
        refine rd_ild (pc := 63) d_S_startOfWindow_63 rfl ?_
        refine rd_ist1 (pc := 65) d_S_startOfWindow_65 rfl ?_
        refine rd_lld (pc := 66) d_S_startOfWindow_66 rfl ?_
        refine rd_lst2 (pc := 68) d_S_startOfWindow_68 rfl ?_
        refine rd_iinc4 (pc := 69) d_S_startOfWindow_69 rfl ?_
        refine rd_goto (pc := 72) (tgt := 9) d_S_startOfWindow_72 rfl ?_
        first
          | (refine rd_weak (L' := [some (.ref 4), some (rd_i (M 12 (M 30 m))), some (rd_l (sp_W (c_d M) n y e (M 24) (M 12 (M 30 m)))), none, some (rd_i (m + 1)), none, none, none]) (by simp [rd_le]) ?_
             refine ih _ (by omega) (m + 1) _ _ ((M 30 m).toNat + 1) rfl (by omega) (by omega) (by omega) hcn ?_ (by rw [if_neg (by omega)])
             rw [hss]
             refine (if_pos ⟨g2, ?_⟩).symm
             show b < 0 ∨ sp_W (c_d M) n y e (M 24) b < sp_W (c_d M) n y e (M 24) (M 12 (M 30 m)) ∨ (sp_W (c_d M) n y e (M 24) (M 12 (M 30 m)) = sp_W (c_d M) n y e (M 24) b ∧ M 12 (M 30 m) < b)
             omega)
          | (refine rd_weak (L' := [some (.ref 4), some (rd_i b), some (rd_l s), none, some (rd_i (m + 1)), none, none, none]) (by simp [rd_le]) ?_
             refine ih _ (by omega) (m + 1) _ _ ((M 30 m).toNat + 1) rfl (by omega) (by omega) (by omega) hcn ?_ hs
             rw [hss]
             refine (if_neg (fun z => ?_)).symm
             have z2 : b < 0 ∨ sp_W (c_d M) n y e (M 24) b < sp_W (c_d M) n y e (M 24) (M 12 (M 30 m)) ∨ (sp_W (c_d M) n y e (M 24) (M 12 (M 30 m)) = sp_W (c_d M) n y e (M 24) b ∧ M 12 (M 30 m) < b) := z.2
             omega)
      · skip
        refine rd_lld (pc := 50) d_S_startOfWindow_50 rfl ?_
        refine rd_lldn (pc := 52) d_S_startOfWindow_52 rfl ?_
        refine rd_lcmp_ne (pc := 53) (tgt := 69) d_S_startOfWindow_53 d_S_startOfWindow_54 rfl ⟨by omega, by omega⟩ ⟨by omega, by omega⟩ (fun h53 => ?_) (fun h53 => ?_)
        · skip
          refine rd_iinc4 (pc := 69) d_S_startOfWindow_69 rfl ?_
          refine rd_goto (pc := 72) (tgt := 9) d_S_startOfWindow_72 rfl ?_
          first
            | (refine rd_weak (L' := [some (.ref 4), some (rd_i (M 12 (M 30 m))), some (rd_l (sp_W (c_d M) n y e (M 24) (M 12 (M 30 m)))), none, some (rd_i (m + 1)), none, none, none]) (by simp [rd_le]) ?_
               refine ih _ (by omega) (m + 1) _ _ ((M 30 m).toNat + 1) rfl (by omega) (by omega) (by omega) hcn ?_ (by rw [if_neg (by omega)])
               rw [hss]
               refine (if_pos ⟨g2, ?_⟩).symm
               show b < 0 ∨ sp_W (c_d M) n y e (M 24) b < sp_W (c_d M) n y e (M 24) (M 12 (M 30 m)) ∨ (sp_W (c_d M) n y e (M 24) (M 12 (M 30 m)) = sp_W (c_d M) n y e (M 24) b ∧ M 12 (M 30 m) < b)
               omega)
            | (refine rd_weak (L' := [some (.ref 4), some (rd_i b), some (rd_l s), none, some (rd_i (m + 1)), none, none, none]) (by simp [rd_le]) ?_
               refine ih _ (by omega) (m + 1) _ _ ((M 30 m).toNat + 1) rfl (by omega) (by omega) (by omega) hcn ?_ hs
               rw [hss]
               refine (if_neg (fun z => ?_)).symm
               have z2 : b < 0 ∨ sp_W (c_d M) n y e (M 24) b < sp_W (c_d M) n y e (M 24) (M 12 (M 30 m)) ∨ (sp_W (c_d M) n y e (M 24) (M 12 (M 30 m)) = sp_W (c_d M) n y e (M 24) b ∧ M 12 (M 30 m) < b) := z.2
               omega)
        · skip
          refine rd_ild (pc := 57) d_S_startOfWindow_57 rfl ?_
          refine rd_ildn (pc := 59) d_S_startOfWindow_59 rfl ?_
          refine rd_icmp_ge (pc := 60) (tgt := 69) d_S_startOfWindow_60 rfl ⟨by omega, by omega⟩ ⟨by omega, by omega⟩ (fun h60 => ?_) (fun h60 => ?_)
          · skip
            refine rd_iinc4 (pc := 69) d_S_startOfWindow_69 rfl ?_
            refine rd_goto (pc := 72) (tgt := 9) d_S_startOfWindow_72 rfl ?_
            first
              | (refine rd_weak (L' := [some (.ref 4), some (rd_i (M 12 (M 30 m))), some (rd_l (sp_W (c_d M) n y e (M 24) (M 12 (M 30 m)))), none, some (rd_i (m + 1)), none, none, none]) (by simp [rd_le]) ?_
                 refine ih _ (by omega) (m + 1) _ _ ((M 30 m).toNat + 1) rfl (by omega) (by omega) (by omega) hcn ?_ (by rw [if_neg (by omega)])
                 rw [hss]
                 refine (if_pos ⟨g2, ?_⟩).symm
                 show b < 0 ∨ sp_W (c_d M) n y e (M 24) b < sp_W (c_d M) n y e (M 24) (M 12 (M 30 m)) ∨ (sp_W (c_d M) n y e (M 24) (M 12 (M 30 m)) = sp_W (c_d M) n y e (M 24) b ∧ M 12 (M 30 m) < b)
                 omega)
              | (refine rd_weak (L' := [some (.ref 4), some (rd_i b), some (rd_l s), none, some (rd_i (m + 1)), none, none, none]) (by simp [rd_le]) ?_
                 refine ih _ (by omega) (m + 1) _ _ ((M 30 m).toNat + 1) rfl (by omega) (by omega) (by omega) hcn ?_ hs
                 rw [hss]
                 refine (if_neg (fun z => ?_)).symm
                 have z2 : b < 0 ∨ sp_W (c_d M) n y e (M 24) b < sp_W (c_d M) n y e (M 24) (M 12 (M 30 m)) ∨ (sp_W (c_d M) n y e (M 24) (M 12 (M 30 m)) = sp_W (c_d M) n y e (M 24) b ∧ M 12 (M 30 m) < b) := z.2
                 omega)
          · skip
            refine rd_ild (pc := 63) d_S_startOfWindow_63 rfl ?_
            refine rd_ist1 (pc := 65) d_S_startOfWindow_65 rfl ?_
            refine rd_lld (pc := 66) d_S_startOfWindow_66 rfl ?_
            refine rd_lst2 (pc := 68) d_S_startOfWindow_68 rfl ?_
            refine rd_iinc4 (pc := 69) d_S_startOfWindow_69 rfl ?_
            refine rd_goto (pc := 72) (tgt := 9) d_S_startOfWindow_72 rfl ?_
            first
              | (refine rd_weak (L' := [some (.ref 4), some (rd_i (M 12 (M 30 m))), some (rd_l (sp_W (c_d M) n y e (M 24) (M 12 (M 30 m)))), none, some (rd_i (m + 1)), none, none, none]) (by simp [rd_le]) ?_
                 refine ih _ (by omega) (m + 1) _ _ ((M 30 m).toNat + 1) rfl (by omega) (by omega) (by omega) hcn ?_ (by rw [if_neg (by omega)])
                 rw [hss]
                 refine (if_pos ⟨g2, ?_⟩).symm
                 show b < 0 ∨ sp_W (c_d M) n y e (M 24) b < sp_W (c_d M) n y e (M 24) (M 12 (M 30 m)) ∨ (sp_W (c_d M) n y e (M 24) (M 12 (M 30 m)) = sp_W (c_d M) n y e (M 24) b ∧ M 12 (M 30 m) < b)
                 omega)
              | (refine rd_weak (L' := [some (.ref 4), some (rd_i b), some (rd_l s), none, some (rd_i (m + 1)), none, none, none]) (by simp [rd_le]) ?_
                 refine ih _ (by omega) (m + 1) _ _ ((M 30 m).toNat + 1) rfl (by omega) (by omega) (by omega) hcn ?_ hs
                 rw [hss]
                 refine (if_neg (fun z => ?_)).symm
                 have z2 : b < 0 ∨ sp_W (c_d M) n y e (M 24) b < sp_W (c_d M) n y e (M 24) (M 12 (M 30 m)) ∨ (sp_W (c_d M) n y e (M 24) (M 12 (M 30 m)) = sp_W (c_d M) n y e (M 24) b ∧ M 12 (M 30 m) < b) := z.2
                 omega)
set_option maxHeartbeats 4000000 in
set_option maxRecDepth 100000 in
theorem ev_S_startOfWindow {y e : Int} {n : Nat} {M : rd_M} {Q : rd_R → rd_M → Prop} (hI : c_I M) (hn : M 2 0 = n) (hK : ∀ k : Int, 0 ≤ k → k < n → 0 ≤ M 24 k ∧ M 24 k ≤ 1000000000) (hG : c_G M n (sp_inE (c_d M) y e)) (hQ : Q (.inl (some (rd_i (sp_st (c_d M) n y e (M 24) n)))) (M)) : rd_G x_S_startOfWindow 0 [some (.ref 4), none, none, none, none, none, none, none] [] M 0 Q := by
  refine rd_iconst (pc := 0) d_S_startOfWindow_0 ?_
  refine rd_ist1 (pc := 1) d_S_startOfWindow_1 rfl ?_
  refine rd_ldc2 (pc := 2) (v := -1) d_S_startOfWindow_2 kl_S_166 ?_
  refine rd_lst2 (pc := 5) d_S_startOfWindow_5 rfl ?_
  refine rd_iconst (pc := 6) d_S_startOfWindow_6 ?_
  refine rd_ist4 (pc := 7) d_S_startOfWindow_7 rfl ?_
  have := sp_cn_nn (n := n) (p := sp_inE (c_d M) y e)
  exact lq_S_startOfWindow hI hn hK hG hQ _ 0 (-1) (-1) 0 rfl (by omega) (by omega) (by omega) rfl rfl rfl
end
section
/-! cession: what is outside is dropped; what is taken by parts -/
theorem sp_cn_sub {p p' : Int → Int} (h : ∀ k : Int, p' k = 1 → p k = 1) {a : Nat} : ∀ (b : Nat), a ≤ b → sp_cn a p = sp_cn b p → sp_cn a p' = sp_cn b p'
  | 0, hab, _ => by rw [show a = 0 by omega]
  | b + 1, hab, he => by
    by_cases hb : a = b + 1
    · rw [hb]
    · have h1 := sp_cn_le (p := p) (a := a) b (by omega)
      have h2 := sp_cn_le (p := p) (a := b) (b + 1) (by omega)
      have hn := sp_cn_no (p := p) (a := b) (b := b + 1) (k := b) (by omega) (by omega) (by omega)
      have hn' : p' b ≠ 1 := fun z => hn (h _ z)
      rw [sp_cn_sub h b (by omega) (by omega), sp_cn_s, if_neg hn']
      omega
theorem sp_cn_subl {p p' : Int → Int} (h : ∀ k : Int, p' k = 1 → p k = 1) (n : Nat) : sp_cn n p' ≤ sp_cn n p := rd_sm_le n (fun k a b => by
  by_cases hk : p' k = 1
  · rw [if_pos hk, if_pos (h k hk)]; exact Int.le_refl _
  · rw [if_neg hk]; exact rd_01.1)
set_option maxHeartbeats 4000000 in
set_option maxRecDepth 100000 in
theorem lq_S_dropOutside {h : Int} {n : Nat} {p p' : Int → Int} {M : rd_M} {Q : rd_R → rd_M → Prop} (hI : c_I M) (hn : M 2 0 = n) (hG : c_G M n p) (hh : -1 ≤ h ∧ h ≤ 100000) (hp : ∀ k : Int, p' k = 1 ↔ p k = 1 ∧ h ≤ M 12 k ∧ M 12 k < h + 72) (hQ : ∀ M', c_sm M' M → c_G M' n p' → Q (.inl none) M') : ∀ (d : Nat) (m j : Int) (K : Nat) (M1 : rd_M), (sp_cn n p - m).toNat = d → (0 ≤ m) → (m ≤ sp_cn n p) → (K ≤ n) → (sp_cn K p = m) → (j = sp_cn K p') → (c_g (M1 30) K p') → (∀ i : Int, m ≤ i → M1 30 i = M 30 i) → (c_sm M1 M) → (M1 4 11 = sp_cn n p) → rd_G x_S_dropOutside 4 [some (.ref 4), some (rd_i h), some (rd_i j), some (rd_i m), none] [] M1 0 Q := by
  intro d
  induction d using Nat.strongRecOn with
  | ind d ih =>
    intro m j K M1 hd m0 m1 k1 hk hj hg hu hS hz
    have hn40 := hI.n hn
    have hsz := sp_cn_hi (n := n) (p := p)
    have hG1 := hG.1
    have hG2 := hG.2
    have hjn := sp_cn_nn (n := K) (p := p')
    have hjm := sp_cn_subl (fun k z => ((hp k).1 z).1) K
    have e12 : M1 12 = M 12 := hS 12 (by decide) (by decide) (by decide)
    refine rd_ildn (pc := 4) d_S_dropOutside_4 rfl ?_
    refine rd_aldn (pc := 5) d_S_dropOutside_5 rfl ?_
    refine rd_gi (pc := 6) (ki := 11) d_S_dropOutside_6 fl_S_142 rfl rfl rfl ?_
    first | simp (decide := true) only [rd_up_app, rd_up_hit, e12, hz, e30] | simp (decide := true) only [rd_up_app, rd_up_hit, e12, hz] | skip
    refine rd_icmp_ge (pc := 9) (tgt := 64) d_S_dropOutside_9 rfl ⟨by omega, by omega⟩ ⟨by omega, by omega⟩ (fun h9 => ?_) (fun h9 => ?_)
    · skip
      refine rd_aldn (pc := 64) d_S_dropOutside_64 rfl ?_
      refine rd_ildn (pc := 65) d_S_dropOutside_65 rfl ?_
      refine rd_pi (pc := 66) (ki := 11) d_S_dropOutside_66 fl_S_142 fp_0_11 rfl rfl rfl ?_
      exact rd_vret (pc := 69) d_S_dropOutside_69 rfl (Nat.le_of_ble_eq_true rfl) (by have hcs := sp_cn_sub (fun k z => ((hp k).1 z).1) (a := K) n k1 (by omega); exact hQ _ (hS.up (by omega)) ⟨by rw [rd_up_hit, hj, hcs], by rw [rd_up_ne (by decide)]; exact c_g_skip hg k1 hcs⟩)
    · skip
      obtain ⟨g0, g1, g2, g3⟩ := hG2.1 m m0 (by omega)
      obtain ⟨_, _, gh, _⟩ := hI.claim g0 (by omega)
      have e30 := hu m (by omega)
      have hKg : K ≤ (M 30 m).toNat := by (by_cases hz : K ≤ (M 30 m).toNat; exact hz; have hq := sp_cn_k (n := K) (p := p) g0 (by omega) g2; omega)
      have hcs := sp_cn_sub (fun k z => ((hp k).1 z).1) (a := K) (M 30 m).toNat hKg (by omega)
      have hg2 := c_g_skip hg hKg hcs
      have hcn := (sp_cn_k (n := n) g0 g1 g2).2
      have eN : (M 30 m + 1).toNat = (M 30 m).toNat + 1 := by omega
      have eI : (((M 30 m).toNat : Nat) : Int) = M 30 m := by omega
      rw [eN, g3] at hcn
      refine rd_aldn (pc := 12) d_S_dropOutside_12 rfl ?_
      refine rd_getr (pc := 13) d_S_dropOutside_13 fl_S_15 rfl rfl ?_
      refine rd_getr (pc := 16) d_S_dropOutside_16 fl_S_163 rfl rfl ?_
      refine rd_aldn (pc := 19) d_S_dropOutside_19 rfl ?_
      refine rd_getr (pc := 20) d_S_dropOutside_20 fl_S_47 rfl rfl ?_
      refine rd_ildn (pc := 23) d_S_dropOutside_23 rfl ?_
      refine rd_iald (pc := 24) d_S_dropOutside_24 rfl (by omega) (by omega) ?_
      first | simp (decide := true) only [rd_up_app, rd_up_hit, e12, hz, e30] | simp (decide := true) only [rd_up_app, rd_up_hit, e12, hz] | skip
      refine rd_iald (pc := 25) d_S_dropOutside_25 rfl (by omega) (by omega) ?_
      first | simp (decide := true) only [rd_up_app, rd_up_hit, e12, hz, e30] | simp (decide := true) only [rd_up_app, rd_up_hit, e12, hz] | skip
      refine rd_ist4 (pc := 26) d_S_dropOutside_26 rfl ?_
      refine rd_ild (pc := 28) d_S_dropOutside_28 rfl ?_
      refine rd_ildn (pc := 30) d_S_dropOutside_30 rfl ?_
      refine rd_icmp_lt (pc := 31) (tgt := 58) d_S_dropOutside_31 rfl ⟨by omega, by omega⟩ ⟨by omega, by omega⟩ (fun h31 => ?_) (fun h31 => ?_)
      · skip
        refine rd_iinc3 (pc := 58) d_S_dropOutside_58 rfl ?_
        refine rd_goto (pc := 61) (tgt := 4) d_S_dropOutside_61 rfl ?_
        first
          | (refine rd_weak (L' := [some (.ref 4), some (rd_i h), some (rd_i (j + 1)), some (rd_i (m + 1)), none]) (by simp [rd_le]) ?_
             have hp1 : p' (M 30 m) = 1 := (hp _).2 ⟨g2, by omega, by omega⟩
             have hg3 := c_g_p hg2 (by rw [eI]; exact hp1)
             refine ih _ (by omega) (m + 1) _ ((M 30 m).toNat + 1) _ rfl (by omega) (by omega) (by omega) hcn ?_ ?_ ?_ (hS.up (by omega)) (by rw [rd_up_app (by decide), hz])
             · rw [sp_cn_s, eI, if_pos hp1, hj, hcs]
             · have ee : (rd_up M1 30 j (M 30 m)) 30 = fun i => if i = sp_cn (M 30 m).toNat p' then (((M 30 m).toNat : Nat) : Int) else M1 30 i := by (funext i; rw [rd_up_at, hj, hcs, eI])
               rw [ee]; exact hg3
             · intro i hi; rw [rd_up_at, if_neg (by omega)]; exact hu i (by omega))
          | (refine rd_weak (L' := [some (.ref 4), some (rd_i h), some (rd_i j), some (rd_i (m + 1)), none]) (by simp [rd_le]) ?_
             have hp1 : p' (M 30 m) ≠ 1 := fun z => by (have z1 := (hp _).1 z; omega)
             refine ih _ (by omega) (m + 1) _ ((M 30 m).toNat + 1) _ rfl (by omega) (by omega) (by omega) hcn ?_ (c_g_n hg2 (by rw [eI]; exact hp1)) (fun i hi => hu i (by omega)) hS hz
             rw [sp_cn_s, eI, if_neg hp1, hj, hcs]; omega)
      · skip
        refine rd_ild (pc := 34) d_S_dropOutside_34 rfl ?_
        refine rd_ildn (pc := 36) d_S_dropOutside_36 rfl ?_
        refine rd_bipush (pc := 37) d_S_dropOutside_37 rfl ?_
        refine rd_iadd (pc := 39) d_S_dropOutside_39 ?_
        refine rd_icmp_ge (pc := 40) (tgt := 58) d_S_dropOutside_40 rfl ⟨by omega, by omega⟩ ⟨by omega, by omega⟩ (fun h40 => ?_) (fun h40 => ?_)
        · skip
          refine rd_iinc3 (pc := 58) d_S_dropOutside_58 rfl ?_
          refine rd_goto (pc := 61) (tgt := 4) d_S_dropOutside_61 rfl ?_
          first
            | (refine rd_weak (L' := [some (.ref 4), some (rd_i h), some (rd_i (j + 1)), some (rd_i (m + 1)), none]) (by simp [rd_le]) ?_
               have hp1 : p' (M 30 m) = 1 := (hp _).2 ⟨g2, by omega, by omega⟩
               have hg3 := c_g_p hg2 (by rw [eI]; exact hp1)
               refine ih _ (by omega) (m + 1) _ ((M 30 m).toNat + 1) _ rfl (by omega) (by omega) (by omega) hcn ?_ ?_ ?_ (hS.up (by omega)) (by rw [rd_up_app (by decide), hz])
               · rw [sp_cn_s, eI, if_pos hp1, hj, hcs]
               · have ee : (rd_up M1 30 j (M 30 m)) 30 = fun i => if i = sp_cn (M 30 m).toNat p' then (((M 30 m).toNat : Nat) : Int) else M1 30 i := by (funext i; rw [rd_up_at, hj, hcs, eI])
                 rw [ee]; exact hg3
               · intro i hi; rw [rd_up_at, if_neg (by omega)]; exact hu i (by omega))
            | (refine rd_weak (L' := [some (.ref 4), some (rd_i h), some (rd_i j), some (rd_i (m + 1)), none]) (by simp [rd_le]) ?_
               have hp1 : p' (M 30 m) ≠ 1 := fun z => by (have z1 := (hp _).1 z; omega)
               refine ih _ (by omega) (m + 1) _ ((M 30 m).toNat + 1) _ rfl (by omega) (by omega) (by omega) hcn ?_ (c_g_n hg2 (by rw [eI]; exact hp1)) (fun i hi => hu i (by omega)) hS hz
               rw [sp_cn_s, eI, if_neg hp1, hj, hcs]; omega)
        · skip
          refine rd_aldn (pc := 43) d_S_dropOutside_43 rfl ?_
          refine rd_getr (pc := 44) d_S_dropOutside_44 fl_S_47 rfl rfl ?_
          refine rd_ildn (pc := 47) d_S_dropOutside_47 rfl ?_
          refine rd_aldn (pc := 48) d_S_dropOutside_48 rfl ?_
          refine rd_getr (pc := 49) d_S_dropOutside_49 fl_S_47 rfl rfl ?_
          refine rd_ildn (pc := 52) d_S_dropOutside_52 rfl ?_
          refine rd_iald (pc := 53) d_S_dropOutside_53 rfl (by omega) (by omega) ?_
          first | simp (decide := true) only [rd_up_app, rd_up_hit, e12, hz, e30] | simp (decide := true) only [rd_up_app, rd_up_hit, e12, hz] | skip
          refine rd_iast (pc := 54) d_S_dropOutside_54 rfl (by omega) (by omega) ?_
          refine rd_iinc2 (pc := 55) d_S_dropOutside_55 rfl ?_
          refine rd_iinc3 (pc := 58) d_S_dropOutside_58 rfl ?_
          refine rd_goto (pc := 61) (tgt := 4) d_S_dropOutside_61 rfl ?_
          first
            | (refine rd_weak (L' := [some (.ref 4), some (rd_i h), some (rd_i (j + 1)), some (rd_i (m + 1)), none]) (by simp [rd_le]) ?_
               have hp1 : p' (M 30 m) = 1 := (hp _).2 ⟨g2, by omega, by omega⟩
               have hg3 := c_g_p hg2 (by rw [eI]; exact hp1)
               refine ih _ (by omega) (m + 1) _ ((M 30 m).toNat + 1) _ rfl (by omega) (by omega) (by omega) hcn ?_ ?_ ?_ (hS.up (by omega)) (by rw [rd_up_app (by decide), hz])
               · rw [sp_cn_s, eI, if_pos hp1, hj, hcs]
               · have ee : (rd_up M1 30 j (M 30 m)) 30 = fun i => if i = sp_cn (M 30 m).toNat p' then (((M 30 m).toNat : Nat) : Int) else M1 30 i := by (funext i; rw [rd_up_at, hj, hcs, eI])
                 rw [ee]; exact hg3
               · intro i hi; rw [rd_up_at, if_neg (by omega)]; exact hu i (by omega))
            | (refine rd_weak (L' := [some (.ref 4), some (rd_i h), some (rd_i j), some (rd_i (m + 1)), none]) (by simp [rd_le]) ?_
               have hp1 : p' (M 30 m) ≠ 1 := fun z => by (have z1 := (hp _).1 z; omega)
               refine ih _ (by omega) (m + 1) _ ((M 30 m).toNat + 1) _ rfl (by omega) (by omega) (by omega) hcn ?_ (c_g_n hg2 (by rw [eI]; exact hp1)) (fun i hi => hu i (by omega)) hS hz
               rw [sp_cn_s, eI, if_neg hp1, hj, hcs]; omega)
set_option maxHeartbeats 4000000 in
set_option maxRecDepth 100000 in
theorem ev_S_dropOutside {h : Int} {n : Nat} {p p' : Int → Int} {M : rd_M} {Q : rd_R → rd_M → Prop} (hI : c_I M) (hn : M 2 0 = n) (hG : c_G M n p) (hh : -1 ≤ h ∧ h ≤ 100000) (hp : ∀ k : Int, p' k = 1 ↔ p k = 1 ∧ h ≤ M 12 k ∧ M 12 k < h + 72) (hQ : ∀ M', c_sm M' M → c_G M' n p' → Q (.inl none) M') : rd_G x_S_dropOutside 0 [some (.ref 4), some (rd_i h), none, none, none] [] M 0 Q := by
  refine rd_iconst (pc := 0) d_S_dropOutside_0 ?_
  refine rd_ist2 (pc := 1) d_S_dropOutside_1 rfl ?_
  refine rd_iconst (pc := 2) d_S_dropOutside_2 ?_
  refine rd_ist3 (pc := 3) d_S_dropOutside_3 rfl ?_
  have := sp_cn_nn (n := n) (p := p)
  exact lq_S_dropOutside hI hn hG hh hp hQ _ 0 0 0 M rfl (by omega) (by omega) (by omega) rfl rfl c_g_0 (fun i _ => rfl) c_sm.refl hG.1
set_option maxHeartbeats 4000000 in
set_option maxRecDepth 100000 in
theorem lq_S_greatestRemainder {M : rd_M} {Q : rd_R → rd_M → Prop} (hs : 1 ≤ M 4 11 ∧ M 4 11 ≤ 40) (hr : ∀ j : Int, 0 ≤ j → j < M 4 11 → -1 ≤ M 31 j ∧ M 31 j ≤ 1000000000000000000) (hQ : ∀ g : Int, 0 ≤ g → g < M 4 11 → (∀ j : Int, 0 ≤ j → j < M 4 11 → M 31 j ≤ M 31 g ∧ (j < g → M 31 j < M 31 g)) → Q (.inl (some (rd_i g))) M) : ∀ (d : Nat) (m g : Int), (M 4 11 - m).toNat = d → (1 ≤ m) → (m ≤ M 4 11) → (0 ≤ g) → (g < m) → (∀ j : Int, 0 ≤ j → j < m → M 31 j ≤ M 31 g ∧ (j < g → M 31 j < M 31 g)) → rd_G x_S_greatestRemainder 4 [some (.ref 4), some (rd_i g), some (rd_i m)] [] M 0 Q := by
  intro d
  induction d using Nat.strongRecOn with
  | ind d ih =>
    intro m g hd m0 m1 g0 g1 hm
    refine rd_ildn (pc := 4) d_S_greatestRemainder_4 rfl ?_
    refine rd_aldn (pc := 5) d_S_greatestRemainder_5 rfl ?_
    refine rd_gi (pc := 6) (ki := 11) d_S_greatestRemainder_6 fl_S_142 rfl rfl rfl ?_
    refine rd_icmp_ge (pc := 9) (tgt := 36) d_S_greatestRemainder_9 rfl ⟨by omega, by omega⟩ ⟨by omega, by omega⟩ (fun h9 => ?_) (fun h9 => ?_)
    · skip
      refine rd_ildn (pc := 36) d_S_greatestRemainder_36 rfl ?_
      exact rd_iret (pc := 37) d_S_greatestRemainder_37 rfl (Nat.le_of_ble_eq_true rfl) (hQ g g0 (by omega) (fun j a b => hm j a (by omega)))
    · skip
      have r1 := hr m (by omega) (by omega)
      have r2 := hr g g0 (by omega)
      refine rd_aldn (pc := 12) d_S_greatestRemainder_12 rfl ?_
      refine rd_getr (pc := 13) d_S_greatestRemainder_13 fl_S_50 rfl rfl ?_
      refine rd_ildn (pc := 16) d_S_greatestRemainder_16 rfl ?_
      refine rd_lald (pc := 17) d_S_greatestRemainder_17 rfl (by omega) (by omega) ?_
      refine rd_aldn (pc := 18) d_S_greatestRemainder_18 rfl ?_
      refine rd_getr (pc := 19) d_S_greatestRemainder_19 fl_S_50 rfl rfl ?_
      refine rd_ildn (pc := 22) d_S_greatestRemainder_22 rfl ?_
      refine rd_lald (pc := 23) d_S_greatestRemainder_23 rfl (by omega) (by omega) ?_
      refine rd_lcmp_le (pc := 24) (tgt := 30) d_S_greatestRemainder_24 d_S_greatestRemainder_25 rfl ⟨by omega, by omega⟩ ⟨by omega, by omega⟩ (fun h24 => ?_) (fun h24 => ?_)
      · skip
        refine rd_iinc2 (pc := 30) d_S_greatestRemainder_30 rfl ?_
        refine rd_goto (pc := 33) (tgt := 4) d_S_greatestRemainder_33 rfl ?_
        first
          | exact ih _ (by omega) (m + 1) m rfl (by omega) (by omega) (by omega) (by omega) (fun j a b => by by_cases hj : j = m; (subst hj; omega); (have := hm j a (by omega); omega))
          | exact ih _ (by omega) (m + 1) g rfl (by omega) (by omega) (by omega) (by omega) (fun j a b => by by_cases hj : j = m; (subst hj; omega); (have := hm j a (by omega); omega))
      · skip
        refine rd_ildn (pc := 28) d_S_greatestRemainder_28 rfl ?_
        refine rd_ist1 (pc := 29) d_S_greatestRemainder_29 rfl ?_
        refine rd_iinc2 (pc := 30) d_S_greatestRemainder_30 rfl ?_
        refine rd_goto (pc := 33) (tgt := 4) d_S_greatestRemainder_33 rfl ?_
        first
          | exact ih _ (by omega) (m + 1) m rfl (by omega) (by omega) (by omega) (by omega) (fun j a b => by by_cases hj : j = m; (subst hj; omega); (have := hm j a (by omega); omega))
          | exact ih _ (by omega) (m + 1) g rfl (by omega) (by omega) (by omega) (by omega) (fun j a b => by by_cases hj : j = m; (subst hj; omega); (have := hm j a (by omega); omega))
set_option maxHeartbeats 4000000 in
set_option maxRecDepth 100000 in
theorem ev_S_greatestRemainder {M : rd_M} {Q : rd_R → rd_M → Prop} (hs : 1 ≤ M 4 11 ∧ M 4 11 ≤ 40) (hr : ∀ j : Int, 0 ≤ j → j < M 4 11 → -1 ≤ M 31 j ∧ M 31 j ≤ 1000000000000000000) (hQ : ∀ g : Int, 0 ≤ g → g < M 4 11 → (∀ j : Int, 0 ≤ j → j < M 4 11 → M 31 j ≤ M 31 g ∧ (j < g → M 31 j < M 31 g)) → Q (.inl (some (rd_i g))) M) : rd_G x_S_greatestRemainder 0 [some (.ref 4), none, none] [] M 0 Q := by
  refine rd_iconst (pc := 0) d_S_greatestRemainder_0 ?_
  refine rd_ist1 (pc := 1) d_S_greatestRemainder_1 rfl ?_
  refine rd_iconst (pc := 2) d_S_greatestRemainder_2 ?_
  refine rd_ist2 (pc := 3) d_S_greatestRemainder_3 rfl ?_
  exact lq_S_greatestRemainder hs hr hQ _ 1 0 rfl (by omega) (by omega) (by omega) (by omega) (fun j a b => by rw [show j = 0 by omega]; omega)
end
section
/-! cession: taken by parts -/
theorem sp_w1_s {M : rd_M} {n : Nat} {p : Int → Int} {v s m j : Int} (hg : c_g (M 30) n p) (m0 : 0 ≤ m) (m1 : m < sp_cn n p) (j0 : 0 ≤ j) (j1 : j < n) : (if j = M 30 m then (fun k => if p k = 1 ∧ sp_cn k.toNat p < m then sp_q (M 24) v s k else 0) j + sp_q (M 24) v s (M 30 m) else (fun k => if p k = 1 ∧ sp_cn k.toNat p < m then sp_q (M 24) v s k else 0) j) = (fun k => if p k = 1 ∧ sp_cn k.toNat p < (m + 1) then sp_q (M 24) v s k else 0) j := by
  obtain ⟨g0, g1, gp, gc⟩ := hg.1 m m0 m1
  show (if j = M 30 m then (if p j = 1 ∧ sp_cn j.toNat p < m then _ else 0) + _ else (if p j = 1 ∧ sp_cn j.toNat p < m then _ else 0)) = (if p j = 1 ∧ sp_cn j.toNat p < m + 1 then _ else 0)
  by_cases hj : j = M 30 m
  · rw [if_pos hj, hj, if_neg (by omega), if_pos ⟨gp, by omega⟩]; omega
  · rw [if_neg hj]
    by_cases hp : p j = 1
    · have hne : sp_cn j.toNat p ≠ m := fun z => hj (by rw [← z]; exact (hg.2 j j0 j1 hp).symm)
      by_cases hz : sp_cn j.toNat p < m
      · rw [if_pos ⟨hp, hz⟩, if_pos ⟨hp, by omega⟩]
      · rw [if_neg (by omega), if_neg (by omega)]
    · rw [if_neg (fun z => hp z.1), if_neg (fun z => hp z.1)]
theorem sp_w2_s {M : rd_M} {n : Nat} {p : Int → Int} {v s c k j : Int} (k0 : 0 ≤ k) (k1 : k < n) (kp : p k = 1) (kr : sp_rk n p (sp_r (M 24) v s) k = c) (j0 : 0 ≤ j) (j1 : j < n) : (if j = k then (fun k => if p k = 1 then sp_q (M 24) v s k + (if sp_rk n p (sp_r (M 24) v s) k < c then 1 else 0) else 0) j + 1 else (fun k => if p k = 1 then sp_q (M 24) v s k + (if sp_rk n p (sp_r (M 24) v s) k < c then 1 else 0) else 0) j) = (fun k => if p k = 1 then sp_q (M 24) v s k + (if sp_rk n p (sp_r (M 24) v s) k < (c + 1) then 1 else 0) else 0) j := by
  show (if j = k then (if p j = 1 then _ + (if sp_rk n p (sp_r (M 24) v s) j < c then 1 else 0) else 0) + 1 else (if p j = 1 then _ + (if sp_rk n p (sp_r (M 24) v s) j < c then 1 else 0) else 0)) = (if p j = 1 then _ + (if sp_rk n p (sp_r (M 24) v s) j < c + 1 then 1 else 0) else 0)
  by_cases hj : j = k
  · subst hj
    rw [if_pos rfl, if_pos kp, if_pos kp, if_neg (by omega), if_pos (by omega)]; omega
  · rw [if_neg hj]
    by_cases hp : p j = 1
    · have hne : sp_rk n p (sp_r (M 24) v s) j ≠ c := fun z => hj (sp_rk_inj (f := sp_r (M 24) v s) j0 j1 k0 k1 hp kp (by omega))
      rw [if_pos hp, if_pos hp]
      by_cases hz : sp_rk n p (sp_r (M 24) v s) j < c
      · rw [if_pos hz, if_pos (by omega)]
      · rw [if_neg hz, if_neg (by omega)]
    · rw [if_neg hp, if_neg hp]
/-- the class finds the next one that gets a cent -/
theorem sp_gr {M : rd_M} {n : Nat} {p R : Int → Int} {v s c g : Int} (hg : c_g (M 30) n p) (hr0 : ∀ k : Int, 0 ≤ k → k < n → p k = 1 → 0 ≤ sp_r (M 24) v s k) (c0 : 0 ≤ c) (c1 : c < sp_cn n p) (hR : ∀ i : Int, 0 ≤ i → i < sp_cn n p → R i = if sp_rk n p (sp_r (M 24) v s) (M 30 i) < c then -1 else sp_r (M 24) v s (M 30 i)) (g0 : 0 ≤ g) (g1 : g < sp_cn n p) (hm : ∀ j : Int, 0 ≤ j → j < sp_cn n p → R j ≤ R g ∧ (j < g → R j < R g)) : sp_rk n p (sp_r (M 24) v s) (M 30 g) = c := by
  obtain ⟨k0, k1, kp, kc⟩ := hg.1 g g0 g1
  obtain ⟨a, a0, a1, ap, ar⟩ := sp_rk_ex (f := sp_r (M 24) v s) c0 c1
  have ha := sp_cn_k (n := n) a0 a1 ap
  have haR := hR _ sp_cn_nn ha.1
  rw [hg.2 a a0 a1 ap, if_neg (by omega)] at haR
  have h1 := (hm _ sp_cn_nn ha.1).1
  have h2 := hr0 a a0 a1 ap
  have hgR := hR g g0 g1
  have hlt : ¬ sp_rk n p (sp_r (M 24) v s) (M 30 g) < c := fun z => by
    rw [if_pos z] at hgR
    omega
  rw [if_neg hlt] at hgR
  refine sp_rk_next c0 (by omega) k0 k1 kp (by omega) (fun j j0 j1 jp jr hb => ?_)
  have hj := sp_cn_k (n := n) j0 j1 jp
  have hjR := hR _ sp_cn_nn hj.1
  rw [hg.2 j j0 j1 jp, if_neg (by omega)] at hjR
  have h3 := hm _ sp_cn_nn hj.1
  by_cases hjk : j < M 30 g
  · have h4 := sp_cn_k (n := (M 30 g).toNat) j0 (by omega) jp
    omega
  · omega
set_option maxHeartbeats 4000000 in
set_option maxRecDepth 100000 in
theorem lq_S_takeByParts2 {t v s : Int} {n : Nat} {p : Int → Int} {M : rd_M} {Q : rd_R → rd_M → Prop} (hI : c_I M) (hn : M 2 0 = n) (hK : ∀ k : Int, 0 ≤ k → k < n → 0 ≤ M 24 k ∧ M 24 k ≤ 1000000000) (hG : c_G M n p) (h0 : 0 ≤ t) (h1 : t < 10) (hv : 0 ≤ v ∧ v ≤ 1000000000) (hs : s = sp_sum n p (M 24)) (hvs : v ≤ s) (hs0 : 0 < s) (hQ : ∀ M', c_sm M' (c_tks M t n (sp_spr n p (M 24) v s)) → Q (.inl none) M') : ∀ (d : Nat) (c : Int) (B M1 : rd_M), (sp_ov n p (M 24) v s - c).toNat = d → (0 ≤ c) → (c ≤ sp_ov n p (M 24) v s) → (∀ x, x ≠ 31 → B x = M x) → (∀ i : Int, 0 ≤ i → i < sp_cn n p → B 31 i = if sp_rk n p (sp_r (M 24) v s) (M 30 i) < c then -1 else (sp_r (M 24) v s) (M 30 i)) → (M1 = c_tks B t n (fun k => if p k = 1 then sp_q (M 24) v s k + (if sp_rk n p (sp_r (M 24) v s) k < c then 1 else 0) else 0)) → rd_G x_S_takeByParts 88 [some (.ref 4), some (rd_i t), some (rd_l v), none, some (rd_l s), none, some (rd_l (sp_ov n p (M 24) v s)), none, some (rd_i c), none, none] [] M1 0 Q := by
  intro d
  induction d using Nat.strongRecOn with
  | ind d ih =>
    intro c B M1 hd c0 c1 hB hR hM
    have hn40 := hI.n hn
    have hsz := sp_cn_hi (n := n) (p := p)
    have hG1 := hG.1
    have hG2 := hG.2
    have hov : 0 ≤ sp_ov n p (M 24) v s ∧ sp_ov n p (M 24) v s ≤ sp_cn n p := by (rw [hs]; exact sp_ov_cn (fun k a b _ => (hK k a b).1) hv.1 (by omega) (by omega))
    have e4 : M1 4 = M 4 := by rw [hM, c_tks_ne (by decide) (by decide) (by decide)]; exact hB 4 (by decide)
    have e30 : M1 30 = M 30 := by rw [hM, c_tks_ne (by decide) (by decide) (by decide)]; exact hB 30 (by decide)
    have e31 : M1 31 = B 31 := by rw [hM, c_tks_ne (by decide) (by decide) (by decide)]
    have hqr := fun (k : Int) (a : 0 ≤ k) (b : k < n) => sp_qr (κ := M 24) (k := k) (hK k a b).1 hv.1 hvs hs0
    refine rd_ild (pc := 88) d_S_takeByParts_88 rfl ?_
    refine rd_i2l (pc := 90) d_S_takeByParts_90 ⟨by omega, by omega⟩ ?_
    refine rd_lld (pc := 91) d_S_takeByParts_91 rfl ?_
    refine rd_lcmp_ge (pc := 93) (tgt := 141) d_S_takeByParts_93 d_S_takeByParts_94 rfl ⟨by omega, by omega⟩ ⟨by omega, by omega⟩ (fun h93 => ?_) (fun h93 => ?_)
    · skip
      exact rd_vret (pc := 141) d_S_takeByParts_141 rfl (Nat.le_of_ble_eq_true rfl) (by
      have hc : c = sp_ov n p (M 24) v s := by omega
      refine hQ _ ?_
      rw [hM]
      have hsm : c_sm B M := fun x _ _ h => hB x h
      have hcg := c_tks_congr (M := M) (t := t) (n := n) (w := (fun k => if p k = 1 then sp_q (M 24) v s k + (if sp_rk n p (sp_r (M 24) v s) k < c then 1 else 0) else 0)) (w' := sp_spr n p (M 24) v s) (fun j a b => by unfold sp_spr; rw [if_neg (c := s ≤ 0) (by omega), hc])
      rw [← hcg]
      exact hsm.tks)
    · skip
      refine rd_ild (pc := 97) d_S_takeByParts_97 rfl ?_
      refine rd_aldn (pc := 99) d_S_takeByParts_99 rfl ?_
      refine rd_gi (pc := 100) (ki := 11) d_S_takeByParts_100 fl_S_142 rfl rfl rfl ?_
      first | simp (decide := true) only [rd_up_app, rd_up_hit, e4, e30, hG1] | skip
      refine rd_icmp_ge (pc := 103) (tgt := 141) d_S_takeByParts_103 rfl ⟨by omega, by omega⟩ ⟨by omega, by omega⟩ (fun h103 => ?_) (fun h103 => ?_)
      · skip
        exact rd_vret (pc := 141) d_S_takeByParts_141 rfl (Nat.le_of_ble_eq_true rfl) (by
      have hc : c = sp_ov n p (M 24) v s := by omega
      refine hQ _ ?_
      rw [hM]
      have hsm : c_sm B M := fun x _ _ h => hB x h
      have hcg := c_tks_congr (M := M) (t := t) (n := n) (w := (fun k => if p k = 1 then sp_q (M 24) v s k + (if sp_rk n p (sp_r (M 24) v s) k < c then 1 else 0) else 0)) (w' := sp_spr n p (M 24) v s) (fun j a b => by unfold sp_spr; rw [if_neg (c := s ≤ 0) (by omega), hc])
      rw [← hcg]
      exact hsm.tks)
      · skip
        have hrb : ∀ j : Int, 0 ≤ j → j < M1 4 11 → -1 ≤ M1 31 j ∧ M1 31 j ≤ 1000000000000000000 := fun j a b => (by rw [e4, hG1] at b; obtain ⟨g0, g1, _⟩ := hG2.1 j a b; have h5 := hqr _ g0 g1; have hsb := sp_sum_hi (p := p) hK; rw [e31, hR j a b]; split <;> omega)
        refine rd_aldn (pc := 106) d_S_takeByParts_106 rfl ?_
        refine rd_callVi (pc := 107) (n' := 0) [] d_S_takeByParts_107 ml_S_168 rfl (Nat.le_of_ble_eq_true rfl) (Nat.le_of_ble_eq_true rfl) (Nat.le_of_ble_eq_true rfl) rfl rfl rfl (Nat.le_of_ble_eq_true rfl) (Nat.le_of_ble_eq_true rfl) ?_
        refine ev_S_greatestRemainder (by rw [e4, hG1]; omega) hrb (fun g g0 g1 hm => ?_)
        rw [e4, hG1] at g1 hm
        rw [e31] at hm
        obtain ⟨k0, k1, kp, kc⟩ := hG2.1 g g0 g1
        have hrk := sp_gr hG2 (fun k a b _ => (hqr k a b).2.1) c0 (by omega) hR g0 g1 hm
        refine ⟨_, rfl, ?_⟩
        first | simp (decide := true) only [rd_up_app, rd_up_hit, e4, e30, hG1] | skip
        refine rd_ist9 (pc := 110) d_S_takeByParts_110 rfl ?_
        refine rd_aldn (pc := 112) d_S_takeByParts_112 rfl ?_
        refine rd_ildn (pc := 113) d_S_takeByParts_113 rfl ?_
        refine rd_aldn (pc := 114) d_S_takeByParts_114 rfl ?_
        refine rd_getr (pc := 115) d_S_takeByParts_115 fl_S_47 rfl rfl ?_
        refine rd_ild (pc := 118) d_S_takeByParts_118 rfl ?_
        refine rd_iald (pc := 120) d_S_takeByParts_120 rfl (by omega) (by omega) ?_
        first | simp (decide := true) only [rd_up_app, rd_up_hit, e4, e30, hG1] | skip
        refine rd_lconst (pc := 121) (v := 1) d_S_takeByParts_121 rfl ?_
        refine rd_callVv (pc := 122) (n' := 0) [_, _, _] d_S_takeByParts_122 ml_S_126 rfl (Nat.le_of_ble_eq_true rfl) (Nat.le_of_ble_eq_true rfl) (Nat.le_of_ble_eq_true rfl) rfl rfl rfl (Nat.le_of_ble_eq_true rfl) (Nat.le_of_ble_eq_true rfl) ?_
        refine ev_S_take h0 h1 k0 (by omega) ?_
        refine ⟨rfl, ?_⟩
        first | simp (decide := true) only [rd_up_app, rd_up_hit, e4, e30, hG1] | skip
        refine rd_aldn (pc := 125) d_S_takeByParts_125 rfl ?_
        refine rd_getr (pc := 126) d_S_takeByParts_126 fl_S_50 rfl rfl ?_
        refine rd_ild (pc := 129) d_S_takeByParts_129 rfl ?_
        refine rd_ldc2 (pc := 131) (v := -1) d_S_takeByParts_131 kl_S_166 ?_
        refine rd_last (pc := 134) d_S_takeByParts_134 rfl (by omega) (by omega) ?_
        refine rd_iinc8 (pc := 135) d_S_takeByParts_135 rfl ?_
        refine rd_goto (pc := 138) (tgt := 88) d_S_takeByParts_138 rfl ?_
        refine rd_weak (L' := [some (.ref 4), some (rd_i t), some (rd_l v), none, some (rd_l s), none, some (rd_l (sp_ov n p (M 24) v s)), none, some (rd_i (c + 1)), none, none]) (by simp [rd_le]) ?_
        refine ih _ (by omega) (c + 1) (rd_up B 31 g (-1)) _ rfl (by omega) (by omega) (fun x hx => by rw [rd_up_ne hx]; exact hB x hx) ?_ ?_
        · intro i i0 i1
          rw [rd_up_at]
          by_cases hi : i = g
          · rw [if_pos hi, hi, if_pos (by omega)]
          · rw [if_neg hi, hR i i0 i1]
            obtain ⟨a0, a1, ap, ac⟩ := hG2.1 i i0 i1
            have hne : sp_rk n p (sp_r (M 24) v s) (M 30 i) ≠ c := fun z => hi (by have := sp_rk_inj (f := sp_r (M 24) v s) a0 a1 k0 k1 ap kp (by omega); rw [this] at ac; omega)
            by_cases hz : sp_rk n p (sp_r (M 24) v s) (M 30 i) < c
            · rw [if_pos hz, if_pos (by omega)]
            · rw [if_neg hz, if_neg (by omega)]
        · rw [hM, c_tks_take k0 k1, c_tks_up (by decide) (by decide) (by decide)]
          exact c_tks_congr (fun j a b => sp_w2_s k0 k1 kp hrk a b)
set_option maxHeartbeats 4000000 in
set_option maxRecDepth 100000 in
theorem lq_S_takeByParts {t v s : Int} {n : Nat} {p : Int → Int} {M : rd_M} {Q : rd_R → rd_M → Prop} (hI : c_I M) (hn : M 2 0 = n) (hK : ∀ k : Int, 0 ≤ k → k < n → 0 ≤ M 24 k ∧ M 24 k ≤ 1000000000) (hG : c_G M n p) (h0 : 0 ≤ t) (h1 : t < 10) (hv : 0 ≤ v ∧ v ≤ 1000000000) (hs : s = sp_sum n p (M 24)) (hvs : v ≤ s) (hs0 : 0 < s) (hQ : ∀ M', c_sm M' (c_tks M t n (sp_spr n p (M 24) v s)) → Q (.inl none) M') : ∀ (d : Nat) (m c : Int) (B M1 : rd_M), (sp_cn n p - m).toNat = d → (0 ≤ m) → (m ≤ sp_cn n p) → (c = v - sp_gs n p (sp_q (M 24) v s) m) → (∀ x, x ≠ 31 → B x = M x) → (∀ i : Int, 0 ≤ i → i < m → B 31 i = (sp_r (M 24) v s) (M 30 i)) → (M1 = c_tks B t n (fun k => if p k = 1 ∧ sp_cn k.toNat p < m then sp_q (M 24) v s k else 0)) → rd_G x_S_takeByParts 14 [some (.ref 4), some (rd_i t), some (rd_l v), none, some (rd_l s), none, some (rd_l c), none, some (rd_i m), none, none] [] M1 0 Q := by
  intro d
  induction d using Nat.strongRecOn with
  | ind d ih =>
    intro m c B M1 hd m0 m1 hc hB hR hM
    have hn40 := hI.n hn
    have hsz := sp_cn_hi (n := n) (p := p)
    have hG1 := hG.1
    have hG2 := hG.2
    have e4 : M1 4 = M 4 := by rw [hM, c_tks_ne (by decide) (by decide) (by decide)]; exact hB 4 (by decide)
    have e30 : M1 30 = M 30 := by rw [hM, c_tks_ne (by decide) (by decide) (by decide)]; exact hB 30 (by decide)
    have hsb := sp_sum_hi (p := p) hK
    refine rd_ild (pc := 14) d_S_takeByParts_14 rfl ?_
    refine rd_aldn (pc := 16) d_S_takeByParts_16 rfl ?_
    refine rd_gi (pc := 17) (ki := 11) d_S_takeByParts_17 fl_S_142 rfl rfl rfl ?_
    first | simp (decide := true) only [rd_up_app, rd_up_hit, e4, e30, hG1, e24] | simp (decide := true) only [rd_up_app, rd_up_hit, e4, e30, hG1] | skip
    refine rd_icmp_ge (pc := 20) (tgt := 85) d_S_takeByParts_20 rfl ⟨by omega, by omega⟩ ⟨by omega, by omega⟩ (fun h20 => ?_) (fun h20 => ?_)
    · skip
      refine rd_iconst (pc := 85) d_S_takeByParts_85 ?_
      refine rd_ist8 (pc := 86) d_S_takeByParts_86 rfl ?_
      refine rd_weak (L' := [some (.ref 4), some (rd_i t), some (rd_l v), none, some (rd_l s), none, some (rd_l (sp_ov n p (M 24) v s)), none, some (rd_i 0), none, none]) (by rw [hc, sp_gs_e (by omega)]; simp [rd_le, sp_ov]) ?_
      have hov : 0 ≤ sp_ov n p (M 24) v s := by (rw [hs]; exact (sp_ov_cn (fun k a b _ => (hK k a b).1) hv.1 (by omega) (by omega)).1)
      refine lq_S_takeByParts2 hI hn hK hG h0 h1 hv hs hvs hs0 hQ _ 0 B M1 rfl (by omega) hov hB ?_ ?_
      · intro i i0 i1; rw [hR i i0 (by omega), if_neg (by have := sp_rk_nn (n := n) (p := p) (f := sp_r (M 24) v s) (k := M 30 i); omega)]
      · rw [hM]; exact c_tks_congr (fun j a b => by
          by_cases hp : p j = 1
          · have := sp_cn_k (n := n) a b hp
            rw [if_pos ⟨hp, by omega⟩, if_pos hp, if_neg (by have := sp_rk_nn (n := n) (p := p) (f := sp_r (M 24) v s) (k := j); omega)]; omega
          · rw [if_neg (fun z => hp z.1), if_neg hp])
    · skip
      obtain ⟨g0, g1, g2, g3⟩ := hG2.1 m m0 (by omega)
      have gk := hK _ g0 g1
      have hmul := rd_mulb gk.1 gk.2 hv.1 hv.2
      have e24 : M1 24 (M 30 m) = M 24 (M 30 m) := by (rw [hM, c_tks_24, if_pos ⟨g0, g1⟩, if_neg (by omega), hB 24 (by decide)]; omega)
      have gs := sp_gs_s (f := (sp_q (M 24) v s)) hG2 m0 (by omega)
      refine rd_aldn (pc := 23) d_S_takeByParts_23 rfl ?_
      refine rd_getr (pc := 24) d_S_takeByParts_24 fl_S_27 rfl rfl ?_
      refine rd_aldn (pc := 27) d_S_takeByParts_27 rfl ?_
      refine rd_getr (pc := 28) d_S_takeByParts_28 fl_S_47 rfl rfl ?_
      refine rd_ild (pc := 31) d_S_takeByParts_31 rfl ?_
      refine rd_iald (pc := 33) d_S_takeByParts_33 rfl (by omega) (by omega) ?_
      first | simp (decide := true) only [rd_up_app, rd_up_hit, e4, e30, hG1, e24] | simp (decide := true) only [rd_up_app, rd_up_hit, e4, e30, hG1] | skip
      refine rd_iald (pc := 34) d_S_takeByParts_34 rfl (by omega) (by omega) ?_
      first | simp (decide := true) only [rd_up_app, rd_up_hit, e4, e30, hG1, e24] | simp (decide := true) only [rd_up_app, rd_up_hit, e4, e30, hG1] | skip
      refine rd_i2l (pc := 35) d_S_takeByParts_35 ⟨by omega, by omega⟩ ?_
      refine rd_lldn (pc := 36) d_S_takeByParts_36 rfl ?_
      refine rd_lmul (pc := 37) d_S_takeByParts_37 ?_
      refine rd_lst9 (pc := 38) d_S_takeByParts_38 rfl ?_
      refine rd_aldn (pc := 40) d_S_takeByParts_40 rfl ?_
      refine rd_getr (pc := 41) d_S_takeByParts_41 fl_S_50 rfl rfl ?_
      refine rd_ild (pc := 44) d_S_takeByParts_44 rfl ?_
      refine rd_lld (pc := 46) d_S_takeByParts_46 rfl ?_
      refine rd_lld (pc := 48) d_S_takeByParts_48 rfl ?_
      refine rd_lrem (pc := 50) d_S_takeByParts_50 ⟨by omega, by omega⟩ ⟨by omega, by omega⟩ (by omega) ?_
      refine rd_last (pc := 51) d_S_takeByParts_51 rfl (by omega) (by omega) ?_
      refine rd_aldn (pc := 52) d_S_takeByParts_52 rfl ?_
      refine rd_ildn (pc := 53) d_S_takeByParts_53 rfl ?_
      refine rd_aldn (pc := 54) d_S_takeByParts_54 rfl ?_
      refine rd_getr (pc := 55) d_S_takeByParts_55 fl_S_47 rfl rfl ?_
      refine rd_ild (pc := 58) d_S_takeByParts_58 rfl ?_
      refine rd_iald (pc := 60) d_S_takeByParts_60 rfl (by omega) (by omega) ?_
      first | simp (decide := true) only [rd_up_app, rd_up_hit, e4, e30, hG1, e24] | simp (decide := true) only [rd_up_app, rd_up_hit, e4, e30, hG1] | skip
      refine rd_lld (pc := 61) d_S_takeByParts_61 rfl ?_
      refine rd_lld (pc := 63) d_S_takeByParts_63 rfl ?_
      refine rd_ldiv (pc := 65) d_S_takeByParts_65 ⟨by omega, by omega⟩ ⟨by omega, by omega⟩ (by omega) ?_
      refine rd_callVv (pc := 66) (n' := 0) [_, _, _] d_S_takeByParts_66 ml_S_126 rfl (Nat.le_of_ble_eq_true rfl) (Nat.le_of_ble_eq_true rfl) (Nat.le_of_ble_eq_true rfl) rfl rfl rfl (Nat.le_of_ble_eq_true rfl) (Nat.le_of_ble_eq_true rfl) ?_
      refine ev_S_take h0 h1 g0 (by omega) ?_
      refine ⟨rfl, ?_⟩
      first | simp (decide := true) only [rd_up_app, rd_up_hit, e4, e30, hG1, e24] | simp (decide := true) only [rd_up_app, rd_up_hit, e4, e30, hG1] | skip
      refine rd_lld (pc := 69) d_S_takeByParts_69 rfl ?_
      refine rd_lld (pc := 71) d_S_takeByParts_71 rfl ?_
      refine rd_lld (pc := 73) d_S_takeByParts_73 rfl ?_
      refine rd_ldiv (pc := 75) d_S_takeByParts_75 ⟨by omega, by omega⟩ ⟨by omega, by omega⟩ (by omega) ?_
      refine rd_lsub (pc := 76) d_S_takeByParts_76 ?_
      refine rd_lst6 (pc := 77) d_S_takeByParts_77 rfl ?_
      refine rd_iinc8 (pc := 79) d_S_takeByParts_79 rfl ?_
      refine rd_goto (pc := 82) (tgt := 14) d_S_takeByParts_82 rfl ?_
      refine rd_weak (L' := [some (.ref 4), some (rd_i t), some (rd_l v), none, some (rd_l s), none, some (rd_l (c - (M 24 (M 30 m) * v).tdiv s)), none, some (rd_i (m + 1)), none, none]) (by simp [rd_le]) ?_
      refine ih _ (by omega) (m + 1) _ (rd_up B 31 m ((sp_r (M 24) v s) (M 30 m))) _ rfl (by omega) (by omega) (by rw [gs, hc]; show _ - _ - _ = _; unfold sp_q; omega) (fun x hx => by rw [rd_up_ne hx]; exact hB x hx) ?_ ?_
      · intro i i0 i1
        rw [rd_up_at]
        by_cases hi : i = m
        · rw [if_pos hi, hi]
        · rw [if_neg hi]; exact hR i i0 (by omega)
      · rw [hM, c_tks_up (by decide) (by decide) (by decide), c_tks_take g0 g1]
        exact c_tks_congr (fun j a b => sp_w1_s hG2 m0 (by omega) a b)
set_option maxHeartbeats 4000000 in
set_option maxRecDepth 100000 in
theorem ev_S_takeByParts {t v s : Int} {n : Nat} {p : Int → Int} {M : rd_M} {Q : rd_R → rd_M → Prop} (hI : c_I M) (hn : M 2 0 = n) (hK : ∀ k : Int, 0 ≤ k → k < n → 0 ≤ M 24 k ∧ M 24 k ≤ 1000000000) (hG : c_G M n p) (h0 : 0 ≤ t) (h1 : t < 10) (hv : 0 ≤ v ∧ v ≤ 1000000000) (hs : s = sp_sum n p (M 24)) (hvs : v ≤ s) (hQ : ∀ M', c_sm M' (c_tks M t n (sp_spr n p (M 24) v s)) → Q (.inl none) M') : rd_G x_S_takeByParts 0 [some (.ref 4), some (rd_i t), some (rd_l v), none, some (rd_l s), none, none, none, none, none, none] [] M 0 Q := by
  have hn40 := hI.n hn
  have hsb := sp_sum_hi (p := p) hK
  refine rd_lld (pc := 0) d_S_takeByParts_0 rfl ?_
  refine rd_lconst (pc := 2) (v := 0) d_S_takeByParts_2 rfl ?_
  refine rd_lcmp_gt (pc := 3) (tgt := 8) d_S_takeByParts_3 d_S_takeByParts_4 rfl ⟨by omega, by omega⟩ ⟨by omega, by omega⟩ (fun h3 => ?_) (fun h3 => ?_)
  · skip
    refine rd_lldn (pc := 8) d_S_takeByParts_8 rfl ?_
    refine rd_lst6 (pc := 9) d_S_takeByParts_9 rfl ?_
    refine rd_iconst (pc := 11) d_S_takeByParts_11 ?_
    refine rd_ist8 (pc := 12) d_S_takeByParts_12 rfl ?_
    have := sp_cn_nn (n := n) (p := p)
    exact lq_S_takeByParts hI hn hK hG h0 h1 hv hs hvs (by omega) hQ _ 0 v M M rfl (by omega) (by omega) (by rw [sp_gs_0]; omega) (fun _ _ => rfl) (fun i a b => by omega) (c_tks_0 (fun j a b => if_neg (fun z => by have := sp_cn_nn (n := j.toNat) (p := p); omega))).symm
  · skip
    exact rd_vret (pc := 7) d_S_takeByParts_7 rfl (Nat.le_of_ble_eq_true rfl) (by refine hQ _ ?_; rw [c_tks_0 (w := sp_spr n p (M 24) v s) (fun j a b => if_pos (by omega))]; exact c_sm.refl)
end
section
/-! pure: what is taken hangs on what is kept of the claims that count alone -/
theorem sp_rk_cg {n : Nat} {p f g : Int → Int} {k : Int} (h : ∀ j : Int, 0 ≤ j → j < n → p j = 1 → f j = g j) (hk : f k = g k) : sp_rk n p f k = sp_rk n p g k := rd_sm_c n (fun j a b => by
  by_cases hp : p j = 1
  · have := h j a b hp
    by_cases hb : sp_bf f j k
    · rw [if_pos ⟨hp, hb⟩, if_pos ⟨hp, by omega⟩]
    · rw [if_neg (fun z => hb z.2), if_neg (fun z => hb (by have := z.2; omega))]
  · rw [if_neg (fun z => hp z.1), if_neg (fun z => hp z.1)])
theorem sp_spr_cg {n : Nat} {p κ κ' : Int → Int} {v all k : Int} (h : ∀ j : Int, 0 ≤ j → j < n → p j = 1 → κ j = κ' j) (k0 : 0 ≤ k) (k1 : k < n) : sp_spr n p κ v all k = sp_spr n p κ' v all k := by
  unfold sp_spr
  by_cases ha : all ≤ 0
  · rw [if_pos ha, if_pos ha]
  · rw [if_neg ha, if_neg ha]
    by_cases hp : p k = 1
    · have hq : ∀ j : Int, 0 ≤ j → j < n → p j = 1 → sp_q κ v all j = sp_q κ' v all j := fun j a b c => by unfold sp_q; rw [h j a b c]
      have hr : ∀ j : Int, 0 ≤ j → j < n → p j = 1 → sp_r κ v all j = sp_r κ' v all j := fun j a b c => by unfold sp_r; rw [h j a b c]
      have ho : sp_ov n p κ v all = sp_ov n p κ' v all := by unfold sp_ov; rw [sp_sum_c hq]
      rw [if_pos hp, if_pos hp, hq k k0 k1 hp, ho, sp_rk_cg hr (hr k k0 k1 hp)]
    · rw [if_neg hp, if_neg hp]
theorem sp_inW_1 {d : rd_M} {y e h k : Int} : sp_inW d y e h k = 1 ↔ sp_inE d y e k = 1 ∧ h ≤ d 5 k ∧ d 5 k < h + 72 := by
  unfold sp_inW
  by_cases hz : sp_inE d y e k = 1 ∧ h ≤ d 5 k ∧ d 5 k < h + 72
  · rw [if_pos hz]; exact ⟨fun _ => hz, fun _ => rfl⟩
  · rw [if_neg hz]; exact ⟨fun z => by omega, fun z => absurd z hz⟩
theorem sp_W_cg {d : rd_M} {n : Nat} {y e h : Int} {κ κ' : Int → Int} (hk : ∀ j : Int, 0 ≤ j → j < n → sp_cnt d y j → κ j = κ' j) : sp_W d n y e κ h = sp_W d n y e κ' h :=
  sp_sum_c (fun j a b c => hk j a b (sp_inE_1.1 (sp_inW_1.1 c).1).1)
theorem sp_st_cg {d : rd_M} {n : Nat} {y e : Int} {κ κ' : Int → Int} (hk : ∀ j : Int, 0 ≤ j → j < n → sp_cnt d y j → κ j = κ' j) : ∀ i : Nat, sp_st d n y e κ i = sp_st d n y e κ' i
  | 0 => rfl
  | i + 1 => by
    rw [sp_st_s, sp_st_s, sp_st_cg hk i, sp_W_cg hk, sp_W_cg hk]
theorem sp_st_p {d : rd_M} {n : Nat} {y e : Int} {κ : Int → Int} (hh : ∀ k : Int, 0 ≤ k → k < 40 → 0 ≤ d 5 k ∧ d 5 k ≤ 100000) : ∀ i : Nat, i ≤ 40 → 0 < sp_cn i (sp_inE d y e) → 0 ≤ sp_st d n y e κ i
  | 0, _, h => by have : sp_cn 0 (sp_inE d y e) = 0 := rfl; omega
  | i + 1, hi, h => by
    have h5 := hh i (by omega) (by omega)
    rw [sp_st_s]
    by_cases hp : sp_inE d y e i = 1
    · by_cases hz : sp_st d n y e κ i < 0
      · rw [if_pos ⟨hp, Or.inl hz⟩]; omega
      · split <;> omega
    · rw [if_neg (fun z => hp z.1)]
      rw [sp_cn_s, if_neg hp] at h
      exact sp_st_p hh i (by omega) (by omega)
theorem sp_st_n {d : rd_M} {n : Nat} {y e : Int} {κ : Int → Int} (h : sp_cn n (sp_inE d y e) ≤ 0) : sp_st d n y e κ n = -1 := by
  have h1 := sp_cn_nn (n := n) (p := sp_inE d y e)
  have h2 : sp_cn 0 (sp_inE d y e) = 0 := rfl
  rw [sp_st_skip (a := 0) n (by omega) (by omega)]
  rfl
theorem sp_ev_cg {d : rd_M} {n : Nat} {t : Int} {κ κ' : Int → Int} (hk : ∀ j : Int, 0 ≤ j → j < n → sp_cnt d (d 9 t) j → κ j = κ' j) : ∀ e : Nat, (∀ k : Int, 0 ≤ k → k < n → (sp_ev d n t κ e).1 k = (sp_ev d n t κ' e).1 k) ∧ (sp_ev d n t κ e).2 = (sp_ev d n t κ' e).2
  | 0 => ⟨fun _ _ _ => rfl, rfl⟩
  | e + 1 => by
    obtain ⟨h1, h2⟩ := sp_ev_cg hk e
    have hK : ∀ j : Int, 0 ≤ j → j < n → sp_cnt d (d 9 t) j → sp_evK d n t κ e j = sp_evK d n t κ' e j := fun j a b c => by
      unfold sp_evK; rw [hk j a b c, h1 j a b]
    have hO : sp_evO d n t κ e = sp_evO d n t κ' e := sp_st_cg hK n
    have hA : sp_evA d n t κ e = sp_evA d n t κ' e := by unfold sp_evA; rw [hO, sp_W_cg hK]
    have hV : sp_evV d n t κ e = sp_evV d n t κ' e := by unfold sp_evV; rw [hA, h2]
    by_cases ho : sp_evO d n t κ e < 0
    · rw [sp_ev_n ho, sp_ev_n (by omega)]
      exact ⟨h1, h2⟩
    · rw [sp_ev_p ho, sp_ev_p (by omega)]
      refine ⟨fun k a b => ?_, ?_⟩
      · show _ + _ = _ + _
        rw [h1 k a b, hO, hV, hA, sp_spr_cg (fun j a b c => hK j a b (sp_inE_1.1 (sp_inW_1.1 c).1).1) a b]
      · show _ + _ = _ + _
        rw [h2, hA]
theorem sp_evO_cg {d : rd_M} {n : Nat} {t : Int} {κ κ' : Int → Int} (hk : ∀ j : Int, 0 ≤ j → j < n → sp_cnt d (d 9 t) j → κ j = κ' j) (e : Nat) : sp_evO d n t κ e = sp_evO d n t κ' e :=
  sp_st_cg (fun j a b c => by unfold sp_evK; rw [hk j a b c, (sp_ev_cg hk e).1 j a b]) n
/-- what a treaty takes of a claim hangs on what is kept of the claims that count alone -/
theorem sp_tk_cg {d : rd_M} {n : Nat} {t k : Int} {κ κ' : Int → Int} (hk : ∀ j : Int, 0 ≤ j → j < n → sp_cnt d (d 9 t) j → κ j = κ' j) (k0 : 0 ≤ k) (k1 : k < n) : sp_tk d n t κ k = sp_tk d n t κ' k := by
  unfold sp_tk
  by_cases h2 : d 8 t < 2
  · rw [if_pos h2, if_pos h2]
    unfold sp_tkP
    by_cases hc : sp_cnt d (d 9 t) k
    · rw [if_pos hc, if_pos hc, hk k k0 k1 hc]
    · rw [if_neg hc, if_neg hc]
  · rw [if_neg h2, if_neg h2]
    by_cases h3 : d 8 t = 2
    · rw [if_pos h3, if_pos h3]
      have hB : sp_xB d n t κ k = sp_xB d n t κ' k := rd_sm_c n (fun j a b => by
        by_cases hp : sp_in d (d 9 t) j = 1
        · rw [hk j a b (sp_in_1.1 hp)]
        · rw [if_neg (fun z => hp z.1), if_neg (fun z => hp z.1)])
      unfold sp_tkX
      by_cases hp : sp_in d (d 9 t) k = 1
      · rw [if_pos hp, if_pos hp, hB, hk k k0 k1 (sp_in_1.1 hp)]
      · rw [if_neg hp, if_neg hp]
    · rw [if_neg h3, if_neg h3]
      by_cases h4 : d 8 t = 3
      · rw [if_pos h4, if_pos h4]; exact (sp_ev_cg hk 9).1 k k0 k1
      · rw [if_neg h4, if_neg h4]
        have hh : ∀ j : Int, 0 ≤ j → j < n → sp_in d (d 9 t) j = 1 → κ j = κ' j := fun j a b c => hk j a b (sp_in_1.1 c)
        unfold sp_tkS
        rw [sp_sum_c hh, sp_spr_cg hh k0 k1]
end
section
/-! cession: the excess of each event, and stop loss -/
/-- windows of the first E events stand -/
def c_wn (M : rd_M) (t : Int) (E : Nat) (o : Nat → Int) : rd_M := fun q => if q = 27 then (fun j => if t * 10 + 1 ≤ j ∧ j < t * 10 + 1 + E then o (j - t * 10 - 1).toNat else M 27 j) else M q
theorem c_wn_ne {M : rd_M} {t : Int} {E : Nat} {o : Nat → Int} {q : Nat} (h : q ≠ 27) : c_wn M t E o q = M q := by
  unfold c_wn; rw [if_neg h]
theorem c_wn_27 {M : rd_M} {t j : Int} {E : Nat} {o : Nat → Int} : c_wn M t E o 27 j = if t * 10 + 1 ≤ j ∧ j < t * 10 + 1 + E then o (j - t * 10 - 1).toNat else M 27 j := rfl
theorem c_wn_up {M : rd_M} {t : Int} {E : Nat} {o : Nat → Int} : rd_up (c_wn M t E o) 27 (t * 10 + (E + 1)) (o E) = c_wn M t (E + 1) o := by
  funext q j
  by_cases hq : q = 27
  · subst hq
    rw [rd_up_at, c_wn_27, c_wn_27]
    by_cases hj : j = t * 10 + (E + 1)
    · rw [if_pos hj, if_pos (by omega), show (j - t * 10 - 1).toNat = E by omega]
    · rw [if_neg hj]
      by_cases h2 : t * 10 + 1 ≤ j ∧ j < t * 10 + 1 + E
      · rw [if_pos h2, if_pos (by omega)]
      · rw [if_neg h2, if_neg (by omega)]
  · rw [rd_up_app hq, c_wn_ne hq, c_wn_ne hq]
theorem c_wn_no {M : rd_M} {t : Int} {E : Nat} {o : Nat → Int} (h : M 27 (t * 10 + (E + 1)) = o E) : c_wn M t E o = c_wn M t (E + 1) o := by
  funext q j
  by_cases hq : q = 27
  · subst hq
    rw [c_wn_27, c_wn_27]
    by_cases hj : j = t * 10 + (E + 1)
    · rw [if_neg (by omega), if_pos (by omega), show (j - t * 10 - 1).toNat = E by omega, hj, h]
    · by_cases h2 : t * 10 + 1 ≤ j ∧ j < t * 10 + 1 + E
      · rw [if_pos h2, if_pos (by omega)]
      · rw [if_neg h2, if_neg (by omega)]
  · rw [c_wn_ne hq, c_wn_ne hq]
theorem c_wn_0 {M : rd_M} {t : Int} {o : Nat → Int} : c_wn M t 0 o = M := by
  funext q j
  by_cases hq : q = 27
  · subst hq; rw [c_wn_27, if_neg (by omega)]
  · rw [c_wn_ne hq]
theorem c_tks_wn {M : rd_M} {t : Int} {n E : Nat} {o : Nat → Int} {w : Int → Int} : c_tks (c_wn M t E o) t n w = c_wn (c_tks M t n w) t E o := by
  funext q j
  by_cases h1 : q = 24
  · subst h1; rw [c_wn_ne (by decide), c_tks_24, c_tks_24, c_wn_ne (by decide)]
  · by_cases h2 : q = 25
    · subst h2; rw [c_wn_ne (by decide), c_tks_25, c_tks_25, c_wn_ne (by decide)]
    · by_cases h3 : q = 26
      · subst h3; rw [c_wn_ne (by decide), c_tks_26, c_tks_26, c_wn_ne (by decide)]
      · rw [c_tks_ne h1 h2 h3]
        by_cases hq : q = 27
        · subst hq; rw [c_wn_27, c_wn_27, c_tks_ne h1 h2 h3]
        · rw [c_wn_ne hq, c_wn_ne hq, c_tks_ne h1 h2 h3]
theorem c_sm.upr {A B : rd_M} {q : Nat} {i v : Int} (h : c_sm A B) (hq : q ≠ 4 ∧ q ≠ 30 ∧ q ≠ 31) : c_sm (rd_up A q i v) (rd_up B q i v) := fun r a b c => by
  funext j
  by_cases hr : r = q
  · subst hr; rw [rd_up_at, rd_up_at, h r a b c]
  · rw [rd_up_app hr, rd_up_app hr, h r a b c]
/-- behind E events, but for windows -/
def c_F (M : rd_M) (n : Nat) (t : Int) (E : Nat) (M1 : rd_M) : Prop := ∀ q, q ≠ 4 → q ≠ 27 → q ≠ 30 → q ≠ 31 → M1 q = c_tks M t n (sp_ev (c_d M) n t (M 24) E).1 q
def c_E (M : rd_M) (n : Nat) (t : Int) (E : Nat) (M1 : rd_M) : Prop := c_sm M1 (c_wn (c_tks M t n (sp_ev (c_d M) n t (M 24) E).1) t E (sp_evO (c_d M) n t (M 24)))
theorem c_E.f {M M1 : rd_M} {n E : Nat} {t : Int} (h : c_E M n t E M1) : c_F M n t E M1 := fun q a b c e => by rw [h q a c e, c_wn_ne b]
theorem c_F.sm {M M1 M2 : rd_M} {n E : Nat} {t : Int} (h : c_F M n t E M1) (h2 : c_sm M2 M1) : c_F M n t E M2 := fun q a b c e => by rw [h2 q a c e, h q a b c e]
theorem c_F.up {M M1 : rd_M} {n E : Nat} {t i v : Int} (h : c_F M n t E M1) : c_F M n t E (rd_up M1 27 i v) := fun q a b c e => by rw [rd_up_ne b, h q a b c e]
theorem c_F.low {M M1 : rd_M} {n E : Nat} {t : Int} (h : c_F M n t E M1) (q : Nat) (h4 : q ≠ 4) (hq : q ≤ 23) : M1 q = M q := by
  rw [h q h4 (by omega) (by omega) (by omega), c_tks_ne (by omega) (by omega) (by omega)]
theorem c_F.I {M M1 : rd_M} {n E : Nat} {t : Int} (h : c_F M n t E M1) (hI : c_I M) : c_I M1 := by
  unfold c_I at *
  rw [h.low 2 (by decide) (by decide), h.low 3 (by decide) (by decide), h.low 5 (by decide) (by decide), h.low 7 (by decide) (by decide), h.low 8 (by decide) (by decide), h.low 9 (by decide) (by decide), h.low 10 (by decide) (by decide), h.low 11 (by decide) (by decide), h.low 12 (by decide) (by decide), h.low 13 (by decide) (by decide), h.low 14 (by decide) (by decide), h.low 15 (by decide) (by decide), h.low 16 (by decide) (by decide), h.low 17 (by decide) (by decide), h.low 18 (by decide) (by decide), h.low 19 (by decide) (by decide), h.low 20 (by decide) (by decide), h.low 21 (by decide) (by decide), h.low 22 (by decide) (by decide)]
  exact hI
theorem c_F.d {M M1 : rd_M} {n E : Nat} {t : Int} (h : c_F M n t E M1) : c_d M1 = c_d M := by
  funext q
  unfold c_d
  split <;> exact h.low _ (by decide) (by decide)
theorem c_F.k {M M1 : rd_M} {n E : Nat} {t k : Int} (h : c_F M n t E M1) (k0 : 0 ≤ k) (k1 : k < n) : M1 24 k = sp_evK (c_d M) n t (M 24) E k := by
  rw [h 24 (by decide) (by decide) (by decide) (by decide), c_tks_24, if_pos ⟨k0, k1⟩]; rfl
theorem c_F.kb {M M1 : rd_M} {n E : Nat} {t k : Int} (h : c_F M n t E M1) (hn : M 2 0 = n) (hY : c_Y M (M 17 t)) (htm : sp_tm (c_d M) t) (k0 : 0 ≤ k) (k1 : k < n) : 0 ≤ M1 24 k ∧ M1 24 k ≤ 1000000000 := by
  have h1 := (sp_ev_b (d := c_d M) (n := n) (κ := M 24) htm (fun j a b => (hY.cnt hn a b).2.1.1) E).1 k k0 k1
  have h2 := (hY.cnt hn k0 k1).2.1
  rw [h.k k0 k1]; unfold sp_evK; omega
theorem c_F.Y {M M1 : rd_M} {n E : Nat} {t : Int} (h : c_F M n t E M1) (hn : M 2 0 = n) (hY : c_Y M (M 17 t)) (htm : sp_tm (c_d M) t) : c_Y M1 (M 17 t) := by
  intro k k0 k1
  rw [h.low 2 (by decide) (by decide), hn] at k1
  obtain ⟨y1, y2, y3⟩ := hY.cnt hn k0 k1
  have hb := h.kb hn hY htm k0 k1
  rw [h.low 23 (by decide) (by decide), h.d]
  refine ⟨y1, hb.1, hb.2, fun z => ?_⟩
  have h0 := sp_ev_out (d := c_d M) (n := n) (t := t) (κ := M 24) z E
  rw [h.k k0 k1]; unfold sp_evK; rw [h0, y3 z]; rfl
theorem c_F.t {M M1 : rd_M} {n E : Nat} {t : Int} (h : c_F M n t E M1) (hn : M 2 0 = n) (hY : c_Y M (M 17 t)) (htm : sp_tm (c_d M) t) (hz : M 26 t = 0) : M1 26 t = sp_Tt (c_d M) t (sp_ev (c_d M) n t (M 24) E).2 := by
  have h1 := (sp_ev_b (d := c_d M) (n := n) (κ := M 24) htm (fun j a b => (hY.cnt hn a b).2.1.1) E).2.2.2
  rw [h 26 (by decide) (by decide) (by decide) (by decide), c_tks_26, if_pos rfl, hz, h1]; omega
theorem c_F.st {M M1 : rd_M} {n E : Nat} {t : Int} (h : c_F M n t E M1) : sp_st (c_d M1) n (M 17 t) (E + 1) (M1 24) n = sp_evO (c_d M) n t (M 24) E := by
  rw [h.d]
  exact sp_st_cg (fun j a b c => h.k a b) n
theorem c_F.a {M M1 : rd_M} {n E : Nat} {t : Int} (h : c_F M n t E M1) : sp_W (c_d M1) n (M 17 t) (E + 1) (M1 24) (sp_evO (c_d M) n t (M 24) E) = sp_evA (c_d M) n t (M 24) E := by
  rw [h.d]
  exact sp_W_cg (fun j a b c => h.k a b)
theorem c_E.skip {M M1 : rd_M} {n E : Nat} {t : Int} (h : c_E M n t E M1) (ho : sp_evO (c_d M) n t (M 24) E = -1) (hw : M 27 (t * 10 + (E + 1)) = -1) : c_E M n t (E + 1) M1 := by
  unfold c_E
  rw [sp_ev_n (by omega), ← c_wn_no (by rw [c_tks_ne (by decide) (by decide) (by decide), hw, ho])]
  exact h
theorem c_E.next {M M1 M2 M4 M5 : rd_M} {n E : Nat} {t : Int} (h : c_E M n t E M1) (h2 : c_sm M2 M1) (ho : ¬ sp_evO (c_d M) n t (M 24) E < 0) (h4 : c_sm M4 (rd_up M2 27 (t * 10 + (E + 1)) (sp_evO (c_d M) n t (M 24) E))) (h5 : c_sm M5 (c_tks M4 t n (sp_spr n (sp_inW (c_d M) (M 17 t) (E + 1) (sp_evO (c_d M) n t (M 24) E)) (M4 24) (sp_evV (c_d M) n t (M 24) E) (sp_evA (c_d M) n t (M 24) E)))) : c_E M n t (E + 1) M5 := by
  have hf4 : c_F M n t E M4 := ((h.f.sm h2).up).sm h4
  have ha : c_sm M4 (c_wn (c_tks M t n (sp_ev (c_d M) n t (M 24) E).1) t (E + 1) (sp_evO (c_d M) n t (M 24))) := by
    rw [← c_wn_up]
    exact h4.trans ((h2.trans h).upr (by decide))
  unfold c_E
  rw [sp_ev_p ho]
  refine h5.trans (ha.tks.trans ?_)
  rw [c_tks_wn, c_tks_tks, c_tks_congr (fun k a b => ?_)]
  · exact c_sm.refl
  · show _ + _ = _ + _
    rw [sp_spr_cg (fun j a b c => hf4.k a b) a b]
    rfl
set_option maxHeartbeats 4000000 in
set_option maxRecDepth 100000 in
theorem lq_S_cedeExcessOfEachEvent {t : Int} {n : Nat} {M : rd_M} {Q : rd_R → rd_M → Prop} (hI : c_I M) (hC : c_Q M) (hn : M 2 0 = n) (hY : c_Y M (M 17 t)) (h0 : 0 ≤ t) (h1 : t < 10) (hz : M 26 t = 0) (hw : ∀ e : Int, 1 ≤ e → e ≤ 9 → M 27 (t * 10 + e) = -1) (hQ : ∀ M', c_sm M' (c_wn (c_tks M t n (sp_tkE (c_d M) n t (M 24))) t 9 (sp_evO (c_d M) n t (M 24))) → Q (.inl none) M') : ∀ (d : Nat) (e L : Int) (E : Nat) (M1 : rd_M), (10 - e).toNat = d → (e = E + 1) → (E ≤ 9) → (L = (sp_ev (c_d M) n t (M 24) E).2) → (c_E M n t E M1) → rd_G x_S_cedeExcessOfEachEvent 5 [some (.ref 4), some (rd_i t), some (rd_l L), none, some (rd_i e), none] [] M1 0 Q := by
  intro d
  induction d using Nat.strongRecOn with
  | ind d ih =>
    intro e L E M1 hd he e1 hL hE
    have hn40 := hI.n hn
    have htm := hI.tm hC h0 h1
    have hf := hE.f
    have hI1 := hf.I hI
    have hkn : ∀ j : Int, 0 ≤ j → j < n → 0 ≤ M 24 j := fun j a b => (hY.cnt hn a b).2.1.1
    obtain ⟨b1, b2, b3, b4⟩ := sp_ev_b (d := c_d M) (n := n) (κ := M 24) htm hkn E
    have hn1 : M1 2 0 = n := by rw [hf.low 2 (by decide) (by decide), hn]
    have hY1 := hf.Y hn hY htm
    refine rd_ild (pc := 5) d_S_cedeExcessOfEachEvent_5 rfl ?_
    refine rd_bipush (pc := 7) d_S_cedeExcessOfEachEvent_7 rfl ?_
    refine rd_icmp_ge (pc := 9) (tgt := 101) d_S_cedeExcessOfEachEvent_9 rfl ⟨by omega, by omega⟩ ⟨by omega, by omega⟩ (fun h9 => ?_) (fun h9 => ?_)
    · skip
      exact rd_vret (pc := 101) d_S_cedeExcessOfEachEvent_101 rfl (Nat.le_of_ble_eq_true rfl) (by have : E = 9 := (by omega); subst this; exact hQ _ hE)
    · skip
      refine rd_aldn (pc := 12) d_S_cedeExcessOfEachEvent_12 rfl ?_
      refine rd_ild (pc := 13) d_S_cedeExcessOfEachEvent_13 rfl ?_
      refine rd_callVv (pc := 15) (n' := 0) [_] d_S_cedeExcessOfEachEvent_15 ml_S_139 rfl (Nat.le_of_ble_eq_true rfl) (Nat.le_of_ble_eq_true rfl) (Nat.le_of_ble_eq_true rfl) rfl rfl rfl (Nat.le_of_ble_eq_true rfl) (Nat.le_of_ble_eq_true rfl) ?_
      refine ev_S_gatherEvent (y := M 17 t) hI1 hn1 hY1 ⟨by omega, by omega⟩ (fun M2 hS2 hG2 => ?_)
      rw [hf.d] at hG2
      have hf2 := hf.sm hS2
      have hI2 := hf2.I hI
      have hn2 : M2 2 0 = n := by rw [hf2.low 2 (by decide) (by decide), hn]
      have hK2 : ∀ k : Int, 0 ≤ k → k < n → 0 ≤ M2 24 k ∧ M2 24 k ≤ 1000000000 := fun k a b => hf2.kb hn hY htm a b
      have g1 := hG2.1
      refine ⟨rfl, ?_⟩
      first | simp (decide := true) only [rd_up_app, rd_up_hit, g1, eM4_18, eM4_19, eM4_20, eM4_21, e26] | simp (decide := true) only [rd_up_app, rd_up_hit, g1] | skip
      have hsz := sp_cn_hi (n := n) (p := sp_inE (c_d M) (M 17 t) e)
      have hsn := sp_cn_nn (n := n) (p := sp_inE (c_d M) (M 17 t) e)
      refine rd_aldn (pc := 18) d_S_cedeExcessOfEachEvent_18 rfl ?_
      refine rd_gi (pc := 19) (ki := 11) d_S_cedeExcessOfEachEvent_19 fl_S_142 rfl rfl rfl ?_
      first | simp (decide := true) only [rd_up_app, rd_up_hit, g1, eM4_18, eM4_19, eM4_20, eM4_21, e26] | simp (decide := true) only [rd_up_app, rd_up_hit, g1] | skip
      refine rd_if_le (pc := 22) (tgt := 95) d_S_cedeExcessOfEachEvent_22 rfl ⟨by omega, by omega⟩ (fun h22 => ?_) (fun h22 => ?_)
      · skip
        refine rd_iinc4 (pc := 95) d_S_cedeExcessOfEachEvent_95 rfl ?_
        refine rd_goto (pc := 98) (tgt := 5) d_S_cedeExcessOfEachEvent_98 rfl ?_
        first
          | (refine rd_weak (L' := [some (.ref 4), some (rd_i t), some (rd_l ((sp_ev (c_d M) n t (M 24) E).2 + sp_layer (M 18 t) (M 19 t) (sp_evA (c_d M) n t (M 24) E))), none, some (rd_i (e + 1)), none]) (by simp [rd_le, he]) ?_
             refine ih _ (by omega) (e + 1) _ (E + 1) _ rfl (by omega) (by omega) (by rw [sp_ev_p (by omega)]; rfl) ?_
             exact hE.next hS2 (by omega) hS4 hS5)
          | (refine rd_weak (L' := [some (.ref 4), some (rd_i t), some (rd_l L), none, some (rd_i (e + 1)), none]) (by simp [rd_le]) ?_
             have ho : sp_evO (c_d M) n t (M 24) E = -1 := sp_st_n (by rw [← he]; show sp_cn n (sp_inE (c_d M) (M 17 t) e) ≤ 0; omega)
             refine ih _ (by omega) (e + 1) _ (E + 1) _ rfl (by omega) (by omega) (by rw [sp_ev_n (by omega)]; exact hL) ?_
             exact c_E.skip (hS2.trans hE) ho (hw _ (by omega) (by omega)))
      · skip
        refine rd_aldn (pc := 25) d_S_cedeExcessOfEachEvent_25 rfl ?_
        refine rd_callVi (pc := 26) (n' := 0) [] d_S_cedeExcessOfEachEvent_26 ml_S_145 rfl (Nat.le_of_ble_eq_true rfl) (Nat.le_of_ble_eq_true rfl) (Nat.le_of_ble_eq_true rfl) rfl rfl rfl (Nat.le_of_ble_eq_true rfl) (Nat.le_of_ble_eq_true rfl) ?_
        have hG2d : c_G M2 n (sp_inE (c_d M2) (M 17 t) e) := by rw [hf2.d]; exact hG2
        refine ev_S_startOfWindow (y := M 17 t) (e := e) hI2 hn2 hK2 hG2d ?_
        rw [he, hf2.st]
        have hop : 0 ≤ sp_evO (c_d M) n t (M 24) E := (by have hh := sp_st_p (d := c_d M) (n := n) (y := M 17 t) (e := (E : Int) + 1) (κ := sp_evK (c_d M) n t (M 24) E) (fun k a b => (hI.claim a b).2.2.1) n hn40 (by rw [← he]; omega); exact hh)
        have hob : sp_evO (c_d M) n t (M 24) E ≤ 100000 := (sp_st_b (d := c_d M) (n := n) (y := M 17 t) (e := (E : Int) + 1) (κ := sp_evK (c_d M) n t (M 24) E) (fun k a b => (hI.claim a b).2.2.1) n hn40).2
        rw [he] at hG2
        refine ⟨_, rfl, ?_⟩
        first | simp (decide := true) only [rd_up_app, rd_up_hit, g1, eM4_18, eM4_19, eM4_20, eM4_21, e26] | simp (decide := true) only [rd_up_app, rd_up_hit, g1] | skip
        refine rd_ist5 (pc := 29) d_S_cedeExcessOfEachEvent_29 rfl ?_
        refine rd_aldn (pc := 31) d_S_cedeExcessOfEachEvent_31 rfl ?_
        refine rd_getr (pc := 32) d_S_cedeExcessOfEachEvent_32 fl_S_38 rfl rfl ?_
        refine rd_ildn (pc := 35) d_S_cedeExcessOfEachEvent_35 rfl ?_
        refine rd_bipush (pc := 36) d_S_cedeExcessOfEachEvent_36 rfl ?_
        refine rd_imul (pc := 38) d_S_cedeExcessOfEachEvent_38 ?_
        refine rd_ild (pc := 39) d_S_cedeExcessOfEachEvent_39 rfl ?_
        refine rd_iadd (pc := 41) d_S_cedeExcessOfEachEvent_41 ?_
        refine rd_ild (pc := 42) d_S_cedeExcessOfEachEvent_42 rfl ?_
        refine rd_iast (pc := 44) d_S_cedeExcessOfEachEvent_44 rfl (by omega) (by omega) ?_
        refine rd_aldn (pc := 45) d_S_cedeExcessOfEachEvent_45 rfl ?_
        refine rd_ild (pc := 46) d_S_cedeExcessOfEachEvent_46 rfl ?_
        refine rd_callVv (pc := 48) (n' := 0) [_] d_S_cedeExcessOfEachEvent_48 ml_S_149 rfl (Nat.le_of_ble_eq_true rfl) (Nat.le_of_ble_eq_true rfl) (Nat.le_of_ble_eq_true rfl) rfl rfl rfl (Nat.le_of_ble_eq_true rfl) (Nat.le_of_ble_eq_true rfl) ?_
        refine ev_S_dropOutside (M := rd_up M2 27 (t * 10 + ((E : Int) + 1)) (sp_evO (c_d M) n t (M 24) E)) (p := sp_inE (c_d M) (M 17 t) (E + 1)) (p' := sp_inW (c_d M) (M 17 t) (E + 1) (sp_evO (c_d M) n t (M 24) E)) (hf2.up.I hI) (by rw [rd_up_app (by decide), hn2]) ⟨by rw [rd_up_app (by decide)]; exact hG2.1, by rw [rd_up_ne (by decide)]; exact hG2.2⟩ ⟨by omega, by omega⟩ (fun k => by rw [rd_up_ne (by decide), hf2.low 12 (by decide) (by decide)]; exact sp_inW_1) (fun M4 hS4 hG4 => ?_)
        have hf4 := hf2.up.sm hS4
        have hI4 := hf4.I hI
        have hn4 : M4 2 0 = n := by rw [hf4.low 2 (by decide) (by decide), hn]
        have hK4 : ∀ k : Int, 0 ≤ k → k < n → 0 ≤ M4 24 k ∧ M4 24 k ≤ 1000000000 := fun k a b => hf4.kb hn hY htm a b
        have hG4d : c_G M4 n (sp_inW (c_d M4) (M 17 t) (E + 1) (sp_evO (c_d M) n t (M 24) E)) := by rw [hf4.d]; exact hG4
        have hA := sp_W_b (d := c_d M4) (y := M 17 t) (e := (E : Int) + 1) (h := sp_evO (c_d M) n t (M 24) E) hn40 hK4
        rw [hf4.a] at hA
        have hLb := sp_Lt_b htm hA.1
        have hLb' : 0 ≤ sp_layer (M 18 t) (M 19 t) (sp_evA (c_d M) n t (M 24) E) ∧ sp_layer (M 18 t) (M 19 t) (sp_evA (c_d M) n t (M 24) E) ≤ 1000000000 := ⟨hLb.1, hLb.2.2⟩
        have hTb := sp_Tt_b (B := (sp_ev (c_d M) n t (M 24) E).2) (l := sp_Lt (c_d M) t (sp_evA (c_d M) n t (M 24) E)) htm b2 hLb.1
        have hVb : 0 ≤ sp_evV (c_d M) n t (M 24) E ∧ sp_evV (c_d M) n t (M 24) E ≤ sp_evA (c_d M) n t (M 24) E ∧ sp_evV (c_d M) n t (M 24) E ≤ 1000000000 := by unfold sp_evV; omega
        have eM4_18 : M4 18 = M 18 := hf4.low 18 (by decide) (by decide)
        have eM4_19 : M4 19 = M 19 := hf4.low 19 (by decide) (by decide)
        have eM4_20 : M4 20 = M 20 := hf4.low 20 (by decide) (by decide)
        have eM4_21 : M4 21 = M 21 := hf4.low 21 (by decide) (by decide)
        have e26 := hf4.t hn hY htm hz
        refine ⟨rfl, ?_⟩
        first | simp (decide := true) only [rd_up_app, rd_up_hit, g1, eM4_18, eM4_19, eM4_20, eM4_21, e26] | simp (decide := true) only [rd_up_app, rd_up_hit, g1] | skip
        refine rd_lldn (pc := 51) d_S_cedeExcessOfEachEvent_51 rfl ?_
        refine rd_aldn (pc := 52) d_S_cedeExcessOfEachEvent_52 rfl ?_
        refine rd_getr (pc := 53) d_S_cedeExcessOfEachEvent_53 fl_S_19 rfl rfl ?_
        refine rd_ildn (pc := 56) d_S_cedeExcessOfEachEvent_56 rfl ?_
        refine rd_aldn (pc := 57) d_S_cedeExcessOfEachEvent_57 rfl ?_
        refine rd_ild (pc := 58) d_S_cedeExcessOfEachEvent_58 rfl ?_
        refine rd_callVl (pc := 60) (n' := 0) [_] d_S_cedeExcessOfEachEvent_60 ml_S_152 rfl (Nat.le_of_ble_eq_true rfl) (Nat.le_of_ble_eq_true rfl) (Nat.le_of_ble_eq_true rfl) rfl rfl rfl (Nat.le_of_ble_eq_true rfl) (Nat.le_of_ble_eq_true rfl) ?_
        refine ev_S_keptFrom hI4 hn4 hK4 hG4d ⟨by omega, by omega⟩ ?_
        rw [sp_W_eq2, hf4.a]
        refine ⟨_, rfl, ?_⟩
        first | simp (decide := true) only [rd_up_app, rd_up_hit, g1, eM4_18, eM4_19, eM4_20, eM4_21, e26] | simp (decide := true) only [rd_up_app, rd_up_hit, g1] | skip
        refine rd_callVl (pc := 63) (n' := 0) [_, _] d_S_cedeExcessOfEachEvent_63 ml_S_133 rfl (Nat.le_of_ble_eq_true rfl) (Nat.le_of_ble_eq_true rfl) (Nat.le_of_ble_eq_true rfl) rfl rfl rfl (Nat.le_of_ble_eq_true rfl) (Nat.le_of_ble_eq_true rfl) ?_
        refine ev_T_layerOf hI4 h0 h1 ⟨by omega, by omega⟩ ?_
        refine ⟨_, rfl, ?_⟩
        first | simp (decide := true) only [rd_up_app, rd_up_hit, g1, eM4_18, eM4_19, eM4_20, eM4_21, e26] | simp (decide := true) only [rd_up_app, rd_up_hit, g1] | skip
        refine rd_ladd (pc := 66) d_S_cedeExcessOfEachEvent_66 ?_
        refine rd_lst2 (pc := 67) d_S_cedeExcessOfEachEvent_67 rfl ?_
        refine rd_aldn (pc := 68) d_S_cedeExcessOfEachEvent_68 rfl ?_
        refine rd_ildn (pc := 69) d_S_cedeExcessOfEachEvent_69 rfl ?_
        refine rd_aldn (pc := 70) d_S_cedeExcessOfEachEvent_70 rfl ?_
        refine rd_getr (pc := 71) d_S_cedeExcessOfEachEvent_71 fl_S_19 rfl rfl ?_
        refine rd_ildn (pc := 74) d_S_cedeExcessOfEachEvent_74 rfl ?_
        refine rd_lldn (pc := 75) d_S_cedeExcessOfEachEvent_75 rfl ?_
        refine rd_callVl (pc := 76) (n' := 0) [_, _] d_S_cedeExcessOfEachEvent_76 ml_S_136 rfl (Nat.le_of_ble_eq_true rfl) (Nat.le_of_ble_eq_true rfl) (Nat.le_of_ble_eq_true rfl) rfl rfl rfl (Nat.le_of_ble_eq_true rfl) (Nat.le_of_ble_eq_true rfl) ?_
        rw [hL]
        refine ev_T_takenOfLayers hI4 h0 h1 ⟨by omega, by omega⟩ ?_
        refine ⟨_, rfl, ?_⟩
        first | simp (decide := true) only [rd_up_app, rd_up_hit, g1, eM4_18, eM4_19, eM4_20, eM4_21, e26] | simp (decide := true) only [rd_up_app, rd_up_hit, g1] | skip
        refine rd_aldn (pc := 79) d_S_cedeExcessOfEachEvent_79 rfl ?_
        refine rd_getr (pc := 80) d_S_cedeExcessOfEachEvent_80 fl_S_34 rfl rfl ?_
        refine rd_ildn (pc := 83) d_S_cedeExcessOfEachEvent_83 rfl ?_
        refine rd_lald (pc := 84) d_S_cedeExcessOfEachEvent_84 rfl (by omega) (by omega) ?_
        first | simp (decide := true) only [rd_up_app, rd_up_hit, g1, eM4_18, eM4_19, eM4_20, eM4_21, e26] | simp (decide := true) only [rd_up_app, rd_up_hit, g1] | skip
        refine rd_lsub (pc := 85) d_S_cedeExcessOfEachEvent_85 ?_
        refine rd_aldn (pc := 86) d_S_cedeExcessOfEachEvent_86 rfl ?_
        refine rd_ild (pc := 87) d_S_cedeExcessOfEachEvent_87 rfl ?_
        refine rd_callVl (pc := 89) (n' := 0) [_] d_S_cedeExcessOfEachEvent_89 ml_S_152 rfl (Nat.le_of_ble_eq_true rfl) (Nat.le_of_ble_eq_true rfl) (Nat.le_of_ble_eq_true rfl) rfl rfl rfl (Nat.le_of_ble_eq_true rfl) (Nat.le_of_ble_eq_true rfl) ?_
        refine ev_S_keptFrom hI4 hn4 hK4 hG4d ⟨by omega, by omega⟩ ?_
        rw [sp_W_eq2, hf4.a]
        refine ⟨_, rfl, ?_⟩
        first | simp (decide := true) only [rd_up_app, rd_up_hit, g1, eM4_18, eM4_19, eM4_20, eM4_21, e26] | simp (decide := true) only [rd_up_app, rd_up_hit, g1] | skip
        refine rd_callVv (pc := 92) (n' := 0) [_, _, _] d_S_cedeExcessOfEachEvent_92 ml_S_156 rfl (Nat.le_of_ble_eq_true rfl) (Nat.le_of_ble_eq_true rfl) (Nat.le_of_ble_eq_true rfl) rfl rfl rfl (Nat.le_of_ble_eq_true rfl) (Nat.le_of_ble_eq_true rfl) ?_
        refine ev_S_takeByParts (v := sp_evV (c_d M) n t (M 24) E) (s := sp_evA (c_d M) n t (M 24) E) (p := sp_inW (c_d M) (M 17 t) (E + 1) (sp_evO (c_d M) n t (M 24) E)) hI4 hn4 hK4 hG4 h0 h1 ⟨hVb.1, hVb.2.2⟩ (by rw [← hf4.a, hf4.d]; rfl) hVb.2.1 (fun M5 hS5 => ?_)
        refine ⟨rfl, ?_⟩
        first | simp (decide := true) only [rd_up_app, rd_up_hit, g1, eM4_18, eM4_19, eM4_20, eM4_21, e26] | simp (decide := true) only [rd_up_app, rd_up_hit, g1] | skip
        refine rd_iinc4 (pc := 95) d_S_cedeExcessOfEachEvent_95 rfl ?_
        refine rd_goto (pc := 98) (tgt := 5) d_S_cedeExcessOfEachEvent_98 rfl ?_
        first
          | (refine rd_weak (L' := [some (.ref 4), some (rd_i t), some (rd_l ((sp_ev (c_d M) n t (M 24) E).2 + sp_layer (M 18 t) (M 19 t) (sp_evA (c_d M) n t (M 24) E))), none, some (rd_i (e + 1)), none]) (by simp [rd_le, he]) ?_
             refine ih _ (by omega) (e + 1) _ (E + 1) _ rfl (by omega) (by omega) (by rw [sp_ev_p (by omega)]; rfl) ?_
             exact hE.next hS2 (by omega) hS4 hS5)
          | (refine rd_weak (L' := [some (.ref 4), some (rd_i t), some (rd_l L), none, some (rd_i (e + 1)), none]) (by simp [rd_le]) ?_
             have ho : sp_evO (c_d M) n t (M 24) E = -1 := sp_st_n (by rw [← he]; show sp_cn n (sp_inE (c_d M) (M 17 t) e) ≤ 0; omega)
             refine ih _ (by omega) (e + 1) _ (E + 1) _ rfl (by omega) (by omega) (by rw [sp_ev_n (by omega)]; exact hL) ?_
             exact c_E.skip (hS2.trans hE) ho (hw _ (by omega) (by omega)))
set_option maxHeartbeats 4000000 in
set_option maxRecDepth 100000 in
theorem ev_S_cedeExcessOfEachEvent {t : Int} {n : Nat} {M : rd_M} {Q : rd_R → rd_M → Prop} (hI : c_I M) (hC : c_Q M) (hn : M 2 0 = n) (hY : c_Y M (M 17 t)) (h0 : 0 ≤ t) (h1 : t < 10) (hz : M 26 t = 0) (hw : ∀ e : Int, 1 ≤ e → e ≤ 9 → M 27 (t * 10 + e) = -1) (hQ : ∀ M', c_sm M' (c_wn (c_tks M t n (sp_tkE (c_d M) n t (M 24))) t 9 (sp_evO (c_d M) n t (M 24))) → Q (.inl none) M') : rd_G x_S_cedeExcessOfEachEvent 0 [some (.ref 4), some (rd_i t), none, none, none, none] [] M 0 Q := by
  refine rd_lconst (pc := 0) (v := 0) d_S_cedeExcessOfEachEvent_0 rfl ?_
  refine rd_lst2 (pc := 1) d_S_cedeExcessOfEachEvent_1 rfl ?_
  refine rd_iconst (pc := 2) d_S_cedeExcessOfEachEvent_2 ?_
  refine rd_ist4 (pc := 3) d_S_cedeExcessOfEachEvent_3 rfl ?_
  refine lq_S_cedeExcessOfEachEvent hI hC hn hY h0 h1 hz hw hQ _ 1 0 0 M rfl rfl (by omega) rfl ?_
  unfold c_E
  rw [c_wn_0, c_tks_0 (w := (sp_ev (c_d M) n t (M 24) 0).1) (fun _ _ _ => rfl)]
  exact c_sm.refl
theorem sp_sum_s {p κ : Int → Int} {i : Int} (i0 : 0 ≤ i) : sp_sum (i + 1).toNat p κ = sp_sum i.toNat p κ + (if p i = 1 then κ i else 0) := rd_sm_s i0
set_option maxHeartbeats 4000000 in
set_option maxRecDepth 100000 in
theorem lq_S_cedeStopLoss {t : Int} {n : Nat} {M : rd_M} {Q : rd_R → rd_M → Prop} (hI : c_I M) (hC : c_Q M) (hn : M 2 0 = n) (hY : c_Y M (M 17 t)) (h0 : 0 ≤ t) (h1 : t < 10) (hQ : ∀ M', c_sm M' (c_tks M t n (sp_tkS (c_d M) n t (M 24))) → Q (.inl none) M') : ∀ (d : Nat) (i s : Int) (M1 : rd_M), (n - i).toNat = d → (0 ≤ i) → (i ≤ n) → (s = sp_sum i.toNat (sp_in (c_d M) (M 17 t)) (M 24)) → (c_sm M1 M) → (c_G M1 i.toNat (sp_in (c_d M) (M 17 t))) → rd_G x_S_cedeStopLoss 10 [some (.ref 4), some (rd_i t), some (rd_l s), none, some (rd_i i)] [] M1 0 Q := by
  intro d
  induction d using Nat.strongRecOn with
  | ind d ih =>
    intro i s M1 hd i0 i1 hs hS hG
    have hn40 := hI.n hn
    have hsz := sp_cn_hi (n := i.toNat) (p := (sp_in (c_d M) (M 17 t)))
    have hs0 := sp_cn_nn (n := i.toNat) (p := (sp_in (c_d M) (M 17 t)))
    obtain ⟨hG1, hG2⟩ := hG
    have e2 : M1 2 = M 2 := hS 2 (by decide) (by decide) (by decide)
    have e18 : M1 18 = M 18 := hS 18 (by decide) (by decide) (by decide)
    have e19 : M1 19 = M 19 := hS 19 (by decide) (by decide) (by decide)
    have e23 : M1 23 = M 23 := hS 23 (by decide) (by decide) (by decide)
    have e24 : M1 24 = M 24 := hS 24 (by decide) (by decide) (by decide)
    refine rd_ild (pc := 10) d_S_cedeStopLoss_10 rfl ?_
    refine rd_aldn (pc := 12) d_S_cedeStopLoss_12 rfl ?_
    refine rd_getr (pc := 13) d_S_cedeStopLoss_13 fl_S_15 rfl rfl ?_
    refine rd_gi (pc := 16) (ki := 0) d_S_cedeStopLoss_16 fl_S_69 rfl rfl rfl ?_
    first | simp (decide := true) only [rd_up_app, rd_up_hit, e2, e18, e19, e23, e24, hG1] | simp (decide := true) only [rd_up_app, rd_up_hit, e2, e18, e19, e23, e24] | skip
    refine rd_icmp_ge (pc := 19) (tgt := 70) d_S_cedeStopLoss_19 rfl ⟨by omega, by omega⟩ ⟨by omega, by omega⟩ (fun h19 => ?_) (fun h19 => ?_)
    · skip
      have en : i.toNat = n := by omega
      rw [en] at hs hG1 hG2
      have hI1 := hS.low hI
      have htm := hI.tm hC h0 h1
      have hsn : 0 ≤ s := by (rw [hs]; exact sp_sum_nn (fun k a b => (hY.cnt hn a b).2.1.1))
      have hsh : s ≤ 40000000000 := by (have := sp_sum_hi (n := n) (p := (sp_in (c_d M) (M 17 t))) (κ := M 24) (fun k a b => (hY.cnt hn a b).2.1); omega)
      have hLb := sp_Lt_b htm hsn
      have hLb' : 0 ≤ sp_layer (M 18 t) (M 19 t) s ∧ sp_layer (M 18 t) (M 19 t) s ≤ s ∧ sp_layer (M 18 t) (M 19 t) s ≤ 1000000000 := hLb
      refine rd_aldn (pc := 70) d_S_cedeStopLoss_70 rfl ?_
      refine rd_ildn (pc := 71) d_S_cedeStopLoss_71 rfl ?_
      refine rd_aldn (pc := 72) d_S_cedeStopLoss_72 rfl ?_
      refine rd_getr (pc := 73) d_S_cedeStopLoss_73 fl_S_19 rfl rfl ?_
      refine rd_ildn (pc := 76) d_S_cedeStopLoss_76 rfl ?_
      refine rd_lldn (pc := 77) d_S_cedeStopLoss_77 rfl ?_
      refine rd_callVl (pc := 78) (n' := 0) [_, _] d_S_cedeStopLoss_78 ml_S_133 rfl (Nat.le_of_ble_eq_true rfl) (Nat.le_of_ble_eq_true rfl) (Nat.le_of_ble_eq_true rfl) rfl rfl rfl (Nat.le_of_ble_eq_true rfl) (Nat.le_of_ble_eq_true rfl) ?_
      refine ev_T_layerOf hI1 h0 h1 ⟨by omega, by omega⟩ ?_
      refine ⟨_, rfl, ?_⟩
      first | simp (decide := true) only [rd_up_app, rd_up_hit, e2, e18, e19, e23, e24, hG1] | simp (decide := true) only [rd_up_app, rd_up_hit, e2, e18, e19, e23, e24] | skip
      refine rd_lldn (pc := 81) d_S_cedeStopLoss_81 rfl ?_
      refine rd_callVv (pc := 82) (n' := 0) [_, _, _] d_S_cedeStopLoss_82 ml_S_156 rfl (Nat.le_of_ble_eq_true rfl) (Nat.le_of_ble_eq_true rfl) (Nat.le_of_ble_eq_true rfl) rfl rfl rfl (Nat.le_of_ble_eq_true rfl) (Nat.le_of_ble_eq_true rfl) ?_
      refine ev_S_takeByParts (v := sp_layer (M 18 t) (M 19 t) s) (p := (sp_in (c_d M) (M 17 t))) hI1 (by rw [e2, hn]) (fun k a b => by rw [e24]; exact (hY.cnt hn a b).2.1) ⟨hG1, hG2⟩ h0 h1 ⟨hLb'.1, hLb'.2.2⟩ (by rw [e24]; exact hs) hLb'.2.1 (fun M5 hS5 => ?_)
      refine ⟨rfl, ?_⟩
      first | simp (decide := true) only [rd_up_app, rd_up_hit, e2, e18, e19, e23, e24, hG1] | simp (decide := true) only [rd_up_app, rd_up_hit, e2, e18, e19, e23, e24] | skip
      exact rd_vret (pc := 85) d_S_cedeStopLoss_85 rfl (Nat.le_of_ble_eq_true rfl) (by refine hQ _ (hS5.trans ?_); rw [e24, hs]; exact hS.tks)
    · skip
      obtain ⟨y1, y2, y3⟩ := hY.cnt hn i0 (by omega)
      have y4 := sp_in_01 (d := c_d M) (y := M 17 t) (k := i)
      have hss := sp_sum_s (p := (sp_in (c_d M) (M 17 t))) (κ := M 24) i0
      refine rd_aldn (pc := 22) d_S_cedeStopLoss_22 rfl ?_
      refine rd_getr (pc := 23) d_S_cedeStopLoss_23 fl_S_23 rfl rfl ?_
      refine rd_ild (pc := 26) d_S_cedeStopLoss_26 rfl ?_
      refine rd_zald (pc := 28) d_S_cedeStopLoss_28 rfl (by omega) (by omega) ?_
      first | simp (decide := true) only [rd_up_app, rd_up_hit, e2, e18, e19, e23, e24, hG1] | simp (decide := true) only [rd_up_app, rd_up_hit, e2, e18, e19, e23, e24] | skip
      refine rd_if_eq (pc := 29) (tgt := 64) d_S_cedeStopLoss_29 rfl ⟨by omega, by omega⟩ (fun h29 => ?_) (fun h29 => ?_)
      · skip
        refine rd_iinc4 (pc := 64) d_S_cedeStopLoss_64 rfl ?_
        refine rd_goto (pc := 67) (tgt := 10) d_S_cedeStopLoss_67 rfl ?_
        first
          | (refine ih _ (by omega) (i + 1) _ _ rfl (by omega) (by omega) ?_ ((hS.up (by omega)).up (by omega)) ?_
             · rw [hss, if_pos (by omega), hs]
             · exact c_G_p' i0 rfl hG2 (by omega))
          | (have hno : (sp_in (c_d M) (M 17 t)) i ≠ 1 := by omega
             have hg := c_g_n' i0 hG2 hno
             exact ih _ (by omega) (i + 1) _ _ rfl (by omega) (by omega) (by rw [hss, if_neg hno]; omega) hS ⟨by rw [hG1, hg.2], hg.1⟩)
      · skip
        refine rd_aldn (pc := 32) d_S_cedeStopLoss_32 rfl ?_
        refine rd_getr (pc := 33) d_S_cedeStopLoss_33 fl_S_47 rfl rfl ?_
        refine rd_aldn (pc := 36) d_S_cedeStopLoss_36 rfl ?_
        refine rd_gi (pc := 37) (ki := 11) d_S_cedeStopLoss_37 fl_S_142 rfl rfl rfl ?_
        first | simp (decide := true) only [rd_up_app, rd_up_hit, e2, e18, e19, e23, e24, hG1] | simp (decide := true) only [rd_up_app, rd_up_hit, e2, e18, e19, e23, e24] | skip
        refine rd_ild (pc := 40) d_S_cedeStopLoss_40 rfl ?_
        refine rd_iast (pc := 42) d_S_cedeStopLoss_42 rfl (by omega) (by omega) ?_
        refine rd_aldn (pc := 43) d_S_cedeStopLoss_43 rfl ?_
        refine rd_dup (pc := 44) d_S_cedeStopLoss_44 rfl ?_
        refine rd_gi (pc := 45) (ki := 11) d_S_cedeStopLoss_45 fl_S_142 rfl rfl rfl ?_
        first | simp (decide := true) only [rd_up_app, rd_up_hit, e2, e18, e19, e23, e24, hG1] | simp (decide := true) only [rd_up_app, rd_up_hit, e2, e18, e19, e23, e24] | skip
        refine rd_iconst (pc := 48) d_S_cedeStopLoss_48 ?_
        refine rd_iadd (pc := 49) d_S_cedeStopLoss_49 ?_
        refine rd_pi (pc := 50) (ki := 11) d_S_cedeStopLoss_50 fl_S_142 fp_0_11 rfl rfl rfl ?_
        refine rd_lldn (pc := 53) d_S_cedeStopLoss_53 rfl ?_
        refine rd_aldn (pc := 54) d_S_cedeStopLoss_54 rfl ?_
        refine rd_getr (pc := 55) d_S_cedeStopLoss_55 fl_S_27 rfl rfl ?_
        refine rd_ild (pc := 58) d_S_cedeStopLoss_58 rfl ?_
        refine rd_iald (pc := 60) d_S_cedeStopLoss_60 rfl (by omega) (by omega) ?_
        first | simp (decide := true) only [rd_up_app, rd_up_hit, e2, e18, e19, e23, e24, hG1] | simp (decide := true) only [rd_up_app, rd_up_hit, e2, e18, e19, e23, e24] | skip
        refine rd_i2l (pc := 61) d_S_cedeStopLoss_61 ⟨by omega, by omega⟩ ?_
        refine rd_ladd (pc := 62) d_S_cedeStopLoss_62 ?_
        refine rd_lst2 (pc := 63) d_S_cedeStopLoss_63 rfl ?_
        refine rd_iinc4 (pc := 64) d_S_cedeStopLoss_64 rfl ?_
        refine rd_goto (pc := 67) (tgt := 10) d_S_cedeStopLoss_67 rfl ?_
        first
          | (refine ih _ (by omega) (i + 1) _ _ rfl (by omega) (by omega) ?_ ((hS.up (by omega)).up (by omega)) ?_
             · rw [hss, if_pos (by omega), hs]
             · exact c_G_p' i0 rfl hG2 (by omega))
          | (have hno : (sp_in (c_d M) (M 17 t)) i ≠ 1 := by omega
             have hg := c_g_n' i0 hG2 hno
             exact ih _ (by omega) (i + 1) _ _ rfl (by omega) (by omega) (by rw [hss, if_neg hno]; omega) hS ⟨by rw [hG1, hg.2], hg.1⟩)
set_option maxHeartbeats 4000000 in
set_option maxRecDepth 100000 in
theorem ev_S_cedeStopLoss {t : Int} {n : Nat} {M : rd_M} {Q : rd_R → rd_M → Prop} (hI : c_I M) (hC : c_Q M) (hn : M 2 0 = n) (hY : c_Y M (M 17 t)) (h0 : 0 ≤ t) (h1 : t < 10) (hQ : ∀ M', c_sm M' (c_tks M t n (sp_tkS (c_d M) n t (M 24))) → Q (.inl none) M') : rd_G x_S_cedeStopLoss 0 [some (.ref 4), some (rd_i t), none, none, none] [] M 0 Q := by
  refine rd_aldn (pc := 0) d_S_cedeStopLoss_0 rfl ?_
  refine rd_iconst (pc := 1) d_S_cedeStopLoss_1 ?_
  refine rd_pi (pc := 2) (ki := 11) d_S_cedeStopLoss_2 fl_S_142 fp_0_11 rfl rfl rfl ?_
  refine rd_lconst (pc := 5) (v := 0) d_S_cedeStopLoss_5 rfl ?_
  refine rd_lst2 (pc := 6) d_S_cedeStopLoss_6 rfl ?_
  refine rd_iconst (pc := 7) d_S_cedeStopLoss_7 ?_
  refine rd_ist4 (pc := 8) d_S_cedeStopLoss_8 rfl ?_
  exact lq_S_cedeStopLoss hI hC hn hY h0 h1 hQ _ 0 0 _ rfl (by omega) (by omega) rfl (c_sm.refl.up (by omega)) ⟨rd_up_hit, c_g_0⟩
end
